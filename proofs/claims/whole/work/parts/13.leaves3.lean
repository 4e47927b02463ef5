def p_above (f : Nat → Int32) (d : Int64) : Int64 := (f 6).toInt64 + d * ((f 5).toInt64 + d * (f 4).toInt64)
def p_12 (f : Nat → Int32) (x : Int64) : Int64 := x * ((12 * f 0).toInt64 + x * ((6 * f 1).toInt64 + x * ((4 * f 2).toInt64 + x * 3 * (f 3).toInt64)))
set_option maxHeartbeats 4000000 in
set_option maxRecDepth 100000 in
theorem c_X0_abovePoleAt (l : Launch) (D : va_G) (cI cL cQ : ClassId) (h n : Nat) (f : Nat → Int32) (x : Int64) : Met l yX0_abovePoleAt wsX0_abovePoleAt { frames := 0, cells := 0, slots := 0, locals := 0 } (va_Pc [.ref h, .long x] (pu_B D (ty3 cI cL cQ) [(h, .inr (0, [.ref n])), (n, .inl (cI, 8, .inl f))])) (vp_Sl (fun r => r = p_above f x)) 0 0 (fun _ => False) := by
  refine Met.ofW (cc := cX0_abovePoleAt) (maxL := 3) (ret := (some .long)) (by decide) rfl ?_
  intro p e s m args below meth c s₁ B hml hv
  obtain ⟨rfl, hK, hP⟩ := hv
  have hx := B.exec
  have hb := B.bytes
  have hr := B.returns
  have hts := atoms_spec (ws := wsX0_abovePoleAt) B.pre
  have hg : ∀ w ∈ gw, w.before ([.ref h, .long x] : List Value).toArray s = true := fun w h => hts w (List.mem_cons_of_mem _ h)
  have hown : s.vm.findClass RX0 = some m.cls := findClass_of_methodNamed B.named
  have hlocks := B.notSynchronized
  have hl := lv_entry ([.ref h, .long x]) (n := 3) (Nat.le_of_ble_eq_true rfl)
  rw [lg_entry_eq]
  generalize (lg_sl ([.ref h, .long x]) ++ List.replicate (3 - (lg_sl ([.ref h, .long x])).length) Slot.unset).toArray = ls at hl ⊢
  have hl : lv_has ls 3 [(0, .ref h), (1, .long x)] := hl
  refine lv_aload_n hx hb dX0_abovePoleAt_0 rfl (lv_at hl 0 rfl) ?_
  refine va_get (D := D) (ci := 0) (v := .ref n) (C := RX0) (T := TX0) (N := 1) hx hb hg inX0 hown hK hP 0 rfl rfl 0 (by decide) (hg _ fl_X0_9) (fun _ h9 => h9) rfl dX0_abovePoleAt_1 ?_
  refine lv_bipush (v := 6) hx hb dX0_abovePoleAt_4 (by decide) ?_
  refine va_iald (D := D) (n := 8) (f := f) hx hb hK hP 1 0 rfl rfl (vp_in_nI (show 6 < 8 by decide) (by decide)) dX0_abovePoleAt_6 ?_
  rw [show (6 : Int32).toNatClampNeg = 6 from by decide]
  refine lv_i2l hx hb dX0_abovePoleAt_7 rfl ?_
  refine lv_lload_n hx hb dX0_abovePoleAt_8 rfl (lv_at hl 1 rfl) ?_
  refine lv_aload_n hx hb dX0_abovePoleAt_9 rfl (lv_at hl 0 rfl) ?_
  refine va_get (D := D) (ci := 0) (v := .ref n) (C := RX0) (T := TX0) (N := 1) hx hb hg inX0 hown hK hP 0 rfl rfl 0 (by decide) (hg _ fl_X0_9) (fun _ h9 => h9) rfl dX0_abovePoleAt_10 ?_
  refine lv_iconst (v := 5) hx hb dX0_abovePoleAt_13 (by decide) ?_
  refine va_iald (D := D) (n := 8) (f := f) hx hb hK hP 1 0 rfl rfl (vp_in_nI (show 5 < 8 by decide) (by decide)) dX0_abovePoleAt_14 ?_
  rw [show (5 : Int32).toNatClampNeg = 5 from by decide]
  refine lv_i2l hx hb dX0_abovePoleAt_15 rfl ?_
  refine lv_lload_n hx hb dX0_abovePoleAt_16 rfl (lv_at hl 1 rfl) ?_
  refine lv_aload_n hx hb dX0_abovePoleAt_17 rfl (lv_at hl 0 rfl) ?_
  refine va_get (D := D) (ci := 0) (v := .ref n) (C := RX0) (T := TX0) (N := 1) hx hb hg inX0 hown hK hP 0 rfl rfl 0 (by decide) (hg _ fl_X0_9) (fun _ h9 => h9) rfl dX0_abovePoleAt_18 ?_
  refine lv_iconst (v := 4) hx hb dX0_abovePoleAt_21 (by decide) ?_
  refine va_iald (D := D) (n := 8) (f := f) hx hb hK hP 1 0 rfl rfl (vp_in_nI (show 4 < 8 by decide) (by decide)) dX0_abovePoleAt_22 ?_
  rw [show (4 : Int32).toNatClampNeg = 4 from by decide]
  refine lv_i2l hx hb dX0_abovePoleAt_23 rfl ?_
  refine lv_lmul hx hb dX0_abovePoleAt_24 ?_
  refine lv_ladd hx hb dX0_abovePoleAt_25 ?_
  refine lv_lmul hx hb dX0_abovePoleAt_26 ?_
  refine lv_ladd hx hb dX0_abovePoleAt_27 ?_
  exact W.lret (v := ((f 6).toInt64 + (x * ((f 5).toInt64 + (x * (f 4).toInt64))))) hx hb hr (fun t ht hW => ⟨((f 6).toInt64 + (x * ((f 5).toInt64 + (x * (f 4).toInt64)))), rfl, rfl, ht⟩) (fun _ h => nomatch h) dX0_abovePoleAt_28
set_option maxHeartbeats 4000000 in
set_option maxRecDepth 100000 in
theorem c_X0_twelfthsOfPowersPrimitive (l : Launch) (D : va_G) (cI cL cQ : ClassId) (h n : Nat) (f : Nat → Int32) (x : Int64) : Met l yX0_twelfthsOfPowersPrimitive wsX0_twelfthsOfPowersPrimitive { frames := 0, cells := 0, slots := 0, locals := 0 } (va_Pc [.ref h, .long x] (pu_B D (ty3 cI cL cQ) [(h, .inr (0, [.ref n])), (n, .inl (cI, 8, .inl f))])) (vp_Sl (fun r => r = p_12 f x)) 0 0 (fun _ => False) := by
  refine Met.ofW (cc := cX0_twelfthsOfPowersPrimitive) (maxL := 3) (ret := (some .long)) (by decide) rfl ?_
  intro p e s m args below meth c s₁ B hml hv
  obtain ⟨rfl, hK, hP⟩ := hv
  have hx := B.exec
  have hb := B.bytes
  have hr := B.returns
  have hts := atoms_spec (ws := wsX0_twelfthsOfPowersPrimitive) B.pre
  have hg : ∀ w ∈ gw, w.before ([.ref h, .long x] : List Value).toArray s = true := fun w h => hts w (List.mem_cons_of_mem _ h)
  have hown : s.vm.findClass RX0 = some m.cls := findClass_of_methodNamed B.named
  have hlocks := B.notSynchronized
  have hl := lv_entry ([.ref h, .long x]) (n := 3) (Nat.le_of_ble_eq_true rfl)
  rw [lg_entry_eq]
  generalize (lg_sl ([.ref h, .long x]) ++ List.replicate (3 - (lg_sl ([.ref h, .long x])).length) Slot.unset).toArray = ls at hl ⊢
  have hl : lv_has ls 3 [(0, .ref h), (1, .long x)] := hl
  refine lv_lload_n hx hb dX0_twelfthsOfPowersPrimitive_0 rfl (lv_at hl 1 rfl) ?_
  refine lv_bipush (v := 12) hx hb dX0_twelfthsOfPowersPrimitive_1 (by decide) ?_
  refine lv_aload_n hx hb dX0_twelfthsOfPowersPrimitive_3 rfl (lv_at hl 0 rfl) ?_
  refine va_get (D := D) (ci := 0) (v := .ref n) (C := RX0) (T := TX0) (N := 1) hx hb hg inX0 hown hK hP 0 rfl rfl 0 (by decide) (hg _ fl_X0_9) (fun _ h9 => h9) rfl dX0_twelfthsOfPowersPrimitive_4 ?_
  refine lv_iconst (v := 0) hx hb dX0_twelfthsOfPowersPrimitive_7 (by decide) ?_
  refine va_iald (D := D) (n := 8) (f := f) hx hb hK hP 1 0 rfl rfl (vp_in_nI (show 0 < 8 by decide) (by decide)) dX0_twelfthsOfPowersPrimitive_8 ?_
  rw [show (0 : Int32).toNatClampNeg = 0 from by decide]
  refine lv_imul hx hb dX0_twelfthsOfPowersPrimitive_9 ?_
  refine lv_i2l hx hb dX0_twelfthsOfPowersPrimitive_10 rfl ?_
  refine lv_lload_n hx hb dX0_twelfthsOfPowersPrimitive_11 rfl (lv_at hl 1 rfl) ?_
  refine lv_bipush (v := 6) hx hb dX0_twelfthsOfPowersPrimitive_12 (by decide) ?_
  refine lv_aload_n hx hb dX0_twelfthsOfPowersPrimitive_14 rfl (lv_at hl 0 rfl) ?_
  refine va_get (D := D) (ci := 0) (v := .ref n) (C := RX0) (T := TX0) (N := 1) hx hb hg inX0 hown hK hP 0 rfl rfl 0 (by decide) (hg _ fl_X0_9) (fun _ h9 => h9) rfl dX0_twelfthsOfPowersPrimitive_15 ?_
  refine lv_iconst (v := 1) hx hb dX0_twelfthsOfPowersPrimitive_18 (by decide) ?_
  refine va_iald (D := D) (n := 8) (f := f) hx hb hK hP 1 0 rfl rfl (vp_in_nI (show 1 < 8 by decide) (by decide)) dX0_twelfthsOfPowersPrimitive_19 ?_
  rw [show (1 : Int32).toNatClampNeg = 1 from by decide]
  refine lv_imul hx hb dX0_twelfthsOfPowersPrimitive_20 ?_
  refine lv_i2l hx hb dX0_twelfthsOfPowersPrimitive_21 rfl ?_
  refine lv_lload_n hx hb dX0_twelfthsOfPowersPrimitive_22 rfl (lv_at hl 1 rfl) ?_
  refine lv_iconst (v := 4) hx hb dX0_twelfthsOfPowersPrimitive_23 (by decide) ?_
  refine lv_aload_n hx hb dX0_twelfthsOfPowersPrimitive_24 rfl (lv_at hl 0 rfl) ?_
  refine va_get (D := D) (ci := 0) (v := .ref n) (C := RX0) (T := TX0) (N := 1) hx hb hg inX0 hown hK hP 0 rfl rfl 0 (by decide) (hg _ fl_X0_9) (fun _ h9 => h9) rfl dX0_twelfthsOfPowersPrimitive_25 ?_
  refine lv_iconst (v := 2) hx hb dX0_twelfthsOfPowersPrimitive_28 (by decide) ?_
  refine va_iald (D := D) (n := 8) (f := f) hx hb hK hP 1 0 rfl rfl (vp_in_nI (show 2 < 8 by decide) (by decide)) dX0_twelfthsOfPowersPrimitive_29 ?_
  rw [show (2 : Int32).toNatClampNeg = 2 from by decide]
  refine lv_imul hx hb dX0_twelfthsOfPowersPrimitive_30 ?_
  refine lv_i2l hx hb dX0_twelfthsOfPowersPrimitive_31 rfl ?_
  refine lv_lload_n hx hb dX0_twelfthsOfPowersPrimitive_32 rfl (lv_at hl 1 rfl) ?_
  refine lv_ldc2 (v := 3) hx hb hown (hg _ kl_X0_41) dX0_twelfthsOfPowersPrimitive_33 ?_
  refine lv_lmul hx hb dX0_twelfthsOfPowersPrimitive_36 ?_
  refine lv_aload_n hx hb dX0_twelfthsOfPowersPrimitive_37 rfl (lv_at hl 0 rfl) ?_
  refine va_get (D := D) (ci := 0) (v := .ref n) (C := RX0) (T := TX0) (N := 1) hx hb hg inX0 hown hK hP 0 rfl rfl 0 (by decide) (hg _ fl_X0_9) (fun _ h9 => h9) rfl dX0_twelfthsOfPowersPrimitive_38 ?_
  refine lv_iconst (v := 3) hx hb dX0_twelfthsOfPowersPrimitive_41 (by decide) ?_
  refine va_iald (D := D) (n := 8) (f := f) hx hb hK hP 1 0 rfl rfl (vp_in_nI (show 3 < 8 by decide) (by decide)) dX0_twelfthsOfPowersPrimitive_42 ?_
  rw [show (3 : Int32).toNatClampNeg = 3 from by decide]
  refine lv_i2l hx hb dX0_twelfthsOfPowersPrimitive_43 rfl ?_
  refine lv_lmul hx hb dX0_twelfthsOfPowersPrimitive_44 ?_
  refine lv_ladd hx hb dX0_twelfthsOfPowersPrimitive_45 ?_
  refine lv_lmul hx hb dX0_twelfthsOfPowersPrimitive_46 ?_
  refine lv_ladd hx hb dX0_twelfthsOfPowersPrimitive_47 ?_
  refine lv_lmul hx hb dX0_twelfthsOfPowersPrimitive_48 ?_
  refine lv_ladd hx hb dX0_twelfthsOfPowersPrimitive_49 ?_
  refine lv_lmul hx hb dX0_twelfthsOfPowersPrimitive_50 ?_
  exact W.lret (v := (x * ((12 * (f 0)).toInt64 + (x * ((6 * (f 1)).toInt64 + (x * ((4 * (f 2)).toInt64 + ((x * 3) * (f 3).toInt64)))))))) hx hb hr (fun t ht hW => ⟨(x * ((12 * (f 0)).toInt64 + (x * ((6 * (f 1)).toInt64 + (x * ((4 * (f 2)).toInt64 + ((x * 3) * (f 3).toInt64))))))), rfl, rfl, ht⟩) (fun _ h => nomatch h) dX0_twelfthsOfPowersPrimitive_51
set_option maxHeartbeats 4000000 in
set_option maxRecDepth 100000 in
theorem c_X0_mirrors (l : Launch) (A : Nat → Prop) (D : va_G) (cI cL cQ : ClassId) (h n h2 n2 : Nat) (f g : Nat → Int32) (z : Int32) : Met l yX0_mirrors wsX0_mirrors { frames := 1, cells := 0, slots := 0, locals := 20 } (va_Pc [.ref h, .ref h2, .int z] (fun U => gl_G A U U.heap ∧ pu_B D (ty3 cI cL cQ) [(h, .inr (0, [.ref n])), (n, .inl (cI, 8, .inl f)), (h2, .inr (0, [.ref n2])), (n2, .inl (cI, 8, .inl g))] U)) (vp_Si (fun r => r = zi (p_mir f g z))) 0 0 (fun _ => False) := by
  refine Met.ofW (cc := cX0_mirrors) (maxL := 4) (ret := (some .boolean)) (by decide) rfl ?_
  intro p e s m args below meth c s₁ B hml hv
  obtain ⟨rfl, hG, hK, hP⟩ := hv
  have hx := B.exec
  have hb := B.bytes
  have hr := B.returns
  have hts := atoms_spec (ws := wsX0_mirrors) B.pre
  have hg : ∀ w ∈ gw, w.before ([.ref h, .ref h2, .int z] : List Value).toArray s = true := fun w h => hts w (List.mem_cons_of_mem _ h)
  have hown : s.vm.findClass RX0 = some m.cls := findClass_of_methodNamed B.named
  have hlocks := B.notSynchronized
  have hl := lv_entry ([.ref h, .ref h2, .int z]) (n := 4) (Nat.le_of_ble_eq_true rfl)
  rw [lg_entry_eq]
  generalize (lg_sl ([.ref h, .ref h2, .int z]) ++ List.replicate (4 - (lg_sl ([.ref h, .ref h2, .int z])).length) Slot.unset).toArray = ls at hl ⊢
  have hl : lv_has ls 4 [(0, .ref h), (1, .ref h2), (2, .int z)] := hl
  obtain ⟨tM, hzM, htM⟩ := hG.2.2.1
  have hS : va_S A s.heap s.heap [] := va_S.rf
  refine lv_iconst (v := 0) hx hb dX0_mirrors_0 (by decide) ?_
  refine lv_istore_n (lv' := [(3, .int 0), (0, .ref h), (1, .ref h2), (2, .int z)]) hx hb dX0_mirrors_1 rfl hl (by decide) rfl (fun ls hl => ?_)
  refine lv_iload_n hx hb dX0_mirrors_2 rfl (lv_at hl 0 rfl) ?_
  refine lv_bipush (v := 7) hx hb dX0_mirrors_3 (by decide) ?_
  refine lv_icmp_ge (tgt := 39) hx hb dX0_mirrors_5 (by decide) (fun c_1 => absurd c_1 (by decide)) (fun _ => ?_)
  refine lv_aload_n hx hb dX0_mirrors_8 rfl (lv_at hl 1 rfl) ?_
  refine va_get (D := D) (ci := 0) (v := .ref n) (C := RX0) (T := TX0) (N := 1) hx hb hg inX0 hown hK hP 0 rfl rfl 0 (by decide) (hg _ fl_X0_9) (fun _ h9 => h9) rfl dX0_mirrors_9 ?_
  refine lv_iload_n hx hb dX0_mirrors_12 rfl (lv_at hl 0 rfl) ?_
  refine va_iald (D := D) (n := 8) (f := f) hx hb hK hP 1 0 rfl rfl (vp_in_nI (show 0 < 8 by decide) (by decide)) dX0_mirrors_13 ?_
  rw [show (0 : Int32).toNatClampNeg = 0 from by decide]
  refine lv_iload_n hx hb dX0_mirrors_14 rfl (lv_at hl 3 rfl) ?_
  refine va_getsN (C := RX2) (n := "MIRROR_SIGNS") (d := "[I") (v := .ref tM) hx hb hzM hS hown (hG.nest fn_X0_27) (fun _ h9 => h9) dX0_mirrors_15 ?_
  refine lv_iload_n hx hb dX0_mirrors_18 rfl (lv_at hl 0 rfl) ?_
  refine va_ti (N := 8) (v := .int (gl_sign 0)) hx hb htM hS (vp_in_nI (show 0 < 8 by decide) (by decide)) rfl dX0_mirrors_19 ?_
  refine lv_imul hx hb dX0_mirrors_20 ?_
  refine lv_aload_n hx hb dX0_mirrors_21 rfl (lv_at hl 2 rfl) ?_
  refine va_get (D := D) (ci := 0) (v := .ref n2) (C := RX0) (T := TX0) (N := 1) hx hb hg inX0 hown hK hP 2 rfl rfl 0 (by decide) (hg _ fl_X0_9) (fun _ h9 => h9) rfl dX0_mirrors_22 ?_
  refine lv_iload_n hx hb dX0_mirrors_25 rfl (lv_at hl 0 rfl) ?_
  refine va_iald (D := D) (n := 8) (f := g) hx hb hK hP 3 0 rfl rfl (vp_in_nI (show 0 < 8 by decide) (by decide)) dX0_mirrors_26 ?_
  rw [show (0 : Int32).toNatClampNeg = 0 from by decide]
  refine lv_imul hx hb dX0_mirrors_27 ?_
  refine lv_icmp_eq (tgt := 33) hx hb dX0_mirrors_28 (by decide) (fun c_2 => ?_) (fun c_2 => ?_)
  · refine lv_iinc (v := 1) (lv' := [(3, .int 1), (0, .ref h), (1, .ref h2), (2, .int z)]) hx hb dX0_mirrors_33 hl (k := 0) rfl (by decide) (by decide) rfl (fun ls hl => ?_)
    refine lv_goto (tgt := 2) hx hb dX0_mirrors_36 (by decide) ?_
    refine lv_iload_n hx hb dX0_mirrors_2 rfl (lv_at hl 0 rfl) ?_
    refine lv_bipush (v := 7) hx hb dX0_mirrors_3 (by decide) ?_
    refine lv_icmp_ge (tgt := 39) hx hb dX0_mirrors_5 (by decide) (fun c_3 => absurd c_3 (by decide)) (fun _ => ?_)
    refine lv_aload_n hx hb dX0_mirrors_8 rfl (lv_at hl 1 rfl) ?_
    refine va_get (D := D) (ci := 0) (v := .ref n) (C := RX0) (T := TX0) (N := 1) hx hb hg inX0 hown hK hP 0 rfl rfl 0 (by decide) (hg _ fl_X0_9) (fun _ h9 => h9) rfl dX0_mirrors_9 ?_
    refine lv_iload_n hx hb dX0_mirrors_12 rfl (lv_at hl 0 rfl) ?_
    refine va_iald (D := D) (n := 8) (f := f) hx hb hK hP 1 0 rfl rfl (vp_in_nI (show 1 < 8 by decide) (by decide)) dX0_mirrors_13 ?_
    rw [show (1 : Int32).toNatClampNeg = 1 from by decide]
    refine lv_iload_n hx hb dX0_mirrors_14 rfl (lv_at hl 3 rfl) ?_
    refine va_getsN (C := RX2) (n := "MIRROR_SIGNS") (d := "[I") (v := .ref tM) hx hb hzM hS hown (hG.nest fn_X0_27) (fun _ h9 => h9) dX0_mirrors_15 ?_
    refine lv_iload_n hx hb dX0_mirrors_18 rfl (lv_at hl 0 rfl) ?_
    refine va_ti (N := 8) (v := .int (gl_sign 1)) hx hb htM hS (vp_in_nI (show 1 < 8 by decide) (by decide)) rfl dX0_mirrors_19 ?_
    refine lv_imul hx hb dX0_mirrors_20 ?_
    refine lv_aload_n hx hb dX0_mirrors_21 rfl (lv_at hl 2 rfl) ?_
    refine va_get (D := D) (ci := 0) (v := .ref n2) (C := RX0) (T := TX0) (N := 1) hx hb hg inX0 hown hK hP 2 rfl rfl 0 (by decide) (hg _ fl_X0_9) (fun _ h9 => h9) rfl dX0_mirrors_22 ?_
    refine lv_iload_n hx hb dX0_mirrors_25 rfl (lv_at hl 0 rfl) ?_
    refine va_iald (D := D) (n := 8) (f := g) hx hb hK hP 3 0 rfl rfl (vp_in_nI (show 1 < 8 by decide) (by decide)) dX0_mirrors_26 ?_
    rw [show (1 : Int32).toNatClampNeg = 1 from by decide]
    refine lv_imul hx hb dX0_mirrors_27 ?_
    refine lv_icmp_eq (tgt := 33) hx hb dX0_mirrors_28 (by decide) (fun c_4 => ?_) (fun c_4 => ?_)
    · refine lv_iinc (v := 2) (lv' := [(3, .int 2), (0, .ref h), (1, .ref h2), (2, .int z)]) hx hb dX0_mirrors_33 hl (k := 0) rfl (by decide) (by decide) rfl (fun ls hl => ?_)
      refine lv_goto (tgt := 2) hx hb dX0_mirrors_36 (by decide) ?_
      refine lv_iload_n hx hb dX0_mirrors_2 rfl (lv_at hl 0 rfl) ?_
      refine lv_bipush (v := 7) hx hb dX0_mirrors_3 (by decide) ?_
      refine lv_icmp_ge (tgt := 39) hx hb dX0_mirrors_5 (by decide) (fun c_5 => absurd c_5 (by decide)) (fun _ => ?_)
      refine lv_aload_n hx hb dX0_mirrors_8 rfl (lv_at hl 1 rfl) ?_
      refine va_get (D := D) (ci := 0) (v := .ref n) (C := RX0) (T := TX0) (N := 1) hx hb hg inX0 hown hK hP 0 rfl rfl 0 (by decide) (hg _ fl_X0_9) (fun _ h9 => h9) rfl dX0_mirrors_9 ?_
      refine lv_iload_n hx hb dX0_mirrors_12 rfl (lv_at hl 0 rfl) ?_
      refine va_iald (D := D) (n := 8) (f := f) hx hb hK hP 1 0 rfl rfl (vp_in_nI (show 2 < 8 by decide) (by decide)) dX0_mirrors_13 ?_
      rw [show (2 : Int32).toNatClampNeg = 2 from by decide]
      refine lv_iload_n hx hb dX0_mirrors_14 rfl (lv_at hl 3 rfl) ?_
      refine va_getsN (C := RX2) (n := "MIRROR_SIGNS") (d := "[I") (v := .ref tM) hx hb hzM hS hown (hG.nest fn_X0_27) (fun _ h9 => h9) dX0_mirrors_15 ?_
      refine lv_iload_n hx hb dX0_mirrors_18 rfl (lv_at hl 0 rfl) ?_
      refine va_ti (N := 8) (v := .int (gl_sign 2)) hx hb htM hS (vp_in_nI (show 2 < 8 by decide) (by decide)) rfl dX0_mirrors_19 ?_
      refine lv_imul hx hb dX0_mirrors_20 ?_
      refine lv_aload_n hx hb dX0_mirrors_21 rfl (lv_at hl 2 rfl) ?_
      refine va_get (D := D) (ci := 0) (v := .ref n2) (C := RX0) (T := TX0) (N := 1) hx hb hg inX0 hown hK hP 2 rfl rfl 0 (by decide) (hg _ fl_X0_9) (fun _ h9 => h9) rfl dX0_mirrors_22 ?_
      refine lv_iload_n hx hb dX0_mirrors_25 rfl (lv_at hl 0 rfl) ?_
      refine va_iald (D := D) (n := 8) (f := g) hx hb hK hP 3 0 rfl rfl (vp_in_nI (show 2 < 8 by decide) (by decide)) dX0_mirrors_26 ?_
      rw [show (2 : Int32).toNatClampNeg = 2 from by decide]
      refine lv_imul hx hb dX0_mirrors_27 ?_
      refine lv_icmp_eq (tgt := 33) hx hb dX0_mirrors_28 (by decide) (fun c_6 => ?_) (fun c_6 => ?_)
      · refine lv_iinc (v := 3) (lv' := [(3, .int 3), (0, .ref h), (1, .ref h2), (2, .int z)]) hx hb dX0_mirrors_33 hl (k := 0) rfl (by decide) (by decide) rfl (fun ls hl => ?_)
        refine lv_goto (tgt := 2) hx hb dX0_mirrors_36 (by decide) ?_
        refine lv_iload_n hx hb dX0_mirrors_2 rfl (lv_at hl 0 rfl) ?_
        refine lv_bipush (v := 7) hx hb dX0_mirrors_3 (by decide) ?_
        refine lv_icmp_ge (tgt := 39) hx hb dX0_mirrors_5 (by decide) (fun c_7 => absurd c_7 (by decide)) (fun _ => ?_)
        refine lv_aload_n hx hb dX0_mirrors_8 rfl (lv_at hl 1 rfl) ?_
        refine va_get (D := D) (ci := 0) (v := .ref n) (C := RX0) (T := TX0) (N := 1) hx hb hg inX0 hown hK hP 0 rfl rfl 0 (by decide) (hg _ fl_X0_9) (fun _ h9 => h9) rfl dX0_mirrors_9 ?_
        refine lv_iload_n hx hb dX0_mirrors_12 rfl (lv_at hl 0 rfl) ?_
        refine va_iald (D := D) (n := 8) (f := f) hx hb hK hP 1 0 rfl rfl (vp_in_nI (show 3 < 8 by decide) (by decide)) dX0_mirrors_13 ?_
        rw [show (3 : Int32).toNatClampNeg = 3 from by decide]
        refine lv_iload_n hx hb dX0_mirrors_14 rfl (lv_at hl 3 rfl) ?_
        refine va_getsN (C := RX2) (n := "MIRROR_SIGNS") (d := "[I") (v := .ref tM) hx hb hzM hS hown (hG.nest fn_X0_27) (fun _ h9 => h9) dX0_mirrors_15 ?_
        refine lv_iload_n hx hb dX0_mirrors_18 rfl (lv_at hl 0 rfl) ?_
        refine va_ti (N := 8) (v := .int (gl_sign 3)) hx hb htM hS (vp_in_nI (show 3 < 8 by decide) (by decide)) rfl dX0_mirrors_19 ?_
        refine lv_imul hx hb dX0_mirrors_20 ?_
        refine lv_aload_n hx hb dX0_mirrors_21 rfl (lv_at hl 2 rfl) ?_
        refine va_get (D := D) (ci := 0) (v := .ref n2) (C := RX0) (T := TX0) (N := 1) hx hb hg inX0 hown hK hP 2 rfl rfl 0 (by decide) (hg _ fl_X0_9) (fun _ h9 => h9) rfl dX0_mirrors_22 ?_
        refine lv_iload_n hx hb dX0_mirrors_25 rfl (lv_at hl 0 rfl) ?_
        refine va_iald (D := D) (n := 8) (f := g) hx hb hK hP 3 0 rfl rfl (vp_in_nI (show 3 < 8 by decide) (by decide)) dX0_mirrors_26 ?_
        rw [show (3 : Int32).toNatClampNeg = 3 from by decide]
        refine lv_imul hx hb dX0_mirrors_27 ?_
        refine lv_icmp_eq (tgt := 33) hx hb dX0_mirrors_28 (by decide) (fun c_8 => ?_) (fun c_8 => ?_)
        · refine lv_iinc (v := 4) (lv' := [(3, .int 4), (0, .ref h), (1, .ref h2), (2, .int z)]) hx hb dX0_mirrors_33 hl (k := 0) rfl (by decide) (by decide) rfl (fun ls hl => ?_)
          refine lv_goto (tgt := 2) hx hb dX0_mirrors_36 (by decide) ?_
          refine lv_iload_n hx hb dX0_mirrors_2 rfl (lv_at hl 0 rfl) ?_
          refine lv_bipush (v := 7) hx hb dX0_mirrors_3 (by decide) ?_
          refine lv_icmp_ge (tgt := 39) hx hb dX0_mirrors_5 (by decide) (fun c_9 => absurd c_9 (by decide)) (fun _ => ?_)
          refine lv_aload_n hx hb dX0_mirrors_8 rfl (lv_at hl 1 rfl) ?_
          refine va_get (D := D) (ci := 0) (v := .ref n) (C := RX0) (T := TX0) (N := 1) hx hb hg inX0 hown hK hP 0 rfl rfl 0 (by decide) (hg _ fl_X0_9) (fun _ h9 => h9) rfl dX0_mirrors_9 ?_
          refine lv_iload_n hx hb dX0_mirrors_12 rfl (lv_at hl 0 rfl) ?_
          refine va_iald (D := D) (n := 8) (f := f) hx hb hK hP 1 0 rfl rfl (vp_in_nI (show 4 < 8 by decide) (by decide)) dX0_mirrors_13 ?_
          rw [show (4 : Int32).toNatClampNeg = 4 from by decide]
          refine lv_iload_n hx hb dX0_mirrors_14 rfl (lv_at hl 3 rfl) ?_
          refine va_getsN (C := RX2) (n := "MIRROR_SIGNS") (d := "[I") (v := .ref tM) hx hb hzM hS hown (hG.nest fn_X0_27) (fun _ h9 => h9) dX0_mirrors_15 ?_
          refine lv_iload_n hx hb dX0_mirrors_18 rfl (lv_at hl 0 rfl) ?_
          refine va_ti (N := 8) (v := .int (gl_sign 4)) hx hb htM hS (vp_in_nI (show 4 < 8 by decide) (by decide)) rfl dX0_mirrors_19 ?_
          refine lv_imul hx hb dX0_mirrors_20 ?_
          refine lv_aload_n hx hb dX0_mirrors_21 rfl (lv_at hl 2 rfl) ?_
          refine va_get (D := D) (ci := 0) (v := .ref n2) (C := RX0) (T := TX0) (N := 1) hx hb hg inX0 hown hK hP 2 rfl rfl 0 (by decide) (hg _ fl_X0_9) (fun _ h9 => h9) rfl dX0_mirrors_22 ?_
          refine lv_iload_n hx hb dX0_mirrors_25 rfl (lv_at hl 0 rfl) ?_
          refine va_iald (D := D) (n := 8) (f := g) hx hb hK hP 3 0 rfl rfl (vp_in_nI (show 4 < 8 by decide) (by decide)) dX0_mirrors_26 ?_
          rw [show (4 : Int32).toNatClampNeg = 4 from by decide]
          refine lv_imul hx hb dX0_mirrors_27 ?_
          refine lv_icmp_eq (tgt := 33) hx hb dX0_mirrors_28 (by decide) (fun c_10 => ?_) (fun c_10 => ?_)
          · refine lv_iinc (v := 5) (lv' := [(3, .int 5), (0, .ref h), (1, .ref h2), (2, .int z)]) hx hb dX0_mirrors_33 hl (k := 0) rfl (by decide) (by decide) rfl (fun ls hl => ?_)
            refine lv_goto (tgt := 2) hx hb dX0_mirrors_36 (by decide) ?_
            refine lv_iload_n hx hb dX0_mirrors_2 rfl (lv_at hl 0 rfl) ?_
            refine lv_bipush (v := 7) hx hb dX0_mirrors_3 (by decide) ?_
            refine lv_icmp_ge (tgt := 39) hx hb dX0_mirrors_5 (by decide) (fun c_11 => absurd c_11 (by decide)) (fun _ => ?_)
            refine lv_aload_n hx hb dX0_mirrors_8 rfl (lv_at hl 1 rfl) ?_
            refine va_get (D := D) (ci := 0) (v := .ref n) (C := RX0) (T := TX0) (N := 1) hx hb hg inX0 hown hK hP 0 rfl rfl 0 (by decide) (hg _ fl_X0_9) (fun _ h9 => h9) rfl dX0_mirrors_9 ?_
            refine lv_iload_n hx hb dX0_mirrors_12 rfl (lv_at hl 0 rfl) ?_
            refine va_iald (D := D) (n := 8) (f := f) hx hb hK hP 1 0 rfl rfl (vp_in_nI (show 5 < 8 by decide) (by decide)) dX0_mirrors_13 ?_
            rw [show (5 : Int32).toNatClampNeg = 5 from by decide]
            refine lv_iload_n hx hb dX0_mirrors_14 rfl (lv_at hl 3 rfl) ?_
            refine va_getsN (C := RX2) (n := "MIRROR_SIGNS") (d := "[I") (v := .ref tM) hx hb hzM hS hown (hG.nest fn_X0_27) (fun _ h9 => h9) dX0_mirrors_15 ?_
            refine lv_iload_n hx hb dX0_mirrors_18 rfl (lv_at hl 0 rfl) ?_
            refine va_ti (N := 8) (v := .int (gl_sign 5)) hx hb htM hS (vp_in_nI (show 5 < 8 by decide) (by decide)) rfl dX0_mirrors_19 ?_
            refine lv_imul hx hb dX0_mirrors_20 ?_
            refine lv_aload_n hx hb dX0_mirrors_21 rfl (lv_at hl 2 rfl) ?_
            refine va_get (D := D) (ci := 0) (v := .ref n2) (C := RX0) (T := TX0) (N := 1) hx hb hg inX0 hown hK hP 2 rfl rfl 0 (by decide) (hg _ fl_X0_9) (fun _ h9 => h9) rfl dX0_mirrors_22 ?_
            refine lv_iload_n hx hb dX0_mirrors_25 rfl (lv_at hl 0 rfl) ?_
            refine va_iald (D := D) (n := 8) (f := g) hx hb hK hP 3 0 rfl rfl (vp_in_nI (show 5 < 8 by decide) (by decide)) dX0_mirrors_26 ?_
            rw [show (5 : Int32).toNatClampNeg = 5 from by decide]
            refine lv_imul hx hb dX0_mirrors_27 ?_
            refine lv_icmp_eq (tgt := 33) hx hb dX0_mirrors_28 (by decide) (fun c_12 => ?_) (fun c_12 => ?_)
            · refine lv_iinc (v := 6) (lv' := [(3, .int 6), (0, .ref h), (1, .ref h2), (2, .int z)]) hx hb dX0_mirrors_33 hl (k := 0) rfl (by decide) (by decide) rfl (fun ls hl => ?_)
              refine lv_goto (tgt := 2) hx hb dX0_mirrors_36 (by decide) ?_
              refine lv_iload_n hx hb dX0_mirrors_2 rfl (lv_at hl 0 rfl) ?_
              refine lv_bipush (v := 7) hx hb dX0_mirrors_3 (by decide) ?_
              refine lv_icmp_ge (tgt := 39) hx hb dX0_mirrors_5 (by decide) (fun c_13 => absurd c_13 (by decide)) (fun _ => ?_)
              refine lv_aload_n hx hb dX0_mirrors_8 rfl (lv_at hl 1 rfl) ?_
              refine va_get (D := D) (ci := 0) (v := .ref n) (C := RX0) (T := TX0) (N := 1) hx hb hg inX0 hown hK hP 0 rfl rfl 0 (by decide) (hg _ fl_X0_9) (fun _ h9 => h9) rfl dX0_mirrors_9 ?_
              refine lv_iload_n hx hb dX0_mirrors_12 rfl (lv_at hl 0 rfl) ?_
              refine va_iald (D := D) (n := 8) (f := f) hx hb hK hP 1 0 rfl rfl (vp_in_nI (show 6 < 8 by decide) (by decide)) dX0_mirrors_13 ?_
              rw [show (6 : Int32).toNatClampNeg = 6 from by decide]
              refine lv_iload_n hx hb dX0_mirrors_14 rfl (lv_at hl 3 rfl) ?_
              refine va_getsN (C := RX2) (n := "MIRROR_SIGNS") (d := "[I") (v := .ref tM) hx hb hzM hS hown (hG.nest fn_X0_27) (fun _ h9 => h9) dX0_mirrors_15 ?_
              refine lv_iload_n hx hb dX0_mirrors_18 rfl (lv_at hl 0 rfl) ?_
              refine va_ti (N := 8) (v := .int (gl_sign 6)) hx hb htM hS (vp_in_nI (show 6 < 8 by decide) (by decide)) rfl dX0_mirrors_19 ?_
              refine lv_imul hx hb dX0_mirrors_20 ?_
              refine lv_aload_n hx hb dX0_mirrors_21 rfl (lv_at hl 2 rfl) ?_
              refine va_get (D := D) (ci := 0) (v := .ref n2) (C := RX0) (T := TX0) (N := 1) hx hb hg inX0 hown hK hP 2 rfl rfl 0 (by decide) (hg _ fl_X0_9) (fun _ h9 => h9) rfl dX0_mirrors_22 ?_
              refine lv_iload_n hx hb dX0_mirrors_25 rfl (lv_at hl 0 rfl) ?_
              refine va_iald (D := D) (n := 8) (f := g) hx hb hK hP 3 0 rfl rfl (vp_in_nI (show 6 < 8 by decide) (by decide)) dX0_mirrors_26 ?_
              rw [show (6 : Int32).toNatClampNeg = 6 from by decide]
              refine lv_imul hx hb dX0_mirrors_27 ?_
              refine lv_icmp_eq (tgt := 33) hx hb dX0_mirrors_28 (by decide) (fun c_14 => ?_) (fun c_14 => ?_)
              · refine lv_iinc (v := 7) (lv' := [(3, .int 7), (0, .ref h), (1, .ref h2), (2, .int z)]) hx hb dX0_mirrors_33 hl (k := 0) rfl (by decide) (by decide) rfl (fun ls hl => ?_)
                refine lv_goto (tgt := 2) hx hb dX0_mirrors_36 (by decide) ?_
                refine lv_iload_n hx hb dX0_mirrors_2 rfl (lv_at hl 0 rfl) ?_
                refine lv_bipush (v := 7) hx hb dX0_mirrors_3 (by decide) ?_
                refine lv_icmp_ge (tgt := 39) hx hb dX0_mirrors_5 (by decide) (fun _ => ?_) (fun c_15 => absurd c_15 (by decide))
                refine lv_aload_n hx hb dX0_mirrors_39 rfl (lv_at hl 1 rfl) ?_
                refine vp_callSi (W.runV (As := []) (rest := []) ⟨hx, hb, hml, hown, hg⟩ (c_X0_hasPole l D cI cL cQ h n f) (cwV 0 hg (gw_V ml_X0_30 im_X0_hasPole se_X0_hasPole ini_X0 co_X0_hasPole) rfl rfl rfl (by decide +kernel) ⟨Nat.le_of_ble_eq_true rfl, Nat.le_of_ble_eq_true rfl⟩) ⟨pu_B.blind, va_recv hK hP (ci := 0) (q0 := 0) rfl rfl, (fun U hU hW => ⟨rfl, pu_B.at hK (hP.sub [0, 1] rfl) hU hW⟩)⟩ rfl rfl hl.1 rfl (lv_room (Nat.le_of_ble_eq_true rfl)) dX0_mirrors_40 ⟨Nat.le_of_ble_eq_true rfl, Nat.le_of_ble_eq_true rfl⟩) (fun r_16 hr_16 => ?_)
                subst hr_16
                refine lv_if_eq (tgt := 64) hx hb dX0_mirrors_43 (by decide) (fun c_17 => ?_) (fun c_17 => ?_)
                · replace c_17 := zi_0 c_17
                  refine lv_iconst (v := 1) hx hb dX0_mirrors_64 (by decide) ?_
                  refine lv_goto (tgt := 69) hx hb dX0_mirrors_65 (by decide) ?_
                  exact W.zret (v := 1) hx hb hr rfl (fun t ht hW => ⟨1, rfl, by simp [zi, p_mir, c_2, c_4, c_6, c_8, c_10, c_12, c_14, c_17], ht⟩) (fun _ h => nomatch h) dX0_mirrors_69
                · replace c_17 := zi_n0 c_17
                  refine lv_aload_n hx hb dX0_mirrors_46 rfl (lv_at hl 1 rfl) ?_
                  refine va_get (D := D) (ci := 0) (v := .ref n) (C := RX0) (T := TX0) (N := 1) hx hb hg inX0 hown hK hP 0 rfl rfl 0 (by decide) (hg _ fl_X0_9) (fun _ h9 => h9) rfl dX0_mirrors_47 ?_
                  refine lv_bipush (v := 7) hx hb dX0_mirrors_50 (by decide) ?_
                  refine va_iald (D := D) (n := 8) (f := f) hx hb hK hP 1 0 rfl rfl (vp_in_nI (show 7 < 8 by decide) (by decide)) dX0_mirrors_52 ?_
                  rw [show (7 : Int32).toNatClampNeg = 7 from by decide]
                  refine lv_aload_n hx hb dX0_mirrors_53 rfl (lv_at hl 2 rfl) ?_
                  refine va_get (D := D) (ci := 0) (v := .ref n2) (C := RX0) (T := TX0) (N := 1) hx hb hg inX0 hown hK hP 2 rfl rfl 0 (by decide) (hg _ fl_X0_9) (fun _ h9 => h9) rfl dX0_mirrors_54 ?_
                  refine lv_bipush (v := 7) hx hb dX0_mirrors_57 (by decide) ?_
                  refine va_iald (D := D) (n := 8) (f := g) hx hb hK hP 3 0 rfl rfl (vp_in_nI (show 7 < 8 by decide) (by decide)) dX0_mirrors_59 ?_
                  rw [show (7 : Int32).toNatClampNeg = 7 from by decide]
                  refine lv_ineg hx hb dX0_mirrors_60 ?_
                  refine lv_icmp_ne (tgt := 68) hx hb dX0_mirrors_61 (by decide) (fun c_18 => ?_) (fun c_18 => ?_)
                  · refine lv_iconst (v := 0) hx hb dX0_mirrors_68 (by decide) ?_
                    exact W.zret (v := 0) hx hb hr rfl (fun t ht hW => ⟨0, rfl, by simp [zi, p_mir, c_2, c_4, c_6, c_8, c_10, c_12, c_14, c_17, c_18], ht⟩) (fun _ h => nomatch h) dX0_mirrors_69
                  · refine lv_iconst (v := 1) hx hb dX0_mirrors_64 (by decide) ?_
                    refine lv_goto (tgt := 69) hx hb dX0_mirrors_65 (by decide) ?_
                    exact W.zret (v := 1) hx hb hr rfl (fun t ht hW => ⟨1, rfl, by simp [zi, p_mir, c_2, c_4, c_6, c_8, c_10, c_12, c_14, c_17, c_18], ht⟩) (fun _ h => nomatch h) dX0_mirrors_69
              · refine lv_iconst (v := 0) hx hb dX0_mirrors_31 (by decide) ?_
                exact W.zret (v := 0) hx hb hr rfl (fun t ht hW => ⟨0, rfl, by simp [zi, p_mir, c_2, c_4, c_6, c_8, c_10, c_12, c_14], ht⟩) (fun _ h => nomatch h) dX0_mirrors_32
            · refine lv_iconst (v := 0) hx hb dX0_mirrors_31 (by decide) ?_
              exact W.zret (v := 0) hx hb hr rfl (fun t ht hW => ⟨0, rfl, by simp [zi, p_mir, c_2, c_4, c_6, c_8, c_10, c_12], ht⟩) (fun _ h => nomatch h) dX0_mirrors_32
          · refine lv_iconst (v := 0) hx hb dX0_mirrors_31 (by decide) ?_
            exact W.zret (v := 0) hx hb hr rfl (fun t ht hW => ⟨0, rfl, by simp [zi, p_mir, c_2, c_4, c_6, c_8, c_10], ht⟩) (fun _ h => nomatch h) dX0_mirrors_32
        · refine lv_iconst (v := 0) hx hb dX0_mirrors_31 (by decide) ?_
          exact W.zret (v := 0) hx hb hr rfl (fun t ht hW => ⟨0, rfl, by simp [zi, p_mir, c_2, c_4, c_6, c_8], ht⟩) (fun _ h => nomatch h) dX0_mirrors_32
      · refine lv_iconst (v := 0) hx hb dX0_mirrors_31 (by decide) ?_
        exact W.zret (v := 0) hx hb hr rfl (fun t ht hW => ⟨0, rfl, by simp [zi, p_mir, c_2, c_4, c_6], ht⟩) (fun _ h => nomatch h) dX0_mirrors_32
    · refine lv_iconst (v := 0) hx hb dX0_mirrors_31 (by decide) ?_
      exact W.zret (v := 0) hx hb hr rfl (fun t ht hW => ⟨0, rfl, by simp [zi, p_mir, c_2, c_4], ht⟩) (fun _ h => nomatch h) dX0_mirrors_32
  · refine lv_iconst (v := 0) hx hb dX0_mirrors_31 (by decide) ?_
    exact W.zret (v := 0) hx hb hr rfl (fun t ht hW => ⟨0, rfl, by simp [zi, p_mir, c_2], ht⟩) (fun _ h => nomatch h) dX0_mirrors_32
def x_ti (p : Int32) : Nat → Int32 → Nat
  | 0, _ => 0
  | k + 1, r => if p ≤ 1 then 0 else if r < p then 0 else if r - r / p * p = 0 then x_ti p k (r / p) + 1 else 0
set_option maxHeartbeats 4000000 in
set_option maxRecDepth 100000 in
theorem c_X2_timesIn (l : Launch) (p9 n : Int32) : Met l yX2_timesIn wsX2_timesIn { frames := 0, cells := 0, slots := 0, locals := 0 } (va_Pc [.int p9, .int n] (fun _ => True)) (vp_Si (fun r => r = nI (x_ti p9 3 n))) 0 0 (fun _ => False) := by
  refine Met.ofW (cc := cX2_timesIn) (maxL := 4) (ret := (some .int)) (by decide) rfl ?_
  intro p e s m args below meth c s₁ B hml hv
  obtain ⟨rfl, -⟩ := hv
  have hx := B.exec
  have hb := B.bytes
  have hr := B.returns
  have hts := atoms_spec (ws := wsX2_timesIn) B.pre
  have hg : ∀ w ∈ gw, w.before ([.int p9, .int n] : List Value).toArray s = true := fun w h => hts w (List.mem_cons_of_mem _ h)
  have hown : s.vm.findClass RX2 = some m.cls := findClass_of_methodNamed B.named
  have hlocks := B.notSynchronized
  have hl := lv_entry ([.int p9, .int n]) (n := 4) (Nat.le_of_ble_eq_true rfl)
  rw [lg_entry_eq]
  generalize (lg_sl ([.int p9, .int n]) ++ List.replicate (4 - (lg_sl ([.int p9, .int n])).length) Slot.unset).toArray = ls at hl ⊢
  have hl : lv_has ls 4 [(0, .int p9), (1, .int n)] := hl
  refine lv_iload_n hx hb dX2_timesIn_0 rfl (lv_at hl 1 rfl) ?_
  refine lv_istore_n (lv' := [(2, .int n), (0, .int p9), (1, .int n)]) hx hb dX2_timesIn_1 rfl hl (by decide) rfl (fun ls hl => ?_)
  refine lv_iconst (v := 0) hx hb dX2_timesIn_2 (by decide) ?_
  refine lv_istore_n (lv' := [(3, .int 0), (2, .int n), (0, .int p9), (1, .int n)]) hx hb dX2_timesIn_3 rfl hl (by decide) rfl (fun ls hl => ?_)
  have L4 : ∀ (n9 : Nat) (i : Nat) (r : Int32), (i ≤ 3) → (i + x_ti p9 (3 - i) r = x_ti p9 3 n) → (3 - i < n9) → ∀ (ls : Array Slot), lv_has ls 4 [(3, .int (nI i)), (2, .int r), (0, .int p9), (1, .int n)] → W p l e (headSpec wsX2_timesIn { frames := 0, cells := 0, slots := 0, locals := 0 }).room s m ([.int p9, .int n] : List Value).toArray below meth c s.heap [] 0 0 (MQ below (vp_Si (fun r => r = nI (x_ti p9 3 n))) ([.int p9, .int n] : List Value).toArray s 0 0 (fun _ => False)) (F0 m 4 ls []) := by
    intro n4
    induction n4 with
    | zero => intro i r hi hk h9; exact absurd h9 (by omega)
    | succ n4 ih4 =>
      intro i r hi hk h9 ls hl
      refine lv_iload_n hx hb dX2_timesIn_4 rfl (lv_at hl 0 rfl) ?_
      refine lv_iconst (v := 3) hx hb dX2_timesIn_5 (by decide) ?_
      refine lv_icmp_ge (tgt := 35) hx hb dX2_timesIn_6 (by decide) (fun c_1 => ?_) (fun c_1 => ?_)
      · replace c_1 : 3 ≤ i := (nI_leI (a := 3) (b := i) (by omega) (by omega)).mp c_1
        refine lv_iload_n hx hb dX2_timesIn_35 rfl (lv_at hl 0 rfl) ?_
        exact W.iret (v := nI i) hx hb hr (fun t ht hW => ⟨(nI i), rfl, by rw [← hk, show 3 - i = 0 by omega]; rfl, ht⟩) (fun _ h => nomatch h) dX2_timesIn_36
      · replace c_1 : ¬ 3 ≤ i := fun h => c_1 ((nI_leI (a := 3) (b := i) (by omega) (by omega)).mpr h)
        refine lv_iload_n hx hb dX2_timesIn_9 rfl (lv_at hl 2 rfl) ?_
        refine lv_iconst (v := 1) hx hb dX2_timesIn_10 (by decide) ?_
        refine lv_icmp_le (tgt := 35) hx hb dX2_timesIn_11 (by decide) (fun c_2 => ?_) (fun c_2 => ?_)
        · refine lv_iload_n hx hb dX2_timesIn_35 rfl (lv_at hl 0 rfl) ?_
          exact W.iret (v := nI i) hx hb hr (fun t ht hW => ⟨(nI i), rfl, by rw [← hk]; obtain ⟨j, hj⟩ : ∃ j, 3 - i = j + 1 := ⟨2 - i, by omega⟩; rw [hj]; simp [x_ti, c_2], ht⟩) (fun _ h => nomatch h) dX2_timesIn_36
        · refine lv_iload_n hx hb dX2_timesIn_14 rfl (lv_at hl 1 rfl) ?_
          refine lv_iload_n hx hb dX2_timesIn_15 rfl (lv_at hl 2 rfl) ?_
          refine lv_icmp_lt (tgt := 35) hx hb dX2_timesIn_16 (by decide) (fun c_3 => ?_) (fun c_3 => ?_)
          · refine lv_iload_n hx hb dX2_timesIn_35 rfl (lv_at hl 0 rfl) ?_
            exact W.iret (v := nI i) hx hb hr (fun t ht hW => ⟨(nI i), rfl, by rw [← hk]; obtain ⟨j, hj⟩ : ∃ j, 3 - i = j + 1 := ⟨2 - i, by omega⟩; rw [hj]; simp [x_ti, c_2, c_3], ht⟩) (fun _ h => nomatch h) dX2_timesIn_36
          · refine lv_iload_n hx hb dX2_timesIn_19 rfl (lv_at hl 1 rfl) ?_
            refine lv_iload_n hx hb dX2_timesIn_20 rfl (lv_at hl 2 rfl) ?_
            refine lv_irem hx hb dX2_timesIn_21 (fun h => absurd (show p9 ≤ 1 by rw [h]; decide) (by assumption)) ?_
            refine lv_if_ne (tgt := 35) hx hb dX2_timesIn_22 (by decide) (fun c_4 => ?_) (fun c_4 => ?_)
            · refine lv_iload_n hx hb dX2_timesIn_35 rfl (lv_at hl 0 rfl) ?_
              exact W.iret (v := nI i) hx hb hr (fun t ht hW => ⟨(nI i), rfl, by rw [← hk]; obtain ⟨j, hj⟩ : ∃ j, 3 - i = j + 1 := ⟨2 - i, by omega⟩; rw [hj]; simp [x_ti, c_2, c_3, c_4], ht⟩) (fun _ h => nomatch h) dX2_timesIn_36
            · refine lv_iload_n hx hb dX2_timesIn_25 rfl (lv_at hl 1 rfl) ?_
              refine lv_iload_n hx hb dX2_timesIn_26 rfl (lv_at hl 2 rfl) ?_
              refine lv_idiv hx hb dX2_timesIn_27 (fun h => absurd (show p9 ≤ 1 by rw [h]; decide) (by assumption)) ?_
              refine lv_topi (fun v_5 ev_5 => ?_)
              refine lv_istore_n (lv' := [(2, .int v_5), (3, .int (nI i)), (0, .int p9), (1, .int n)]) hx hb dX2_timesIn_28 rfl hl (by decide) rfl (fun ls hl => ?_)
              refine lv_iinc (v := nI (i + 1)) (lv' := [(3, .int (nI (i + 1))), (2, .int v_5), (0, .int p9), (1, .int n)]) hx hb dX2_timesIn_29 hl (k := 1) rfl (nI_1 i) (by decide) rfl (fun ls hl => ?_)
              refine lv_goto (tgt := 4) hx hb dX2_timesIn_32 (by decide) ?_
              exact ih4 (i + 1) v_5 (by omega) (by rw [← hk]; obtain ⟨j, hj⟩ : ∃ j, 3 - i = j + 1 := ⟨2 - i, by omega⟩; rw [hj, show 3 - (i + 1) = j by omega, x_ti, if_neg c_2, if_neg c_3, if_pos c_4, ev_5]; omega)  (by omega) ls (lv_sub hl [0, 1, 2, 3] rfl)
  exact L4 (3 + 1) 0 n (Nat.zero_le _) (Nat.zero_add _)  (Nat.lt_succ_self _) ls (lv_sub hl [0, 1, 2, 3] rfl)
theorem gs_n (v : Int32) : -1 * v = -v := (Int32.neg_eq_neg_one_mul v).symm
/-- is there: no pole from a to b, no endless tail -/
def m_there (g : Nat → Int32) (a b : Int32) : Bool := !(p_pole g && (decide (a = -9) || !decide (g 7 < a)) && (decide (b = 9) || !decide (b < g 7))) && (!(decide (a = -9) || decide (b = 9)) || !p_tail g)
/-- the reference's count: the places ahead whose double is under h -/
def m_cnt (pl : Nat → Int32) (x : Int32) (cu : Nat) : Nat → Nat → Nat
  | 0, k => k
  | n + 1, k => if k < cu ∧ 2 * pl k < x then m_cnt pl x cu n (k + 1) else k
set_option maxHeartbeats 4000000 in
set_option maxRecDepth 100000 in
theorem c_X3_thrown (l : Launch) (D : va_G) (cI cL cQ : ClassId) (h : Nat) (fs : List Value) (v : Int32) (hf0 : fs[0]? = some (.int v)) : Met l yX3_thrown wsX3_thrown { frames := 0, cells := 0, slots := 0, locals := 0 } (va_Pc [.ref h] (pu_B D (ty3 cI cL cQ) [(h, .inr (3, fs))])) (vp_Si (fun r => r = v)) 0 0 (fun _ => False) := by
  refine Met.ofW (cc := cX3_thrown) (maxL := 1) (ret := (some .int)) (by decide) rfl ?_
  intro p e s m args below meth c s₁ B hml hv
  obtain ⟨rfl, hK, hP⟩ := hv
  have hx := B.exec
  have hb := B.bytes
  have hr := B.returns
  have hts := atoms_spec (ws := wsX3_thrown) B.pre
  have hg : ∀ w ∈ gw, w.before ([.ref h] : List Value).toArray s = true := fun w h => hts w (List.mem_cons_of_mem _ h)
  have hown : s.vm.findClass RX3 = some m.cls := findClass_of_methodNamed B.named
  have hlocks := B.notSynchronized
  have hl := lv_entry ([.ref h]) (n := 1) (Nat.le_of_ble_eq_true rfl)
  rw [lg_entry_eq]
  generalize (lg_sl ([.ref h]) ++ List.replicate (1 - (lg_sl ([.ref h])).length) Slot.unset).toArray = ls at hl ⊢
  have hl : lv_has ls 1 [(0, .ref h)] := hl
  refine lv_aload_n hx hb dX3_thrown_0 rfl (lv_at hl 0 rfl) ?_
  refine va_get (D := D) (ci := 3) (v := .int v) (C := RX3) (T := TX3) (N := 13) hx hb hg inX3 hown hK hP 0 rfl rfl 0 (by decide) (hg _ fl_X3_28) (fun _ h9 => h9) hf0 dX3_thrown_1 ?_
  exact W.iret (v := v) hx hb hr (fun t ht hW => ⟨v, rfl, rfl, ht⟩) (fun _ h => nomatch h) dX3_thrown_4
set_option maxHeartbeats 4000000 in
set_option maxRecDepth 100000 in
theorem c_X3_turned (l : Launch) (D : va_G) (cI cL cQ : ClassId) (h a : Nat) (f : Nat → Int32) (p9 k : Nat) (hk : k < 8) (hp : p9 < 4) : Met l yX3_turned wsX3_turned { frames := 0, cells := 0, slots := 0, locals := 0 } (va_Pc [.ref h, .ref a, .int (nI p9), .int (nI k)] (pu_B D (ty3 cI cL cQ) [(a, .inl (cI, 32, .inl f))])) (vp_Si (fun r => r = gl_sign k * f (8 * p9 + k))) 0 0 (fun _ => False) := by
  refine Met.ofW (cc := cX3_turned) (maxL := 5) (ret := (some .int)) (by decide) rfl ?_
  intro p e s m args below meth c s₁ B hml hv
  obtain ⟨rfl, hK, hP⟩ := hv
  have hx := B.exec
  have hb := B.bytes
  have hr := B.returns
  have hts := atoms_spec (ws := wsX3_turned) B.pre
  have hg : ∀ w ∈ gw, w.before ([.ref h, .ref a, .int (nI p9), .int (nI k)] : List Value).toArray s = true := fun w h => hts w (List.mem_cons_of_mem _ h)
  have hown : s.vm.findClass RX3 = some m.cls := findClass_of_methodNamed B.named
  have hlocks := B.notSynchronized
  have hl := lv_entry ([.ref h, .ref a, .int (nI p9), .int (nI k)]) (n := 5) (Nat.le_of_ble_eq_true rfl)
  rw [lg_entry_eq]
  generalize (lg_sl ([.ref h, .ref a, .int (nI p9), .int (nI k)]) ++ List.replicate (5 - (lg_sl ([.ref h, .ref a, .int (nI p9), .int (nI k)])).length) Slot.unset).toArray = ls at hl ⊢
  have hl : lv_has ls 5 [(0, .ref h), (1, .ref a), (2, .int (nI p9)), (3, .int (nI k))] := hl
  refine lv_aload_n hx hb dX3_turned_0 rfl (lv_at hl 1 rfl) ?_
  refine lv_bipush (v := 8) hx hb dX3_turned_1 (by decide) ?_
  refine lv_iload_n hx hb dX3_turned_3 rfl (lv_at hl 2 rfl) ?_
  refine lv_imul hx hb dX3_turned_4 ?_
  rw [show (8 : Int32) * nI p9 = nI (8 * p9) from pk_mul 8 p9]
  refine lv_iload_n hx hb dX3_turned_5 rfl (lv_at hl 3 rfl) ?_
  refine lv_iadd hx hb dX3_turned_6 ?_
  rw [show (nI (8 * p9)) + nI k = nI ((8 * p9) + k) from nI_add (8 * p9) k]
  refine va_iald (D := D) (n := 32) (f := f) hx hb hK hP 0 0 rfl rfl (vp_in_nI (show ((8 * p9) + k) < 32 by omega) (by decide)) dX3_turned_7 ?_
  rw [nI_clamp (show ((8 * p9) + k) < 2 ^ 31 by omega)]
  refine lv_topi (fun v_1 ev_1 => ?_)
  refine lv_istore (lv' := [(4, .int v_1), (0, .ref h), (1, .ref a), (2, .int (nI p9)), (3, .int (nI k))]) hx hb dX3_turned_8 hl (by decide) rfl (fun ls hl => ?_)
  refine lv_iload_n hx hb dX3_turned_10 rfl (lv_at hl 4 rfl) ?_
  refine lv_iconst (v := 1) hx hb dX3_turned_11 (by decide) ?_
  refine lv_icmp_eq (tgt := 37) hx hb dX3_turned_12 (by decide) (fun c_2 => ?_) (fun c_2 => ?_)
  · replace c_2 : k = 1 := (nI_eq (a := k) (b := 1) (by omega) (by omega)).mp c_2
    refine lv_iload hx hb dX3_turned_37 (lv_at hl 0 rfl) ?_
    refine lv_ineg hx hb dX3_turned_39 ?_
    refine lv_goto (tgt := 45) hx hb dX3_turned_40 (by decide) ?_
    exact W.iret (v := (-v_1)) hx hb hr (fun t ht hW => ⟨(-v_1), rfl, by have hk9 : k = 1 ∨ k = 3 ∨ k = 4 ∨ k = 6 ∨ k = 7 := (by omega); rw [ev_1]; rcases hk9 with rfl | rfl | rfl | rfl | rfl <;> exact (gs_n _).symm, ht⟩) (fun _ h => nomatch h) dX3_turned_45
  · replace c_2 : ¬ k = 1 := fun h => c_2 ((nI_eq (a := k) (b := 1) (by omega) (by omega)).mpr h)
    refine lv_iload_n hx hb dX3_turned_15 rfl (lv_at hl 4 rfl) ?_
    refine lv_iconst (v := 3) hx hb dX3_turned_16 (by decide) ?_
    refine lv_icmp_eq (tgt := 37) hx hb dX3_turned_17 (by decide) (fun c_3 => ?_) (fun c_3 => ?_)
    · replace c_3 : k = 3 := (nI_eq (a := k) (b := 3) (by omega) (by omega)).mp c_3
      refine lv_iload hx hb dX3_turned_37 (lv_at hl 0 rfl) ?_
      refine lv_ineg hx hb dX3_turned_39 ?_
      refine lv_goto (tgt := 45) hx hb dX3_turned_40 (by decide) ?_
      exact W.iret (v := (-v_1)) hx hb hr (fun t ht hW => ⟨(-v_1), rfl, by have hk9 : k = 1 ∨ k = 3 ∨ k = 4 ∨ k = 6 ∨ k = 7 := (by omega); rw [ev_1]; rcases hk9 with rfl | rfl | rfl | rfl | rfl <;> exact (gs_n _).symm, ht⟩) (fun _ h => nomatch h) dX3_turned_45
    · replace c_3 : ¬ k = 3 := fun h => c_3 ((nI_eq (a := k) (b := 3) (by omega) (by omega)).mpr h)
      refine lv_iload_n hx hb dX3_turned_20 rfl (lv_at hl 4 rfl) ?_
      refine lv_iconst (v := 4) hx hb dX3_turned_21 (by decide) ?_
      refine lv_icmp_eq (tgt := 37) hx hb dX3_turned_22 (by decide) (fun c_4 => ?_) (fun c_4 => ?_)
      · replace c_4 : k = 4 := (nI_eq (a := k) (b := 4) (by omega) (by omega)).mp c_4
        refine lv_iload hx hb dX3_turned_37 (lv_at hl 0 rfl) ?_
        refine lv_ineg hx hb dX3_turned_39 ?_
        refine lv_goto (tgt := 45) hx hb dX3_turned_40 (by decide) ?_
        exact W.iret (v := (-v_1)) hx hb hr (fun t ht hW => ⟨(-v_1), rfl, by have hk9 : k = 1 ∨ k = 3 ∨ k = 4 ∨ k = 6 ∨ k = 7 := (by omega); rw [ev_1]; rcases hk9 with rfl | rfl | rfl | rfl | rfl <;> exact (gs_n _).symm, ht⟩) (fun _ h => nomatch h) dX3_turned_45
      · replace c_4 : ¬ k = 4 := fun h => c_4 ((nI_eq (a := k) (b := 4) (by omega) (by omega)).mpr h)
        refine lv_iload_n hx hb dX3_turned_25 rfl (lv_at hl 4 rfl) ?_
        refine lv_bipush (v := 6) hx hb dX3_turned_26 (by decide) ?_
        refine lv_icmp_eq (tgt := 37) hx hb dX3_turned_28 (by decide) (fun c_5 => ?_) (fun c_5 => ?_)
        · replace c_5 : k = 6 := (nI_eq (a := k) (b := 6) (by omega) (by omega)).mp c_5
          refine lv_iload hx hb dX3_turned_37 (lv_at hl 0 rfl) ?_
          refine lv_ineg hx hb dX3_turned_39 ?_
          refine lv_goto (tgt := 45) hx hb dX3_turned_40 (by decide) ?_
          exact W.iret (v := (-v_1)) hx hb hr (fun t ht hW => ⟨(-v_1), rfl, by have hk9 : k = 1 ∨ k = 3 ∨ k = 4 ∨ k = 6 ∨ k = 7 := (by omega); rw [ev_1]; rcases hk9 with rfl | rfl | rfl | rfl | rfl <;> exact (gs_n _).symm, ht⟩) (fun _ h => nomatch h) dX3_turned_45
        · replace c_5 : ¬ k = 6 := fun h => c_5 ((nI_eq (a := k) (b := 6) (by omega) (by omega)).mpr h)
          refine lv_iload_n hx hb dX3_turned_31 rfl (lv_at hl 4 rfl) ?_
          refine lv_bipush (v := 7) hx hb dX3_turned_32 (by decide) ?_
          refine lv_icmp_ne (tgt := 43) hx hb dX3_turned_34 (by decide) (fun c_6 => ?_) (fun c_6 => ?_)
          · replace c_6 : ¬ k = 7 := fun h => c_6 ((nI_eq (a := k) (b := 7) (by omega) (by omega)).mpr h)
            refine lv_iload hx hb dX3_turned_43 (lv_at hl 0 rfl) ?_
            exact W.iret (v := v_1) hx hb hr (fun t ht hW => ⟨v_1, rfl, by have hk9 : k = 0 ∨ k = 2 ∨ k = 5 := (by omega); rw [ev_1]; rcases hk9 with rfl | rfl | rfl <;> exact (Int32.one_mul _).symm, ht⟩) (fun _ h => nomatch h) dX3_turned_45
          · replace c_6 : k = 7 := (nI_eq (a := k) (b := 7) (by omega) (by omega)).mp c_6
            refine lv_iload hx hb dX3_turned_37 (lv_at hl 0 rfl) ?_
            refine lv_ineg hx hb dX3_turned_39 ?_
            refine lv_goto (tgt := 45) hx hb dX3_turned_40 (by decide) ?_
            exact W.iret (v := (-v_1)) hx hb hr (fun t ht hW => ⟨(-v_1), rfl, by have hk9 : k = 1 ∨ k = 3 ∨ k = 4 ∨ k = 6 ∨ k = 7 := (by omega); rw [ev_1]; rcases hk9 with rfl | rfl | rfl | rfl | rfl <;> exact (gs_n _).symm, ht⟩) (fun _ h => nomatch h) dX3_turned_45
set_option maxHeartbeats 4000000 in
set_option maxRecDepth 100000 in
theorem c_X3_hasPole (l : Launch) (D : va_G) (cI cL cQ : ClassId) (h n1 : Nat) (fs : List Value) (hf3 : fs[3]? = some (.ref n1)) (f : Nat → Int32) (p9 : Nat) (hp : p9 < 4) : Met l yX3_hasPole wsX3_hasPole { frames := 0, cells := 0, slots := 0, locals := 0 } (va_Pc [.ref h, .int (nI p9)] (pu_B D (ty3 cI cL cQ) [(h, .inr (3, fs)), (n1, .inl (cI, 32, .inl f))])) (vp_Si (fun r => r = zi (p_pole (fun j => f (8 * p9 + j))))) 0 0 (fun _ => False) := by
  refine Met.ofW (cc := cX3_hasPole) (maxL := 2) (ret := (some .boolean)) (by decide) rfl ?_
  intro p e s m args below meth c s₁ B hml hv
  obtain ⟨rfl, hK, hP⟩ := hv
  have hx := B.exec
  have hb := B.bytes
  have hr := B.returns
  have hts := atoms_spec (ws := wsX3_hasPole) B.pre
  have hg : ∀ w ∈ gw, w.before ([.ref h, .int (nI p9)] : List Value).toArray s = true := fun w h => hts w (List.mem_cons_of_mem _ h)
  have hown : s.vm.findClass RX3 = some m.cls := findClass_of_methodNamed B.named
  have hlocks := B.notSynchronized
  have hl := lv_entry ([.ref h, .int (nI p9)]) (n := 2) (Nat.le_of_ble_eq_true rfl)
  rw [lg_entry_eq]
  generalize (lg_sl ([.ref h, .int (nI p9)]) ++ List.replicate (2 - (lg_sl ([.ref h, .int (nI p9)])).length) Slot.unset).toArray = ls at hl ⊢
  have hl : lv_has ls 2 [(0, .ref h), (1, .int (nI p9))] := hl
  refine lv_aload_n hx hb dX3_hasPole_0 rfl (lv_at hl 0 rfl) ?_
  refine va_get (D := D) (ci := 3) (v := .ref n1) (C := RX3) (T := TX3) (N := 13) hx hb hg inX3 hown hK hP 0 rfl rfl 3 (by decide) (hg _ fl_X3_13) (fun _ h9 => h9) hf3 dX3_hasPole_1 ?_
  refine lv_bipush (v := 8) hx hb dX3_hasPole_4 (by decide) ?_
  refine lv_iload_n hx hb dX3_hasPole_6 rfl (lv_at hl 1 rfl) ?_
  refine lv_imul hx hb dX3_hasPole_7 ?_
  rw [show (8 : Int32) * nI p9 = nI (8 * p9) from pk_mul 8 p9]
  refine lv_iconst (v := 4) hx hb dX3_hasPole_8 (by decide) ?_
  refine lv_iadd hx hb dX3_hasPole_9 ?_
  rw [show (nI (8 * p9)) + (4 : Int32) = nI ((8 * p9) + 4) from nI_add (8 * p9) 4]
  refine va_iald (D := D) (n := 32) (f := f) hx hb hK hP 1 0 rfl rfl (vp_in_nI (show ((8 * p9) + 4) < 32 by omega) (by decide)) dX3_hasPole_10 ?_
  rw [nI_clamp (show ((8 * p9) + 4) < 2 ^ 31 by omega)]
  refine lv_if_ne (tgt := 43) hx hb dX3_hasPole_11 (by decide) (fun c_1 => ?_) (fun c_1 => ?_)
  · refine lv_iconst (v := 1) hx hb dX3_hasPole_43 (by decide) ?_
    refine lv_goto (tgt := 48) hx hb dX3_hasPole_44 (by decide) ?_
    exact W.zret (v := 1) hx hb hr rfl (fun t ht hW => ⟨1, rfl, by simp [zi, p_pole, c_1], ht⟩) (fun _ h => nomatch h) dX3_hasPole_48
  · refine lv_aload_n hx hb dX3_hasPole_14 rfl (lv_at hl 0 rfl) ?_
    refine va_get (D := D) (ci := 3) (v := .ref n1) (C := RX3) (T := TX3) (N := 13) hx hb hg inX3 hown hK hP 0 rfl rfl 3 (by decide) (hg _ fl_X3_13) (fun _ h9 => h9) hf3 dX3_hasPole_15 ?_
    refine lv_bipush (v := 8) hx hb dX3_hasPole_18 (by decide) ?_
    refine lv_iload_n hx hb dX3_hasPole_20 rfl (lv_at hl 1 rfl) ?_
    refine lv_imul hx hb dX3_hasPole_21 ?_
    rw [show (8 : Int32) * nI p9 = nI (8 * p9) from pk_mul 8 p9]
    refine lv_iconst (v := 5) hx hb dX3_hasPole_22 (by decide) ?_
    refine lv_iadd hx hb dX3_hasPole_23 ?_
    rw [show (nI (8 * p9)) + (5 : Int32) = nI ((8 * p9) + 5) from nI_add (8 * p9) 5]
    refine va_iald (D := D) (n := 32) (f := f) hx hb hK hP 1 0 rfl rfl (vp_in_nI (show ((8 * p9) + 5) < 32 by omega) (by decide)) dX3_hasPole_24 ?_
    rw [nI_clamp (show ((8 * p9) + 5) < 2 ^ 31 by omega)]
    refine lv_if_ne (tgt := 43) hx hb dX3_hasPole_25 (by decide) (fun c_2 => ?_) (fun c_2 => ?_)
    · refine lv_iconst (v := 1) hx hb dX3_hasPole_43 (by decide) ?_
      refine lv_goto (tgt := 48) hx hb dX3_hasPole_44 (by decide) ?_
      exact W.zret (v := 1) hx hb hr rfl (fun t ht hW => ⟨1, rfl, by simp [zi, p_pole, c_1, c_2], ht⟩) (fun _ h => nomatch h) dX3_hasPole_48
    · refine lv_aload_n hx hb dX3_hasPole_28 rfl (lv_at hl 0 rfl) ?_
      refine va_get (D := D) (ci := 3) (v := .ref n1) (C := RX3) (T := TX3) (N := 13) hx hb hg inX3 hown hK hP 0 rfl rfl 3 (by decide) (hg _ fl_X3_13) (fun _ h9 => h9) hf3 dX3_hasPole_29 ?_
      refine lv_bipush (v := 8) hx hb dX3_hasPole_32 (by decide) ?_
      refine lv_iload_n hx hb dX3_hasPole_34 rfl (lv_at hl 1 rfl) ?_
      refine lv_imul hx hb dX3_hasPole_35 ?_
      rw [show (8 : Int32) * nI p9 = nI (8 * p9) from pk_mul 8 p9]
      refine lv_bipush (v := 6) hx hb dX3_hasPole_36 (by decide) ?_
      refine lv_iadd hx hb dX3_hasPole_38 ?_
      rw [show (nI (8 * p9)) + (6 : Int32) = nI ((8 * p9) + 6) from nI_add (8 * p9) 6]
      refine va_iald (D := D) (n := 32) (f := f) hx hb hK hP 1 0 rfl rfl (vp_in_nI (show ((8 * p9) + 6) < 32 by omega) (by decide)) dX3_hasPole_39 ?_
      rw [nI_clamp (show ((8 * p9) + 6) < 2 ^ 31 by omega)]
      refine lv_if_eq (tgt := 47) hx hb dX3_hasPole_40 (by decide) (fun c_3 => ?_) (fun c_3 => ?_)
      · refine lv_iconst (v := 0) hx hb dX3_hasPole_47 (by decide) ?_
        exact W.zret (v := 0) hx hb hr rfl (fun t ht hW => ⟨0, rfl, by simp [zi, p_pole, c_1, c_2, c_3], ht⟩) (fun _ h => nomatch h) dX3_hasPole_48
      · refine lv_iconst (v := 1) hx hb dX3_hasPole_43 (by decide) ?_
        refine lv_goto (tgt := 48) hx hb dX3_hasPole_44 (by decide) ?_
        exact W.zret (v := 1) hx hb hr rfl (fun t ht hW => ⟨1, rfl, by simp [zi, p_pole, c_1, c_2, c_3], ht⟩) (fun _ h => nomatch h) dX3_hasPole_48
set_option maxHeartbeats 4000000 in
set_option maxRecDepth 100000 in
theorem c_X3_isTurned (l : Launch) (D : va_G) (cI cL cQ : ClassId) (h n1 : Nat) (fs : List Value) (hf3 : fs[3]? = some (.ref n1)) (f : Nat → Int32) (p9 q9 : Nat) (hp : p9 < 4) (hq : q9 < 4) (z : Int32) : Met l yX3_isTurned wsX3_isTurned { frames := 1, cells := 0, slots := 0, locals := 24 } (va_Pc [.ref h, .int (nI p9), .int (nI q9), .int z] (pu_B D (ty3 cI cL cQ) [(h, .inr (3, fs)), (n1, .inl (cI, 32, .inl f))])) (vp_Si (fun r => r = zi (p_mir (fun j => f (8 * p9 + j)) (fun j => f (8 * q9 + j)) z))) 0 0 (fun _ => False) := by
  refine Met.ofW (cc := cX3_isTurned) (maxL := 5) (ret := (some .boolean)) (by decide) rfl ?_
  intro p e s m args below meth c s₁ B hml hv
  obtain ⟨rfl, hK, hP⟩ := hv
  have hx := B.exec
  have hb := B.bytes
  have hr := B.returns
  have hts := atoms_spec (ws := wsX3_isTurned) B.pre
  have hg : ∀ w ∈ gw, w.before ([.ref h, .int (nI p9), .int (nI q9), .int z] : List Value).toArray s = true := fun w h => hts w (List.mem_cons_of_mem _ h)
  have hown : s.vm.findClass RX3 = some m.cls := findClass_of_methodNamed B.named
  have hlocks := B.notSynchronized
  have hl := lv_entry ([.ref h, .int (nI p9), .int (nI q9), .int z]) (n := 5) (Nat.le_of_ble_eq_true rfl)
  rw [lg_entry_eq]
  generalize (lg_sl ([.ref h, .int (nI p9), .int (nI q9), .int z]) ++ List.replicate (5 - (lg_sl ([.ref h, .int (nI p9), .int (nI q9), .int z])).length) Slot.unset).toArray = ls at hl ⊢
  have hl : lv_has ls 5 [(0, .ref h), (1, .int (nI p9)), (2, .int (nI q9)), (3, .int z)] := hl
  refine lv_iconst (v := 0) hx hb dX3_isTurned_0 (by decide) ?_
  refine lv_istore (lv' := [(4, .int 0), (0, .ref h), (1, .int (nI p9)), (2, .int (nI q9)), (3, .int z)]) hx hb dX3_isTurned_1 hl (by decide) rfl (fun ls hl => ?_)
  refine lv_iload hx hb dX3_isTurned_3 (lv_at hl 0 rfl) ?_
  refine lv_bipush (v := 7) hx hb dX3_isTurned_5 (by decide) ?_
  refine lv_icmp_ge (tgt := 46) hx hb dX3_isTurned_7 (by decide) (fun c_1 => absurd c_1 (by decide)) (fun _ => ?_)
  refine lv_aload_n hx hb dX3_isTurned_10 rfl (lv_at hl 1 rfl) ?_
  refine va_get (D := D) (ci := 3) (v := .ref n1) (C := RX3) (T := TX3) (N := 13) hx hb hg inX3 hown hK hP 0 rfl rfl 3 (by decide) (hg _ fl_X3_13) (fun _ h9 => h9) hf3 dX3_isTurned_11 ?_
  refine lv_bipush (v := 8) hx hb dX3_isTurned_14 (by decide) ?_
  refine lv_iload_n hx hb dX3_isTurned_16 rfl (lv_at hl 2 rfl) ?_
  refine lv_imul hx hb dX3_isTurned_17 ?_
  rw [show (8 : Int32) * nI p9 = nI (8 * p9) from pk_mul 8 p9]
  refine lv_iload hx hb dX3_isTurned_18 (lv_at hl 0 rfl) ?_
  refine lv_iadd hx hb dX3_isTurned_20 ?_
  rw [show (nI (8 * p9)) + (0 : Int32) = nI ((8 * p9) + 0) from nI_add (8 * p9) 0]
  refine va_iald (D := D) (n := 32) (f := f) hx hb hK hP 1 0 rfl rfl (vp_in_nI (show ((8 * p9) + 0) < 32 by omega) (by decide)) dX3_isTurned_21 ?_
  rw [nI_clamp (show ((8 * p9) + 0) < 2 ^ 31 by omega)]
  refine lv_iload_n hx hb dX3_isTurned_22 rfl (lv_at hl 4 rfl) ?_
  refine lv_aload_n hx hb dX3_isTurned_23 rfl (lv_at hl 1 rfl) ?_
  refine lv_aload_n hx hb dX3_isTurned_24 rfl (lv_at hl 1 rfl) ?_
  refine va_get (D := D) (ci := 3) (v := .ref n1) (C := RX3) (T := TX3) (N := 13) hx hb hg inX3 hown hK hP 0 rfl rfl 3 (by decide) (hg _ fl_X3_13) (fun _ h9 => h9) hf3 dX3_isTurned_25 ?_
  refine lv_iload_n hx hb dX3_isTurned_28 rfl (lv_at hl 3 rfl) ?_
  refine lv_iload hx hb dX3_isTurned_29 (lv_at hl 0 rfl) ?_
  refine vp_callSi (W.runV (As := [.ref n1, .int (nI q9), .int 0]) (rest := [.int z, .int (f ((8 * p9) + 0))]) ⟨hx, hb, hml, hown, hg⟩ (c_X3_turned l D cI cL cQ h n1 f q9 0 (by decide) (by omega)) (cwV 3 hg (gw_V ml_X3_39 im_X3_turned se_X3_turned ini_X3 co_X3_turned) rfl rfl rfl (by decide +kernel) ⟨Nat.le_of_ble_eq_true rfl, Nat.le_of_ble_eq_true rfl⟩) ⟨pu_B.blind, va_recv hK hP (ci := 3) (q0 := 0) rfl rfl, (fun U hU hW => ⟨rfl, pu_B.at hK (hP.sub [1] rfl) hU hW⟩)⟩ rfl rfl hl.1 rfl (lv_room (Nat.le_of_ble_eq_true rfl)) dX3_isTurned_31 ⟨Nat.le_of_ble_eq_true rfl, Nat.le_of_ble_eq_true rfl⟩) (fun r_2 hr_2 => ?_)
  subst hr_2
  refine lv_imul hx hb dX3_isTurned_34 ?_
  refine lv_icmp_eq (tgt := 40) hx hb dX3_isTurned_35 (by decide) (fun c_3 => ?_) (fun c_3 => ?_)
  · refine lv_iinc (v := 1) (lv' := [(4, .int 1), (0, .ref h), (1, .int (nI p9)), (2, .int (nI q9)), (3, .int z)]) hx hb dX3_isTurned_40 hl (k := 0) rfl (by decide) (by decide) rfl (fun ls hl => ?_)
    refine lv_goto (tgt := 3) hx hb dX3_isTurned_43 (by decide) ?_
    refine lv_iload hx hb dX3_isTurned_3 (lv_at hl 0 rfl) ?_
    refine lv_bipush (v := 7) hx hb dX3_isTurned_5 (by decide) ?_
    refine lv_icmp_ge (tgt := 46) hx hb dX3_isTurned_7 (by decide) (fun c_4 => absurd c_4 (by decide)) (fun _ => ?_)
    refine lv_aload_n hx hb dX3_isTurned_10 rfl (lv_at hl 1 rfl) ?_
    refine va_get (D := D) (ci := 3) (v := .ref n1) (C := RX3) (T := TX3) (N := 13) hx hb hg inX3 hown hK hP 0 rfl rfl 3 (by decide) (hg _ fl_X3_13) (fun _ h9 => h9) hf3 dX3_isTurned_11 ?_
    refine lv_bipush (v := 8) hx hb dX3_isTurned_14 (by decide) ?_
    refine lv_iload_n hx hb dX3_isTurned_16 rfl (lv_at hl 2 rfl) ?_
    refine lv_imul hx hb dX3_isTurned_17 ?_
    rw [show (8 : Int32) * nI p9 = nI (8 * p9) from pk_mul 8 p9]
    refine lv_iload hx hb dX3_isTurned_18 (lv_at hl 0 rfl) ?_
    refine lv_iadd hx hb dX3_isTurned_20 ?_
    rw [show (nI (8 * p9)) + (1 : Int32) = nI ((8 * p9) + 1) from nI_add (8 * p9) 1]
    refine va_iald (D := D) (n := 32) (f := f) hx hb hK hP 1 0 rfl rfl (vp_in_nI (show ((8 * p9) + 1) < 32 by omega) (by decide)) dX3_isTurned_21 ?_
    rw [nI_clamp (show ((8 * p9) + 1) < 2 ^ 31 by omega)]
    refine lv_iload_n hx hb dX3_isTurned_22 rfl (lv_at hl 4 rfl) ?_
    refine lv_aload_n hx hb dX3_isTurned_23 rfl (lv_at hl 1 rfl) ?_
    refine lv_aload_n hx hb dX3_isTurned_24 rfl (lv_at hl 1 rfl) ?_
    refine va_get (D := D) (ci := 3) (v := .ref n1) (C := RX3) (T := TX3) (N := 13) hx hb hg inX3 hown hK hP 0 rfl rfl 3 (by decide) (hg _ fl_X3_13) (fun _ h9 => h9) hf3 dX3_isTurned_25 ?_
    refine lv_iload_n hx hb dX3_isTurned_28 rfl (lv_at hl 3 rfl) ?_
    refine lv_iload hx hb dX3_isTurned_29 (lv_at hl 0 rfl) ?_
    refine vp_callSi (W.runV (As := [.ref n1, .int (nI q9), .int 1]) (rest := [.int z, .int (f ((8 * p9) + 1))]) ⟨hx, hb, hml, hown, hg⟩ (c_X3_turned l D cI cL cQ h n1 f q9 1 (by decide) (by omega)) (cwV 3 hg (gw_V ml_X3_39 im_X3_turned se_X3_turned ini_X3 co_X3_turned) rfl rfl rfl (by decide +kernel) ⟨Nat.le_of_ble_eq_true rfl, Nat.le_of_ble_eq_true rfl⟩) ⟨pu_B.blind, va_recv hK hP (ci := 3) (q0 := 0) rfl rfl, (fun U hU hW => ⟨rfl, pu_B.at hK (hP.sub [1] rfl) hU hW⟩)⟩ rfl rfl hl.1 rfl (lv_room (Nat.le_of_ble_eq_true rfl)) dX3_isTurned_31 ⟨Nat.le_of_ble_eq_true rfl, Nat.le_of_ble_eq_true rfl⟩) (fun r_5 hr_5 => ?_)
    subst hr_5
    refine lv_imul hx hb dX3_isTurned_34 ?_
    refine lv_icmp_eq (tgt := 40) hx hb dX3_isTurned_35 (by decide) (fun c_6 => ?_) (fun c_6 => ?_)
    · refine lv_iinc (v := 2) (lv' := [(4, .int 2), (0, .ref h), (1, .int (nI p9)), (2, .int (nI q9)), (3, .int z)]) hx hb dX3_isTurned_40 hl (k := 0) rfl (by decide) (by decide) rfl (fun ls hl => ?_)
      refine lv_goto (tgt := 3) hx hb dX3_isTurned_43 (by decide) ?_
      refine lv_iload hx hb dX3_isTurned_3 (lv_at hl 0 rfl) ?_
      refine lv_bipush (v := 7) hx hb dX3_isTurned_5 (by decide) ?_
      refine lv_icmp_ge (tgt := 46) hx hb dX3_isTurned_7 (by decide) (fun c_7 => absurd c_7 (by decide)) (fun _ => ?_)
      refine lv_aload_n hx hb dX3_isTurned_10 rfl (lv_at hl 1 rfl) ?_
      refine va_get (D := D) (ci := 3) (v := .ref n1) (C := RX3) (T := TX3) (N := 13) hx hb hg inX3 hown hK hP 0 rfl rfl 3 (by decide) (hg _ fl_X3_13) (fun _ h9 => h9) hf3 dX3_isTurned_11 ?_
      refine lv_bipush (v := 8) hx hb dX3_isTurned_14 (by decide) ?_
      refine lv_iload_n hx hb dX3_isTurned_16 rfl (lv_at hl 2 rfl) ?_
      refine lv_imul hx hb dX3_isTurned_17 ?_
      rw [show (8 : Int32) * nI p9 = nI (8 * p9) from pk_mul 8 p9]
      refine lv_iload hx hb dX3_isTurned_18 (lv_at hl 0 rfl) ?_
      refine lv_iadd hx hb dX3_isTurned_20 ?_
      rw [show (nI (8 * p9)) + (2 : Int32) = nI ((8 * p9) + 2) from nI_add (8 * p9) 2]
      refine va_iald (D := D) (n := 32) (f := f) hx hb hK hP 1 0 rfl rfl (vp_in_nI (show ((8 * p9) + 2) < 32 by omega) (by decide)) dX3_isTurned_21 ?_
      rw [nI_clamp (show ((8 * p9) + 2) < 2 ^ 31 by omega)]
      refine lv_iload_n hx hb dX3_isTurned_22 rfl (lv_at hl 4 rfl) ?_
      refine lv_aload_n hx hb dX3_isTurned_23 rfl (lv_at hl 1 rfl) ?_
      refine lv_aload_n hx hb dX3_isTurned_24 rfl (lv_at hl 1 rfl) ?_
      refine va_get (D := D) (ci := 3) (v := .ref n1) (C := RX3) (T := TX3) (N := 13) hx hb hg inX3 hown hK hP 0 rfl rfl 3 (by decide) (hg _ fl_X3_13) (fun _ h9 => h9) hf3 dX3_isTurned_25 ?_
      refine lv_iload_n hx hb dX3_isTurned_28 rfl (lv_at hl 3 rfl) ?_
      refine lv_iload hx hb dX3_isTurned_29 (lv_at hl 0 rfl) ?_
      refine vp_callSi (W.runV (As := [.ref n1, .int (nI q9), .int 2]) (rest := [.int z, .int (f ((8 * p9) + 2))]) ⟨hx, hb, hml, hown, hg⟩ (c_X3_turned l D cI cL cQ h n1 f q9 2 (by decide) (by omega)) (cwV 3 hg (gw_V ml_X3_39 im_X3_turned se_X3_turned ini_X3 co_X3_turned) rfl rfl rfl (by decide +kernel) ⟨Nat.le_of_ble_eq_true rfl, Nat.le_of_ble_eq_true rfl⟩) ⟨pu_B.blind, va_recv hK hP (ci := 3) (q0 := 0) rfl rfl, (fun U hU hW => ⟨rfl, pu_B.at hK (hP.sub [1] rfl) hU hW⟩)⟩ rfl rfl hl.1 rfl (lv_room (Nat.le_of_ble_eq_true rfl)) dX3_isTurned_31 ⟨Nat.le_of_ble_eq_true rfl, Nat.le_of_ble_eq_true rfl⟩) (fun r_8 hr_8 => ?_)
      subst hr_8
      refine lv_imul hx hb dX3_isTurned_34 ?_
      refine lv_icmp_eq (tgt := 40) hx hb dX3_isTurned_35 (by decide) (fun c_9 => ?_) (fun c_9 => ?_)
      · refine lv_iinc (v := 3) (lv' := [(4, .int 3), (0, .ref h), (1, .int (nI p9)), (2, .int (nI q9)), (3, .int z)]) hx hb dX3_isTurned_40 hl (k := 0) rfl (by decide) (by decide) rfl (fun ls hl => ?_)
        refine lv_goto (tgt := 3) hx hb dX3_isTurned_43 (by decide) ?_
        refine lv_iload hx hb dX3_isTurned_3 (lv_at hl 0 rfl) ?_
        refine lv_bipush (v := 7) hx hb dX3_isTurned_5 (by decide) ?_
        refine lv_icmp_ge (tgt := 46) hx hb dX3_isTurned_7 (by decide) (fun c_10 => absurd c_10 (by decide)) (fun _ => ?_)
        refine lv_aload_n hx hb dX3_isTurned_10 rfl (lv_at hl 1 rfl) ?_
        refine va_get (D := D) (ci := 3) (v := .ref n1) (C := RX3) (T := TX3) (N := 13) hx hb hg inX3 hown hK hP 0 rfl rfl 3 (by decide) (hg _ fl_X3_13) (fun _ h9 => h9) hf3 dX3_isTurned_11 ?_
        refine lv_bipush (v := 8) hx hb dX3_isTurned_14 (by decide) ?_
        refine lv_iload_n hx hb dX3_isTurned_16 rfl (lv_at hl 2 rfl) ?_
        refine lv_imul hx hb dX3_isTurned_17 ?_
        rw [show (8 : Int32) * nI p9 = nI (8 * p9) from pk_mul 8 p9]
        refine lv_iload hx hb dX3_isTurned_18 (lv_at hl 0 rfl) ?_
        refine lv_iadd hx hb dX3_isTurned_20 ?_
        rw [show (nI (8 * p9)) + (3 : Int32) = nI ((8 * p9) + 3) from nI_add (8 * p9) 3]
        refine va_iald (D := D) (n := 32) (f := f) hx hb hK hP 1 0 rfl rfl (vp_in_nI (show ((8 * p9) + 3) < 32 by omega) (by decide)) dX3_isTurned_21 ?_
        rw [nI_clamp (show ((8 * p9) + 3) < 2 ^ 31 by omega)]
        refine lv_iload_n hx hb dX3_isTurned_22 rfl (lv_at hl 4 rfl) ?_
        refine lv_aload_n hx hb dX3_isTurned_23 rfl (lv_at hl 1 rfl) ?_
        refine lv_aload_n hx hb dX3_isTurned_24 rfl (lv_at hl 1 rfl) ?_
        refine va_get (D := D) (ci := 3) (v := .ref n1) (C := RX3) (T := TX3) (N := 13) hx hb hg inX3 hown hK hP 0 rfl rfl 3 (by decide) (hg _ fl_X3_13) (fun _ h9 => h9) hf3 dX3_isTurned_25 ?_
        refine lv_iload_n hx hb dX3_isTurned_28 rfl (lv_at hl 3 rfl) ?_
        refine lv_iload hx hb dX3_isTurned_29 (lv_at hl 0 rfl) ?_
        refine vp_callSi (W.runV (As := [.ref n1, .int (nI q9), .int 3]) (rest := [.int z, .int (f ((8 * p9) + 3))]) ⟨hx, hb, hml, hown, hg⟩ (c_X3_turned l D cI cL cQ h n1 f q9 3 (by decide) (by omega)) (cwV 3 hg (gw_V ml_X3_39 im_X3_turned se_X3_turned ini_X3 co_X3_turned) rfl rfl rfl (by decide +kernel) ⟨Nat.le_of_ble_eq_true rfl, Nat.le_of_ble_eq_true rfl⟩) ⟨pu_B.blind, va_recv hK hP (ci := 3) (q0 := 0) rfl rfl, (fun U hU hW => ⟨rfl, pu_B.at hK (hP.sub [1] rfl) hU hW⟩)⟩ rfl rfl hl.1 rfl (lv_room (Nat.le_of_ble_eq_true rfl)) dX3_isTurned_31 ⟨Nat.le_of_ble_eq_true rfl, Nat.le_of_ble_eq_true rfl⟩) (fun r_11 hr_11 => ?_)
        subst hr_11
        refine lv_imul hx hb dX3_isTurned_34 ?_
        refine lv_icmp_eq (tgt := 40) hx hb dX3_isTurned_35 (by decide) (fun c_12 => ?_) (fun c_12 => ?_)
        · refine lv_iinc (v := 4) (lv' := [(4, .int 4), (0, .ref h), (1, .int (nI p9)), (2, .int (nI q9)), (3, .int z)]) hx hb dX3_isTurned_40 hl (k := 0) rfl (by decide) (by decide) rfl (fun ls hl => ?_)
          refine lv_goto (tgt := 3) hx hb dX3_isTurned_43 (by decide) ?_
          refine lv_iload hx hb dX3_isTurned_3 (lv_at hl 0 rfl) ?_
          refine lv_bipush (v := 7) hx hb dX3_isTurned_5 (by decide) ?_
          refine lv_icmp_ge (tgt := 46) hx hb dX3_isTurned_7 (by decide) (fun c_13 => absurd c_13 (by decide)) (fun _ => ?_)
          refine lv_aload_n hx hb dX3_isTurned_10 rfl (lv_at hl 1 rfl) ?_
          refine va_get (D := D) (ci := 3) (v := .ref n1) (C := RX3) (T := TX3) (N := 13) hx hb hg inX3 hown hK hP 0 rfl rfl 3 (by decide) (hg _ fl_X3_13) (fun _ h9 => h9) hf3 dX3_isTurned_11 ?_
          refine lv_bipush (v := 8) hx hb dX3_isTurned_14 (by decide) ?_
          refine lv_iload_n hx hb dX3_isTurned_16 rfl (lv_at hl 2 rfl) ?_
          refine lv_imul hx hb dX3_isTurned_17 ?_
          rw [show (8 : Int32) * nI p9 = nI (8 * p9) from pk_mul 8 p9]
          refine lv_iload hx hb dX3_isTurned_18 (lv_at hl 0 rfl) ?_
          refine lv_iadd hx hb dX3_isTurned_20 ?_
          rw [show (nI (8 * p9)) + (4 : Int32) = nI ((8 * p9) + 4) from nI_add (8 * p9) 4]
          refine va_iald (D := D) (n := 32) (f := f) hx hb hK hP 1 0 rfl rfl (vp_in_nI (show ((8 * p9) + 4) < 32 by omega) (by decide)) dX3_isTurned_21 ?_
          rw [nI_clamp (show ((8 * p9) + 4) < 2 ^ 31 by omega)]
          refine lv_iload_n hx hb dX3_isTurned_22 rfl (lv_at hl 4 rfl) ?_
          refine lv_aload_n hx hb dX3_isTurned_23 rfl (lv_at hl 1 rfl) ?_
          refine lv_aload_n hx hb dX3_isTurned_24 rfl (lv_at hl 1 rfl) ?_
          refine va_get (D := D) (ci := 3) (v := .ref n1) (C := RX3) (T := TX3) (N := 13) hx hb hg inX3 hown hK hP 0 rfl rfl 3 (by decide) (hg _ fl_X3_13) (fun _ h9 => h9) hf3 dX3_isTurned_25 ?_
          refine lv_iload_n hx hb dX3_isTurned_28 rfl (lv_at hl 3 rfl) ?_
          refine lv_iload hx hb dX3_isTurned_29 (lv_at hl 0 rfl) ?_
          refine vp_callSi (W.runV (As := [.ref n1, .int (nI q9), .int 4]) (rest := [.int z, .int (f ((8 * p9) + 4))]) ⟨hx, hb, hml, hown, hg⟩ (c_X3_turned l D cI cL cQ h n1 f q9 4 (by decide) (by omega)) (cwV 3 hg (gw_V ml_X3_39 im_X3_turned se_X3_turned ini_X3 co_X3_turned) rfl rfl rfl (by decide +kernel) ⟨Nat.le_of_ble_eq_true rfl, Nat.le_of_ble_eq_true rfl⟩) ⟨pu_B.blind, va_recv hK hP (ci := 3) (q0 := 0) rfl rfl, (fun U hU hW => ⟨rfl, pu_B.at hK (hP.sub [1] rfl) hU hW⟩)⟩ rfl rfl hl.1 rfl (lv_room (Nat.le_of_ble_eq_true rfl)) dX3_isTurned_31 ⟨Nat.le_of_ble_eq_true rfl, Nat.le_of_ble_eq_true rfl⟩) (fun r_14 hr_14 => ?_)
          subst hr_14
          refine lv_imul hx hb dX3_isTurned_34 ?_
          refine lv_icmp_eq (tgt := 40) hx hb dX3_isTurned_35 (by decide) (fun c_15 => ?_) (fun c_15 => ?_)
          · refine lv_iinc (v := 5) (lv' := [(4, .int 5), (0, .ref h), (1, .int (nI p9)), (2, .int (nI q9)), (3, .int z)]) hx hb dX3_isTurned_40 hl (k := 0) rfl (by decide) (by decide) rfl (fun ls hl => ?_)
            refine lv_goto (tgt := 3) hx hb dX3_isTurned_43 (by decide) ?_
            refine lv_iload hx hb dX3_isTurned_3 (lv_at hl 0 rfl) ?_
            refine lv_bipush (v := 7) hx hb dX3_isTurned_5 (by decide) ?_
            refine lv_icmp_ge (tgt := 46) hx hb dX3_isTurned_7 (by decide) (fun c_16 => absurd c_16 (by decide)) (fun _ => ?_)
            refine lv_aload_n hx hb dX3_isTurned_10 rfl (lv_at hl 1 rfl) ?_
            refine va_get (D := D) (ci := 3) (v := .ref n1) (C := RX3) (T := TX3) (N := 13) hx hb hg inX3 hown hK hP 0 rfl rfl 3 (by decide) (hg _ fl_X3_13) (fun _ h9 => h9) hf3 dX3_isTurned_11 ?_
            refine lv_bipush (v := 8) hx hb dX3_isTurned_14 (by decide) ?_
            refine lv_iload_n hx hb dX3_isTurned_16 rfl (lv_at hl 2 rfl) ?_
            refine lv_imul hx hb dX3_isTurned_17 ?_
            rw [show (8 : Int32) * nI p9 = nI (8 * p9) from pk_mul 8 p9]
            refine lv_iload hx hb dX3_isTurned_18 (lv_at hl 0 rfl) ?_
            refine lv_iadd hx hb dX3_isTurned_20 ?_
            rw [show (nI (8 * p9)) + (5 : Int32) = nI ((8 * p9) + 5) from nI_add (8 * p9) 5]
            refine va_iald (D := D) (n := 32) (f := f) hx hb hK hP 1 0 rfl rfl (vp_in_nI (show ((8 * p9) + 5) < 32 by omega) (by decide)) dX3_isTurned_21 ?_
            rw [nI_clamp (show ((8 * p9) + 5) < 2 ^ 31 by omega)]
            refine lv_iload_n hx hb dX3_isTurned_22 rfl (lv_at hl 4 rfl) ?_
            refine lv_aload_n hx hb dX3_isTurned_23 rfl (lv_at hl 1 rfl) ?_
            refine lv_aload_n hx hb dX3_isTurned_24 rfl (lv_at hl 1 rfl) ?_
            refine va_get (D := D) (ci := 3) (v := .ref n1) (C := RX3) (T := TX3) (N := 13) hx hb hg inX3 hown hK hP 0 rfl rfl 3 (by decide) (hg _ fl_X3_13) (fun _ h9 => h9) hf3 dX3_isTurned_25 ?_
            refine lv_iload_n hx hb dX3_isTurned_28 rfl (lv_at hl 3 rfl) ?_
            refine lv_iload hx hb dX3_isTurned_29 (lv_at hl 0 rfl) ?_
            refine vp_callSi (W.runV (As := [.ref n1, .int (nI q9), .int 5]) (rest := [.int z, .int (f ((8 * p9) + 5))]) ⟨hx, hb, hml, hown, hg⟩ (c_X3_turned l D cI cL cQ h n1 f q9 5 (by decide) (by omega)) (cwV 3 hg (gw_V ml_X3_39 im_X3_turned se_X3_turned ini_X3 co_X3_turned) rfl rfl rfl (by decide +kernel) ⟨Nat.le_of_ble_eq_true rfl, Nat.le_of_ble_eq_true rfl⟩) ⟨pu_B.blind, va_recv hK hP (ci := 3) (q0 := 0) rfl rfl, (fun U hU hW => ⟨rfl, pu_B.at hK (hP.sub [1] rfl) hU hW⟩)⟩ rfl rfl hl.1 rfl (lv_room (Nat.le_of_ble_eq_true rfl)) dX3_isTurned_31 ⟨Nat.le_of_ble_eq_true rfl, Nat.le_of_ble_eq_true rfl⟩) (fun r_17 hr_17 => ?_)
            subst hr_17
            refine lv_imul hx hb dX3_isTurned_34 ?_
            refine lv_icmp_eq (tgt := 40) hx hb dX3_isTurned_35 (by decide) (fun c_18 => ?_) (fun c_18 => ?_)
            · refine lv_iinc (v := 6) (lv' := [(4, .int 6), (0, .ref h), (1, .int (nI p9)), (2, .int (nI q9)), (3, .int z)]) hx hb dX3_isTurned_40 hl (k := 0) rfl (by decide) (by decide) rfl (fun ls hl => ?_)
              refine lv_goto (tgt := 3) hx hb dX3_isTurned_43 (by decide) ?_
              refine lv_iload hx hb dX3_isTurned_3 (lv_at hl 0 rfl) ?_
              refine lv_bipush (v := 7) hx hb dX3_isTurned_5 (by decide) ?_
              refine lv_icmp_ge (tgt := 46) hx hb dX3_isTurned_7 (by decide) (fun c_19 => absurd c_19 (by decide)) (fun _ => ?_)
              refine lv_aload_n hx hb dX3_isTurned_10 rfl (lv_at hl 1 rfl) ?_
              refine va_get (D := D) (ci := 3) (v := .ref n1) (C := RX3) (T := TX3) (N := 13) hx hb hg inX3 hown hK hP 0 rfl rfl 3 (by decide) (hg _ fl_X3_13) (fun _ h9 => h9) hf3 dX3_isTurned_11 ?_
              refine lv_bipush (v := 8) hx hb dX3_isTurned_14 (by decide) ?_
              refine lv_iload_n hx hb dX3_isTurned_16 rfl (lv_at hl 2 rfl) ?_
              refine lv_imul hx hb dX3_isTurned_17 ?_
              rw [show (8 : Int32) * nI p9 = nI (8 * p9) from pk_mul 8 p9]
              refine lv_iload hx hb dX3_isTurned_18 (lv_at hl 0 rfl) ?_
              refine lv_iadd hx hb dX3_isTurned_20 ?_
              rw [show (nI (8 * p9)) + (6 : Int32) = nI ((8 * p9) + 6) from nI_add (8 * p9) 6]
              refine va_iald (D := D) (n := 32) (f := f) hx hb hK hP 1 0 rfl rfl (vp_in_nI (show ((8 * p9) + 6) < 32 by omega) (by decide)) dX3_isTurned_21 ?_
              rw [nI_clamp (show ((8 * p9) + 6) < 2 ^ 31 by omega)]
              refine lv_iload_n hx hb dX3_isTurned_22 rfl (lv_at hl 4 rfl) ?_
              refine lv_aload_n hx hb dX3_isTurned_23 rfl (lv_at hl 1 rfl) ?_
              refine lv_aload_n hx hb dX3_isTurned_24 rfl (lv_at hl 1 rfl) ?_
              refine va_get (D := D) (ci := 3) (v := .ref n1) (C := RX3) (T := TX3) (N := 13) hx hb hg inX3 hown hK hP 0 rfl rfl 3 (by decide) (hg _ fl_X3_13) (fun _ h9 => h9) hf3 dX3_isTurned_25 ?_
              refine lv_iload_n hx hb dX3_isTurned_28 rfl (lv_at hl 3 rfl) ?_
              refine lv_iload hx hb dX3_isTurned_29 (lv_at hl 0 rfl) ?_
              refine vp_callSi (W.runV (As := [.ref n1, .int (nI q9), .int 6]) (rest := [.int z, .int (f ((8 * p9) + 6))]) ⟨hx, hb, hml, hown, hg⟩ (c_X3_turned l D cI cL cQ h n1 f q9 6 (by decide) (by omega)) (cwV 3 hg (gw_V ml_X3_39 im_X3_turned se_X3_turned ini_X3 co_X3_turned) rfl rfl rfl (by decide +kernel) ⟨Nat.le_of_ble_eq_true rfl, Nat.le_of_ble_eq_true rfl⟩) ⟨pu_B.blind, va_recv hK hP (ci := 3) (q0 := 0) rfl rfl, (fun U hU hW => ⟨rfl, pu_B.at hK (hP.sub [1] rfl) hU hW⟩)⟩ rfl rfl hl.1 rfl (lv_room (Nat.le_of_ble_eq_true rfl)) dX3_isTurned_31 ⟨Nat.le_of_ble_eq_true rfl, Nat.le_of_ble_eq_true rfl⟩) (fun r_20 hr_20 => ?_)
              subst hr_20
              refine lv_imul hx hb dX3_isTurned_34 ?_
              refine lv_icmp_eq (tgt := 40) hx hb dX3_isTurned_35 (by decide) (fun c_21 => ?_) (fun c_21 => ?_)
              · refine lv_iinc (v := 7) (lv' := [(4, .int 7), (0, .ref h), (1, .int (nI p9)), (2, .int (nI q9)), (3, .int z)]) hx hb dX3_isTurned_40 hl (k := 0) rfl (by decide) (by decide) rfl (fun ls hl => ?_)
                refine lv_goto (tgt := 3) hx hb dX3_isTurned_43 (by decide) ?_
                refine lv_iload hx hb dX3_isTurned_3 (lv_at hl 0 rfl) ?_
                refine lv_bipush (v := 7) hx hb dX3_isTurned_5 (by decide) ?_
                refine lv_icmp_ge (tgt := 46) hx hb dX3_isTurned_7 (by decide) (fun _ => ?_) (fun c_22 => absurd c_22 (by decide))
                refine lv_aload_n hx hb dX3_isTurned_46 rfl (lv_at hl 1 rfl) ?_
                refine lv_iload_n hx hb dX3_isTurned_47 rfl (lv_at hl 2 rfl) ?_
                refine vp_callSi (W.runV (As := [.int (nI p9)]) (rest := []) ⟨hx, hb, hml, hown, hg⟩ (c_X3_hasPole l D cI cL cQ h n1 fs hf3 f p9 (by omega)) (cwV 1 hg (gw_V ml_X3_58 im_X3_hasPole se_X3_hasPole ini_X3 co_X3_hasPole) rfl rfl rfl (by decide +kernel) ⟨Nat.le_of_ble_eq_true rfl, Nat.le_of_ble_eq_true rfl⟩) ⟨pu_B.blind, va_recv hK hP (ci := 3) (q0 := 0) rfl rfl, (fun U hU hW => ⟨rfl, pu_B.at hK (hP.sub [0, 1] rfl) hU hW⟩)⟩ rfl rfl hl.1 rfl (lv_room (Nat.le_of_ble_eq_true rfl)) dX3_isTurned_48 ⟨Nat.le_of_ble_eq_true rfl, Nat.le_of_ble_eq_true rfl⟩) (fun r_23 hr_23 => ?_)
                subst hr_23
                refine lv_if_eq (tgt := 80) hx hb dX3_isTurned_51 (by decide) (fun c_24 => ?_) (fun c_24 => ?_)
                · replace c_24 := zi_0 c_24
                  refine lv_iconst (v := 1) hx hb dX3_isTurned_80 (by decide) ?_
                  refine lv_goto (tgt := 85) hx hb dX3_isTurned_81 (by decide) ?_
                  exact W.zret (v := 1) hx hb hr rfl (fun t ht hW => ⟨1, rfl, by (try simp only [Nat.add_zero] at c_3); (try rw [show gl_sign 7 = -1 from rfl, gs_n] at c_24); simp [zi, p_mir, Int32.mul_assoc, c_3, c_6, c_9, c_12, c_15, c_18, c_21, c_24], ht⟩) (fun _ h => nomatch h) dX3_isTurned_85
                · replace c_24 := zi_n0 c_24
                  refine lv_aload_n hx hb dX3_isTurned_54 rfl (lv_at hl 1 rfl) ?_
                  refine va_get (D := D) (ci := 3) (v := .ref n1) (C := RX3) (T := TX3) (N := 13) hx hb hg inX3 hown hK hP 0 rfl rfl 3 (by decide) (hg _ fl_X3_13) (fun _ h9 => h9) hf3 dX3_isTurned_55 ?_
                  refine lv_bipush (v := 8) hx hb dX3_isTurned_58 (by decide) ?_
                  refine lv_iload_n hx hb dX3_isTurned_60 rfl (lv_at hl 2 rfl) ?_
                  refine lv_imul hx hb dX3_isTurned_61 ?_
                  rw [show (8 : Int32) * nI p9 = nI (8 * p9) from pk_mul 8 p9]
                  refine lv_bipush (v := 7) hx hb dX3_isTurned_62 (by decide) ?_
                  refine lv_iadd hx hb dX3_isTurned_64 ?_
                  rw [show (nI (8 * p9)) + (7 : Int32) = nI ((8 * p9) + 7) from nI_add (8 * p9) 7]
                  refine va_iald (D := D) (n := 32) (f := f) hx hb hK hP 1 0 rfl rfl (vp_in_nI (show ((8 * p9) + 7) < 32 by omega) (by decide)) dX3_isTurned_65 ?_
                  rw [nI_clamp (show ((8 * p9) + 7) < 2 ^ 31 by omega)]
                  refine lv_aload_n hx hb dX3_isTurned_66 rfl (lv_at hl 1 rfl) ?_
                  refine lv_aload_n hx hb dX3_isTurned_67 rfl (lv_at hl 1 rfl) ?_
                  refine va_get (D := D) (ci := 3) (v := .ref n1) (C := RX3) (T := TX3) (N := 13) hx hb hg inX3 hown hK hP 0 rfl rfl 3 (by decide) (hg _ fl_X3_13) (fun _ h9 => h9) hf3 dX3_isTurned_68 ?_
                  refine lv_iload_n hx hb dX3_isTurned_71 rfl (lv_at hl 3 rfl) ?_
                  refine lv_bipush (v := 7) hx hb dX3_isTurned_72 (by decide) ?_
                  refine vp_callSi (W.runV (As := [.ref n1, .int (nI q9), .int 7]) (rest := [.int (f ((8 * p9) + 7))]) ⟨hx, hb, hml, hown, hg⟩ (c_X3_turned l D cI cL cQ h n1 f q9 7 (by decide) (by omega)) (cwV 3 hg (gw_V ml_X3_39 im_X3_turned se_X3_turned ini_X3 co_X3_turned) rfl rfl rfl (by decide +kernel) ⟨Nat.le_of_ble_eq_true rfl, Nat.le_of_ble_eq_true rfl⟩) ⟨pu_B.blind, va_recv hK hP (ci := 3) (q0 := 0) rfl rfl, (fun U hU hW => ⟨rfl, pu_B.at hK (hP.sub [1] rfl) hU hW⟩)⟩ rfl rfl hl.1 rfl (lv_room (Nat.le_of_ble_eq_true rfl)) dX3_isTurned_74 ⟨Nat.le_of_ble_eq_true rfl, Nat.le_of_ble_eq_true rfl⟩) (fun r_25 hr_25 => ?_)
                  subst hr_25
                  refine lv_icmp_ne (tgt := 84) hx hb dX3_isTurned_77 (by decide) (fun c_26 => ?_) (fun c_26 => ?_)
                  · refine lv_iconst (v := 0) hx hb dX3_isTurned_84 (by decide) ?_
                    exact W.zret (v := 0) hx hb hr rfl (fun t ht hW => ⟨0, rfl, by (try simp only [Nat.add_zero] at c_3); (try rw [show gl_sign 7 = -1 from rfl, gs_n] at c_26); simp [zi, p_mir, Int32.mul_assoc, c_3, c_6, c_9, c_12, c_15, c_18, c_21, c_24, c_26], ht⟩) (fun _ h => nomatch h) dX3_isTurned_85
                  · refine lv_iconst (v := 1) hx hb dX3_isTurned_80 (by decide) ?_
                    refine lv_goto (tgt := 85) hx hb dX3_isTurned_81 (by decide) ?_
                    exact W.zret (v := 1) hx hb hr rfl (fun t ht hW => ⟨1, rfl, by (try simp only [Nat.add_zero] at c_3); (try rw [show gl_sign 7 = -1 from rfl, gs_n] at c_26); simp [zi, p_mir, Int32.mul_assoc, c_3, c_6, c_9, c_12, c_15, c_18, c_21, c_24, c_26], ht⟩) (fun _ h => nomatch h) dX3_isTurned_85
              · refine lv_iconst (v := 0) hx hb dX3_isTurned_38 (by decide) ?_
                exact W.zret (v := 0) hx hb hr rfl (fun t ht hW => ⟨0, rfl, by (try simp only [Nat.add_zero] at c_3); (try rw [show gl_sign 7 = -1 from rfl, gs_n] at c_21); simp [zi, p_mir, Int32.mul_assoc, c_3, c_6, c_9, c_12, c_15, c_18, c_21], ht⟩) (fun _ h => nomatch h) dX3_isTurned_39
            · refine lv_iconst (v := 0) hx hb dX3_isTurned_38 (by decide) ?_
              exact W.zret (v := 0) hx hb hr rfl (fun t ht hW => ⟨0, rfl, by (try simp only [Nat.add_zero] at c_3); (try rw [show gl_sign 7 = -1 from rfl, gs_n] at c_18); simp [zi, p_mir, Int32.mul_assoc, c_3, c_6, c_9, c_12, c_15, c_18], ht⟩) (fun _ h => nomatch h) dX3_isTurned_39
          · refine lv_iconst (v := 0) hx hb dX3_isTurned_38 (by decide) ?_
            exact W.zret (v := 0) hx hb hr rfl (fun t ht hW => ⟨0, rfl, by (try simp only [Nat.add_zero] at c_3); (try rw [show gl_sign 7 = -1 from rfl, gs_n] at c_15); simp [zi, p_mir, Int32.mul_assoc, c_3, c_6, c_9, c_12, c_15], ht⟩) (fun _ h => nomatch h) dX3_isTurned_39
        · refine lv_iconst (v := 0) hx hb dX3_isTurned_38 (by decide) ?_
          exact W.zret (v := 0) hx hb hr rfl (fun t ht hW => ⟨0, rfl, by (try simp only [Nat.add_zero] at c_3); (try rw [show gl_sign 7 = -1 from rfl, gs_n] at c_12); simp [zi, p_mir, Int32.mul_assoc, c_3, c_6, c_9, c_12], ht⟩) (fun _ h => nomatch h) dX3_isTurned_39
      · refine lv_iconst (v := 0) hx hb dX3_isTurned_38 (by decide) ?_
        exact W.zret (v := 0) hx hb hr rfl (fun t ht hW => ⟨0, rfl, by (try simp only [Nat.add_zero] at c_3); (try rw [show gl_sign 7 = -1 from rfl, gs_n] at c_9); simp [zi, p_mir, Int32.mul_assoc, c_3, c_6, c_9], ht⟩) (fun _ h => nomatch h) dX3_isTurned_39
    · refine lv_iconst (v := 0) hx hb dX3_isTurned_38 (by decide) ?_
      exact W.zret (v := 0) hx hb hr rfl (fun t ht hW => ⟨0, rfl, by (try simp only [Nat.add_zero] at c_3); (try rw [show gl_sign 7 = -1 from rfl, gs_n] at c_6); simp [zi, p_mir, Int32.mul_assoc, c_3, c_6], ht⟩) (fun _ h => nomatch h) dX3_isTurned_39
  · refine lv_iconst (v := 0) hx hb dX3_isTurned_38 (by decide) ?_
    exact W.zret (v := 0) hx hb hr rfl (fun t ht hW => ⟨0, rfl, by (try simp only [Nat.add_zero] at c_3); (try rw [show gl_sign 7 = -1 from rfl, gs_n] at c_3); simp [zi, p_mir, Int32.mul_assoc, c_3], ht⟩) (fun _ h => nomatch h) dX3_isTurned_39
set_option maxHeartbeats 4000000 in
set_option maxRecDepth 100000 in
theorem c_X3_isThere (l : Launch) (D : va_G) (cI cL cQ : ClassId) (h n1 : Nat) (fs : List Value) (hf3 : fs[3]? = some (.ref n1)) (f : Nat → Int32) (p9 : Nat) (hp : p9 < 4) (a b : Int32) : Met l yX3_isThere wsX3_isThere { frames := 1, cells := 0, slots := 0, locals := 21 } (va_Pc [.ref h, .int (nI p9), .int a, .int b] (pu_B D (ty3 cI cL cQ) [(h, .inr (3, fs)), (n1, .inl (cI, 32, .inl f))])) (vp_Si (fun r => r = zi (m_there (fun j => f (8 * p9 + j)) a b))) 0 0 (fun _ => False) := by
  refine Met.ofW (cc := cX3_isThere) (maxL := 6) (ret := (some .boolean)) (by decide) rfl ?_
  intro p e s m args below meth c s₁ B hml hv
  obtain ⟨rfl, hK, hP⟩ := hv
  have hx := B.exec
  have hb := B.bytes
  have hr := B.returns
  have hts := atoms_spec (ws := wsX3_isThere) B.pre
  have hg : ∀ w ∈ gw, w.before ([.ref h, .int (nI p9), .int a, .int b] : List Value).toArray s = true := fun w h => hts w (List.mem_cons_of_mem _ h)
  have hown : s.vm.findClass RX3 = some m.cls := findClass_of_methodNamed B.named
  have hlocks := B.notSynchronized
  have hl := lv_entry ([.ref h, .int (nI p9), .int a, .int b]) (n := 6) (Nat.le_of_ble_eq_true rfl)
  rw [lg_entry_eq]
  generalize (lg_sl ([.ref h, .int (nI p9), .int a, .int b]) ++ List.replicate (6 - (lg_sl ([.ref h, .int (nI p9), .int a, .int b])).length) Slot.unset).toArray = ls at hl ⊢
  have hl : lv_has ls 6 [(0, .ref h), (1, .int (nI p9)), (2, .int a), (3, .int b)] := hl
  refine lv_bipush (v := 8) hx hb dX3_isThere_0 (by decide) ?_
  refine lv_iload_n hx hb dX3_isThere_2 rfl (lv_at hl 1 rfl) ?_
  refine lv_imul hx hb dX3_isThere_3 ?_
  rw [show (8 : Int32) * nI p9 = nI (8 * p9) from pk_mul 8 p9]
  refine lv_istore (lv' := [(4, .int (nI (8 * p9))), (0, .ref h), (1, .int (nI p9)), (2, .int a), (3, .int b)]) hx hb dX3_isThere_4 hl (by decide) rfl (fun ls hl => ?_)
  have K56 : ((p_pole (fun j => f (8 * p9 + j)) && (decide (a = -9) || !decide (f (8 * p9 + 7) < a)) && (decide (b = 9) || !decide (b < f (8 * p9 + 7)))) = false) → W p l e (headSpec wsX3_isThere { frames := 1, cells := 0, slots := 0, locals := 21 }).room s m ([.ref h, .int (nI p9), .int a, .int b] : List Value).toArray below meth c s.heap [] 0 0 (MQ below (vp_Si (fun r => r = zi (m_there (fun j => f (8 * p9 + j)) a b))) ([.ref h, .int (nI p9), .int a, .int b] : List Value).toArray s 0 0 (fun _ => False)) (F0 m 56 ls []) := by
    intro hno
    have K73 : W p l e (headSpec wsX3_isThere { frames := 1, cells := 0, slots := 0, locals := 21 }).room s m ([.ref h, .int (nI p9), .int a, .int b] : List Value).toArray below meth c s.heap [] 0 0 (MQ below (vp_Si (fun r => r = zi (m_there (fun j => f (8 * p9 + j)) a b))) ([.ref h, .int (nI p9), .int a, .int b] : List Value).toArray s 0 0 (fun _ => False)) (F0 m 73 ls [.int (zi (decide (a = -9) || decide (b = 9)))]) := by
      refine lv_istore (lv' := [(5, .int (zi (decide (a = -9) || decide (b = 9)))), (4, .int (nI (8 * p9))), (0, .ref h), (1, .int (nI p9)), (2, .int a), (3, .int b)]) hx hb dX3_isThere_73 hl (by decide) rfl (fun ls hl => ?_)
      refine lv_iload hx hb dX3_isThere_75 (lv_at hl 0 rfl) ?_
      refine lv_if_eq (tgt := 138) hx hb dX3_isThere_77 (by decide) (fun c_1 => ?_) (fun c_1 => ?_)
      · replace c_1 := zi_0 c_1
        refine lv_iconst (v := 1) hx hb dX3_isThere_138 (by decide) ?_
        refine lv_goto (tgt := 143) hx hb dX3_isThere_139 (by decide) ?_
        exact W.zret (v := 1) hx hb hr rfl (fun t ht hW => ⟨1, rfl, by simp [zi, m_there, p_tail, c_1, hno], ht⟩) (fun _ h => nomatch h) dX3_isThere_143
      · replace c_1 := zi_n0 c_1
        refine lv_aload_n hx hb dX3_isThere_80 rfl (lv_at hl 2 rfl) ?_
        refine va_get (D := D) (ci := 3) (v := .ref n1) (C := RX3) (T := TX3) (N := 13) hx hb hg inX3 hown hK hP 0 rfl rfl 3 (by decide) (hg _ fl_X3_13) (fun _ h9 => h9) hf3 dX3_isThere_81 ?_
        refine lv_iload hx hb dX3_isThere_84 (lv_at hl 1 rfl) ?_
        refine va_iald (D := D) (n := 32) (f := f) hx hb hK hP 1 0 rfl rfl (vp_in_nI (show (8 * p9) < 32 by omega) (by decide)) dX3_isThere_86 ?_
        rw [nI_clamp (show (8 * p9) < 2 ^ 31 by omega)]
        refine lv_if_ne (tgt := 142) hx hb dX3_isThere_87 (by decide) (fun c_2 => ?_) (fun c_2 => ?_)
        · refine lv_iconst (v := 0) hx hb dX3_isThere_142 (by decide) ?_
          exact W.zret (v := 0) hx hb hr rfl (fun t ht hW => ⟨0, rfl, by simp [zi, m_there, p_tail, c_1, c_2, hno], ht⟩) (fun _ h => nomatch h) dX3_isThere_143
        · refine lv_aload_n hx hb dX3_isThere_90 rfl (lv_at hl 2 rfl) ?_
          refine va_get (D := D) (ci := 3) (v := .ref n1) (C := RX3) (T := TX3) (N := 13) hx hb hg inX3 hown hK hP 0 rfl rfl 3 (by decide) (hg _ fl_X3_13) (fun _ h9 => h9) hf3 dX3_isThere_91 ?_
          refine lv_iload hx hb dX3_isThere_94 (lv_at hl 1 rfl) ?_
          refine lv_iconst (v := 1) hx hb dX3_isThere_96 (by decide) ?_
          refine lv_iadd hx hb dX3_isThere_97 ?_
          rw [show (nI (8 * p9)) + (1 : Int32) = nI ((8 * p9) + 1) from nI_add (8 * p9) 1]
          refine va_iald (D := D) (n := 32) (f := f) hx hb hK hP 1 0 rfl rfl (vp_in_nI (show ((8 * p9) + 1) < 32 by omega) (by decide)) dX3_isThere_98 ?_
          rw [nI_clamp (show ((8 * p9) + 1) < 2 ^ 31 by omega)]
          refine lv_if_ne (tgt := 142) hx hb dX3_isThere_99 (by decide) (fun c_3 => ?_) (fun c_3 => ?_)
          · refine lv_iconst (v := 0) hx hb dX3_isThere_142 (by decide) ?_
            exact W.zret (v := 0) hx hb hr rfl (fun t ht hW => ⟨0, rfl, by simp [zi, m_there, p_tail, c_1, c_2, c_3, hno], ht⟩) (fun _ h => nomatch h) dX3_isThere_143
          · refine lv_aload_n hx hb dX3_isThere_102 rfl (lv_at hl 2 rfl) ?_
            refine va_get (D := D) (ci := 3) (v := .ref n1) (C := RX3) (T := TX3) (N := 13) hx hb hg inX3 hown hK hP 0 rfl rfl 3 (by decide) (hg _ fl_X3_13) (fun _ h9 => h9) hf3 dX3_isThere_103 ?_
            refine lv_iload hx hb dX3_isThere_106 (lv_at hl 1 rfl) ?_
            refine lv_iconst (v := 2) hx hb dX3_isThere_108 (by decide) ?_
            refine lv_iadd hx hb dX3_isThere_109 ?_
            rw [show (nI (8 * p9)) + (2 : Int32) = nI ((8 * p9) + 2) from nI_add (8 * p9) 2]
            refine va_iald (D := D) (n := 32) (f := f) hx hb hK hP 1 0 rfl rfl (vp_in_nI (show ((8 * p9) + 2) < 32 by omega) (by decide)) dX3_isThere_110 ?_
            rw [nI_clamp (show ((8 * p9) + 2) < 2 ^ 31 by omega)]
            refine lv_if_ne (tgt := 142) hx hb dX3_isThere_111 (by decide) (fun c_4 => ?_) (fun c_4 => ?_)
            · refine lv_iconst (v := 0) hx hb dX3_isThere_142 (by decide) ?_
              exact W.zret (v := 0) hx hb hr rfl (fun t ht hW => ⟨0, rfl, by simp [zi, m_there, p_tail, c_1, c_2, c_3, c_4, hno], ht⟩) (fun _ h => nomatch h) dX3_isThere_143
            · refine lv_aload_n hx hb dX3_isThere_114 rfl (lv_at hl 2 rfl) ?_
              refine va_get (D := D) (ci := 3) (v := .ref n1) (C := RX3) (T := TX3) (N := 13) hx hb hg inX3 hown hK hP 0 rfl rfl 3 (by decide) (hg _ fl_X3_13) (fun _ h9 => h9) hf3 dX3_isThere_115 ?_
              refine lv_iload hx hb dX3_isThere_118 (lv_at hl 1 rfl) ?_
              refine lv_iconst (v := 3) hx hb dX3_isThere_120 (by decide) ?_
              refine lv_iadd hx hb dX3_isThere_121 ?_
              rw [show (nI (8 * p9)) + (3 : Int32) = nI ((8 * p9) + 3) from nI_add (8 * p9) 3]
              refine va_iald (D := D) (n := 32) (f := f) hx hb hK hP 1 0 rfl rfl (vp_in_nI (show ((8 * p9) + 3) < 32 by omega) (by decide)) dX3_isThere_122 ?_
              rw [nI_clamp (show ((8 * p9) + 3) < 2 ^ 31 by omega)]
              refine lv_if_ne (tgt := 142) hx hb dX3_isThere_123 (by decide) (fun c_5 => ?_) (fun c_5 => ?_)
              · refine lv_iconst (v := 0) hx hb dX3_isThere_142 (by decide) ?_
                exact W.zret (v := 0) hx hb hr rfl (fun t ht hW => ⟨0, rfl, by simp [zi, m_there, p_tail, c_1, c_2, c_3, c_4, c_5, hno], ht⟩) (fun _ h => nomatch h) dX3_isThere_143
              · refine lv_aload_n hx hb dX3_isThere_126 rfl (lv_at hl 2 rfl) ?_
                refine va_get (D := D) (ci := 3) (v := .ref n1) (C := RX3) (T := TX3) (N := 13) hx hb hg inX3 hown hK hP 0 rfl rfl 3 (by decide) (hg _ fl_X3_13) (fun _ h9 => h9) hf3 dX3_isThere_127 ?_
                refine lv_iload hx hb dX3_isThere_130 (lv_at hl 1 rfl) ?_
                refine lv_iconst (v := 4) hx hb dX3_isThere_132 (by decide) ?_
                refine lv_iadd hx hb dX3_isThere_133 ?_
                rw [show (nI (8 * p9)) + (4 : Int32) = nI ((8 * p9) + 4) from nI_add (8 * p9) 4]
                refine va_iald (D := D) (n := 32) (f := f) hx hb hK hP 1 0 rfl rfl (vp_in_nI (show ((8 * p9) + 4) < 32 by omega) (by decide)) dX3_isThere_134 ?_
                rw [nI_clamp (show ((8 * p9) + 4) < 2 ^ 31 by omega)]
                refine lv_if_ne (tgt := 142) hx hb dX3_isThere_135 (by decide) (fun c_6 => ?_) (fun c_6 => ?_)
                · refine lv_iconst (v := 0) hx hb dX3_isThere_142 (by decide) ?_
                  exact W.zret (v := 0) hx hb hr rfl (fun t ht hW => ⟨0, rfl, by simp [zi, m_there, p_tail, c_1, c_2, c_3, c_4, c_5, c_6, hno], ht⟩) (fun _ h => nomatch h) dX3_isThere_143
                · refine lv_iconst (v := 1) hx hb dX3_isThere_138 (by decide) ?_
                  refine lv_goto (tgt := 143) hx hb dX3_isThere_139 (by decide) ?_
                  exact W.zret (v := 1) hx hb hr rfl (fun t ht hW => ⟨1, rfl, by simp [zi, m_there, p_tail, c_1, c_2, c_3, c_4, c_5, c_6, hno], ht⟩) (fun _ h => nomatch h) dX3_isThere_143
    refine lv_iload_n hx hb dX3_isThere_56 rfl (lv_at hl 3 rfl) ?_
    refine lv_bipush (v := (-9)) hx hb dX3_isThere_57 (by decide) ?_
    refine lv_icmp_eq (tgt := 68) hx hb dX3_isThere_59 (by decide) (fun c_7 => ?_) (fun c_7 => ?_)
    · refine lv_iconst (v := 1) hx hb dX3_isThere_68 (by decide) ?_
      refine lv_goto (tgt := 73) hx hb dX3_isThere_69 (by decide) ?_
      have e9 : zi (decide (a = -9) || decide (b = 9)) = 1 := by simp [zi, c_7]
      rw [e9] at K73
      exact K73
    · refine lv_iload_n hx hb dX3_isThere_62 rfl (lv_at hl 4 rfl) ?_
      refine lv_bipush (v := 9) hx hb dX3_isThere_63 (by decide) ?_
      refine lv_icmp_ne (tgt := 72) hx hb dX3_isThere_65 (by decide) (fun c_8 => ?_) (fun c_8 => ?_)
      · refine lv_iconst (v := 0) hx hb dX3_isThere_72 (by decide) ?_
        have e9 : zi (decide (a = -9) || decide (b = 9)) = 0 := by simp [zi, c_7, c_8]
        rw [e9] at K73
        exact K73
      · refine lv_iconst (v := 1) hx hb dX3_isThere_68 (by decide) ?_
        refine lv_goto (tgt := 73) hx hb dX3_isThere_69 (by decide) ?_
        have e9 : zi (decide (a = -9) || decide (b = 9)) = 1 := by simp [zi, c_7, c_8]
        rw [e9] at K73
        exact K73
  refine lv_aload_n hx hb dX3_isThere_6 rfl (lv_at hl 1 rfl) ?_
  refine lv_iload_n hx hb dX3_isThere_7 rfl (lv_at hl 2 rfl) ?_
  refine vp_callSi (W.runV (As := [.int (nI p9)]) (rest := []) ⟨hx, hb, hml, hown, hg⟩ (c_X3_hasPole l D cI cL cQ h n1 fs hf3 f p9 (by omega)) (cwV 1 hg (gw_V ml_X3_58 im_X3_hasPole se_X3_hasPole ini_X3 co_X3_hasPole) rfl rfl rfl (by decide +kernel) ⟨Nat.le_of_ble_eq_true rfl, Nat.le_of_ble_eq_true rfl⟩) ⟨pu_B.blind, va_recv hK hP (ci := 3) (q0 := 0) rfl rfl, (fun U hU hW => ⟨rfl, pu_B.at hK (hP.sub [0, 1] rfl) hU hW⟩)⟩ rfl rfl hl.1 rfl (lv_room (Nat.le_of_ble_eq_true rfl)) dX3_isThere_8 ⟨Nat.le_of_ble_eq_true rfl, Nat.le_of_ble_eq_true rfl⟩) (fun r_9 hr_9 => ?_)
  subst hr_9
  refine lv_if_eq (tgt := 56) hx hb dX3_isThere_11 (by decide) (fun c_10 => ?_) (fun c_10 => ?_)
  · replace c_10 := zi_0 c_10
    exact K56 (by simp [zi, c_10])
  · replace c_10 := zi_n0 c_10
    refine lv_iload_n hx hb dX3_isThere_14 rfl (lv_at hl 3 rfl) ?_
    refine lv_bipush (v := (-9)) hx hb dX3_isThere_15 (by decide) ?_
    refine lv_icmp_eq (tgt := 34) hx hb dX3_isThere_17 (by decide) (fun c_11 => ?_) (fun c_11 => ?_)
    · refine lv_iload_n hx hb dX3_isThere_34 rfl (lv_at hl 4 rfl) ?_
      refine lv_bipush (v := 9) hx hb dX3_isThere_35 (by decide) ?_
      refine lv_icmp_eq (tgt := 54) hx hb dX3_isThere_37 (by decide) (fun c_12 => ?_) (fun c_12 => ?_)
      · refine lv_iconst (v := 0) hx hb dX3_isThere_54 (by decide) ?_
        exact W.zret (v := 0) hx hb hr rfl (fun t ht hW => ⟨0, rfl, by simp [zi, m_there, p_tail, c_10, c_11, c_12], ht⟩) (fun _ h => nomatch h) dX3_isThere_55
      · refine lv_aload_n hx hb dX3_isThere_40 rfl (lv_at hl 1 rfl) ?_
        refine va_get (D := D) (ci := 3) (v := .ref n1) (C := RX3) (T := TX3) (N := 13) hx hb hg inX3 hown hK hP 0 rfl rfl 3 (by decide) (hg _ fl_X3_13) (fun _ h9 => h9) hf3 dX3_isThere_41 ?_
        refine lv_iload hx hb dX3_isThere_44 (lv_at hl 0 rfl) ?_
        refine lv_bipush (v := 7) hx hb dX3_isThere_46 (by decide) ?_
        refine lv_iadd hx hb dX3_isThere_48 ?_
        rw [show (nI (8 * p9)) + (7 : Int32) = nI ((8 * p9) + 7) from nI_add (8 * p9) 7]
        refine va_iald (D := D) (n := 32) (f := f) hx hb hK hP 1 0 rfl rfl (vp_in_nI (show ((8 * p9) + 7) < 32 by omega) (by decide)) dX3_isThere_49 ?_
        rw [nI_clamp (show ((8 * p9) + 7) < 2 ^ 31 by omega)]
        refine lv_iload_n hx hb dX3_isThere_50 rfl (lv_at hl 4 rfl) ?_
        refine lv_icmp_gt (tgt := 56) hx hb dX3_isThere_51 (by decide) (fun c_13 => ?_) (fun c_13 => ?_)
        · exact K56 (by simp [zi, c_10, c_11, c_12, c_13])
        · refine lv_iconst (v := 0) hx hb dX3_isThere_54 (by decide) ?_
          exact W.zret (v := 0) hx hb hr rfl (fun t ht hW => ⟨0, rfl, by simp [zi, m_there, p_tail, c_10, c_11, c_12, c_13], ht⟩) (fun _ h => nomatch h) dX3_isThere_55
    · refine lv_aload_n hx hb dX3_isThere_20 rfl (lv_at hl 1 rfl) ?_
      refine va_get (D := D) (ci := 3) (v := .ref n1) (C := RX3) (T := TX3) (N := 13) hx hb hg inX3 hown hK hP 0 rfl rfl 3 (by decide) (hg _ fl_X3_13) (fun _ h9 => h9) hf3 dX3_isThere_21 ?_
      refine lv_iload hx hb dX3_isThere_24 (lv_at hl 0 rfl) ?_
      refine lv_bipush (v := 7) hx hb dX3_isThere_26 (by decide) ?_
      refine lv_iadd hx hb dX3_isThere_28 ?_
      rw [show (nI (8 * p9)) + (7 : Int32) = nI ((8 * p9) + 7) from nI_add (8 * p9) 7]
      refine va_iald (D := D) (n := 32) (f := f) hx hb hK hP 1 0 rfl rfl (vp_in_nI (show ((8 * p9) + 7) < 32 by omega) (by decide)) dX3_isThere_29 ?_
      rw [nI_clamp (show ((8 * p9) + 7) < 2 ^ 31 by omega)]
      refine lv_iload_n hx hb dX3_isThere_30 rfl (lv_at hl 3 rfl) ?_
      refine lv_icmp_lt (tgt := 56) hx hb dX3_isThere_31 (by decide) (fun c_14 => ?_) (fun c_14 => ?_)
      · exact K56 (by simp [zi, c_10, c_11, c_14])
      · refine lv_iload_n hx hb dX3_isThere_34 rfl (lv_at hl 4 rfl) ?_
        refine lv_bipush (v := 9) hx hb dX3_isThere_35 (by decide) ?_
        refine lv_icmp_eq (tgt := 54) hx hb dX3_isThere_37 (by decide) (fun c_15 => ?_) (fun c_15 => ?_)
        · refine lv_iconst (v := 0) hx hb dX3_isThere_54 (by decide) ?_
          exact W.zret (v := 0) hx hb hr rfl (fun t ht hW => ⟨0, rfl, by simp [zi, m_there, p_tail, c_10, c_11, c_14, c_15], ht⟩) (fun _ h => nomatch h) dX3_isThere_55
        · refine lv_aload_n hx hb dX3_isThere_40 rfl (lv_at hl 1 rfl) ?_
          refine va_get (D := D) (ci := 3) (v := .ref n1) (C := RX3) (T := TX3) (N := 13) hx hb hg inX3 hown hK hP 0 rfl rfl 3 (by decide) (hg _ fl_X3_13) (fun _ h9 => h9) hf3 dX3_isThere_41 ?_
          refine lv_iload hx hb dX3_isThere_44 (lv_at hl 0 rfl) ?_
          refine lv_bipush (v := 7) hx hb dX3_isThere_46 (by decide) ?_
          refine lv_iadd hx hb dX3_isThere_48 ?_
          rw [show (nI (8 * p9)) + (7 : Int32) = nI ((8 * p9) + 7) from nI_add (8 * p9) 7]
          refine va_iald (D := D) (n := 32) (f := f) hx hb hK hP 1 0 rfl rfl (vp_in_nI (show ((8 * p9) + 7) < 32 by omega) (by decide)) dX3_isThere_49 ?_
          rw [nI_clamp (show ((8 * p9) + 7) < 2 ^ 31 by omega)]
          refine lv_iload_n hx hb dX3_isThere_50 rfl (lv_at hl 4 rfl) ?_
          refine lv_icmp_gt (tgt := 56) hx hb dX3_isThere_51 (by decide) (fun c_16 => ?_) (fun c_16 => ?_)
          · exact K56 (by simp [zi, c_10, c_11, c_14, c_15, c_16])
          · refine lv_iconst (v := 0) hx hb dX3_isThere_54 (by decide) ?_
            exact W.zret (v := 0) hx hb hr rfl (fun t ht hW => ⟨0, rfl, by simp [zi, m_there, p_tail, c_10, c_11, c_14, c_15, c_16], ht⟩) (fun _ h => nomatch h) dX3_isThere_55
set_option maxHeartbeats 4000000 in
set_option maxRecDepth 100000 in
theorem c_X3_pieceAt (l : Launch) (D : va_G) (cI cL cQ : ClassId) (h q1 : Nat) (fs : List Value) (hf2 : fs[2]? = some (.ref q1)) (cnt : Nat) (hf1 : fs[1]? = some (.int (nI cnt))) (hc : cnt ≤ 3) (pl : Nat → Int32) (x : Int32) : Met l yX3_pieceAt wsX3_pieceAt { frames := 0, cells := 0, slots := 0, locals := 0 } (va_Pc [.ref h, .int x] (pu_B D (ty3 cI cL cQ) [(h, .inr (3, fs)), (q1, .inl (cI, 3, .inl pl))])) (vp_Si (fun r => r = nI (m_cnt pl x cnt 4 0))) 0 0 (fun _ => False) := by
  refine Met.ofW (cc := cX3_pieceAt) (maxL := 3) (ret := (some .int)) (by decide) rfl ?_
  intro p e s m args below meth c s₁ B hml hv
  obtain ⟨rfl, hK, hP⟩ := hv
  have hx := B.exec
  have hb := B.bytes
  have hr := B.returns
  have hts := atoms_spec (ws := wsX3_pieceAt) B.pre
  have hg : ∀ w ∈ gw, w.before ([.ref h, .int x] : List Value).toArray s = true := fun w h => hts w (List.mem_cons_of_mem _ h)
  have hown : s.vm.findClass RX3 = some m.cls := findClass_of_methodNamed B.named
  have hlocks := B.notSynchronized
  have hl := lv_entry ([.ref h, .int x]) (n := 3) (Nat.le_of_ble_eq_true rfl)
  rw [lg_entry_eq]
  generalize (lg_sl ([.ref h, .int x]) ++ List.replicate (3 - (lg_sl ([.ref h, .int x])).length) Slot.unset).toArray = ls at hl ⊢
  have hl : lv_has ls 3 [(0, .ref h), (1, .int x)] := hl
  refine lv_iconst (v := 0) hx hb dX3_pieceAt_0 (by decide) ?_
  refine lv_istore_n (lv' := [(2, .int 0), (0, .ref h), (1, .int x)]) hx hb dX3_pieceAt_1 rfl hl (by decide) rfl (fun ls hl => ?_)
  have L2 : ∀ (n9 : Nat) (i : Nat), (i ≤ cnt) → (m_cnt pl x cnt (4 - i) i = m_cnt pl x cnt 4 0) → (cnt - i < n9) → ∀ (ls : Array Slot), lv_has ls 3 [(2, .int (nI i)), (0, .ref h), (1, .int x)] → W p l e (headSpec wsX3_pieceAt { frames := 0, cells := 0, slots := 0, locals := 0 }).room s m ([.ref h, .int x] : List Value).toArray below meth c s.heap [] 0 0 (MQ below (vp_Si (fun r => r = nI (m_cnt pl x cnt 4 0))) ([.ref h, .int x] : List Value).toArray s 0 0 (fun _ => False)) (F0 m 2 ls []) := by
    intro n2
    induction n2 with
    | zero => intro i hi hk h9; exact absurd h9 (by omega)
    | succ n2 ih2 =>
      intro i hi hk h9 ls hl
      refine lv_iload_n hx hb dX3_pieceAt_2 rfl (lv_at hl 0 rfl) ?_
      refine lv_aload_n hx hb dX3_pieceAt_3 rfl (lv_at hl 1 rfl) ?_
      refine va_get (D := D) (ci := 3) (v := .int (nI cnt)) (C := RX3) (T := TX3) (N := 13) hx hb hg inX3 hown hK hP 0 rfl rfl 1 (by decide) (hg _ fl_X3_32) (fun _ h9 => h9) hf1 dX3_pieceAt_4 ?_
      refine lv_icmp_ge (tgt := 28) hx hb dX3_pieceAt_7 (by decide) (fun c_1 => ?_) (fun c_1 => ?_)
      · replace c_1 : cnt ≤ i := (nI_leI (a := cnt) (b := i) (by omega) (by omega)).mp c_1
        refine lv_iload_n hx hb dX3_pieceAt_28 rfl (lv_at hl 0 rfl) ?_
        exact W.iret (v := nI i) hx hb hr (fun t ht hW => ⟨(nI i), rfl, by rw [← hk]; obtain ⟨j, hj⟩ : ∃ j, 4 - i = j + 1 := ⟨3 - i, by omega⟩; rw [hj, m_cnt, if_neg (fun h9 => absurd h9.1 (by omega))], ht⟩) (fun _ h => nomatch h) dX3_pieceAt_29
      · replace c_1 : ¬ cnt ≤ i := fun h => c_1 ((nI_leI (a := cnt) (b := i) (by omega) (by omega)).mpr h)
        refine lv_iconst (v := 2) hx hb dX3_pieceAt_10 (by decide) ?_
        refine lv_aload_n hx hb dX3_pieceAt_11 rfl (lv_at hl 1 rfl) ?_
        refine va_get (D := D) (ci := 3) (v := .ref q1) (C := RX3) (T := TX3) (N := 13) hx hb hg inX3 hown hK hP 0 rfl rfl 2 (by decide) (hg _ fl_X3_7) (fun _ h9 => h9) hf2 dX3_pieceAt_12 ?_
        refine lv_iload_n hx hb dX3_pieceAt_15 rfl (lv_at hl 0 rfl) ?_
        refine va_iald (D := D) (n := 3) (f := pl) hx hb hK hP 1 0 rfl rfl (vp_in_nI (show i < 3 by omega) (by decide)) dX3_pieceAt_16 ?_
        rw [nI_clamp (show i < 2 ^ 31 by omega)]
        refine lv_imul hx hb dX3_pieceAt_17 ?_
        refine lv_iload_n hx hb dX3_pieceAt_18 rfl (lv_at hl 2 rfl) ?_
        refine lv_icmp_ge (tgt := 28) hx hb dX3_pieceAt_19 (by decide) (fun c_2 => ?_) (fun c_2 => ?_)
        · refine lv_iload_n hx hb dX3_pieceAt_28 rfl (lv_at hl 0 rfl) ?_
          exact W.iret (v := nI i) hx hb hr (fun t ht hW => ⟨(nI i), rfl, by rw [← hk]; obtain ⟨j, hj⟩ : ∃ j, 4 - i = j + 1 := ⟨3 - i, by omega⟩; rw [hj, m_cnt, if_neg (fun h9 => absurd h9.2 (Int32.not_lt.mpr c_2))], ht⟩) (fun _ h => nomatch h) dX3_pieceAt_29
        · refine lv_iinc (v := nI (i + 1)) (lv' := [(2, .int (nI (i + 1))), (0, .ref h), (1, .int x)]) hx hb dX3_pieceAt_22 hl (k := 0) rfl (nI_1 i) (by decide) rfl (fun ls hl => ?_)
          refine lv_goto (tgt := 2) hx hb dX3_pieceAt_25 (by decide) ?_
          exact ih2 (i + 1) (by omega) (by rw [← hk]; obtain ⟨j, hj⟩ : ∃ j, 4 - i = j + 1 := ⟨3 - i, by omega⟩; rw [hj, show 4 - (i + 1) = j by omega, m_cnt, if_pos ⟨by omega, Int32.not_le.mp c_2⟩])  (by omega) ls (lv_sub hl [0, 1, 2] rfl)
  exact L2 ((cnt - 0) + 1) 0 (Nat.zero_le _) (rfl)  (Nat.lt_succ_self _) ls (lv_sub hl [0, 1, 2] rfl)
