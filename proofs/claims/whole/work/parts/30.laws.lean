/-- the law's own array of one long -/
abbrev ow (cL : ClassId) (o : Nat) (f : Nat → Int64) : Nat × va_E := (o, .inl (cL, 1, .inr (.inl f)))
theorem ow_0 {f : Nat → Int64} {x : Int64} : vp_updL f 0 x 0 = x := rfl
set_option maxHeartbeats 4000000 in
set_option maxRecDepth 100000 in
theorem c_L_place (l : Launch) (hlt : l.stackTraces = false) (A : Nat → Prop) (D : va_G) (cI cL cQ : ClassId) (fr : va_W) (a : Nat → Nat) (pl : Nat → Int32) (pq nq : Nat → Nat) (nm : Nat → Nat → Int32) (ab : Int64) (lg : Nat → Int32) (cnt : Nat) (hc : cnt ≤ 3) (kb : Bool) (o : Nat) (f : Nat → Int64) (k : Int32) : Met l yL_place wsL_place { frames := 8, cells := 1, slots := 6, locals := 125 } (va_Pc [.ref (a 0), .int k, .ref o] (wd_B D (ty3 cI cL cQ) A (xw cI cQ a pl pq nq nm ab lg (nI cnt) (zi kb) ++ (ow cL o f :: fr)))) (va_Qi (fun r (u : (Unit) × (Nat → Int64)) => (r = 0 ∧ ∃ v : Int32, (x_kc k cnt = false ∧ ∃ j, j < cnt ∧ k = nI j ∧ v = pl j) ∧ u.2 0 = v.toInt64) ∨ (r = 1 ∧ (x_kc k cnt = true) ∧ u = ((), f))) (fun u t => wd_E D (ty3 cI cL cQ) A (xw cI cQ a pl pq nq nm ab lg (nI cnt) (zi kb) ++ (ow cL o u.2 :: fr)) t) A) 1 6 A := by
  refine va_MetW (cc := cL_place) (maxL := 4) (ret := (some .int)) (by decide) rfl ?_
  intro p e s m args below meth c s₁ B hml hv
  obtain ⟨rfl, hG, hK, hP, hD, hA⟩ := hv
  have hx := B.exec
  have hb := B.bytes
  have hr := B.returns
  have hts := atoms_spec (ws := wsL_place) B.pre
  have hg : ∀ w ∈ gw, w.before ([.ref (a 0), .int k, .ref o] : List Value).toArray s = true := fun w h => hts w (List.mem_cons_of_mem _ h)
  have hown : s.vm.findClass RL = some m.cls := findClass_of_methodNamed B.named
  have hlocks := B.notSynchronized
  have hS : va_S A s.heap s.heap [] := va_S.rf
  have hl := lv_entry ([.ref (a 0), .int k, .ref o]) (n := 4) (Nat.le_of_ble_eq_true rfl)
  rw [lg_entry_eq]
  generalize (lg_sl ([.ref (a 0), .int k, .ref o]) ++ List.replicate (4 - (lg_sl ([.ref (a 0), .int k, .ref o])).length) Slot.unset).toArray = ls at hl ⊢
  have hl : lv_has ls 4 [(0, .ref (a 0)), (1, .int k), (2, .ref o)] := hl
  have htab := vx_table (x := yL_place) B (hts _ List.mem_cons_self)
  refine lv_aload_n hx hb dL_place_0 rfl (lv_at hl 2 rfl) ?_
  refine lv_iconst (v := 0) hx hb dL_place_1 (by decide) ?_
  refine lv_aload_n hx hb dL_place_2 rfl (lv_at hl 0 rfl) ?_
  refine lv_iload_n hx hb dL_place_3 rfl (lv_at hl 1 rfl) ?_
  refine vx_calli (vx_runV (As := [.int k]) (rest := [.int 0, .ref o]) ⟨hx, hb, hml, hown, hg⟩ (c_X2_place l hlt A D cI cL cQ (ow cL o f :: fr) a pl pq nq nm ab lg cnt hc (zi kb) k) (cwV 1 hg (gw_V ml_L_31 im_X2_place se_X2_place ini_X2 co_X2_place) rfl rfl rfl (by decide +kernel) ⟨Nat.le_of_ble_eq_true rfl, Nat.le_of_ble_eq_true rfl⟩) ⟨wd_B.blind, va_recv hK hP (ci := 2) (q0 := 0) rfl rfl, fun U hU hW => ⟨rfl, wd_B.at hG hK hP hD hS hA hU hW⟩⟩ rfl rfl hl.1 rfl (lv_room (Nat.le_of_ble_eq_true rfl)) dL_place_4 ⟨Nat.le_of_ble_eq_true rfl, Nat.le_of_ble_eq_true rfl⟩) hS (fun q _ h => h) (fun q h => h) (fun q _ h => h) (fun E ce q9 u t H1 locs ht hvm hpx hB hz1 hk1 hS hce hcv hcl => ?_) (fun r u t H1 locs ht hvm hpo hB hz1 hk1 hS => ?_)
  · obtain ⟨hE, hB⟩ := hB
    obtain ⟨hK, hP, hD⟩ := hB.back ht hvm
    generalize H1 = H at hP hS hce ⊢
    rcases hE with ⟨rfl, he⟩
    refine vx_catch (name := "java/lang/IndexOutOfBoundsException") hown [] ⟨0, 9, 12, 21⟩ [] htab (fun z h => nomatch h) (by decide) (by decide) (hg _ cl_L_21) (hG.nest ca_IndexOutOfBoundsException_IndexOutOfBoundsException) hce hcv hcl ?_
    refine W.eq (g2 := F0 m 12 ls [.ref q9]) rfl ?_
    have hP : va_P D vwCl (xw cI cQ a pl pq nq nm ab lg (nI cnt) (zi kb) ++ (ow cL o f :: fr)) H := hP
    have hD : va_D A (xw cI cQ a pl pq nq nm ab lg (nI cnt) (zi kb) ++ (ow cL o f :: fr)) := hD
    refine lv_astore_n (lv' := [(3, .ref q9), (0, .ref (a 0)), (1, .int k), (2, .ref o)]) hx hb dL_place_12 rfl hl (by decide) rfl (fun ls hl => ?_)
    refine lv_iconst (v := 1) hx hb dL_place_13 (by decide) ?_
    exact W.iret (v := 1) hx hb hr (fun t ht hW => ⟨⟨1, ((), f), rfl, Or.inr ⟨rfl, he, rfl⟩, wd_E.at hK hP hD ht hW⟩, hS.F ht⟩) hS.2.2 dL_place_14
  · obtain ⟨hK, hP, hD⟩ := hB.back ht hvm
    generalize H1 = H at hP hS ⊢
    have hP : va_P D vwCl (xw cI cQ a pl pq nq nm ab lg (nI cnt) (zi kb) ++ (ow cL o f :: fr)) H := hP
    have hD : va_D A (xw cI cQ a pl pq nq nm ab lg (nI cnt) (zi kb) ++ (ow cL o f :: fr)) := hD
    refine lv_i2l hx hb dL_place_7 rfl ?_
    refine va_last (D := D) (n := 1) (f := f) (x := r.toInt64) hx hb hK hP hD hS 13 1 rfl rfl (vp_in_nI (show 0 < 1 by decide) (by decide)) dL_place_8 (fun H locs hP hD hS => ?_)
    rw [show (0 : Int32).toNatClampNeg = 0 from by decide] at hP hD
    have hP : va_P D vwCl (xw cI cQ a pl pq nq nm ab lg (nI cnt) (zi kb) ++ (ow cL o (vp_updL f 0 r.toInt64) :: fr)) H := hP
    have hD : va_D A (xw cI cQ a pl pq nq nm ab lg (nI cnt) (zi kb) ++ (ow cL o (vp_updL f 0 r.toInt64) :: fr)) := hD
    refine lv_goto (tgt := 15) hx hb dL_place_9 (by decide) ?_
    refine lv_iconst (v := 0) hx hb dL_place_15 (by decide) ?_
    exact W.iret (v := 0) hx hb hr (fun t ht hW => ⟨⟨0, (u, (vp_updL f 0 r.toInt64)), rfl, Or.inl ⟨rfl, r, hpo, rfl⟩, wd_E.at hK hP hD ht hW⟩, hS.F ht⟩) hS.2.2 dL_place_16
set_option maxHeartbeats 4000000 in
set_option maxRecDepth 100000 in
theorem c_L_at (l : Launch) (hlt : l.stackTraces = false) (A : Nat → Prop) (D : va_G) (cI cL cQ : ClassId) (fr : va_W) (a : Nat → Nat) (pl : Nat → Int32) (pq nq : Nat → Nat) (nm : Nat → Nat → Int32) (ab : Int64) (lg : Nat → Int32) (cnt : Nat) (hc : cnt ≤ 3) (kb : Bool) (o : Nat) (f : Nat → Int64) (k n : Int32) : Met l yL_at wsL_at { frames := 8, cells := 1, slots := 6, locals := 125 } (va_Pc [.ref (a 0), .int k, .int n, .ref o] (wd_B D (ty3 cI cL cQ) A (xw cI cQ a pl pq nq nm ab lg (nI cnt) (zi kb) ++ (ow cL o f :: fr)))) (va_Qi (fun r (u : (Unit) × (Nat → Int64)) => (r = 0 ∧ ∃ v : Int32, (x_pc k cnt = false ∧ x_nc n = false ∧ ∃ i j, i ≤ cnt ∧ j < 8 ∧ k = nI i ∧ n = nI j ∧ v = nm i j) ∧ u.2 0 = v.toInt64) ∨ (r = 1 ∧ (x_pc k cnt = true) ∧ u = ((), f)) ∨ (r = 2 ∧ (x_pc k cnt = false ∧ x_nc n = true) ∧ u = ((), f))) (fun u t => wd_E D (ty3 cI cL cQ) A (xw cI cQ a pl pq nq nm ab lg (nI cnt) (zi kb) ++ (ow cL o u.2 :: fr)) t) A) 1 6 A := by
  refine va_MetW (cc := cL_at) (maxL := 5) (ret := (some .int)) (by decide) rfl ?_
  intro p e s m args below meth c s₁ B hml hv
  obtain ⟨rfl, hG, hK, hP, hD, hA⟩ := hv
  have hx := B.exec
  have hb := B.bytes
  have hr := B.returns
  have hts := atoms_spec (ws := wsL_at) B.pre
  have hg : ∀ w ∈ gw, w.before ([.ref (a 0), .int k, .int n, .ref o] : List Value).toArray s = true := fun w h => hts w (List.mem_cons_of_mem _ h)
  have hown : s.vm.findClass RL = some m.cls := findClass_of_methodNamed B.named
  have hlocks := B.notSynchronized
  have hS : va_S A s.heap s.heap [] := va_S.rf
  have hl := lv_entry ([.ref (a 0), .int k, .int n, .ref o]) (n := 5) (Nat.le_of_ble_eq_true rfl)
  rw [lg_entry_eq]
  generalize (lg_sl ([.ref (a 0), .int k, .int n, .ref o]) ++ List.replicate (5 - (lg_sl ([.ref (a 0), .int k, .int n, .ref o])).length) Slot.unset).toArray = ls at hl ⊢
  have hl : lv_has ls 5 [(0, .ref (a 0)), (1, .int k), (2, .int n), (3, .ref o)] := hl
  have htab := vx_table (x := yL_at) B (hts _ List.mem_cons_self)
  refine lv_aload_n hx hb dL_at_0 rfl (lv_at hl 3 rfl) ?_
  refine lv_iconst (v := 0) hx hb dL_at_1 (by decide) ?_
  refine lv_aload_n hx hb dL_at_2 rfl (lv_at hl 0 rfl) ?_
  refine lv_iload_n hx hb dL_at_3 rfl (lv_at hl 1 rfl) ?_
  refine lv_iload_n hx hb dL_at_4 rfl (lv_at hl 2 rfl) ?_
  refine vx_calli (vx_runV (As := [.int k, .int n]) (rest := [.int 0, .ref o]) ⟨hx, hb, hml, hown, hg⟩ (c_X2_at l hlt A D cI cL cQ (ow cL o f :: fr) a pl pq nq nm ab lg cnt hc (zi kb) k n) (cwV 2 hg (gw_V ml_L_27 im_X2_at se_X2_at ini_X2 co_X2_at) rfl rfl rfl (by decide +kernel) ⟨Nat.le_of_ble_eq_true rfl, Nat.le_of_ble_eq_true rfl⟩) ⟨wd_B.blind, va_recv hK hP (ci := 2) (q0 := 0) rfl rfl, fun U hU hW => ⟨rfl, wd_B.at hG hK hP hD hS hA hU hW⟩⟩ rfl rfl hl.1 rfl (lv_room (Nat.le_of_ble_eq_true rfl)) dL_at_5 ⟨Nat.le_of_ble_eq_true rfl, Nat.le_of_ble_eq_true rfl⟩) hS (fun q _ h => h) (fun q h => h) (fun q _ h => h) (fun E ce q9 u t H1 locs ht hvm hpx hB hz1 hk1 hS hce hcv hcl => ?_) (fun r u t H1 locs ht hvm hpo hB hz1 hk1 hS => ?_)
  · obtain ⟨hE, hB⟩ := hB
    obtain ⟨hK, hP, hD⟩ := hB.back ht hvm
    generalize H1 = H at hP hS hce ⊢
    rcases hE with ⟨rfl, he⟩ | ⟨rfl, he⟩
    · refine vx_catch (name := "java/lang/IndexOutOfBoundsException") hown [] ⟨0, 10, 13, 21⟩ [⟨0, 10, 17, 13⟩] htab (fun z h => nomatch h) (by decide) (by decide) (hg _ cl_L_21) (hG.nest ca_IndexOutOfBoundsException_IndexOutOfBoundsException) hce hcv hcl ?_
      refine W.eq (g2 := F0 m 13 ls [.ref q9]) rfl ?_
      have hP : va_P D vwCl (xw cI cQ a pl pq nq nm ab lg (nI cnt) (zi kb) ++ (ow cL o f :: fr)) H := hP
      have hD : va_D A (xw cI cQ a pl pq nq nm ab lg (nI cnt) (zi kb) ++ (ow cL o f :: fr)) := hD
      refine lv_astore (lv' := [(4, .ref q9), (0, .ref (a 0)), (1, .int k), (2, .int n), (3, .ref o)]) hx hb dL_at_13 hl (by decide) rfl (fun ls hl => ?_)
      refine lv_iconst (v := 1) hx hb dL_at_15 (by decide) ?_
      exact W.iret (v := 1) hx hb hr (fun t ht hW => ⟨⟨1, ((), f), rfl, Or.inr (Or.inl ⟨rfl, he, rfl⟩), wd_E.at hK hP hD ht hW⟩, hS.F ht⟩) hS.2.2 dL_at_16
    · refine vx_catch (name := "java/lang/IllegalArgumentException") hown [⟨0, 10, 13, 21⟩] ⟨0, 10, 17, 13⟩ [] htab (fun z h => by rw [List.mem_singleton] at h; subst h; exact Or.inr ⟨by decide, "java/lang/IndexOutOfBoundsException", hg _ cl_L_21, hG.2.2.2.2.2.2 ("java/lang/IllegalArgumentException", "java/lang/IndexOutOfBoundsException") (by decide)⟩) (by decide) (by decide) (hg _ cl_L_13) (hG.nest ca_IllegalArgumentException_IllegalArgumentException) hce hcv hcl ?_
      refine W.eq (g2 := F0 m 17 ls [.ref q9]) rfl ?_
      have hP : va_P D vwCl (xw cI cQ a pl pq nq nm ab lg (nI cnt) (zi kb) ++ (ow cL o f :: fr)) H := hP
      have hD : va_D A (xw cI cQ a pl pq nq nm ab lg (nI cnt) (zi kb) ++ (ow cL o f :: fr)) := hD
      refine lv_astore (lv' := [(4, .ref q9), (0, .ref (a 0)), (1, .int k), (2, .int n), (3, .ref o)]) hx hb dL_at_17 hl (by decide) rfl (fun ls hl => ?_)
      refine lv_iconst (v := 2) hx hb dL_at_19 (by decide) ?_
      exact W.iret (v := 2) hx hb hr (fun t ht hW => ⟨⟨2, ((), f), rfl, Or.inr (Or.inr ⟨rfl, he, rfl⟩), wd_E.at hK hP hD ht hW⟩, hS.F ht⟩) hS.2.2 dL_at_20
  · obtain ⟨hK, hP, hD⟩ := hB.back ht hvm
    generalize H1 = H at hP hS ⊢
    have hP : va_P D vwCl (xw cI cQ a pl pq nq nm ab lg (nI cnt) (zi kb) ++ (ow cL o f :: fr)) H := hP
    have hD : va_D A (xw cI cQ a pl pq nq nm ab lg (nI cnt) (zi kb) ++ (ow cL o f :: fr)) := hD
    refine lv_i2l hx hb dL_at_8 rfl ?_
    refine va_last (D := D) (n := 1) (f := f) (x := r.toInt64) hx hb hK hP hD hS 13 1 rfl rfl (vp_in_nI (show 0 < 1 by decide) (by decide)) dL_at_9 (fun H locs hP hD hS => ?_)
    rw [show (0 : Int32).toNatClampNeg = 0 from by decide] at hP hD
    have hP : va_P D vwCl (xw cI cQ a pl pq nq nm ab lg (nI cnt) (zi kb) ++ (ow cL o (vp_updL f 0 r.toInt64) :: fr)) H := hP
    have hD : va_D A (xw cI cQ a pl pq nq nm ab lg (nI cnt) (zi kb) ++ (ow cL o (vp_updL f 0 r.toInt64) :: fr)) := hD
    refine lv_goto (tgt := 21) hx hb dL_at_10 (by decide) ?_
    refine lv_iconst (v := 0) hx hb dL_at_21 (by decide) ?_
    exact W.iret (v := 0) hx hb hr (fun t ht hW => ⟨⟨0, (u, (vp_updL f 0 r.toInt64)), rfl, Or.inl ⟨rfl, r, hpo, rfl⟩, wd_E.at hK hP hD ht hW⟩, hS.F ht⟩) hS.2.2 dL_at_22
set_option maxHeartbeats 4000000 in
set_option maxRecDepth 100000 in
theorem c_L_put (l : Launch) (hlt : l.stackTraces = false) (A : Nat → Prop) (D : va_G) (cI cL cQ : ClassId) (fr : va_W) (a : Nat → Nat) (pl : Nat → Int32) (pq nq : Nat → Nat) (nm : Nat → Nat → Int32) (ab : Int64) (lg : Nat → Int32) (cnt : Nat) (hc : cnt ≤ 3) (kb : Bool) (o : Nat) (f : Nat → Int64) (k n z : Int32) : Met l yL_put wsL_put { frames := 8, cells := 1, slots := 6, locals := 125 } (va_Pc [.ref (a 0), .int k, .int n, .int z, .ref o] (wd_B D (ty3 cI cL cQ) A (xw cI cQ a pl pq nq nm ab lg (nI cnt) (zi kb) ++ (ow cL o f :: fr)))) (va_Qi (fun r (u : (Nat → Nat → Int32) × (Nat → Int64)) => (r = 0 ∧ ∃ v : Int32, (x_pc k cnt = false ∧ x_nc n = false ∧ x_in z (if n = 7 then 6 else 5) = true ∧ ∃ i j, i ≤ cnt ∧ j < 8 ∧ k = nI i ∧ n = nI j ∧ u.1 = va_up nm i (upd (nm i) j z) ∧ v = zi (!decide (nm i j = z))) ∧ u.2 0 = (if v = 0 then 0 else 1)) ∨ (r = 1 ∧ (x_pc k cnt = true) ∧ u = (nm, f)) ∨ (r = 2 ∧ (x_pc k cnt = false ∧ (x_nc n = true ∨ x_in z (if n = 7 then 6 else 5) = false)) ∧ u = (nm, f))) (fun u t => wd_E D (ty3 cI cL cQ) A (xw cI cQ a pl pq nq u.1 ab lg (nI cnt) (zi kb) ++ (ow cL o u.2 :: fr)) t) A) 1 6 A := by
  refine va_MetW (cc := cL_put) (maxL := 6) (ret := (some .int)) (by decide) rfl ?_
  intro p e s m args below meth c s₁ B hml hv
  obtain ⟨rfl, hG, hK, hP, hD, hA⟩ := hv
  have hx := B.exec
  have hb := B.bytes
  have hr := B.returns
  have hts := atoms_spec (ws := wsL_put) B.pre
  have hg : ∀ w ∈ gw, w.before ([.ref (a 0), .int k, .int n, .int z, .ref o] : List Value).toArray s = true := fun w h => hts w (List.mem_cons_of_mem _ h)
  have hown : s.vm.findClass RL = some m.cls := findClass_of_methodNamed B.named
  have hlocks := B.notSynchronized
  have hS : va_S A s.heap s.heap [] := va_S.rf
  have hl := lv_entry ([.ref (a 0), .int k, .int n, .int z, .ref o]) (n := 6) (Nat.le_of_ble_eq_true rfl)
  rw [lg_entry_eq]
  generalize (lg_sl ([.ref (a 0), .int k, .int n, .int z, .ref o]) ++ List.replicate (6 - (lg_sl ([.ref (a 0), .int k, .int n, .int z, .ref o])).length) Slot.unset).toArray = ls at hl ⊢
  have hl : lv_has ls 6 [(0, .ref (a 0)), (1, .int k), (2, .int n), (3, .int z), (4, .ref o)] := hl
  have htab := vx_table (x := yL_put) B (hts _ List.mem_cons_self)
  refine lv_aload hx hb dL_put_0 (lv_at hl 4 rfl) ?_
  refine lv_iconst (v := 0) hx hb dL_put_2 (by decide) ?_
  refine lv_aload_n hx hb dL_put_3 rfl (lv_at hl 0 rfl) ?_
  refine lv_iload_n hx hb dL_put_4 rfl (lv_at hl 1 rfl) ?_
  refine lv_iload_n hx hb dL_put_5 rfl (lv_at hl 2 rfl) ?_
  refine lv_iload_n hx hb dL_put_6 rfl (lv_at hl 3 rfl) ?_
  refine vx_calli (vx_runV (As := [.int k, .int n, .int z]) (rest := [.int 0, .ref o]) ⟨hx, hb, hml, hown, hg⟩ (c_X2_put l hlt A D cI cL cQ (ow cL o f :: fr) a pl pq nq nm ab lg cnt hc (zi kb) k n z) (cwV 3 hg (gw_V ml_L_23 im_X2_put se_X2_put ini_X2 co_X2_put) rfl rfl rfl (by decide +kernel) ⟨Nat.le_of_ble_eq_true rfl, Nat.le_of_ble_eq_true rfl⟩) ⟨wd_B.blind, va_recv hK hP (ci := 2) (q0 := 0) rfl rfl, fun U hU hW => ⟨rfl, wd_B.at hG hK hP hD hS hA hU hW⟩⟩ rfl rfl hl.1 rfl (lv_room (Nat.le_of_ble_eq_true rfl)) dL_put_7 ⟨Nat.le_of_ble_eq_true rfl, Nat.le_of_ble_eq_true rfl⟩) hS (fun q _ h => h) (fun q h => h) (fun q _ h => h) (fun E ce q9 u t H1 locs ht hvm hpx hB hz1 hk1 hS hce hcv hcl => ?_) (fun r u t H1 locs ht hvm hpo hB hz1 hk1 hS => ?_)
  · obtain ⟨hE, hB⟩ := hB
    obtain ⟨hK, hP, hD⟩ := hB.back ht hvm
    generalize H1 = H at hP hS hce ⊢
    rcases hE with ⟨rfl, he⟩ | ⟨rfl, he⟩
    · refine vx_catch (name := "java/lang/IndexOutOfBoundsException") hown [] ⟨0, 19, 22, 21⟩ [⟨0, 19, 26, 13⟩] htab (fun z h => nomatch h) (by decide) (by decide) (hg _ cl_L_21) (hG.nest ca_IndexOutOfBoundsException_IndexOutOfBoundsException) hce hcv hcl ?_
      refine W.eq (g2 := F0 m 22 ls [.ref q9]) rfl ?_
      have hP : va_P D vwCl (xw cI cQ a pl pq nq nm ab lg (nI cnt) (zi kb) ++ (ow cL o f :: fr)) H := hP
      have hD : va_D A (xw cI cQ a pl pq nq nm ab lg (nI cnt) (zi kb) ++ (ow cL o f :: fr)) := hD
      refine lv_astore (lv' := [(5, .ref q9), (0, .ref (a 0)), (1, .int k), (2, .int n), (3, .int z), (4, .ref o)]) hx hb dL_put_22 hl (by decide) rfl (fun ls hl => ?_)
      refine lv_iconst (v := 1) hx hb dL_put_24 (by decide) ?_
      exact W.iret (v := 1) hx hb hr (fun t ht hW => ⟨⟨1, (nm, f), rfl, Or.inr (Or.inl ⟨rfl, he, rfl⟩), wd_E.at hK hP hD ht hW⟩, hS.F ht⟩) hS.2.2 dL_put_25
    · refine vx_catch (name := "java/lang/IllegalArgumentException") hown [⟨0, 19, 22, 21⟩] ⟨0, 19, 26, 13⟩ [] htab (fun z h => by rw [List.mem_singleton] at h; subst h; exact Or.inr ⟨by decide, "java/lang/IndexOutOfBoundsException", hg _ cl_L_21, hG.2.2.2.2.2.2 ("java/lang/IllegalArgumentException", "java/lang/IndexOutOfBoundsException") (by decide)⟩) (by decide) (by decide) (hg _ cl_L_13) (hG.nest ca_IllegalArgumentException_IllegalArgumentException) hce hcv hcl ?_
      refine W.eq (g2 := F0 m 26 ls [.ref q9]) rfl ?_
      have hP : va_P D vwCl (xw cI cQ a pl pq nq nm ab lg (nI cnt) (zi kb) ++ (ow cL o f :: fr)) H := hP
      have hD : va_D A (xw cI cQ a pl pq nq nm ab lg (nI cnt) (zi kb) ++ (ow cL o f :: fr)) := hD
      refine lv_astore (lv' := [(5, .ref q9), (0, .ref (a 0)), (1, .int k), (2, .int n), (3, .int z), (4, .ref o)]) hx hb dL_put_26 hl (by decide) rfl (fun ls hl => ?_)
      refine lv_iconst (v := 2) hx hb dL_put_28 (by decide) ?_
      exact W.iret (v := 2) hx hb hr (fun t ht hW => ⟨⟨2, (nm, f), rfl, Or.inr (Or.inr ⟨rfl, he, rfl⟩), wd_E.at hK hP hD ht hW⟩, hS.F ht⟩) hS.2.2 dL_put_29
  · obtain ⟨hK, hP, hD⟩ := hB.back ht hvm
    generalize H1 = H at hP hS ⊢
    have hP : va_P D vwCl (xw cI cQ a pl pq nq u ab lg (nI cnt) (zi kb) ++ (ow cL o f :: fr)) H := hP
    have hD : va_D A (xw cI cQ a pl pq nq u ab lg (nI cnt) (zi kb) ++ (ow cL o f :: fr)) := hD
    refine lv_if_eq (tgt := 17) hx hb dL_put_10 (by decide) (fun c_1 => ?_) (fun c_1 => ?_)
    · refine lv_lconst (v := 0) hx hb dL_put_17 (by decide) ?_
      refine va_last (D := D) (n := 1) (f := f) (x := 0) hx hb hK hP hD hS 13 1 rfl rfl (vp_in_nI (show 0 < 1 by decide) (by decide)) dL_put_18 (fun H locs hP hD hS => ?_)
      rw [show (0 : Int32).toNatClampNeg = 0 from by decide] at hP hD
      have hP : va_P D vwCl (xw cI cQ a pl pq nq u ab lg (nI cnt) (zi kb) ++ (ow cL o (vp_updL f 0 0) :: fr)) H := hP
      have hD : va_D A (xw cI cQ a pl pq nq u ab lg (nI cnt) (zi kb) ++ (ow cL o (vp_updL f 0 0) :: fr)) := hD
      refine lv_goto (tgt := 30) hx hb dL_put_19 (by decide) ?_
      refine lv_iconst (v := 0) hx hb dL_put_30 (by decide) ?_
      exact W.iret (v := 0) hx hb hr (fun t ht hW => ⟨⟨0, (u, (vp_updL f 0 0)), rfl, Or.inl ⟨rfl, r, hpo, (if_pos c_1).symm⟩, wd_E.at hK hP hD ht hW⟩, hS.F ht⟩) hS.2.2 dL_put_31
    · refine lv_lconst (v := 1) hx hb dL_put_13 (by decide) ?_
      refine lv_goto (tgt := 18) hx hb dL_put_14 (by decide) ?_
      refine va_last (D := D) (n := 1) (f := f) (x := 1) hx hb hK hP hD hS 13 1 rfl rfl (vp_in_nI (show 0 < 1 by decide) (by decide)) dL_put_18 (fun H locs hP hD hS => ?_)
      rw [show (0 : Int32).toNatClampNeg = 0 from by decide] at hP hD
      have hP : va_P D vwCl (xw cI cQ a pl pq nq u ab lg (nI cnt) (zi kb) ++ (ow cL o (vp_updL f 0 1) :: fr)) H := hP
      have hD : va_D A (xw cI cQ a pl pq nq u ab lg (nI cnt) (zi kb) ++ (ow cL o (vp_updL f 0 1) :: fr)) := hD
      refine lv_goto (tgt := 30) hx hb dL_put_19 (by decide) ?_
      refine lv_iconst (v := 0) hx hb dL_put_30 (by decide) ?_
      exact W.iret (v := 0) hx hb hr (fun t ht hW => ⟨⟨0, (u, (vp_updL f 0 1)), rfl, Or.inl ⟨rfl, r, hpo, (if_neg c_1).symm⟩, wd_E.at hK hP hD ht hW⟩, hS.F ht⟩) hS.2.2 dL_put_31
set_option maxHeartbeats 4000000 in
set_option maxRecDepth 100000 in
theorem c_L_fraction (l : Launch) (hlt : l.stackTraces = false) (A : Nat → Prop) (D : va_G) (cI cL cQ : ClassId) (fr : va_W) (a : Nat → Nat) (pl : Nat → Int32) (pq nq : Nat → Nat) (nm : Nat → Nat → Int32) (ab : Int64) (lg : Nat → Int32) (cnt : Nat) (hc : cnt ≤ 3) (kb : Bool) (o : Nat) (f : Nat → Int64) (k : Int32) : Met l yL_fraction wsL_fraction { frames := 8, cells := 1, slots := 6, locals := 125 } (va_Pc [.ref (a 0), .int k, .ref o] (wd_B D (ty3 cI cL cQ) A (xw cI cQ a pl pq nq nm ab lg (nI cnt) (zi kb) ++ (ow cL o f :: fr)))) (va_Qi (fun r (u : (Unit) × (Nat → Int64)) => (r = 0 ∧ ∃ v : Int64, (kb = true ∧ x_part k = true ∧ v = x_low ab 1536796800 k) ∧ u.2 0 = v) ∨ (r = 1 ∧ (kb = false) ∧ u = ((), f)) ∨ (r = 2 ∧ (kb = true ∧ x_part k = false) ∧ u = ((), f))) (fun u t => wd_E D (ty3 cI cL cQ) A (xw cI cQ a pl pq nq nm ab lg (nI cnt) (zi kb) ++ (ow cL o u.2 :: fr)) t) A) 1 6 A := by
  refine va_MetW (cc := cL_fraction) (maxL := 4) (ret := (some .int)) (by decide) rfl ?_
  intro p e s m args below meth c s₁ B hml hv
  obtain ⟨rfl, hG, hK, hP, hD, hA⟩ := hv
  have hx := B.exec
  have hb := B.bytes
  have hr := B.returns
  have hts := atoms_spec (ws := wsL_fraction) B.pre
  have hg : ∀ w ∈ gw, w.before ([.ref (a 0), .int k, .ref o] : List Value).toArray s = true := fun w h => hts w (List.mem_cons_of_mem _ h)
  have hown : s.vm.findClass RL = some m.cls := findClass_of_methodNamed B.named
  have hlocks := B.notSynchronized
  have hS : va_S A s.heap s.heap [] := va_S.rf
  have hl := lv_entry ([.ref (a 0), .int k, .ref o]) (n := 4) (Nat.le_of_ble_eq_true rfl)
  rw [lg_entry_eq]
  generalize (lg_sl ([.ref (a 0), .int k, .ref o]) ++ List.replicate (4 - (lg_sl ([.ref (a 0), .int k, .ref o])).length) Slot.unset).toArray = ls at hl ⊢
  have hl : lv_has ls 4 [(0, .ref (a 0)), (1, .int k), (2, .ref o)] := hl
  have htab := vx_table (x := yL_fraction) B (hts _ List.mem_cons_self)
  refine lv_aload_n hx hb dL_fraction_0 rfl (lv_at hl 2 rfl) ?_
  refine lv_iconst (v := 0) hx hb dL_fraction_1 (by decide) ?_
  refine lv_aload_n hx hb dL_fraction_2 rfl (lv_at hl 0 rfl) ?_
  refine lv_iload_n hx hb dL_fraction_3 rfl (lv_at hl 1 rfl) ?_
  refine vx_calll (vx_runV (As := [.int k]) (rest := [.int 0, .ref o]) ⟨hx, hb, hml, hown, hg⟩ (c_X2_fraction l hlt A D cI cL cQ (ow cL o f :: fr) a pl pq nq nm ab lg cnt hc kb k) (cwV 1 hg (gw_V ml_L_42 im_X2_fraction se_X2_fraction ini_X2 co_X2_fraction) rfl rfl rfl (by decide +kernel) ⟨Nat.le_of_ble_eq_true rfl, Nat.le_of_ble_eq_true rfl⟩) ⟨wd_B.blind, va_recv hK hP (ci := 2) (q0 := 0) rfl rfl, fun U hU hW => ⟨rfl, wd_B.at hG hK hP hD hS hA hU hW⟩⟩ rfl rfl hl.1 rfl (lv_room (Nat.le_of_ble_eq_true rfl)) dL_fraction_4 ⟨Nat.le_of_ble_eq_true rfl, Nat.le_of_ble_eq_true rfl⟩) hS (fun q _ h => h) (fun q h => h) (fun q _ h => h) (fun E ce q9 u t H1 locs ht hvm hpx hB hz1 hk1 hS hce hcv hcl => ?_) (fun r u t H1 locs ht hvm hpo hB hz1 hk1 hS => ?_)
  · obtain ⟨hE, hB⟩ := hB
    obtain ⟨hK, hP, hD⟩ := hB.back ht hvm
    generalize H1 = H at hP hS hce ⊢
    rcases hE with ⟨rfl, he⟩ | ⟨rfl, he⟩
    · refine vx_catch (name := "java/lang/IllegalStateException") hown [] ⟨0, 8, 11, 15⟩ [⟨0, 8, 14, 13⟩] htab (fun z h => nomatch h) (by decide) (by decide) (hg _ cl_L_15) (hG.nest ca_IllegalStateException_IllegalStateException) hce hcv hcl ?_
      refine W.eq (g2 := F0 m 11 ls [.ref q9]) rfl ?_
      have hP : va_P D vwCl (xw cI cQ a pl pq nq nm ab lg (nI cnt) (zi kb) ++ (ow cL o f :: fr)) H := hP
      have hD : va_D A (xw cI cQ a pl pq nq nm ab lg (nI cnt) (zi kb) ++ (ow cL o f :: fr)) := hD
      refine lv_astore_n (lv' := [(3, .ref q9), (0, .ref (a 0)), (1, .int k), (2, .ref o)]) hx hb dL_fraction_11 rfl hl (by decide) rfl (fun ls hl => ?_)
      refine lv_iconst (v := 1) hx hb dL_fraction_12 (by decide) ?_
      exact W.iret (v := 1) hx hb hr (fun t ht hW => ⟨⟨1, ((), f), rfl, Or.inr (Or.inl ⟨rfl, he, rfl⟩), wd_E.at hK hP hD ht hW⟩, hS.F ht⟩) hS.2.2 dL_fraction_13
    · refine vx_catch (name := "java/lang/IllegalArgumentException") hown [⟨0, 8, 11, 15⟩] ⟨0, 8, 14, 13⟩ [] htab (fun z h => by rw [List.mem_singleton] at h; subst h; exact Or.inr ⟨by decide, "java/lang/IllegalStateException", hg _ cl_L_15, hG.2.2.2.2.2.2 ("java/lang/IllegalArgumentException", "java/lang/IllegalStateException") (by decide)⟩) (by decide) (by decide) (hg _ cl_L_13) (hG.nest ca_IllegalArgumentException_IllegalArgumentException) hce hcv hcl ?_
      refine W.eq (g2 := F0 m 14 ls [.ref q9]) rfl ?_
      have hP : va_P D vwCl (xw cI cQ a pl pq nq nm ab lg (nI cnt) (zi kb) ++ (ow cL o f :: fr)) H := hP
      have hD : va_D A (xw cI cQ a pl pq nq nm ab lg (nI cnt) (zi kb) ++ (ow cL o f :: fr)) := hD
      refine lv_astore_n (lv' := [(3, .ref q9), (0, .ref (a 0)), (1, .int k), (2, .ref o)]) hx hb dL_fraction_14 rfl hl (by decide) rfl (fun ls hl => ?_)
      refine lv_iconst (v := 2) hx hb dL_fraction_15 (by decide) ?_
      exact W.iret (v := 2) hx hb hr (fun t ht hW => ⟨⟨2, ((), f), rfl, Or.inr (Or.inr ⟨rfl, he, rfl⟩), wd_E.at hK hP hD ht hW⟩, hS.F ht⟩) hS.2.2 dL_fraction_16
  · obtain ⟨hK, hP, hD⟩ := hB.back ht hvm
    generalize H1 = H at hP hS ⊢
    have hP : va_P D vwCl (xw cI cQ a pl pq nq nm ab lg (nI cnt) (zi kb) ++ (ow cL o f :: fr)) H := hP
    have hD : va_D A (xw cI cQ a pl pq nq nm ab lg (nI cnt) (zi kb) ++ (ow cL o f :: fr)) := hD
    refine va_last (D := D) (n := 1) (f := f) (x := r) hx hb hK hP hD hS 13 1 rfl rfl (vp_in_nI (show 0 < 1 by decide) (by decide)) dL_fraction_7 (fun H locs hP hD hS => ?_)
    rw [show (0 : Int32).toNatClampNeg = 0 from by decide] at hP hD
    have hP : va_P D vwCl (xw cI cQ a pl pq nq nm ab lg (nI cnt) (zi kb) ++ (ow cL o (vp_updL f 0 r) :: fr)) H := hP
    have hD : va_D A (xw cI cQ a pl pq nq nm ab lg (nI cnt) (zi kb) ++ (ow cL o (vp_updL f 0 r) :: fr)) := hD
    refine lv_goto (tgt := 17) hx hb dL_fraction_8 (by decide) ?_
    refine lv_iconst (v := 0) hx hb dL_fraction_17 (by decide) ?_
    exact W.iret (v := 0) hx hb hr (fun t ht hW => ⟨⟨0, (u, (vp_updL f 0 r)), rfl, Or.inl ⟨rfl, r, hpo, rfl⟩, wd_E.at hK hP hD ht hW⟩, hS.F ht⟩) hS.2.2 dL_fraction_18
set_option maxHeartbeats 4000000 in
set_option maxRecDepth 100000 in
theorem c_L_logarithm (l : Launch) (hlt : l.stackTraces = false) (A : Nat → Prop) (D : va_G) (cI cL cQ : ClassId) (fr : va_W) (a : Nat → Nat) (pl : Nat → Int32) (pq nq : Nat → Nat) (nm : Nat → Nat → Int32) (ab : Int64) (lg : Nat → Int32) (cnt : Nat) (hc : cnt ≤ 3) (kb : Bool) (o : Nat) (f : Nat → Int64) (k : Int32) : Met l yL_logarithm wsL_logarithm { frames := 8, cells := 1, slots := 6, locals := 125 } (va_Pc [.ref (a 0), .int k, .ref o] (wd_B D (ty3 cI cL cQ) A (xw cI cQ a pl pq nq nm ab lg (nI cnt) (zi kb) ++ (ow cL o f :: fr)))) (va_Qi (fun r (u : (Unit) × (Nat → Int64)) => (r = 0 ∧ ∃ v : Int32, (kb = true ∧ ∃ i, i < 5 ∧ gl_prime i = k ∧ v = lg i) ∧ u.2 0 = v.toInt64) ∨ (r = 1 ∧ (kb = false) ∧ u = ((), f)) ∨ (r = 2 ∧ (kb = true ∧ ∀ i, i < 5 → ¬ gl_prime i = k) ∧ u = ((), f))) (fun u t => wd_E D (ty3 cI cL cQ) A (xw cI cQ a pl pq nq nm ab lg (nI cnt) (zi kb) ++ (ow cL o u.2 :: fr)) t) A) 1 6 A := by
  refine va_MetW (cc := cL_logarithm) (maxL := 4) (ret := (some .int)) (by decide) rfl ?_
  intro p e s m args below meth c s₁ B hml hv
  obtain ⟨rfl, hG, hK, hP, hD, hA⟩ := hv
  have hx := B.exec
  have hb := B.bytes
  have hr := B.returns
  have hts := atoms_spec (ws := wsL_logarithm) B.pre
  have hg : ∀ w ∈ gw, w.before ([.ref (a 0), .int k, .ref o] : List Value).toArray s = true := fun w h => hts w (List.mem_cons_of_mem _ h)
  have hown : s.vm.findClass RL = some m.cls := findClass_of_methodNamed B.named
  have hlocks := B.notSynchronized
  have hS : va_S A s.heap s.heap [] := va_S.rf
  have hl := lv_entry ([.ref (a 0), .int k, .ref o]) (n := 4) (Nat.le_of_ble_eq_true rfl)
  rw [lg_entry_eq]
  generalize (lg_sl ([.ref (a 0), .int k, .ref o]) ++ List.replicate (4 - (lg_sl ([.ref (a 0), .int k, .ref o])).length) Slot.unset).toArray = ls at hl ⊢
  have hl : lv_has ls 4 [(0, .ref (a 0)), (1, .int k), (2, .ref o)] := hl
  have htab := vx_table (x := yL_logarithm) B (hts _ List.mem_cons_self)
  refine lv_aload_n hx hb dL_logarithm_0 rfl (lv_at hl 2 rfl) ?_
  refine lv_iconst (v := 0) hx hb dL_logarithm_1 (by decide) ?_
  refine lv_aload_n hx hb dL_logarithm_2 rfl (lv_at hl 0 rfl) ?_
  refine lv_iload_n hx hb dL_logarithm_3 rfl (lv_at hl 1 rfl) ?_
  refine vx_calli (vx_runV (As := [.int k]) (rest := [.int 0, .ref o]) ⟨hx, hb, hml, hown, hg⟩ (c_X2_logarithm l hlt A D cI cL cQ (ow cL o f :: fr) a pl pq nq nm ab lg cnt hc kb k) (cwV 1 hg (gw_V ml_L_46 im_X2_logarithm se_X2_logarithm ini_X2 co_X2_logarithm) rfl rfl rfl (by decide +kernel) ⟨Nat.le_of_ble_eq_true rfl, Nat.le_of_ble_eq_true rfl⟩) ⟨wd_B.blind, va_recv hK hP (ci := 2) (q0 := 0) rfl rfl, fun U hU hW => ⟨rfl, wd_B.at hG hK hP hD hS hA hU hW⟩⟩ rfl rfl hl.1 rfl (lv_room (Nat.le_of_ble_eq_true rfl)) dL_logarithm_4 ⟨Nat.le_of_ble_eq_true rfl, Nat.le_of_ble_eq_true rfl⟩) hS (fun q _ h => h) (fun q h => h) (fun q _ h => h) (fun E ce q9 u t H1 locs ht hvm hpx hB hz1 hk1 hS hce hcv hcl => ?_) (fun r u t H1 locs ht hvm hpo hB hz1 hk1 hS => ?_)
  · obtain ⟨hE, hB⟩ := hB
    obtain ⟨hK, hP, hD⟩ := hB.back ht hvm
    generalize H1 = H at hP hS hce ⊢
    rcases hE with ⟨rfl, he⟩ | ⟨rfl, he⟩
    · refine vx_catch (name := "java/lang/IllegalStateException") hown [] ⟨0, 9, 12, 15⟩ [⟨0, 9, 15, 13⟩] htab (fun z h => nomatch h) (by decide) (by decide) (hg _ cl_L_15) (hG.nest ca_IllegalStateException_IllegalStateException) hce hcv hcl ?_
      refine W.eq (g2 := F0 m 12 ls [.ref q9]) rfl ?_
      have hP : va_P D vwCl (xw cI cQ a pl pq nq nm ab lg (nI cnt) (zi kb) ++ (ow cL o f :: fr)) H := hP
      have hD : va_D A (xw cI cQ a pl pq nq nm ab lg (nI cnt) (zi kb) ++ (ow cL o f :: fr)) := hD
      refine lv_astore_n (lv' := [(3, .ref q9), (0, .ref (a 0)), (1, .int k), (2, .ref o)]) hx hb dL_logarithm_12 rfl hl (by decide) rfl (fun ls hl => ?_)
      refine lv_iconst (v := 1) hx hb dL_logarithm_13 (by decide) ?_
      exact W.iret (v := 1) hx hb hr (fun t ht hW => ⟨⟨1, ((), f), rfl, Or.inr (Or.inl ⟨rfl, he, rfl⟩), wd_E.at hK hP hD ht hW⟩, hS.F ht⟩) hS.2.2 dL_logarithm_14
    · refine vx_catch (name := "java/lang/IllegalArgumentException") hown [⟨0, 9, 12, 15⟩] ⟨0, 9, 15, 13⟩ [] htab (fun z h => by rw [List.mem_singleton] at h; subst h; exact Or.inr ⟨by decide, "java/lang/IllegalStateException", hg _ cl_L_15, hG.2.2.2.2.2.2 ("java/lang/IllegalArgumentException", "java/lang/IllegalStateException") (by decide)⟩) (by decide) (by decide) (hg _ cl_L_13) (hG.nest ca_IllegalArgumentException_IllegalArgumentException) hce hcv hcl ?_
      refine W.eq (g2 := F0 m 15 ls [.ref q9]) rfl ?_
      have hP : va_P D vwCl (xw cI cQ a pl pq nq nm ab lg (nI cnt) (zi kb) ++ (ow cL o f :: fr)) H := hP
      have hD : va_D A (xw cI cQ a pl pq nq nm ab lg (nI cnt) (zi kb) ++ (ow cL o f :: fr)) := hD
      refine lv_astore_n (lv' := [(3, .ref q9), (0, .ref (a 0)), (1, .int k), (2, .ref o)]) hx hb dL_logarithm_15 rfl hl (by decide) rfl (fun ls hl => ?_)
      refine lv_iconst (v := 2) hx hb dL_logarithm_16 (by decide) ?_
      exact W.iret (v := 2) hx hb hr (fun t ht hW => ⟨⟨2, ((), f), rfl, Or.inr (Or.inr ⟨rfl, he, rfl⟩), wd_E.at hK hP hD ht hW⟩, hS.F ht⟩) hS.2.2 dL_logarithm_17
  · obtain ⟨hK, hP, hD⟩ := hB.back ht hvm
    generalize H1 = H at hP hS ⊢
    have hP : va_P D vwCl (xw cI cQ a pl pq nq nm ab lg (nI cnt) (zi kb) ++ (ow cL o f :: fr)) H := hP
    have hD : va_D A (xw cI cQ a pl pq nq nm ab lg (nI cnt) (zi kb) ++ (ow cL o f :: fr)) := hD
    refine lv_i2l hx hb dL_logarithm_7 rfl ?_
    refine va_last (D := D) (n := 1) (f := f) (x := r.toInt64) hx hb hK hP hD hS 13 1 rfl rfl (vp_in_nI (show 0 < 1 by decide) (by decide)) dL_logarithm_8 (fun H locs hP hD hS => ?_)
    rw [show (0 : Int32).toNatClampNeg = 0 from by decide] at hP hD
    have hP : va_P D vwCl (xw cI cQ a pl pq nq nm ab lg (nI cnt) (zi kb) ++ (ow cL o (vp_updL f 0 r.toInt64) :: fr)) H := hP
    have hD : va_D A (xw cI cQ a pl pq nq nm ab lg (nI cnt) (zi kb) ++ (ow cL o (vp_updL f 0 r.toInt64) :: fr)) := hD
    refine lv_goto (tgt := 18) hx hb dL_logarithm_9 (by decide) ?_
    refine lv_iconst (v := 0) hx hb dL_logarithm_18 (by decide) ?_
    exact W.iret (v := 0) hx hb hr (fun t ht hW => ⟨⟨0, (u, (vp_updL f 0 r.toInt64)), rfl, Or.inl ⟨rfl, r, hpo, rfl⟩, wd_E.at hK hP hD ht hW⟩, hS.F ht⟩) hS.2.2 dL_logarithm_19
set_option maxHeartbeats 4000000 in
set_option maxRecDepth 100000 in
theorem c_L_value (l : Launch) (hlt : l.stackTraces = false) (A : Nat → Prop) (D : va_G) (cI cL cQ : ClassId) (fr : va_W) (a : Nat → Nat) (pl : Nat → Int32) (pq nq : Nat → Nat) (nm : Nat → Nat → Int32) (ab : Int64) (lg : Nat → Int32) (cnt : Nat) (hc : cnt ≤ 3) (kb : Bool) (o : Nat) (f : Nat → Int64) (x k : Int32) : Met l yL_value wsL_value { frames := 8, cells := 1, slots := 6, locals := 125 } (va_Pc [.ref (a 0), .int x, .int k, .ref o] (wd_B D (ty3 cI cL cQ) A (xw cI cQ a pl pq nq nm ab lg (nI cnt) (zi kb) ++ (ow cL o f :: fr)))) (va_Qi (fun r (u : (Unit) × (Nat → Int64)) => (r = 0 ∧ ∃ v : Int64, (x_in x 6 = true ∧ x_part k = true ∧ (p_pole (nm (x_cnt pl x cnt)) = true → ¬ x_vd x (nm (x_cnt pl x cnt)) = 0) ∧ v = x_val x k (nm (x_cnt pl x cnt))) ∧ u.2 0 = v) ∨ (r = 1 ∧ (x_in x 6 = false ∨ x_part k = false) ∧ u = ((), f)) ∨ (r = 2 ∧ (x_in x 6 = true ∧ x_part k = true ∧ p_pole (nm (x_cnt pl x cnt)) = true ∧ x_vd x (nm (x_cnt pl x cnt)) = 0) ∧ u = ((), f))) (fun u t => wd_E D (ty3 cI cL cQ) A (xw cI cQ a pl pq nq nm ab lg (nI cnt) (zi kb) ++ (ow cL o u.2 :: fr)) t) A) 1 6 A := by
  refine va_MetW (cc := cL_value) (maxL := 5) (ret := (some .int)) (by decide) rfl ?_
  intro p e s m args below meth c s₁ B hml hv
  obtain ⟨rfl, hG, hK, hP, hD, hA⟩ := hv
  have hx := B.exec
  have hb := B.bytes
  have hr := B.returns
  have hts := atoms_spec (ws := wsL_value) B.pre
  have hg : ∀ w ∈ gw, w.before ([.ref (a 0), .int x, .int k, .ref o] : List Value).toArray s = true := fun w h => hts w (List.mem_cons_of_mem _ h)
  have hown : s.vm.findClass RL = some m.cls := findClass_of_methodNamed B.named
  have hlocks := B.notSynchronized
  have hS : va_S A s.heap s.heap [] := va_S.rf
  have hl := lv_entry ([.ref (a 0), .int x, .int k, .ref o]) (n := 5) (Nat.le_of_ble_eq_true rfl)
  rw [lg_entry_eq]
  generalize (lg_sl ([.ref (a 0), .int x, .int k, .ref o]) ++ List.replicate (5 - (lg_sl ([.ref (a 0), .int x, .int k, .ref o])).length) Slot.unset).toArray = ls at hl ⊢
  have hl : lv_has ls 5 [(0, .ref (a 0)), (1, .int x), (2, .int k), (3, .ref o)] := hl
  have htab := vx_table (x := yL_value) B (hts _ List.mem_cons_self)
  refine lv_aload_n hx hb dL_value_0 rfl (lv_at hl 3 rfl) ?_
  refine lv_iconst (v := 0) hx hb dL_value_1 (by decide) ?_
  refine lv_aload_n hx hb dL_value_2 rfl (lv_at hl 0 rfl) ?_
  refine lv_iload_n hx hb dL_value_3 rfl (lv_at hl 1 rfl) ?_
  refine lv_iload_n hx hb dL_value_4 rfl (lv_at hl 2 rfl) ?_
  refine vx_calll (vx_runV (As := [.int x, .int k]) (rest := [.int 0, .ref o]) ⟨hx, hb, hml, hown, hg⟩ (c_X2_value l hlt A D cI cL cQ (ow cL o f :: fr) a pl pq nq nm ab lg cnt hc (zi kb) x k) (cwV 2 hg (gw_V ml_L_34 im_X2_value se_X2_value ini_X2 co_X2_value) rfl rfl rfl (by decide +kernel) ⟨Nat.le_of_ble_eq_true rfl, Nat.le_of_ble_eq_true rfl⟩) ⟨wd_B.blind, va_recv hK hP (ci := 2) (q0 := 0) rfl rfl, fun U hU hW => ⟨rfl, wd_B.at hG hK hP hD hS hA hU hW⟩⟩ rfl rfl hl.1 rfl (lv_room (Nat.le_of_ble_eq_true rfl)) dL_value_5 ⟨Nat.le_of_ble_eq_true rfl, Nat.le_of_ble_eq_true rfl⟩) hS (fun q _ h => h) (fun q h => h) (fun q _ h => h) (fun E ce q9 u t H1 locs ht hvm hpx hB hz1 hk1 hS hce hcv hcl => ?_) (fun r u t H1 locs ht hvm hpo hB hz1 hk1 hS => ?_)
  · obtain ⟨hE, hB⟩ := hB
    obtain ⟨hK, hP, hD⟩ := hB.back ht hvm
    generalize H1 = H at hP hS hce ⊢
    rcases hE with ⟨rfl, he⟩ | ⟨rfl, he⟩
    · refine vx_catch (name := "java/lang/IllegalArgumentException") hown [] ⟨0, 9, 12, 13⟩ [⟨0, 9, 16, 15⟩] htab (fun z h => nomatch h) (by decide) (by decide) (hg _ cl_L_13) (hG.nest ca_IllegalArgumentException_IllegalArgumentException) hce hcv hcl ?_
      refine W.eq (g2 := F0 m 12 ls [.ref q9]) rfl ?_
      have hP : va_P D vwCl (xw cI cQ a pl pq nq nm ab lg (nI cnt) (zi kb) ++ (ow cL o f :: fr)) H := hP
      have hD : va_D A (xw cI cQ a pl pq nq nm ab lg (nI cnt) (zi kb) ++ (ow cL o f :: fr)) := hD
      refine lv_astore (lv' := [(4, .ref q9), (0, .ref (a 0)), (1, .int x), (2, .int k), (3, .ref o)]) hx hb dL_value_12 hl (by decide) rfl (fun ls hl => ?_)
      refine lv_iconst (v := 1) hx hb dL_value_14 (by decide) ?_
      exact W.iret (v := 1) hx hb hr (fun t ht hW => ⟨⟨1, ((), f), rfl, Or.inr (Or.inl ⟨rfl, he, rfl⟩), wd_E.at hK hP hD ht hW⟩, hS.F ht⟩) hS.2.2 dL_value_15
    · refine vx_catch (name := "java/lang/IllegalStateException") hown [⟨0, 9, 12, 13⟩] ⟨0, 9, 16, 15⟩ [] htab (fun z h => by rw [List.mem_singleton] at h; subst h; exact Or.inr ⟨by decide, "java/lang/IllegalArgumentException", hg _ cl_L_13, hG.2.2.2.2.2.2 ("java/lang/IllegalStateException", "java/lang/IllegalArgumentException") (by decide)⟩) (by decide) (by decide) (hg _ cl_L_15) (hG.nest ca_IllegalStateException_IllegalStateException) hce hcv hcl ?_
      refine W.eq (g2 := F0 m 16 ls [.ref q9]) rfl ?_
      have hP : va_P D vwCl (xw cI cQ a pl pq nq nm ab lg (nI cnt) (zi kb) ++ (ow cL o f :: fr)) H := hP
      have hD : va_D A (xw cI cQ a pl pq nq nm ab lg (nI cnt) (zi kb) ++ (ow cL o f :: fr)) := hD
      refine lv_astore (lv' := [(4, .ref q9), (0, .ref (a 0)), (1, .int x), (2, .int k), (3, .ref o)]) hx hb dL_value_16 hl (by decide) rfl (fun ls hl => ?_)
      refine lv_iconst (v := 2) hx hb dL_value_18 (by decide) ?_
      exact W.iret (v := 2) hx hb hr (fun t ht hW => ⟨⟨2, ((), f), rfl, Or.inr (Or.inr ⟨rfl, he, rfl⟩), wd_E.at hK hP hD ht hW⟩, hS.F ht⟩) hS.2.2 dL_value_19
  · obtain ⟨hK, hP, hD⟩ := hB.back ht hvm
    generalize H1 = H at hP hS ⊢
    have hP : va_P D vwCl (xw cI cQ a pl pq nq nm ab lg (nI cnt) (zi kb) ++ (ow cL o f :: fr)) H := hP
    have hD : va_D A (xw cI cQ a pl pq nq nm ab lg (nI cnt) (zi kb) ++ (ow cL o f :: fr)) := hD
    refine va_last (D := D) (n := 1) (f := f) (x := r) hx hb hK hP hD hS 13 1 rfl rfl (vp_in_nI (show 0 < 1 by decide) (by decide)) dL_value_8 (fun H locs hP hD hS => ?_)
    rw [show (0 : Int32).toNatClampNeg = 0 from by decide] at hP hD
    have hP : va_P D vwCl (xw cI cQ a pl pq nq nm ab lg (nI cnt) (zi kb) ++ (ow cL o (vp_updL f 0 r) :: fr)) H := hP
    have hD : va_D A (xw cI cQ a pl pq nq nm ab lg (nI cnt) (zi kb) ++ (ow cL o (vp_updL f 0 r) :: fr)) := hD
    refine lv_goto (tgt := 20) hx hb dL_value_9 (by decide) ?_
    refine lv_iconst (v := 0) hx hb dL_value_20 (by decide) ?_
    exact W.iret (v := 0) hx hb hr (fun t ht hW => ⟨⟨0, (u, (vp_updL f 0 r)), rfl, Or.inl ⟨rfl, r, hpo, rfl⟩, wd_E.at hK hP hD ht hW⟩, hS.F ht⟩) hS.2.2 dL_value_21
set_option maxHeartbeats 4000000 in
set_option maxRecDepth 100000 in
theorem c_L_integral (l : Launch) (hlt : l.stackTraces = false) (A : Nat → Prop) (D : va_G) (cI cL cQ : ClassId) (fr : va_W) (a : Nat → Nat) (pl : Nat → Int32) (pq nq : Nat → Nat) (nm : Nat → Nat → Int32) (ab : Int64) (lg : Nat → Int32) (cnt : Nat) (hc : cnt ≤ 3) (kb : Bool) (o : Nat) (f : Nat → Int64) (x y : Int32) (hp9 : ∀ j, j < cnt → in9 (pl j)) (hn6 : ∀ j, j ≤ cnt → in6 (nm j 7)) : Met l yL_integral wsL_integral { frames := 8, cells := 1, slots := 6, locals := 155 } (va_Pc [.ref (a 0), .int x, .int y, .ref o] (wd_B D (ty3 cI cL cQ) A (xw cI cQ a pl pq nq nm ab lg (nI cnt) (zi kb) ++ (ow cL o f :: fr)))) (va_Qi (fun r (u : (Int64 × (Nat → Int32) × Bool) × (Nat → Int64)) => (r = 0 ∧ ∃ v : Int32, ((x_end x && x_end y) = true ∧ v = zi u.1.2.2 ∧ ((a_fold (q_l x y) (q_r x y) (q_z x y) pl nm cnt (cnt + 1) = some (u.1.1, u.1.2.1) ∧ u.1.2.2 = true) ∨ (a_fold (q_l x y) (q_r x y) (q_z x y) pl nm cnt (cnt + 1) = none ∧ u.1.2.2 = false))) ∧ u.2 0 = (if v = 0 then 0 else 1)) ∨ (r = 1 ∧ ((x_end x && x_end y) = false) ∧ u = ((ab, lg, kb), f))) (fun u t => wd_E D (ty3 cI cL cQ) A (xw cI cQ a pl pq nq nm u.1.1 u.1.2.1 (nI cnt) (zi u.1.2.2) ++ (ow cL o u.2 :: fr)) t) A) 1 6 A := by
  refine va_MetW (cc := cL_integral) (maxL := 5) (ret := (some .int)) (by decide) rfl ?_
  intro p e s m args below meth c s₁ B hml hv
  obtain ⟨rfl, hG, hK, hP, hD, hA⟩ := hv
  have hx := B.exec
  have hb := B.bytes
  have hr := B.returns
  have hts := atoms_spec (ws := wsL_integral) B.pre
  have hg : ∀ w ∈ gw, w.before ([.ref (a 0), .int x, .int y, .ref o] : List Value).toArray s = true := fun w h => hts w (List.mem_cons_of_mem _ h)
  have hown : s.vm.findClass RL = some m.cls := findClass_of_methodNamed B.named
  have hlocks := B.notSynchronized
  have hS : va_S A s.heap s.heap [] := va_S.rf
  have hl := lv_entry ([.ref (a 0), .int x, .int y, .ref o]) (n := 5) (Nat.le_of_ble_eq_true rfl)
  rw [lg_entry_eq]
  generalize (lg_sl ([.ref (a 0), .int x, .int y, .ref o]) ++ List.replicate (5 - (lg_sl ([.ref (a 0), .int x, .int y, .ref o])).length) Slot.unset).toArray = ls at hl ⊢
  have hl : lv_has ls 5 [(0, .ref (a 0)), (1, .int x), (2, .int y), (3, .ref o)] := hl
  have htab := vx_table (x := yL_integral) B (hts _ List.mem_cons_self)
  refine lv_aload_n hx hb dL_integral_0 rfl (lv_at hl 3 rfl) ?_
  refine lv_iconst (v := 0) hx hb dL_integral_1 (by decide) ?_
  refine lv_aload_n hx hb dL_integral_2 rfl (lv_at hl 0 rfl) ?_
  refine lv_iload_n hx hb dL_integral_3 rfl (lv_at hl 1 rfl) ?_
  refine lv_iload_n hx hb dL_integral_4 rfl (lv_at hl 2 rfl) ?_
  refine vx_calli (vx_runV (As := [.int x, .int y]) (rest := [.int 0, .ref o]) ⟨hx, hb, hml, hown, hg⟩ (c_X2_integral l hlt A D cI cL cQ (ow cL o f :: fr) a pl pq nq nm ab lg cnt hc (zi kb) x y hp9 hn6) (cwV 2 hg (gw_V ml_L_38 im_X2_integral se_X2_integral ini_X2 co_X2_integral) rfl rfl rfl (by decide +kernel) ⟨Nat.le_of_ble_eq_true rfl, Nat.le_of_ble_eq_true rfl⟩) ⟨wd_B.blind, va_recv hK hP (ci := 2) (q0 := 0) rfl rfl, fun U hU hW => ⟨rfl, wd_B.at hG hK hP hD hS hA hU hW⟩⟩ rfl rfl hl.1 rfl (lv_room (Nat.le_of_ble_eq_true rfl)) dL_integral_5 ⟨Nat.le_of_ble_eq_true rfl, Nat.le_of_ble_eq_true rfl⟩) hS (fun q _ h => h) (fun q h => h) (fun q _ h => h) (fun E ce q9 u t H1 locs ht hvm hpx hB hz1 hk1 hS hce hcv hcl => ?_) (fun r u t H1 locs ht hvm hpo hB hz1 hk1 hS => ?_)
  · obtain ⟨hE, hB⟩ := hB
    obtain ⟨hK, hP, hD⟩ := hB.back ht hvm
    generalize H1 = H at hP hS hce ⊢
    rcases hE with ⟨rfl, he⟩
    refine vx_catch (name := "java/lang/IllegalArgumentException") hown [] ⟨0, 17, 20, 13⟩ [] htab (fun z h => nomatch h) (by decide) (by decide) (hg _ cl_L_13) (hG.nest ca_IllegalArgumentException_IllegalArgumentException) hce hcv hcl ?_
    refine W.eq (g2 := F0 m 20 ls [.ref q9]) rfl ?_
    have hP : va_P D vwCl (xw cI cQ a pl pq nq nm ab lg (nI cnt) (zi kb) ++ (ow cL o f :: fr)) H := hP
    have hD : va_D A (xw cI cQ a pl pq nq nm ab lg (nI cnt) (zi kb) ++ (ow cL o f :: fr)) := hD
    refine lv_astore (lv' := [(4, .ref q9), (0, .ref (a 0)), (1, .int x), (2, .int y), (3, .ref o)]) hx hb dL_integral_20 hl (by decide) rfl (fun ls hl => ?_)
    refine lv_iconst (v := 1) hx hb dL_integral_22 (by decide) ?_
    exact W.iret (v := 1) hx hb hr (fun t ht hW => ⟨⟨1, ((ab, lg, kb), f), rfl, Or.inr ⟨rfl, he, rfl⟩, wd_E.at hK hP hD ht hW⟩, hS.F ht⟩) hS.2.2 dL_integral_23
  · obtain ⟨hK, hP, hD⟩ := hB.back ht hvm
    generalize H1 = H at hP hS ⊢
    have hP : va_P D vwCl (xw cI cQ a pl pq nq nm u.1 u.2.1 (nI cnt) (zi u.2.2) ++ (ow cL o f :: fr)) H := hP
    have hD : va_D A (xw cI cQ a pl pq nq nm u.1 u.2.1 (nI cnt) (zi u.2.2) ++ (ow cL o f :: fr)) := hD
    refine lv_if_eq (tgt := 15) hx hb dL_integral_8 (by decide) (fun c_1 => ?_) (fun c_1 => ?_)
    · refine lv_lconst (v := 0) hx hb dL_integral_15 (by decide) ?_
      refine va_last (D := D) (n := 1) (f := f) (x := 0) hx hb hK hP hD hS 13 1 rfl rfl (vp_in_nI (show 0 < 1 by decide) (by decide)) dL_integral_16 (fun H locs hP hD hS => ?_)
      rw [show (0 : Int32).toNatClampNeg = 0 from by decide] at hP hD
      have hP : va_P D vwCl (xw cI cQ a pl pq nq nm u.1 u.2.1 (nI cnt) (zi u.2.2) ++ (ow cL o (vp_updL f 0 0) :: fr)) H := hP
      have hD : va_D A (xw cI cQ a pl pq nq nm u.1 u.2.1 (nI cnt) (zi u.2.2) ++ (ow cL o (vp_updL f 0 0) :: fr)) := hD
      refine lv_goto (tgt := 24) hx hb dL_integral_17 (by decide) ?_
      refine lv_iconst (v := 0) hx hb dL_integral_24 (by decide) ?_
      exact W.iret (v := 0) hx hb hr (fun t ht hW => ⟨⟨0, (u, (vp_updL f 0 0)), rfl, Or.inl ⟨rfl, r, hpo, (if_pos c_1).symm⟩, wd_E.at hK hP hD ht hW⟩, hS.F ht⟩) hS.2.2 dL_integral_25
    · refine lv_lconst (v := 1) hx hb dL_integral_11 (by decide) ?_
      refine lv_goto (tgt := 16) hx hb dL_integral_12 (by decide) ?_
      refine va_last (D := D) (n := 1) (f := f) (x := 1) hx hb hK hP hD hS 13 1 rfl rfl (vp_in_nI (show 0 < 1 by decide) (by decide)) dL_integral_16 (fun H locs hP hD hS => ?_)
      rw [show (0 : Int32).toNatClampNeg = 0 from by decide] at hP hD
      have hP : va_P D vwCl (xw cI cQ a pl pq nq nm u.1 u.2.1 (nI cnt) (zi u.2.2) ++ (ow cL o (vp_updL f 0 1) :: fr)) H := hP
      have hD : va_D A (xw cI cQ a pl pq nq nm u.1 u.2.1 (nI cnt) (zi u.2.2) ++ (ow cL o (vp_updL f 0 1) :: fr)) := hD
      refine lv_goto (tgt := 24) hx hb dL_integral_17 (by decide) ?_
      refine lv_iconst (v := 0) hx hb dL_integral_24 (by decide) ?_
      exact W.iret (v := 0) hx hb hr (fun t ht hW => ⟨⟨0, (u, (vp_updL f 0 1)), rfl, Or.inl ⟨rfl, r, hpo, (if_neg c_1).symm⟩, wd_E.at hK hP hD ht hW⟩, hS.F ht⟩) hS.2.2 dL_integral_25
set_option maxHeartbeats 4000000 in
set_option maxRecDepth 100000 in
theorem c_L_cut (l : Launch) (hlt : l.stackTraces = false) (A : Nat → Prop) (D : va_G) (cI cL cQ : ClassId) (fr : va_W) (a : Nat → Nat) (pl : Nat → Int32) (pq nq : Nat → Nat) (nm : Nat → Nat → Int32) (ab : Int64) (lg : Nat → Int32) (cnt : Nat) (hc : cnt ≤ 3) (kb : Bool) (o : Nat) (f : Nat → Int64) (x : Int32) : Met l yL_cut wsL_cut { frames := 8, cells := 1, slots := 6, locals := 125 } (va_Pc [.ref (a 0), .int x, .ref o] (wd_B D (ty3 cI cL cQ) A (xw cI cQ a pl pq nq nm ab lg (nI cnt) (zi kb) ++ (ow cL o f :: fr)))) (va_Qi (fun r (u : ((Nat → Int32) × (Nat → Nat → Int32) × Nat) × (Nat → Int64)) => (r = 0 ∧ ∃ v : Int32, (u.1.2.2 = cnt + 1 ∧ x_in x 6 = true ∧ x_cut pl x cnt = false ∧ cnt < 3 ∧ v = nI (x_cnt pl x cnt) ∧ (∀ j, j < cnt + 1 → u.1.1 j = if j < x_cnt pl x cnt then pl j else if j = x_cnt pl x cnt then x else pl (j - 1)) ∧ (∀ j, j < cnt + 2 → u.1.2.1 j = if j ≤ x_cnt pl x cnt then nm j else nm (j - 1))) ∧ u.2 0 = v.toInt64) ∨ (r = 1 ∧ ((x_in x 6 && !x_cut pl x cnt) = false) ∧ u = ((pl, nm, cnt), f)) ∨ (r = 2 ∧ ((x_in x 6 && !x_cut pl x cnt) = true ∧ cnt = 3) ∧ u = ((pl, nm, cnt), f))) (fun u t => wd_E D (ty3 cI cL cQ) A (xw cI cQ a u.1.1 pq nq u.1.2.1 ab lg (nI u.1.2.2) (zi kb) ++ (ow cL o u.2 :: fr)) t) A) 1 6 A := by
  refine va_MetW (cc := cL_cut) (maxL := 4) (ret := (some .int)) (by decide) rfl ?_
  intro p e s m args below meth c s₁ B hml hv
  obtain ⟨rfl, hG, hK, hP, hD, hA⟩ := hv
  have hx := B.exec
  have hb := B.bytes
  have hr := B.returns
  have hts := atoms_spec (ws := wsL_cut) B.pre
  have hg : ∀ w ∈ gw, w.before ([.ref (a 0), .int x, .ref o] : List Value).toArray s = true := fun w h => hts w (List.mem_cons_of_mem _ h)
  have hown : s.vm.findClass RL = some m.cls := findClass_of_methodNamed B.named
  have hlocks := B.notSynchronized
  have hS : va_S A s.heap s.heap [] := va_S.rf
  have hl := lv_entry ([.ref (a 0), .int x, .ref o]) (n := 4) (Nat.le_of_ble_eq_true rfl)
  rw [lg_entry_eq]
  generalize (lg_sl ([.ref (a 0), .int x, .ref o]) ++ List.replicate (4 - (lg_sl ([.ref (a 0), .int x, .ref o])).length) Slot.unset).toArray = ls at hl ⊢
  have hl : lv_has ls 4 [(0, .ref (a 0)), (1, .int x), (2, .ref o)] := hl
  have htab := vx_table (x := yL_cut) B (hts _ List.mem_cons_self)
  refine lv_aload_n hx hb dL_cut_0 rfl (lv_at hl 2 rfl) ?_
  refine lv_iconst (v := 0) hx hb dL_cut_1 (by decide) ?_
  refine lv_aload_n hx hb dL_cut_2 rfl (lv_at hl 0 rfl) ?_
  refine lv_iload_n hx hb dL_cut_3 rfl (lv_at hl 1 rfl) ?_
  refine vx_calli (vx_runV (As := [.int x]) (rest := [.int 0, .ref o]) ⟨hx, hb, hml, hown, hg⟩ (c_X2_cut l hlt A D cI cL cQ (ow cL o f :: fr) a pl pq nq nm ab lg cnt hc (zi kb) x) (cwV 1 hg (gw_V ml_L_7 im_X2_cut se_X2_cut ini_X2 co_X2_cut) rfl rfl rfl (by decide +kernel) ⟨Nat.le_of_ble_eq_true rfl, Nat.le_of_ble_eq_true rfl⟩) ⟨wd_B.blind, va_recv hK hP (ci := 2) (q0 := 0) rfl rfl, fun U hU hW => ⟨rfl, wd_B.at hG hK hP hD hS hA hU hW⟩⟩ rfl rfl hl.1 rfl (lv_room (Nat.le_of_ble_eq_true rfl)) dL_cut_4 ⟨Nat.le_of_ble_eq_true rfl, Nat.le_of_ble_eq_true rfl⟩) hS (fun q _ h => h) (fun q h => h) (fun q _ h => h) (fun E ce q9 u t H1 locs ht hvm hpx hB hz1 hk1 hS hce hcv hcl => ?_) (fun r u t H1 locs ht hvm hpo hB hz1 hk1 hS => ?_)
  · obtain ⟨hE, hB⟩ := hB
    obtain ⟨hK, hP, hD⟩ := hB.back ht hvm
    generalize H1 = H at hP hS hce ⊢
    rcases hE with ⟨rfl, he⟩ | ⟨rfl, he⟩
    · refine vx_catch (name := "java/lang/IllegalArgumentException") hown [] ⟨0, 9, 12, 13⟩ [⟨0, 9, 15, 15⟩] htab (fun z h => nomatch h) (by decide) (by decide) (hg _ cl_L_13) (hG.nest ca_IllegalArgumentException_IllegalArgumentException) hce hcv hcl ?_
      refine W.eq (g2 := F0 m 12 ls [.ref q9]) rfl ?_
      have hP : va_P D vwCl (xw cI cQ a pl pq nq nm ab lg (nI cnt) (zi kb) ++ (ow cL o f :: fr)) H := hP
      have hD : va_D A (xw cI cQ a pl pq nq nm ab lg (nI cnt) (zi kb) ++ (ow cL o f :: fr)) := hD
      refine lv_astore_n (lv' := [(3, .ref q9), (0, .ref (a 0)), (1, .int x), (2, .ref o)]) hx hb dL_cut_12 rfl hl (by decide) rfl (fun ls hl => ?_)
      refine lv_iconst (v := 1) hx hb dL_cut_13 (by decide) ?_
      exact W.iret (v := 1) hx hb hr (fun t ht hW => ⟨⟨1, ((pl, nm, cnt), f), rfl, Or.inr (Or.inl ⟨rfl, he, rfl⟩), wd_E.at hK hP hD ht hW⟩, hS.F ht⟩) hS.2.2 dL_cut_14
    · refine vx_catch (name := "java/lang/IllegalStateException") hown [⟨0, 9, 12, 13⟩] ⟨0, 9, 15, 15⟩ [] htab (fun z h => by rw [List.mem_singleton] at h; subst h; exact Or.inr ⟨by decide, "java/lang/IllegalArgumentException", hg _ cl_L_13, hG.2.2.2.2.2.2 ("java/lang/IllegalStateException", "java/lang/IllegalArgumentException") (by decide)⟩) (by decide) (by decide) (hg _ cl_L_15) (hG.nest ca_IllegalStateException_IllegalStateException) hce hcv hcl ?_
      refine W.eq (g2 := F0 m 15 ls [.ref q9]) rfl ?_
      have hP : va_P D vwCl (xw cI cQ a pl pq nq nm ab lg (nI cnt) (zi kb) ++ (ow cL o f :: fr)) H := hP
      have hD : va_D A (xw cI cQ a pl pq nq nm ab lg (nI cnt) (zi kb) ++ (ow cL o f :: fr)) := hD
      refine lv_astore_n (lv' := [(3, .ref q9), (0, .ref (a 0)), (1, .int x), (2, .ref o)]) hx hb dL_cut_15 rfl hl (by decide) rfl (fun ls hl => ?_)
      refine lv_iconst (v := 2) hx hb dL_cut_16 (by decide) ?_
      exact W.iret (v := 2) hx hb hr (fun t ht hW => ⟨⟨2, ((pl, nm, cnt), f), rfl, Or.inr (Or.inr ⟨rfl, he, rfl⟩), wd_E.at hK hP hD ht hW⟩, hS.F ht⟩) hS.2.2 dL_cut_17
  · obtain ⟨hK, hP, hD⟩ := hB.back ht hvm
    generalize H1 = H at hP hS ⊢
    have hP : va_P D vwCl (xw cI cQ a u.1 pq nq u.2 ab lg (nI (cnt + 1)) (zi kb) ++ (ow cL o f :: fr)) H := hP
    have hD : va_D A (xw cI cQ a u.1 pq nq u.2 ab lg (nI (cnt + 1)) (zi kb) ++ (ow cL o f :: fr)) := hD
    refine lv_i2l hx hb dL_cut_7 rfl ?_
    refine va_last (D := D) (n := 1) (f := f) (x := r.toInt64) hx hb hK hP hD hS 13 1 rfl rfl (vp_in_nI (show 0 < 1 by decide) (by decide)) dL_cut_8 (fun H locs hP hD hS => ?_)
    rw [show (0 : Int32).toNatClampNeg = 0 from by decide] at hP hD
    have hP : va_P D vwCl (xw cI cQ a u.1 pq nq u.2 ab lg (nI (cnt + 1)) (zi kb) ++ (ow cL o (vp_updL f 0 r.toInt64) :: fr)) H := hP
    have hD : va_D A (xw cI cQ a u.1 pq nq u.2 ab lg (nI (cnt + 1)) (zi kb) ++ (ow cL o (vp_updL f 0 r.toInt64) :: fr)) := hD
    refine lv_goto (tgt := 18) hx hb dL_cut_9 (by decide) ?_
    refine lv_iconst (v := 0) hx hb dL_cut_18 (by decide) ?_
    exact W.iret (v := 0) hx hb hr (fun t ht hW => ⟨⟨0, ((u.1, u.2, cnt + 1), (vp_updL f 0 r.toInt64)), rfl, Or.inl ⟨rfl, r, ⟨rfl, hpo⟩, rfl⟩, wd_E.at hK hP hD ht hW⟩, hS.F ht⟩) hS.2.2 dL_cut_19
set_option maxHeartbeats 4000000 in
set_option maxRecDepth 100000 in
theorem c_L_join (l : Launch) (hlt : l.stackTraces = false) (A : Nat → Prop) (D : va_G) (cI cL cQ : ClassId) (fr : va_W) (a : Nat → Nat) (pl : Nat → Int32) (pq nq : Nat → Nat) (nm : Nat → Nat → Int32) (ab : Int64) (lg : Nat → Int32) (cnt : Nat) (hc : cnt ≤ 3) (kb : Bool) (o : Nat) (f : Nat → Int64) (k : Int32) : Met l yL_join wsL_join { frames := 8, cells := 1, slots := 6, locals := 125 } (va_Pc [.ref (a 0), .int k] (wd_B D (ty3 cI cL cQ) A (xw cI cQ a pl pq nq nm ab lg (nI cnt) (zi kb) ++ (ow cL o f :: fr)))) (va_Qi (fun r (u : ((Nat → Int32) × (Nat → Nat → Int32) × Nat) × (Nat → Int64)) => (r = 0 ∧ (u.1.2.2 = cnt - 1 ∧ x_kc k cnt = false ∧ ∃ i, i < cnt ∧ k = nI i ∧ (∀ j, j < cnt - 1 → u.1.1 j = if j < i then pl j else pl (j + 1)) ∧ (∀ j, j < cnt → u.1.2.1 j = if j ≤ i then nm j else nm (j + 1))) ∧ u.2 = f) ∨ (r = 1 ∧ (x_kc k cnt = true) ∧ u = ((pl, nm, cnt), f))) (fun u t => wd_E D (ty3 cI cL cQ) A (xw cI cQ a u.1.1 pq nq u.1.2.1 ab lg (nI u.1.2.2) (zi kb) ++ (ow cL o u.2 :: fr)) t) A) 1 6 A := by
  refine va_MetW (cc := cL_join) (maxL := 3) (ret := (some .int)) (by decide) rfl ?_
  intro p e s m args below meth c s₁ B hml hv
  obtain ⟨rfl, hG, hK, hP, hD, hA⟩ := hv
  have hx := B.exec
  have hb := B.bytes
  have hr := B.returns
  have hts := atoms_spec (ws := wsL_join) B.pre
  have hg : ∀ w ∈ gw, w.before ([.ref (a 0), .int k] : List Value).toArray s = true := fun w h => hts w (List.mem_cons_of_mem _ h)
  have hown : s.vm.findClass RL = some m.cls := findClass_of_methodNamed B.named
  have hlocks := B.notSynchronized
  have hS : va_S A s.heap s.heap [] := va_S.rf
  have hl := lv_entry ([.ref (a 0), .int k]) (n := 3) (Nat.le_of_ble_eq_true rfl)
  rw [lg_entry_eq]
  generalize (lg_sl ([.ref (a 0), .int k]) ++ List.replicate (3 - (lg_sl ([.ref (a 0), .int k])).length) Slot.unset).toArray = ls at hl ⊢
  have hl : lv_has ls 3 [(0, .ref (a 0)), (1, .int k)] := hl
  have htab := vx_table (x := yL_join) B (hts _ List.mem_cons_self)
  refine lv_aload_n hx hb dL_join_0 rfl (lv_at hl 0 rfl) ?_
  refine lv_iload_n hx hb dL_join_1 rfl (lv_at hl 1 rfl) ?_
  refine vx_callv (vx_runV (As := [.int k]) (rest := []) ⟨hx, hb, hml, hown, hg⟩ (c_X2_join l hlt A D cI cL cQ (ow cL o f :: fr) a pl pq nq nm ab lg cnt hc (zi kb) k) (cwV 1 hg (gw_V ml_L_17 im_X2_join se_X2_join ini_X2 co_X2_join) rfl rfl rfl (by decide +kernel) ⟨Nat.le_of_ble_eq_true rfl, Nat.le_of_ble_eq_true rfl⟩) ⟨wd_B.blind, va_recv hK hP (ci := 2) (q0 := 0) rfl rfl, fun U hU hW => ⟨rfl, wd_B.at hG hK hP hD hS hA hU hW⟩⟩ rfl rfl hl.1 rfl (lv_room (Nat.le_of_ble_eq_true rfl)) dL_join_2 ⟨Nat.le_of_ble_eq_true rfl, Nat.le_of_ble_eq_true rfl⟩) hS (fun q _ h => h) (fun q h => h) (fun q _ h => h) (fun E ce q9 u t H1 locs ht hvm hpx hB hz1 hk1 hS hce hcv hcl => ?_) (fun u t H1 locs ht hvm hpo hB hz1 hk1 hS => ?_)
  · obtain ⟨hE, hB⟩ := hB
    obtain ⟨hK, hP, hD⟩ := hB.back ht hvm
    generalize H1 = H at hP hS hce ⊢
    rcases hE with ⟨rfl, he⟩
    refine vx_catch (name := "java/lang/IndexOutOfBoundsException") hown [] ⟨0, 5, 8, 21⟩ [] htab (fun z h => nomatch h) (by decide) (by decide) (hg _ cl_L_21) (hG.nest ca_IndexOutOfBoundsException_IndexOutOfBoundsException) hce hcv hcl ?_
    refine W.eq (g2 := F0 m 8 ls [.ref q9]) rfl ?_
    have hP : va_P D vwCl (xw cI cQ a pl pq nq nm ab lg (nI cnt) (zi kb) ++ (ow cL o f :: fr)) H := hP
    have hD : va_D A (xw cI cQ a pl pq nq nm ab lg (nI cnt) (zi kb) ++ (ow cL o f :: fr)) := hD
    refine lv_astore_n (lv' := [(2, .ref q9), (0, .ref (a 0)), (1, .int k)]) hx hb dL_join_8 rfl hl (by decide) rfl (fun ls hl => ?_)
    refine lv_iconst (v := 1) hx hb dL_join_9 (by decide) ?_
    exact W.iret (v := 1) hx hb hr (fun t ht hW => ⟨⟨1, ((pl, nm, cnt), f), rfl, Or.inr ⟨rfl, he, rfl⟩, wd_E.at hK hP hD ht hW⟩, hS.F ht⟩) hS.2.2 dL_join_10
  · obtain ⟨hK, hP, hD⟩ := hB.back ht hvm
    generalize H1 = H at hP hS ⊢
    have hP : va_P D vwCl (xw cI cQ a u.1 pq nq u.2 ab lg (nI (cnt - 1)) (zi kb) ++ (ow cL o f :: fr)) H := hP
    have hD : va_D A (xw cI cQ a u.1 pq nq u.2 ab lg (nI (cnt - 1)) (zi kb) ++ (ow cL o f :: fr)) := hD
    refine lv_goto (tgt := 11) hx hb dL_join_5 (by decide) ?_
    refine lv_iconst (v := 0) hx hb dL_join_11 (by decide) ?_
    exact W.iret (v := 0) hx hb hr (fun t ht hW => ⟨⟨0, ((u.1, u.2, cnt - 1), f), rfl, Or.inl ⟨rfl, ⟨rfl, hpo⟩, rfl⟩, wd_E.at hK hP hD ht hW⟩, hS.F ht⟩) hS.2.2 dL_join_12
