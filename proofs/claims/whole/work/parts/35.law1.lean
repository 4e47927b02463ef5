theorem in9_6 {v : Int32} (h : in6 v) : in9 v := by unfold in6 at h; unfold in9; omega
set_option maxHeartbeats 4000000 in
set_option maxRecDepth 100000 in
theorem lw_k0 {p : Program} {l : Launch} {e : Env} {s : State} {m : MethodId} {below : List Frame} {meth : Method} {c : Code} {D : va_G} {cI cL cQ : ClassId} {sc L : Nat} {xs : Nat → Int32} {a b : Nat → Nat} {o i k1 k2 : Nat} (C : lw_C p l s m meth c D cI cL cQ sc L xs) (hi : 4 * i + 4 ≤ L) (hk1 : k1 + 1 ≤ room_1.cells) (hk2 : k2 + 6 ≤ room_1.slots) (K : lw_R p l e s m below meth c D cI cL cQ sc a b o 708 i (k1 + 1) (k2 + 6)) : lw_R p l e s m below meth c D cI cL cQ sc a b o 104 i k1 k2 := by
  obtain ⟨hx, hb, hr, hml, hown, hg, hG, hK, hX, hbl, hlocks, hlt, hL⟩ := C
  intro pl pq nq nm ab lg cnt kb f cod pl' nm' od op kU kD kl up dn ml H locs ls hiv hP hD hS hl
  have hc : cnt ≤ 3 := hiv.1
  have hk1z : k1 + 0 ≤ room_1.cells := by omega
  have hk2z : k2 + 0 ≤ room_1.slots := by omega
  have hA : ∀ q : Nat, s.heap.size ≤ q → lA s q := fun _ h => h
  have hbA : ¬ lA s sc := Nat.not_le.mpr hbl
  refine lv_aload_n hx hb dL_law_104 rfl (lv_at hl 3 rfl) ?_
  refine lv_aload_n hx hb dL_law_105 rfl (lv_at hl 4 rfl) ?_
  refine lv_iload hx hb dL_law_106 (lv_at hl 0 rfl) ?_
  refine lv_iconst (v := 1) hx hb dL_law_108 (by decide) ?_
  refine lv_iadd hx hb dL_law_109 ?_
  rw [show (nI (4 * i)) + (1 : Int32) = nI ((4 * i) + 1) from nI_add (4 * i) 1]
  refine va_sld (b := sc) (L := L) (xs := xs) (i := nI ((4 * i) + 1)) hx hb hX hbl hbA hS (vp_in_nI (show ((4 * i) + 1) < L by omega) (by omega)) dL_law_110 ?_
  rw [nI_clamp (show ((4 * i) + 1) < 2 ^ 31 by omega)]
  refine lv_aload_n hx hb dL_law_111 rfl (lv_at hl 1 rfl) ?_
  refine va_calli (vx_runSW (As := [.ref (a 0), .int (xs ((4 * i) + 1)), .ref o]) (rest := []) ⟨hx, hb, hml, hown, hg⟩ (c_L_cut l hlt (lA s) D cI cL cQ (mw cI b cod (nI cnt) pl' nm' od op (zi kb) kU kD kl up dn ml) a pl pq nq nm ab lg cnt hc kb o f (xs ((4 * i) + 1))) (vx_cwSW 3 hg (gw_SW ml_L_53 sm_L_cut ini_L co_L_cut) rfl rfl rfl (by decide +kernel) ⟨Nat.le_of_ble_eq_true rfl, Nat.le_of_ble_eq_true rfl⟩) ⟨wd_B.blind, fun U hU hW => ⟨rfl, wd_B.at hG hK hP hD hS hA hU hW⟩⟩ rfl rfl hl.1 rfl (lv_room (Nat.le_of_ble_eq_true rfl)) dL_law_112 ⟨hk1, hk2⟩) hS (fun q _ h => h) (fun q h => h) (fun r u t H1 locs ht hvm h1 hB hz1 hk9 hS => ?_)
  obtain ⟨hK, hP, hD⟩ := hB.back ht hvm
  generalize H1 = H at hP hS ⊢
  have hP : va_P D vwCl (lww cI cL cQ a b o u.1.1 pq nq u.1.2.1 ab lg u.1.2.2 kb u.2 cod cnt pl' nm' od op kb kU kD kl up dn ml) H := hP
  have hD : va_D (lA s) (lww cI cL cQ a b o u.1.1 pq nq u.1.2.1 ab lg u.1.2.2 kb u.2 cod cnt pl' nm' od op kb kU kD kl up dn ml) := hD
  refine lv_istore (lv' := [(5, .int r), (4, .int (nI (4 * i))), (3, .ref o), (2, .ref (b 0)), (1, .ref (a 0)), (0, .ref sc)]) hx hb dL_law_115 hl (by decide) rfl (fun ls hl => ?_)
  refine lv_aload_n hx hb dL_law_117 rfl (lv_at hl 3 rfl) ?_
  refine lv_aload_n hx hb dL_law_118 rfl (lv_at hl 5 rfl) ?_
  refine lv_iload hx hb dL_law_119 (lv_at hl 1 rfl) ?_
  refine lv_iconst (v := 1) hx hb dL_law_121 (by decide) ?_
  refine lv_iadd hx hb dL_law_122 ?_
  rw [show (nI (4 * i)) + (1 : Int32) = nI ((4 * i) + 1) from nI_add (4 * i) 1]
  refine va_sld (b := sc) (L := L) (xs := xs) (i := nI ((4 * i) + 1)) hx hb hX hbl hbA hS (vp_in_nI (show ((4 * i) + 1) < L by omega) (by omega)) dL_law_123 ?_
  rw [nI_clamp (show ((4 * i) + 1) < 2 ^ 31 by omega)]
  have hPm := pm_P hP
  have hDm := pm_D hD
  refine va_calli (va_runV (As := [.int (xs ((4 * i) + 1))]) (rest := []) ⟨hx, hb, hml, hown, hg⟩ (c_X3_cut l (lA s) D cI cL cQ (xw cI cQ a u.1.1 pq nq u.1.2.1 ab lg (nI u.1.2.2) (zi kb) ++ [ow cL o u.2]) b cod cnt hc pl' nm' od op kb kU kD kl up dn ml (xs ((4 * i) + 1))) (cwV 1 hg (gw_V ml_L_58 im_X3_cut se_X3_cut ini_X3 co_X3_cut) rfl rfl rfl (by decide +kernel) ⟨Nat.le_of_ble_eq_true rfl, Nat.le_of_ble_eq_true rfl⟩) ⟨wd_B.blind, va_recv hK hPm (ci := 3) (q0 := 0) rfl rfl, fun U hU hW => ⟨rfl, wd_B.at hG hK hPm hDm hS hA hU hW⟩⟩ rfl rfl hl.1 rfl (lv_room (Nat.le_of_ble_eq_true rfl)) dL_law_124 ⟨hk1, hk2⟩) hS (fun q _ h => h) (fun q h => h) (fun r2 w t H1 locs ht hvm h2 hB hz1 hk9 hS => ?_)
  obtain ⟨hK, hP, hD⟩ := hB.back ht hvm
  clear hPm hDm
  generalize H1 = H at hP hS ⊢
  have hP := mp_P (show va_P D vwCl (lwm cI cL cQ a b o u.1.1 pq nq u.1.2.1 ab lg u.1.2.2 kb u.2 w.1 w.2.2.2 w.2.1 w.2.2.1 od op kb kU kD kl up dn ml) H from hP)
  have hD := mp_D (show va_D (lA s) (lwm cI cL cQ a b o u.1.1 pq nq u.1.2.1 ab lg u.1.2.2 kb u.2 w.1 w.2.2.2 w.2.1 w.2.2.1 od op kb kU kD kl up dn ml) from hD)
  have hag := ag_cut hiv h1 h2
  rw [hag.2.2.1] at hP hD
  have hP : va_P D vwCl (lww cI cL cQ a b o u.1.1 pq nq u.1.2.1 ab lg u.1.2.2 kb u.2 w.1 u.1.2.2 w.2.1 w.2.2.1 od op kb kU kD kl up dn ml) H := hP
  have hD : va_D (lA s) (lww cI cL cQ a b o u.1.1 pq nq u.1.2.1 ab lg u.1.2.2 kb u.2 w.1 u.1.2.2 w.2.1 w.2.2.1 od op kb kU kD kl up dn ml) := hD
  refine lv_istore (lv' := [(6, .int r2), (5, .int r), (4, .int (nI (4 * i))), (3, .ref o), (2, .ref (b 0)), (1, .ref (a 0)), (0, .ref sc)]) hx hb dL_law_127 hl (by decide) rfl (fun ls hl => ?_)
  refine lv_aload_n hx hb dL_law_129 rfl (lv_at hl 4 rfl) ?_
  refine vp_callSi (W.runV (As := []) (rest := []) ⟨hx, hb, hml, hown, hg⟩ (c_X3_thrown l D cI cL cQ (b 0) [.int w.1, .int (nI u.1.2.2), .ref (b 1), .ref (b 2), .ref (b 3), .ref (b 4), .int (zi kb), .long kU, .long kD, .ref (b 5), .long up, .long dn, .ref (b 6)] w.1 rfl) (cwV 0 hg (gw_V ml_L_59 im_X3_thrown se_X3_thrown ini_X3 co_X3_thrown) rfl rfl rfl (by decide +kernel) ⟨Nat.le_of_ble_eq_true rfl, Nat.le_of_ble_eq_true rfl⟩) ⟨pu_B.blind, va_recv hK hP (ci := 3) (q0 := 14) rfl rfl, fun U hU hW => ⟨rfl, pu_B.at hK (hP.sub (ws' := [(b 0, .inr (3, [.int w.1, .int (nI u.1.2.2), .ref (b 1), .ref (b 2), .ref (b 3), .ref (b 4), .int (zi kb), .long kU, .long kD, .ref (b 5), .long up, .long dn, .ref (b 6)]))]) [14] rfl) hU hW⟩⟩ rfl rfl hl.1 rfl (lv_room (Nat.le_of_ble_eq_true rfl)) dL_law_130 ⟨hk1, hk2⟩) (fun r_1 hr_1 => ?_)
  rw [hr_1]
  refine lv_iload hx hb dL_law_133 (lv_at hl 1 rfl) ?_
  refine lv_icmp_eq (tgt := 140) hx hb dL_law_135 (by decide) (fun c_2 => ?_) (fun c_2 => ?_)
  · refine lv_iload hx hb dL_law_140 (lv_at hl 1 rfl) ?_
    refine lv_if_ne (tgt := 157) hx hb dL_law_142 (by decide) (fun c_3 => ?_) (fun c_3 => ?_)
    · refine lv_goto (tgt := 708) hx hb dL_law_157 (by decide) ?_
      exact K u.1.1 pq nq u.1.2.1 ab lg u.1.2.2 kb u.2 w.1 w.2.1 w.2.2.1 od op kU kD kl up dn ml _ _ ls hag.2.2.2 hP hD hS (lv_sub hl [2, 3, 4, 5, 6] rfl)
    · refine lv_aload_n hx hb dL_law_145 rfl (lv_at hl 3 rfl) ?_
      refine lv_iconst (v := 0) hx hb dL_law_146 (by decide) ?_
      refine va_lald (D := D) (n := 1) (f := u.2) hx hb hK hP 13 1 rfl rfl (vp_in_nI (show 0 < 1 by decide) (by decide)) dL_law_147 ?_
      rw [show (0 : Int32).toNatClampNeg = 0 from by decide]
      refine lv_iload hx hb dL_law_148 (lv_at hl 0 rfl) ?_
      refine lv_i2l hx hb dL_law_150 rfl ?_
      refine W.lcmp hx hb dL_law_151 ?_
      refine lv_if_eq (tgt := 157) hx hb dL_law_152 (by decide) (fun c_4 => ?_) (fun c_4 => ?_)
      · replace c_4 := lc_eq.mp c_4
        refine lv_goto (tgt := 708) hx hb dL_law_157 (by decide) ?_
        exact K u.1.1 pq nq u.1.2.1 ab lg u.1.2.2 kb u.2 w.1 w.2.1 w.2.2.1 od op kU kD kl up dn ml _ _ ls hag.2.2.2 hP hD hS (lv_sub hl [2, 3, 4, 5, 6] rfl)
      · replace c_4 := fun h => c_4 (lc_eq.mpr h)
        refine lv_iconst (v := 0) hx hb dL_law_155 (by decide) ?_
        exact absurd (hag.2.1 c_3) c_4
  · refine lv_iconst (v := 0) hx hb dL_law_138 (by decide) ?_
    exact absurd hag.1 c_2
set_option maxHeartbeats 4000000 in
set_option maxRecDepth 100000 in
theorem lw_k1 {p : Program} {l : Launch} {e : Env} {s : State} {m : MethodId} {below : List Frame} {meth : Method} {c : Code} {D : va_G} {cI cL cQ : ClassId} {sc L : Nat} {xs : Nat → Int32} {a b : Nat → Nat} {o i k1 k2 : Nat} (C : lw_C p l s m meth c D cI cL cQ sc L xs) (hi : 4 * i + 4 ≤ L) (hk1 : k1 + 1 ≤ room_1.cells) (hk2 : k2 + 6 ≤ room_1.slots) (K : lw_R p l e s m below meth c D cI cL cQ sc a b o 708 i (k1 + 1) (k2 + 6)) : lw_R p l e s m below meth c D cI cL cQ sc a b o 160 i k1 k2 := by
  obtain ⟨hx, hb, hr, hml, hown, hg, hG, hK, hX, hbl, hlocks, hlt, hL⟩ := C
  intro pl pq nq nm ab lg cnt kb f cod pl' nm' od op kU kD kl up dn ml H locs ls hiv hP hD hS hl
  have hc : cnt ≤ 3 := hiv.1
  have hk1z : k1 + 0 ≤ room_1.cells := by omega
  have hk2z : k2 + 0 ≤ room_1.slots := by omega
  have hA : ∀ q : Nat, s.heap.size ≤ q → lA s q := fun _ h => h
  have hbA : ¬ lA s sc := Nat.not_le.mpr hbl
  refine lv_aload_n hx hb dL_law_160 rfl (lv_at hl 3 rfl) ?_
  refine lv_aload_n hx hb dL_law_161 rfl (lv_at hl 4 rfl) ?_
  refine lv_iload hx hb dL_law_162 (lv_at hl 0 rfl) ?_
  refine lv_iconst (v := 1) hx hb dL_law_164 (by decide) ?_
  refine lv_iadd hx hb dL_law_165 ?_
  rw [show (nI (4 * i)) + (1 : Int32) = nI ((4 * i) + 1) from nI_add (4 * i) 1]
  refine va_sld (b := sc) (L := L) (xs := xs) (i := nI ((4 * i) + 1)) hx hb hX hbl hbA hS (vp_in_nI (show ((4 * i) + 1) < L by omega) (by omega)) dL_law_166 ?_
  rw [nI_clamp (show ((4 * i) + 1) < 2 ^ 31 by omega)]
  refine va_calli (vx_runSW (As := [.ref (a 0), .int (xs ((4 * i) + 1))]) (rest := []) ⟨hx, hb, hml, hown, hg⟩ (c_L_join l hlt (lA s) D cI cL cQ (mw cI b cod (nI cnt) pl' nm' od op (zi kb) kU kD kl up dn ml) a pl pq nq nm ab lg cnt hc kb o f (xs ((4 * i) + 1))) (vx_cwSW 2 hg (gw_SW ml_L_63 sm_L_join ini_L co_L_join) rfl rfl rfl (by decide +kernel) ⟨Nat.le_of_ble_eq_true rfl, Nat.le_of_ble_eq_true rfl⟩) ⟨wd_B.blind, fun U hU hW => ⟨rfl, wd_B.at hG hK hP hD hS hA hU hW⟩⟩ rfl rfl hl.1 rfl (lv_room (Nat.le_of_ble_eq_true rfl)) dL_law_167 ⟨hk1, hk2⟩) hS (fun q _ h => h) (fun q h => h) (fun r u t H1 locs ht hvm h1 hB hz1 hk9 hS => ?_)
  obtain ⟨hK, hP, hD⟩ := hB.back ht hvm
  generalize H1 = H at hP hS ⊢
  have hP : va_P D vwCl (lww cI cL cQ a b o u.1.1 pq nq u.1.2.1 ab lg u.1.2.2 kb u.2 cod cnt pl' nm' od op kb kU kD kl up dn ml) H := hP
  have hD : va_D (lA s) (lww cI cL cQ a b o u.1.1 pq nq u.1.2.1 ab lg u.1.2.2 kb u.2 cod cnt pl' nm' od op kb kU kD kl up dn ml) := hD
  refine lv_istore (lv' := [(5, .int r), (4, .int (nI (4 * i))), (3, .ref o), (2, .ref (b 0)), (1, .ref (a 0)), (0, .ref sc)]) hx hb dL_law_170 hl (by decide) rfl (fun ls hl => ?_)
  refine lv_aload_n hx hb dL_law_172 rfl (lv_at hl 3 rfl) ?_
  refine lv_aload_n hx hb dL_law_173 rfl (lv_at hl 5 rfl) ?_
  refine lv_iload hx hb dL_law_174 (lv_at hl 1 rfl) ?_
  refine lv_iconst (v := 1) hx hb dL_law_176 (by decide) ?_
  refine lv_iadd hx hb dL_law_177 ?_
  rw [show (nI (4 * i)) + (1 : Int32) = nI ((4 * i) + 1) from nI_add (4 * i) 1]
  refine va_sld (b := sc) (L := L) (xs := xs) (i := nI ((4 * i) + 1)) hx hb hX hbl hbA hS (vp_in_nI (show ((4 * i) + 1) < L by omega) (by omega)) dL_law_178 ?_
  rw [nI_clamp (show ((4 * i) + 1) < 2 ^ 31 by omega)]
  have hPm := pm_P hP
  have hDm := pm_D hD
  refine va_callv (va_runV (As := [.int (xs ((4 * i) + 1))]) (rest := []) ⟨hx, hb, hml, hown, hg⟩ (c_X3_join l (lA s) D cI cL cQ (xw cI cQ a u.1.1 pq nq u.1.2.1 ab lg (nI u.1.2.2) (zi kb) ++ [ow cL o u.2]) b cod cnt hc pl' nm' od op kb kU kD kl up dn ml (xs ((4 * i) + 1))) (cwV 1 hg (gw_V ml_L_66 im_X3_join se_X3_join ini_X3 co_X3_join) rfl rfl rfl (by decide +kernel) ⟨Nat.le_of_ble_eq_true rfl, Nat.le_of_ble_eq_true rfl⟩) ⟨wd_B.blind, va_recv hK hPm (ci := 3) (q0 := 0) rfl rfl, fun U hU hW => ⟨rfl, wd_B.at hG hK hPm hDm hS hA hU hW⟩⟩ rfl rfl hl.1 rfl (lv_room (Nat.le_of_ble_eq_true rfl)) dL_law_179 ⟨hk1, hk2⟩) hS (fun q _ h => h) (fun q h => h) (fun w t H1 locs ht hvm h2 hB hz1 hk9 hS => ?_)
  obtain ⟨hK, hP, hD⟩ := hB.back ht hvm
  clear hPm hDm
  generalize H1 = H at hP hS ⊢
  have hP := mp_P (show va_P D vwCl (lwm cI cL cQ a b o u.1.1 pq nq u.1.2.1 ab lg u.1.2.2 kb u.2 w.1 w.2.2.2 w.2.1 w.2.2.1 od op kb kU kD kl up dn ml) H from hP)
  have hD := mp_D (show va_D (lA s) (lwm cI cL cQ a b o u.1.1 pq nq u.1.2.1 ab lg u.1.2.2 kb u.2 w.1 w.2.2.2 w.2.1 w.2.2.1 od op kb kU kD kl up dn ml) from hD)
  have hag := ag_join hiv h1 h2
  rw [hag.2.1] at hP hD
  have hP : va_P D vwCl (lww cI cL cQ a b o u.1.1 pq nq u.1.2.1 ab lg u.1.2.2 kb u.2 w.1 u.1.2.2 w.2.1 w.2.2.1 od op kb kU kD kl up dn ml) H := hP
  have hD : va_D (lA s) (lww cI cL cQ a b o u.1.1 pq nq u.1.2.1 ab lg u.1.2.2 kb u.2 w.1 u.1.2.2 w.2.1 w.2.2.1 od op kb kU kD kl up dn ml) := hD
  refine lv_aload_n hx hb dL_law_182 rfl (lv_at hl 3 rfl) ?_
  refine vp_callSi (W.runV (As := []) (rest := []) ⟨hx, hb, hml, hown, hg⟩ (c_X3_thrown l D cI cL cQ (b 0) [.int w.1, .int (nI u.1.2.2), .ref (b 1), .ref (b 2), .ref (b 3), .ref (b 4), .int (zi kb), .long kU, .long kD, .ref (b 5), .long up, .long dn, .ref (b 6)] w.1 rfl) (cwV 0 hg (gw_V ml_L_59 im_X3_thrown se_X3_thrown ini_X3 co_X3_thrown) rfl rfl rfl (by decide +kernel) ⟨Nat.le_of_ble_eq_true rfl, Nat.le_of_ble_eq_true rfl⟩) ⟨pu_B.blind, va_recv hK hP (ci := 3) (q0 := 14) rfl rfl, fun U hU hW => ⟨rfl, pu_B.at hK (hP.sub (ws' := [(b 0, .inr (3, [.int w.1, .int (nI u.1.2.2), .ref (b 1), .ref (b 2), .ref (b 3), .ref (b 4), .int (zi kb), .long kU, .long kD, .ref (b 5), .long up, .long dn, .ref (b 6)]))]) [14] rfl) hU hW⟩⟩ rfl rfl hl.1 rfl (lv_room (Nat.le_of_ble_eq_true rfl)) dL_law_183 ⟨hk1, hk2⟩) (fun r_1 hr_1 => ?_)
  rw [hr_1]
  refine lv_iload hx hb dL_law_186 (lv_at hl 0 rfl) ?_
  refine lv_icmp_eq (tgt := 193) hx hb dL_law_188 (by decide) (fun c_2 => ?_) (fun c_2 => ?_)
  · refine lv_goto (tgt := 708) hx hb dL_law_193 (by decide) ?_
    exact K u.1.1 pq nq u.1.2.1 ab lg u.1.2.2 kb u.2 w.1 w.2.1 w.2.2.1 od op kU kD kl up dn ml _ _ ls hag.2.2 hP hD hS (lv_sub hl [1, 2, 3, 4, 5] rfl)
  · refine lv_iconst (v := 0) hx hb dL_law_191 (by decide) ?_
    exact absurd hag.1 c_2
set_option maxHeartbeats 4000000 in
set_option maxRecDepth 100000 in
theorem lw_k2 {p : Program} {l : Launch} {e : Env} {s : State} {m : MethodId} {below : List Frame} {meth : Method} {c : Code} {D : va_G} {cI cL cQ : ClassId} {sc L : Nat} {xs : Nat → Int32} {a b : Nat → Nat} {o i k1 k2 : Nat} (C : lw_C p l s m meth c D cI cL cQ sc L xs) (hi : 4 * i + 4 ≤ L) (hk1 : k1 + 1 ≤ room_1.cells) (hk2 : k2 + 6 ≤ room_1.slots) (K : lw_R p l e s m below meth c D cI cL cQ sc a b o 708 i (k1 + 1) (k2 + 6)) : lw_R p l e s m below meth c D cI cL cQ sc a b o 196 i k1 k2 := by
  obtain ⟨hx, hb, hr, hml, hown, hg, hG, hK, hX, hbl, hlocks, hlt, hL⟩ := C
  intro pl pq nq nm ab lg cnt kb f cod pl' nm' od op kU kD kl up dn ml H locs ls hiv hP hD hS hl
  have hc : cnt ≤ 3 := hiv.1
  have hk1z : k1 + 0 ≤ room_1.cells := by omega
  have hk2z : k2 + 0 ≤ room_1.slots := by omega
  have hA : ∀ q : Nat, s.heap.size ≤ q → lA s q := fun _ h => h
  have hbA : ¬ lA s sc := Nat.not_le.mpr hbl
  refine lv_aload_n hx hb dL_law_196 rfl (lv_at hl 3 rfl) ?_
  refine lv_aload_n hx hb dL_law_197 rfl (lv_at hl 4 rfl) ?_
  refine lv_iload hx hb dL_law_198 (lv_at hl 0 rfl) ?_
  refine lv_iconst (v := 1) hx hb dL_law_200 (by decide) ?_
  refine lv_iadd hx hb dL_law_201 ?_
  rw [show (nI (4 * i)) + (1 : Int32) = nI ((4 * i) + 1) from nI_add (4 * i) 1]
  refine va_sld (b := sc) (L := L) (xs := xs) (i := nI ((4 * i) + 1)) hx hb hX hbl hbA hS (vp_in_nI (show ((4 * i) + 1) < L by omega) (by omega)) dL_law_202 ?_
  rw [nI_clamp (show ((4 * i) + 1) < 2 ^ 31 by omega)]
  refine lv_aload_n hx hb dL_law_203 rfl (lv_at hl 4 rfl) ?_
  refine lv_iload hx hb dL_law_204 (lv_at hl 0 rfl) ?_
  refine lv_iconst (v := 2) hx hb dL_law_206 (by decide) ?_
  refine lv_iadd hx hb dL_law_207 ?_
  rw [show (nI (4 * i)) + (2 : Int32) = nI ((4 * i) + 2) from nI_add (4 * i) 2]
  refine va_sld (b := sc) (L := L) (xs := xs) (i := nI ((4 * i) + 2)) hx hb hX hbl hbA hS (vp_in_nI (show ((4 * i) + 2) < L by omega) (by omega)) dL_law_208 ?_
  rw [nI_clamp (show ((4 * i) + 2) < 2 ^ 31 by omega)]
  refine lv_aload_n hx hb dL_law_209 rfl (lv_at hl 4 rfl) ?_
  refine lv_iload hx hb dL_law_210 (lv_at hl 0 rfl) ?_
  refine lv_iconst (v := 3) hx hb dL_law_212 (by decide) ?_
  refine lv_iadd hx hb dL_law_213 ?_
  rw [show (nI (4 * i)) + (3 : Int32) = nI ((4 * i) + 3) from nI_add (4 * i) 3]
  refine va_sld (b := sc) (L := L) (xs := xs) (i := nI ((4 * i) + 3)) hx hb hX hbl hbA hS (vp_in_nI (show ((4 * i) + 3) < L by omega) (by omega)) dL_law_214 ?_
  rw [nI_clamp (show ((4 * i) + 3) < 2 ^ 31 by omega)]
  refine lv_aload_n hx hb dL_law_215 rfl (lv_at hl 1 rfl) ?_
  refine va_calli (vx_runSW (As := [.ref (a 0), .int (xs ((4 * i) + 1)), .int (xs ((4 * i) + 2)), .int (xs ((4 * i) + 3)), .ref o]) (rest := []) ⟨hx, hb, hml, hown, hg⟩ (c_L_put l hlt (lA s) D cI cL cQ (mw cI b cod (nI cnt) pl' nm' od op (zi kb) kU kD kl up dn ml) a pl pq nq nm ab lg cnt hc kb o f (xs ((4 * i) + 1)) (xs ((4 * i) + 2)) (xs ((4 * i) + 3))) (vx_cwSW 5 hg (gw_SW ml_L_67 sm_L_put ini_L co_L_put) rfl rfl rfl (by decide +kernel) ⟨Nat.le_of_ble_eq_true rfl, Nat.le_of_ble_eq_true rfl⟩) ⟨wd_B.blind, fun U hU hW => ⟨rfl, wd_B.at hG hK hP hD hS hA hU hW⟩⟩ rfl rfl hl.1 rfl (lv_room (Nat.le_of_ble_eq_true rfl)) dL_law_216 ⟨hk1, hk2⟩) hS (fun q _ h => h) (fun q h => h) (fun r u t H1 locs ht hvm h1 hB hz1 hk9 hS => ?_)
  obtain ⟨hK, hP, hD⟩ := hB.back ht hvm
  generalize H1 = H at hP hS ⊢
  have hP : va_P D vwCl (lww cI cL cQ a b o pl pq nq u.1 ab lg cnt kb u.2 cod cnt pl' nm' od op kb kU kD kl up dn ml) H := hP
  have hD : va_D (lA s) (lww cI cL cQ a b o pl pq nq u.1 ab lg cnt kb u.2 cod cnt pl' nm' od op kb kU kD kl up dn ml) := hD
  refine lv_istore (lv' := [(5, .int r), (4, .int (nI (4 * i))), (3, .ref o), (2, .ref (b 0)), (1, .ref (a 0)), (0, .ref sc)]) hx hb dL_law_219 hl (by decide) rfl (fun ls hl => ?_)
  refine lv_aload_n hx hb dL_law_221 rfl (lv_at hl 3 rfl) ?_
  refine lv_aload_n hx hb dL_law_222 rfl (lv_at hl 5 rfl) ?_
  refine lv_iload hx hb dL_law_223 (lv_at hl 1 rfl) ?_
  refine lv_iconst (v := 1) hx hb dL_law_225 (by decide) ?_
  refine lv_iadd hx hb dL_law_226 ?_
  rw [show (nI (4 * i)) + (1 : Int32) = nI ((4 * i) + 1) from nI_add (4 * i) 1]
  refine va_sld (b := sc) (L := L) (xs := xs) (i := nI ((4 * i) + 1)) hx hb hX hbl hbA hS (vp_in_nI (show ((4 * i) + 1) < L by omega) (by omega)) dL_law_227 ?_
  rw [nI_clamp (show ((4 * i) + 1) < 2 ^ 31 by omega)]
  refine lv_aload_n hx hb dL_law_228 rfl (lv_at hl 5 rfl) ?_
  refine lv_iload hx hb dL_law_229 (lv_at hl 1 rfl) ?_
  refine lv_iconst (v := 2) hx hb dL_law_231 (by decide) ?_
  refine lv_iadd hx hb dL_law_232 ?_
  rw [show (nI (4 * i)) + (2 : Int32) = nI ((4 * i) + 2) from nI_add (4 * i) 2]
  refine va_sld (b := sc) (L := L) (xs := xs) (i := nI ((4 * i) + 2)) hx hb hX hbl hbA hS (vp_in_nI (show ((4 * i) + 2) < L by omega) (by omega)) dL_law_233 ?_
  rw [nI_clamp (show ((4 * i) + 2) < 2 ^ 31 by omega)]
  refine lv_aload_n hx hb dL_law_234 rfl (lv_at hl 5 rfl) ?_
  refine lv_iload hx hb dL_law_235 (lv_at hl 1 rfl) ?_
  refine lv_iconst (v := 3) hx hb dL_law_237 (by decide) ?_
  refine lv_iadd hx hb dL_law_238 ?_
  rw [show (nI (4 * i)) + (3 : Int32) = nI ((4 * i) + 3) from nI_add (4 * i) 3]
  refine va_sld (b := sc) (L := L) (xs := xs) (i := nI ((4 * i) + 3)) hx hb hX hbl hbA hS (vp_in_nI (show ((4 * i) + 3) < L by omega) (by omega)) dL_law_239 ?_
  rw [nI_clamp (show ((4 * i) + 3) < 2 ^ 31 by omega)]
  have hPm := pm_P hP
  have hDm := pm_D hD
  refine va_calli (va_runV (As := [.int (xs ((4 * i) + 1)), .int (xs ((4 * i) + 2)), .int (xs ((4 * i) + 3))]) (rest := []) ⟨hx, hb, hml, hown, hg⟩ (c_X3_put l (lA s) D cI cL cQ (xw cI cQ a pl pq nq u.1 ab lg (nI cnt) (zi kb) ++ [ow cL o u.2]) b cod cnt hc pl' nm' od op kb kU kD kl up dn ml (xs ((4 * i) + 1)) (xs ((4 * i) + 2)) (xs ((4 * i) + 3))) (cwV 3 hg (gw_V ml_L_70 im_X3_put se_X3_put ini_X3 co_X3_put) rfl rfl rfl (by decide +kernel) ⟨Nat.le_of_ble_eq_true rfl, Nat.le_of_ble_eq_true rfl⟩) ⟨wd_B.blind, va_recv hK hPm (ci := 3) (q0 := 0) rfl rfl, fun U hU hW => ⟨rfl, wd_B.at hG hK hPm hDm hS hA hU hW⟩⟩ rfl rfl hl.1 rfl (lv_room (Nat.le_of_ble_eq_true rfl)) dL_law_240 ⟨hk1, hk2⟩) hS (fun q _ h => h) (fun q h => h) (fun r2 w t H1 locs ht hvm h2 hB hz1 hk9 hS => ?_)
  obtain ⟨hK, hP, hD⟩ := hB.back ht hvm
  clear hPm hDm
  generalize H1 = H at hP hS ⊢
  have hP := mp_P (show va_P D vwCl (lwm cI cL cQ a b o pl pq nq u.1 ab lg cnt kb u.2 w.1 cnt pl' w.2 od op kb kU kD kl up dn ml) H from hP)
  have hD := mp_D (show va_D (lA s) (lwm cI cL cQ a b o pl pq nq u.1 ab lg cnt kb u.2 w.1 cnt pl' w.2 od op kb kU kD kl up dn ml) from hD)
  have hag := ag_put (c := 0) hiv h1 h2
  have hP : va_P D vwCl (lww cI cL cQ a b o pl pq nq u.1 ab lg cnt kb u.2 w.1 cnt pl' w.2 od op kb kU kD kl up dn ml) H := hP
  have hD : va_D (lA s) (lww cI cL cQ a b o pl pq nq u.1 ab lg cnt kb u.2 w.1 cnt pl' w.2 od op kb kU kD kl up dn ml) := hD
  refine lv_istore (lv' := [(6, .int r2), (5, .int r), (4, .int (nI (4 * i))), (3, .ref o), (2, .ref (b 0)), (1, .ref (a 0)), (0, .ref sc)]) hx hb dL_law_243 hl (by decide) rfl (fun ls hl => ?_)
  refine lv_aload_n hx hb dL_law_245 rfl (lv_at hl 4 rfl) ?_
  refine vp_callSi (W.runV (As := []) (rest := []) ⟨hx, hb, hml, hown, hg⟩ (c_X3_thrown l D cI cL cQ (b 0) [.int w.1, .int (nI cnt), .ref (b 1), .ref (b 2), .ref (b 3), .ref (b 4), .int (zi kb), .long kU, .long kD, .ref (b 5), .long up, .long dn, .ref (b 6)] w.1 rfl) (cwV 0 hg (gw_V ml_L_59 im_X3_thrown se_X3_thrown ini_X3 co_X3_thrown) rfl rfl rfl (by decide +kernel) ⟨Nat.le_of_ble_eq_true rfl, Nat.le_of_ble_eq_true rfl⟩) ⟨pu_B.blind, va_recv hK hP (ci := 3) (q0 := 14) rfl rfl, fun U hU hW => ⟨rfl, pu_B.at hK (hP.sub (ws' := [(b 0, .inr (3, [.int w.1, .int (nI cnt), .ref (b 1), .ref (b 2), .ref (b 3), .ref (b 4), .int (zi kb), .long kU, .long kD, .ref (b 5), .long up, .long dn, .ref (b 6)]))]) [14] rfl) hU hW⟩⟩ rfl rfl hl.1 rfl (lv_room (Nat.le_of_ble_eq_true rfl)) dL_law_246 ⟨hk1, hk2⟩) (fun r_1 hr_1 => ?_)
  rw [hr_1]
  refine lv_iload hx hb dL_law_249 (lv_at hl 1 rfl) ?_
  refine lv_icmp_eq (tgt := 256) hx hb dL_law_251 (by decide) (fun c_2 => ?_) (fun c_2 => ?_)
  · refine lv_iload hx hb dL_law_256 (lv_at hl 1 rfl) ?_
    refine lv_if_ne (tgt := 280) hx hb dL_law_258 (by decide) (fun c_3 => ?_) (fun c_3 => ?_)
    · refine lv_goto (tgt := 708) hx hb dL_law_280 (by decide) ?_
      exact K pl pq nq u.1 ab lg cnt kb u.2 w.1 pl' w.2 od op kU kD kl up dn ml _ _ ls hag.2.2 hP hD hS (lv_sub hl [2, 3, 4, 5, 6] rfl)
    · refine lv_aload_n hx hb dL_law_261 rfl (lv_at hl 3 rfl) ?_
      refine lv_iconst (v := 0) hx hb dL_law_262 (by decide) ?_
      refine va_lald (D := D) (n := 1) (f := u.2) hx hb hK hP 13 1 rfl rfl (vp_in_nI (show 0 < 1 by decide) (by decide)) dL_law_263 ?_
      rw [show (0 : Int32).toNatClampNeg = 0 from by decide]
      refine lv_iload hx hb dL_law_264 (lv_at hl 0 rfl) ?_
      refine lv_if_eq (tgt := 273) hx hb dL_law_266 (by decide) (fun c_4 => ?_) (fun c_4 => ?_)
      · refine lv_lconst (v := 0) hx hb dL_law_273 (by decide) ?_
        refine W.lcmp hx hb dL_law_274 ?_
        refine lv_if_eq (tgt := 280) hx hb dL_law_275 (by decide) (fun c_5 => ?_) (fun c_5 => ?_)
        · replace c_5 := lc_eq.mp c_5
          refine lv_goto (tgt := 708) hx hb dL_law_280 (by decide) ?_
          exact K pl pq nq u.1 ab lg cnt kb u.2 w.1 pl' w.2 od op kU kD kl up dn ml _ _ ls hag.2.2 hP hD hS (lv_sub hl [2, 3, 4, 5, 6] rfl)
        · replace c_5 := fun h => c_5 (lc_eq.mpr h)
          refine lv_iconst (v := 0) hx hb dL_law_278 (by decide) ?_
          exact absurd ((hag.2.1 c_3).trans (if_pos c_4)) c_5
      · refine lv_lconst (v := 1) hx hb dL_law_269 (by decide) ?_
        refine lv_goto (tgt := 274) hx hb dL_law_270 (by decide) ?_
        refine W.lcmp hx hb dL_law_274 ?_
        refine lv_if_eq (tgt := 280) hx hb dL_law_275 (by decide) (fun c_6 => ?_) (fun c_6 => ?_)
        · replace c_6 := lc_eq.mp c_6
          refine lv_goto (tgt := 708) hx hb dL_law_280 (by decide) ?_
          exact K pl pq nq u.1 ab lg cnt kb u.2 w.1 pl' w.2 od op kU kD kl up dn ml _ _ ls hag.2.2 hP hD hS (lv_sub hl [2, 3, 4, 5, 6] rfl)
        · replace c_6 := fun h => c_6 (lc_eq.mpr h)
          refine lv_iconst (v := 0) hx hb dL_law_278 (by decide) ?_
          exact absurd ((hag.2.1 c_3).trans (if_neg c_4)) c_6
  · refine lv_iconst (v := 0) hx hb dL_law_254 (by decide) ?_
    exact absurd hag.1 c_2
set_option maxHeartbeats 4000000 in
set_option maxRecDepth 100000 in
theorem lw_k3 {p : Program} {l : Launch} {e : Env} {s : State} {m : MethodId} {below : List Frame} {meth : Method} {c : Code} {D : va_G} {cI cL cQ : ClassId} {sc L : Nat} {xs : Nat → Int32} {a b : Nat → Nat} {o i k1 k2 : Nat} (C : lw_C p l s m meth c D cI cL cQ sc L xs) (hi : 4 * i + 4 ≤ L) (hk1 : k1 + 1 ≤ room_1.cells) (hk2 : k2 + 6 ≤ room_1.slots) (K : lw_R p l e s m below meth c D cI cL cQ sc a b o 708 i (k1 + 1) (k2 + 6)) : lw_R p l e s m below meth c D cI cL cQ sc a b o 283 i k1 k2 := by
  obtain ⟨hx, hb, hr, hml, hown, hg, hG, hK, hX, hbl, hlocks, hlt, hL⟩ := C
  intro pl pq nq nm ab lg cnt kb f cod pl' nm' od op kU kD kl up dn ml H locs ls hiv hP hD hS hl
  have hc : cnt ≤ 3 := hiv.1
  have hk1z : k1 + 0 ≤ room_1.cells := by omega
  have hk2z : k2 + 0 ≤ room_1.slots := by omega
  have hA : ∀ q : Nat, s.heap.size ≤ q → lA s q := fun _ h => h
  have hbA : ¬ lA s sc := Nat.not_le.mpr hbl
  refine lv_aload_n hx hb dL_law_283 rfl (lv_at hl 3 rfl) ?_
  refine lv_aload_n hx hb dL_law_284 rfl (lv_at hl 4 rfl) ?_
  refine lv_iload hx hb dL_law_285 (lv_at hl 0 rfl) ?_
  refine lv_iconst (v := 1) hx hb dL_law_287 (by decide) ?_
  refine lv_iadd hx hb dL_law_288 ?_
  rw [show (nI (4 * i)) + (1 : Int32) = nI ((4 * i) + 1) from nI_add (4 * i) 1]
  refine va_sld (b := sc) (L := L) (xs := xs) (i := nI ((4 * i) + 1)) hx hb hX hbl hbA hS (vp_in_nI (show ((4 * i) + 1) < L by omega) (by omega)) dL_law_289 ?_
  rw [nI_clamp (show ((4 * i) + 1) < 2 ^ 31 by omega)]
  refine lv_aload_n hx hb dL_law_290 rfl (lv_at hl 4 rfl) ?_
  refine lv_iload hx hb dL_law_291 (lv_at hl 0 rfl) ?_
  refine lv_iconst (v := 2) hx hb dL_law_293 (by decide) ?_
  refine lv_iadd hx hb dL_law_294 ?_
  rw [show (nI (4 * i)) + (2 : Int32) = nI ((4 * i) + 2) from nI_add (4 * i) 2]
  refine va_sld (b := sc) (L := L) (xs := xs) (i := nI ((4 * i) + 2)) hx hb hX hbl hbA hS (vp_in_nI (show ((4 * i) + 2) < L by omega) (by omega)) dL_law_295 ?_
  rw [nI_clamp (show ((4 * i) + 2) < 2 ^ 31 by omega)]
  refine lv_aload_n hx hb dL_law_296 rfl (lv_at hl 1 rfl) ?_
  refine va_calli (vx_runSW (As := [.ref (a 0), .int (xs ((4 * i) + 1)), .int (xs ((4 * i) + 2)), .ref o]) (rest := []) ⟨hx, hb, hml, hown, hg⟩ (c_L_at l hlt (lA s) D cI cL cQ (mw cI b cod (nI cnt) pl' nm' od op (zi kb) kU kD kl up dn ml) a pl pq nq nm ab lg cnt hc kb o f (xs ((4 * i) + 1)) (xs ((4 * i) + 2))) (vx_cwSW 4 hg (gw_SW ml_L_71 sm_L_at ini_L co_L_at) rfl rfl rfl (by decide +kernel) ⟨Nat.le_of_ble_eq_true rfl, Nat.le_of_ble_eq_true rfl⟩) ⟨wd_B.blind, fun U hU hW => ⟨rfl, wd_B.at hG hK hP hD hS hA hU hW⟩⟩ rfl rfl hl.1 rfl (lv_room (Nat.le_of_ble_eq_true rfl)) dL_law_297 ⟨hk1, hk2⟩) hS (fun q _ h => h) (fun q h => h) (fun r u t H1 locs ht hvm h1 hB hz1 hk9 hS => ?_)
  obtain ⟨hK, hP, hD⟩ := hB.back ht hvm
  generalize H1 = H at hP hS ⊢
  have hP : va_P D vwCl (lww cI cL cQ a b o pl pq nq nm ab lg cnt kb u.2 cod cnt pl' nm' od op kb kU kD kl up dn ml) H := hP
  have hD : va_D (lA s) (lww cI cL cQ a b o pl pq nq nm ab lg cnt kb u.2 cod cnt pl' nm' od op kb kU kD kl up dn ml) := hD
  refine lv_istore (lv' := [(5, .int r), (4, .int (nI (4 * i))), (3, .ref o), (2, .ref (b 0)), (1, .ref (a 0)), (0, .ref sc)]) hx hb dL_law_300 hl (by decide) rfl (fun ls hl => ?_)
  refine lv_aload_n hx hb dL_law_302 rfl (lv_at hl 3 rfl) ?_
  refine lv_aload_n hx hb dL_law_303 rfl (lv_at hl 5 rfl) ?_
  refine lv_iload hx hb dL_law_304 (lv_at hl 1 rfl) ?_
  refine lv_iconst (v := 1) hx hb dL_law_306 (by decide) ?_
  refine lv_iadd hx hb dL_law_307 ?_
  rw [show (nI (4 * i)) + (1 : Int32) = nI ((4 * i) + 1) from nI_add (4 * i) 1]
  refine va_sld (b := sc) (L := L) (xs := xs) (i := nI ((4 * i) + 1)) hx hb hX hbl hbA hS (vp_in_nI (show ((4 * i) + 1) < L by omega) (by omega)) dL_law_308 ?_
  rw [nI_clamp (show ((4 * i) + 1) < 2 ^ 31 by omega)]
  refine lv_aload_n hx hb dL_law_309 rfl (lv_at hl 5 rfl) ?_
  refine lv_iload hx hb dL_law_310 (lv_at hl 1 rfl) ?_
  refine lv_iconst (v := 2) hx hb dL_law_312 (by decide) ?_
  refine lv_iadd hx hb dL_law_313 ?_
  rw [show (nI (4 * i)) + (2 : Int32) = nI ((4 * i) + 2) from nI_add (4 * i) 2]
  refine va_sld (b := sc) (L := L) (xs := xs) (i := nI ((4 * i) + 2)) hx hb hX hbl hbA hS (vp_in_nI (show ((4 * i) + 2) < L by omega) (by omega)) dL_law_314 ?_
  rw [nI_clamp (show ((4 * i) + 2) < 2 ^ 31 by omega)]
  have hPm := pm_P hP
  have hDm := pm_D hD
  refine va_calli (va_runV (As := [.int (xs ((4 * i) + 1)), .int (xs ((4 * i) + 2))]) (rest := []) ⟨hx, hb, hml, hown, hg⟩ (c_X3_at l (lA s) D cI cL cQ (xw cI cQ a pl pq nq nm ab lg (nI cnt) (zi kb) ++ [ow cL o u.2]) b cod cnt hc pl' nm' od op kb kU kD kl up dn ml (xs ((4 * i) + 1)) (xs ((4 * i) + 2))) (cwV 2 hg (gw_V ml_L_74 im_X3_at se_X3_at ini_X3 co_X3_at) rfl rfl rfl (by decide +kernel) ⟨Nat.le_of_ble_eq_true rfl, Nat.le_of_ble_eq_true rfl⟩) ⟨wd_B.blind, va_recv hK hPm (ci := 3) (q0 := 0) rfl rfl, fun U hU hW => ⟨rfl, wd_B.at hG hK hPm hDm hS hA hU hW⟩⟩ rfl rfl hl.1 rfl (lv_room (Nat.le_of_ble_eq_true rfl)) dL_law_315 ⟨hk1, hk2⟩) hS (fun q _ h => h) (fun q h => h) (fun r2 w t H1 locs ht hvm h2 hB hz1 hk9 hS => ?_)
  obtain ⟨hK, hP, hD⟩ := hB.back ht hvm
  clear hPm hDm
  generalize H1 = H at hP hS ⊢
  have hP := mp_P (show va_P D vwCl (lwm cI cL cQ a b o pl pq nq nm ab lg cnt kb u.2 w cnt pl' nm' od op kb kU kD kl up dn ml) H from hP)
  have hD := mp_D (show va_D (lA s) (lwm cI cL cQ a b o pl pq nq nm ab lg cnt kb u.2 w cnt pl' nm' od op kb kU kD kl up dn ml) from hD)
  have hag := ag_at hiv h1 h2
  have hP : va_P D vwCl (lww cI cL cQ a b o pl pq nq nm ab lg cnt kb u.2 w cnt pl' nm' od op kb kU kD kl up dn ml) H := hP
  have hD : va_D (lA s) (lww cI cL cQ a b o pl pq nq nm ab lg cnt kb u.2 w cnt pl' nm' od op kb kU kD kl up dn ml) := hD
  refine lv_istore (lv' := [(6, .int r2), (5, .int r), (4, .int (nI (4 * i))), (3, .ref o), (2, .ref (b 0)), (1, .ref (a 0)), (0, .ref sc)]) hx hb dL_law_318 hl (by decide) rfl (fun ls hl => ?_)
  refine lv_aload_n hx hb dL_law_320 rfl (lv_at hl 4 rfl) ?_
  refine vp_callSi (W.runV (As := []) (rest := []) ⟨hx, hb, hml, hown, hg⟩ (c_X3_thrown l D cI cL cQ (b 0) [.int w, .int (nI cnt), .ref (b 1), .ref (b 2), .ref (b 3), .ref (b 4), .int (zi kb), .long kU, .long kD, .ref (b 5), .long up, .long dn, .ref (b 6)] w rfl) (cwV 0 hg (gw_V ml_L_59 im_X3_thrown se_X3_thrown ini_X3 co_X3_thrown) rfl rfl rfl (by decide +kernel) ⟨Nat.le_of_ble_eq_true rfl, Nat.le_of_ble_eq_true rfl⟩) ⟨pu_B.blind, va_recv hK hP (ci := 3) (q0 := 14) rfl rfl, fun U hU hW => ⟨rfl, pu_B.at hK (hP.sub (ws' := [(b 0, .inr (3, [.int w, .int (nI cnt), .ref (b 1), .ref (b 2), .ref (b 3), .ref (b 4), .int (zi kb), .long kU, .long kD, .ref (b 5), .long up, .long dn, .ref (b 6)]))]) [14] rfl) hU hW⟩⟩ rfl rfl hl.1 rfl (lv_room (Nat.le_of_ble_eq_true rfl)) dL_law_321 ⟨hk1, hk2⟩) (fun r_1 hr_1 => ?_)
  rw [hr_1]
  refine lv_iload hx hb dL_law_324 (lv_at hl 1 rfl) ?_
  refine lv_icmp_eq (tgt := 331) hx hb dL_law_326 (by decide) (fun c_2 => ?_) (fun c_2 => ?_)
  · refine lv_iload hx hb dL_law_331 (lv_at hl 1 rfl) ?_
    refine lv_if_ne (tgt := 348) hx hb dL_law_333 (by decide) (fun c_3 => ?_) (fun c_3 => ?_)
    · refine lv_goto (tgt := 708) hx hb dL_law_348 (by decide) ?_
      exact K pl pq nq nm ab lg cnt kb u.2 w pl' nm' od op kU kD kl up dn ml _ _ ls hiv hP hD hS (lv_sub hl [2, 3, 4, 5, 6] rfl)
    · refine lv_aload_n hx hb dL_law_336 rfl (lv_at hl 3 rfl) ?_
      refine lv_iconst (v := 0) hx hb dL_law_337 (by decide) ?_
      refine va_lald (D := D) (n := 1) (f := u.2) hx hb hK hP 13 1 rfl rfl (vp_in_nI (show 0 < 1 by decide) (by decide)) dL_law_338 ?_
      rw [show (0 : Int32).toNatClampNeg = 0 from by decide]
      refine lv_iload hx hb dL_law_339 (lv_at hl 0 rfl) ?_
      refine lv_i2l hx hb dL_law_341 rfl ?_
      refine W.lcmp hx hb dL_law_342 ?_
      refine lv_if_eq (tgt := 348) hx hb dL_law_343 (by decide) (fun c_4 => ?_) (fun c_4 => ?_)
      · replace c_4 := lc_eq.mp c_4
        refine lv_goto (tgt := 708) hx hb dL_law_348 (by decide) ?_
        exact K pl pq nq nm ab lg cnt kb u.2 w pl' nm' od op kU kD kl up dn ml _ _ ls hiv hP hD hS (lv_sub hl [2, 3, 4, 5, 6] rfl)
      · replace c_4 := fun h => c_4 (lc_eq.mpr h)
        refine lv_iconst (v := 0) hx hb dL_law_346 (by decide) ?_
        exact absurd (hag.2 c_3) c_4
  · refine lv_iconst (v := 0) hx hb dL_law_329 (by decide) ?_
    exact absurd hag.1 c_2
set_option maxHeartbeats 4000000 in
set_option maxRecDepth 100000 in
theorem lw_k4 {p : Program} {l : Launch} {e : Env} {s : State} {m : MethodId} {below : List Frame} {meth : Method} {c : Code} {D : va_G} {cI cL cQ : ClassId} {sc L : Nat} {xs : Nat → Int32} {a b : Nat → Nat} {o i k1 k2 : Nat} (C : lw_C p l s m meth c D cI cL cQ sc L xs) (hi : 4 * i + 4 ≤ L) (hk1 : k1 + 1 ≤ room_1.cells) (hk2 : k2 + 6 ≤ room_1.slots) (K : lw_R p l e s m below meth c D cI cL cQ sc a b o 708 i (k1 + 1) (k2 + 6)) : lw_R p l e s m below meth c D cI cL cQ sc a b o 351 i k1 k2 := by
  obtain ⟨hx, hb, hr, hml, hown, hg, hG, hK, hX, hbl, hlocks, hlt, hL⟩ := C
  intro pl pq nq nm ab lg cnt kb f cod pl' nm' od op kU kD kl up dn ml H locs ls hiv hP hD hS hl
  have hc : cnt ≤ 3 := hiv.1
  have hk1z : k1 + 0 ≤ room_1.cells := by omega
  have hk2z : k2 + 0 ≤ room_1.slots := by omega
  have hA : ∀ q : Nat, s.heap.size ≤ q → lA s q := fun _ h => h
  have hbA : ¬ lA s sc := Nat.not_le.mpr hbl
  refine lv_aload_n hx hb dL_law_351 rfl (lv_at hl 3 rfl) ?_
  refine lv_aload_n hx hb dL_law_352 rfl (lv_at hl 4 rfl) ?_
  refine lv_iload hx hb dL_law_353 (lv_at hl 0 rfl) ?_
  refine lv_iconst (v := 1) hx hb dL_law_355 (by decide) ?_
  refine lv_iadd hx hb dL_law_356 ?_
  rw [show (nI (4 * i)) + (1 : Int32) = nI ((4 * i) + 1) from nI_add (4 * i) 1]
  refine va_sld (b := sc) (L := L) (xs := xs) (i := nI ((4 * i) + 1)) hx hb hX hbl hbA hS (vp_in_nI (show ((4 * i) + 1) < L by omega) (by omega)) dL_law_357 ?_
  rw [nI_clamp (show ((4 * i) + 1) < 2 ^ 31 by omega)]
  refine lv_aload_n hx hb dL_law_358 rfl (lv_at hl 1 rfl) ?_
  refine va_calli (vx_runSW (As := [.ref (a 0), .int (xs ((4 * i) + 1)), .ref o]) (rest := []) ⟨hx, hb, hml, hown, hg⟩ (c_L_place l hlt (lA s) D cI cL cQ (mw cI b cod (nI cnt) pl' nm' od op (zi kb) kU kD kl up dn ml) a pl pq nq nm ab lg cnt hc kb o f (xs ((4 * i) + 1))) (vx_cwSW 3 hg (gw_SW ml_L_75 sm_L_place ini_L co_L_place) rfl rfl rfl (by decide +kernel) ⟨Nat.le_of_ble_eq_true rfl, Nat.le_of_ble_eq_true rfl⟩) ⟨wd_B.blind, fun U hU hW => ⟨rfl, wd_B.at hG hK hP hD hS hA hU hW⟩⟩ rfl rfl hl.1 rfl (lv_room (Nat.le_of_ble_eq_true rfl)) dL_law_359 ⟨hk1, hk2⟩) hS (fun q _ h => h) (fun q h => h) (fun r u t H1 locs ht hvm h1 hB hz1 hk9 hS => ?_)
  obtain ⟨hK, hP, hD⟩ := hB.back ht hvm
  generalize H1 = H at hP hS ⊢
  have hP : va_P D vwCl (lww cI cL cQ a b o pl pq nq nm ab lg cnt kb u.2 cod cnt pl' nm' od op kb kU kD kl up dn ml) H := hP
  have hD : va_D (lA s) (lww cI cL cQ a b o pl pq nq nm ab lg cnt kb u.2 cod cnt pl' nm' od op kb kU kD kl up dn ml) := hD
  refine lv_istore (lv' := [(5, .int r), (4, .int (nI (4 * i))), (3, .ref o), (2, .ref (b 0)), (1, .ref (a 0)), (0, .ref sc)]) hx hb dL_law_362 hl (by decide) rfl (fun ls hl => ?_)
  refine lv_aload_n hx hb dL_law_364 rfl (lv_at hl 3 rfl) ?_
  refine lv_aload_n hx hb dL_law_365 rfl (lv_at hl 5 rfl) ?_
  refine lv_iload hx hb dL_law_366 (lv_at hl 1 rfl) ?_
  refine lv_iconst (v := 1) hx hb dL_law_368 (by decide) ?_
  refine lv_iadd hx hb dL_law_369 ?_
  rw [show (nI (4 * i)) + (1 : Int32) = nI ((4 * i) + 1) from nI_add (4 * i) 1]
  refine va_sld (b := sc) (L := L) (xs := xs) (i := nI ((4 * i) + 1)) hx hb hX hbl hbA hS (vp_in_nI (show ((4 * i) + 1) < L by omega) (by omega)) dL_law_370 ?_
  rw [nI_clamp (show ((4 * i) + 1) < 2 ^ 31 by omega)]
  have hPm := pm_P hP
  have hDm := pm_D hD
  refine va_calli (va_runV (As := [.int (xs ((4 * i) + 1))]) (rest := []) ⟨hx, hb, hml, hown, hg⟩ (c_X3_place l (lA s) D cI cL cQ (xw cI cQ a pl pq nq nm ab lg (nI cnt) (zi kb) ++ [ow cL o u.2]) b cod cnt hc pl' nm' od op kb kU kD kl up dn ml (xs ((4 * i) + 1))) (cwV 1 hg (gw_V ml_L_77 im_X3_place se_X3_place ini_X3 co_X3_place) rfl rfl rfl (by decide +kernel) ⟨Nat.le_of_ble_eq_true rfl, Nat.le_of_ble_eq_true rfl⟩) ⟨wd_B.blind, va_recv hK hPm (ci := 3) (q0 := 0) rfl rfl, fun U hU hW => ⟨rfl, wd_B.at hG hK hPm hDm hS hA hU hW⟩⟩ rfl rfl hl.1 rfl (lv_room (Nat.le_of_ble_eq_true rfl)) dL_law_371 ⟨hk1, hk2⟩) hS (fun q _ h => h) (fun q h => h) (fun r2 w t H1 locs ht hvm h2 hB hz1 hk9 hS => ?_)
  obtain ⟨hK, hP, hD⟩ := hB.back ht hvm
  clear hPm hDm
  generalize H1 = H at hP hS ⊢
  have hP := mp_P (show va_P D vwCl (lwm cI cL cQ a b o pl pq nq nm ab lg cnt kb u.2 w cnt pl' nm' od op kb kU kD kl up dn ml) H from hP)
  have hD := mp_D (show va_D (lA s) (lwm cI cL cQ a b o pl pq nq nm ab lg cnt kb u.2 w cnt pl' nm' od op kb kU kD kl up dn ml) from hD)
  have hag := ag_place hiv h1 h2
  have hP : va_P D vwCl (lww cI cL cQ a b o pl pq nq nm ab lg cnt kb u.2 w cnt pl' nm' od op kb kU kD kl up dn ml) H := hP
  have hD : va_D (lA s) (lww cI cL cQ a b o pl pq nq nm ab lg cnt kb u.2 w cnt pl' nm' od op kb kU kD kl up dn ml) := hD
  refine lv_istore (lv' := [(6, .int r2), (5, .int r), (4, .int (nI (4 * i))), (3, .ref o), (2, .ref (b 0)), (1, .ref (a 0)), (0, .ref sc)]) hx hb dL_law_374 hl (by decide) rfl (fun ls hl => ?_)
  refine lv_aload_n hx hb dL_law_376 rfl (lv_at hl 4 rfl) ?_
  refine vp_callSi (W.runV (As := []) (rest := []) ⟨hx, hb, hml, hown, hg⟩ (c_X3_thrown l D cI cL cQ (b 0) [.int w, .int (nI cnt), .ref (b 1), .ref (b 2), .ref (b 3), .ref (b 4), .int (zi kb), .long kU, .long kD, .ref (b 5), .long up, .long dn, .ref (b 6)] w rfl) (cwV 0 hg (gw_V ml_L_59 im_X3_thrown se_X3_thrown ini_X3 co_X3_thrown) rfl rfl rfl (by decide +kernel) ⟨Nat.le_of_ble_eq_true rfl, Nat.le_of_ble_eq_true rfl⟩) ⟨pu_B.blind, va_recv hK hP (ci := 3) (q0 := 14) rfl rfl, fun U hU hW => ⟨rfl, pu_B.at hK (hP.sub (ws' := [(b 0, .inr (3, [.int w, .int (nI cnt), .ref (b 1), .ref (b 2), .ref (b 3), .ref (b 4), .int (zi kb), .long kU, .long kD, .ref (b 5), .long up, .long dn, .ref (b 6)]))]) [14] rfl) hU hW⟩⟩ rfl rfl hl.1 rfl (lv_room (Nat.le_of_ble_eq_true rfl)) dL_law_377 ⟨hk1, hk2⟩) (fun r_1 hr_1 => ?_)
  rw [hr_1]
  refine lv_iload hx hb dL_law_380 (lv_at hl 1 rfl) ?_
  refine lv_icmp_eq (tgt := 387) hx hb dL_law_382 (by decide) (fun c_2 => ?_) (fun c_2 => ?_)
  · refine lv_iload hx hb dL_law_387 (lv_at hl 1 rfl) ?_
    refine lv_if_ne (tgt := 404) hx hb dL_law_389 (by decide) (fun c_3 => ?_) (fun c_3 => ?_)
    · refine lv_goto (tgt := 708) hx hb dL_law_404 (by decide) ?_
      exact K pl pq nq nm ab lg cnt kb u.2 w pl' nm' od op kU kD kl up dn ml _ _ ls hiv hP hD hS (lv_sub hl [2, 3, 4, 5, 6] rfl)
    · refine lv_aload_n hx hb dL_law_392 rfl (lv_at hl 3 rfl) ?_
      refine lv_iconst (v := 0) hx hb dL_law_393 (by decide) ?_
      refine va_lald (D := D) (n := 1) (f := u.2) hx hb hK hP 13 1 rfl rfl (vp_in_nI (show 0 < 1 by decide) (by decide)) dL_law_394 ?_
      rw [show (0 : Int32).toNatClampNeg = 0 from by decide]
      refine lv_iload hx hb dL_law_395 (lv_at hl 0 rfl) ?_
      refine lv_i2l hx hb dL_law_397 rfl ?_
      refine W.lcmp hx hb dL_law_398 ?_
      refine lv_if_eq (tgt := 404) hx hb dL_law_399 (by decide) (fun c_4 => ?_) (fun c_4 => ?_)
      · replace c_4 := lc_eq.mp c_4
        refine lv_goto (tgt := 708) hx hb dL_law_404 (by decide) ?_
        exact K pl pq nq nm ab lg cnt kb u.2 w pl' nm' od op kU kD kl up dn ml _ _ ls hiv hP hD hS (lv_sub hl [2, 3, 4, 5, 6] rfl)
      · replace c_4 := fun h => c_4 (lc_eq.mpr h)
        refine lv_iconst (v := 0) hx hb dL_law_402 (by decide) ?_
        exact absurd (hag.2 c_3) c_4
  · refine lv_iconst (v := 0) hx hb dL_law_385 (by decide) ?_
    exact absurd hag.1 c_2
set_option maxHeartbeats 4000000 in
set_option maxRecDepth 100000 in
theorem lw_k5 {p : Program} {l : Launch} {e : Env} {s : State} {m : MethodId} {below : List Frame} {meth : Method} {c : Code} {D : va_G} {cI cL cQ : ClassId} {sc L : Nat} {xs : Nat → Int32} {a b : Nat → Nat} {o i k1 k2 : Nat} (C : lw_C p l s m meth c D cI cL cQ sc L xs) (hi : 4 * i + 4 ≤ L) (hk1 : k1 + 1 ≤ room_1.cells) (hk2 : k2 + 6 ≤ room_1.slots) (K : lw_R p l e s m below meth c D cI cL cQ sc a b o 708 i (k1 + 1) (k2 + 6)) : lw_R p l e s m below meth c D cI cL cQ sc a b o 407 i k1 k2 := by
  obtain ⟨hx, hb, hr, hml, hown, hg, hG, hK, hX, hbl, hlocks, hlt, hL⟩ := C
  intro pl pq nq nm ab lg cnt kb f cod pl' nm' od op kU kD kl up dn ml H locs ls hiv hP hD hS hl
  have hc : cnt ≤ 3 := hiv.1
  have hk1z : k1 + 0 ≤ room_1.cells := by omega
  have hk2z : k2 + 0 ≤ room_1.slots := by omega
  have hA : ∀ q : Nat, s.heap.size ≤ q → lA s q := fun _ h => h
  have hbA : ¬ lA s sc := Nat.not_le.mpr hbl
  refine lv_aload_n hx hb dL_law_407 rfl (lv_at hl 3 rfl) ?_
  refine va_callv (va_runV (As := []) (rest := []) ⟨hx, hb, hml, hown, hg⟩ (c_X2_mirror l (lA s) D cI cL cQ (ow cL o f :: mw cI b cod (nI cnt) pl' nm' od op (zi kb) kU kD kl up dn ml) a pl pq nq nm ab lg cnt hc (zi kb)) (cwV 0 hg (gw_V ml_L_78 im_X2_mirror se_X2_mirror ini_X2 co_X2_mirror) rfl rfl rfl (by decide +kernel) ⟨Nat.le_of_ble_eq_true rfl, Nat.le_of_ble_eq_true rfl⟩) ⟨wd_B.blind, va_recv hK hP (ci := 2) (q0 := 0) rfl rfl, fun U hU hW => ⟨rfl, wd_B.at hG hK hP hD hS hA hU hW⟩⟩ rfl rfl hl.1 rfl (lv_room (Nat.le_of_ble_eq_true rfl)) dL_law_408 ⟨hk1z, hk2z⟩) hS (fun q _ h => h) (fun q h => h) (fun u t H1 locs ht hvm h1 hB hz1 hk9 hS => ?_)
  obtain ⟨hK, hP, hD⟩ := hB.back ht hvm
  generalize H1 = H at hP hS ⊢
  have hP : va_P D vwCl (lww cI cL cQ a b o u.1 u.2.1 u.2.2.1 u.2.2.2 ab lg cnt kb f cod cnt pl' nm' od op kb kU kD kl up dn ml) H := hP
  have hD : va_D (lA s) (lww cI cL cQ a b o u.1 u.2.1 u.2.2.1 u.2.2.2 ab lg cnt kb f cod cnt pl' nm' od op kb kU kD kl up dn ml) := hD
  refine lv_aload_n hx hb dL_law_411 rfl (lv_at hl 2 rfl) ?_
  have hPm := pm_P hP
  have hDm := pm_D hD
  refine va_callv (va_runV (As := []) (rest := []) ⟨hx, hb, hml, hown, hg⟩ (c_X3_mirror l (lA s) D cI cL cQ (xw cI cQ a u.1 u.2.1 u.2.2.1 u.2.2.2 ab lg (nI cnt) (zi kb) ++ [ow cL o f]) b cod cnt hc pl' nm' od op kb kU kD kl up dn ml ) (cwV 0 hg (gw_V ml_L_81 im_X3_mirror se_X3_mirror ini_X3 co_X3_mirror) rfl rfl rfl (by decide +kernel) ⟨Nat.le_of_ble_eq_true rfl, Nat.le_of_ble_eq_true rfl⟩) ⟨wd_B.blind, va_recv hK hPm (ci := 3) (q0 := 0) rfl rfl, fun U hU hW => ⟨rfl, wd_B.at hG hK hPm hDm hS hA hU hW⟩⟩ rfl rfl hl.1 rfl (lv_room (Nat.le_of_ble_eq_true rfl)) dL_law_412 ⟨hk1z, hk2z⟩) hS (fun q _ h => h) (fun q h => h) (fun w t H1 locs ht hvm h2 hB hz1 hk9 hS => ?_)
  obtain ⟨hK, hP, hD⟩ := hB.back ht hvm
  clear hPm hDm
  generalize H1 = H at hP hS ⊢
  have hP := mp_P (show va_P D vwCl (lwm cI cL cQ a b o u.1 u.2.1 u.2.2.1 u.2.2.2 ab lg cnt kb f 0 cnt w.1 w.2.1 w.2.2.1 w.2.2.2 kb kU kD kl up dn ml) H from hP)
  have hD := mp_D (show va_D (lA s) (lwm cI cL cQ a b o u.1 u.2.1 u.2.2.1 u.2.2.2 ab lg cnt kb f 0 cnt w.1 w.2.1 w.2.2.1 w.2.2.2 kb kU kD kl up dn ml) from hD)
  have hag := ag_mirror hiv h1 h2
  have hP : va_P D vwCl (lww cI cL cQ a b o u.1 u.2.1 u.2.2.1 u.2.2.2 ab lg cnt kb f 0 cnt w.1 w.2.1 w.2.2.1 w.2.2.2 kb kU kD kl up dn ml) H := hP
  have hD : va_D (lA s) (lww cI cL cQ a b o u.1 u.2.1 u.2.2.1 u.2.2.2 ab lg cnt kb f 0 cnt w.1 w.2.1 w.2.2.1 w.2.2.2 kb kU kD kl up dn ml) := hD
  refine lv_goto (tgt := 708) hx hb dL_law_415 (by decide) ?_
  refine W.widen (k := k1 + 1) (n := k2 + 6) (Nat.le_add_right k1 1) (Nat.le_add_right k2 6) ?_
  exact K u.1 u.2.1 u.2.2.1 u.2.2.2 ab lg cnt kb f 0 w.1 w.2.1 w.2.2.1 w.2.2.2 kU kD kl up dn ml _ _ ls hag hP hD hS (lv_sub hl [0, 1, 2, 3, 4] rfl)
set_option maxHeartbeats 4000000 in
set_option maxRecDepth 100000 in
theorem lw_k6 {p : Program} {l : Launch} {e : Env} {s : State} {m : MethodId} {below : List Frame} {meth : Method} {c : Code} {D : va_G} {cI cL cQ : ClassId} {sc L : Nat} {xs : Nat → Int32} {a b : Nat → Nat} {o i k1 k2 : Nat} (C : lw_C p l s m meth c D cI cL cQ sc L xs) (hi : 4 * i + 4 ≤ L) (hk1 : k1 + 1 ≤ room_1.cells) (hk2 : k2 + 6 ≤ room_1.slots) (K : lw_R p l e s m below meth c D cI cL cQ sc a b o 708 i (k1 + 1) (k2 + 6)) : lw_R p l e s m below meth c D cI cL cQ sc a b o 418 i k1 k2 := by
  obtain ⟨hx, hb, hr, hml, hown, hg, hG, hK, hX, hbl, hlocks, hlt, hL⟩ := C
  intro pl pq nq nm ab lg cnt kb f cod pl' nm' od op kU kD kl up dn ml H locs ls hiv hP hD hS hl
  have hc : cnt ≤ 3 := hiv.1
  have hk1z : k1 + 0 ≤ room_1.cells := by omega
  have hk2z : k2 + 0 ≤ room_1.slots := by omega
  have hA : ∀ q : Nat, s.heap.size ≤ q → lA s q := fun _ h => h
  have hbA : ¬ lA s sc := Nat.not_le.mpr hbl
  refine lv_aload_n hx hb dL_law_418 rfl (lv_at hl 3 rfl) ?_
  refine lv_aload_n hx hb dL_law_419 rfl (lv_at hl 4 rfl) ?_
  refine lv_iload hx hb dL_law_420 (lv_at hl 0 rfl) ?_
  refine lv_iconst (v := 1) hx hb dL_law_422 (by decide) ?_
  refine lv_iadd hx hb dL_law_423 ?_
  rw [show (nI (4 * i)) + (1 : Int32) = nI ((4 * i) + 1) from nI_add (4 * i) 1]
  refine va_sld (b := sc) (L := L) (xs := xs) (i := nI ((4 * i) + 1)) hx hb hX hbl hbA hS (vp_in_nI (show ((4 * i) + 1) < L by omega) (by omega)) dL_law_424 ?_
  rw [nI_clamp (show ((4 * i) + 1) < 2 ^ 31 by omega)]
  refine lv_aload_n hx hb dL_law_425 rfl (lv_at hl 4 rfl) ?_
  refine lv_iload hx hb dL_law_426 (lv_at hl 0 rfl) ?_
  refine lv_iconst (v := 2) hx hb dL_law_428 (by decide) ?_
  refine lv_iadd hx hb dL_law_429 ?_
  rw [show (nI (4 * i)) + (2 : Int32) = nI ((4 * i) + 2) from nI_add (4 * i) 2]
  refine va_sld (b := sc) (L := L) (xs := xs) (i := nI ((4 * i) + 2)) hx hb hX hbl hbA hS (vp_in_nI (show ((4 * i) + 2) < L by omega) (by omega)) dL_law_430 ?_
  rw [nI_clamp (show ((4 * i) + 2) < 2 ^ 31 by omega)]
  refine lv_aload_n hx hb dL_law_431 rfl (lv_at hl 1 rfl) ?_
  refine va_calli (vx_runSW (As := [.ref (a 0), .int (xs ((4 * i) + 1)), .int (xs ((4 * i) + 2)), .ref o]) (rest := []) ⟨hx, hb, hml, hown, hg⟩ (c_L_value l hlt (lA s) D cI cL cQ (mw cI b cod (nI cnt) pl' nm' od op (zi kb) kU kD kl up dn ml) a pl pq nq nm ab lg cnt hc kb o f (xs ((4 * i) + 1)) (xs ((4 * i) + 2))) (vx_cwSW 4 hg (gw_SW ml_L_82 sm_L_value ini_L co_L_value) rfl rfl rfl (by decide +kernel) ⟨Nat.le_of_ble_eq_true rfl, Nat.le_of_ble_eq_true rfl⟩) ⟨wd_B.blind, fun U hU hW => ⟨rfl, wd_B.at hG hK hP hD hS hA hU hW⟩⟩ rfl rfl hl.1 rfl (lv_room (Nat.le_of_ble_eq_true rfl)) dL_law_432 ⟨hk1, hk2⟩) hS (fun q _ h => h) (fun q h => h) (fun r u t H1 locs ht hvm h1 hB hz1 hk9 hS => ?_)
  obtain ⟨hK, hP, hD⟩ := hB.back ht hvm
  generalize H1 = H at hP hS ⊢
  have hP : va_P D vwCl (lww cI cL cQ a b o pl pq nq nm ab lg cnt kb u.2 cod cnt pl' nm' od op kb kU kD kl up dn ml) H := hP
  have hD : va_D (lA s) (lww cI cL cQ a b o pl pq nq nm ab lg cnt kb u.2 cod cnt pl' nm' od op kb kU kD kl up dn ml) := hD
  refine lv_istore (lv' := [(5, .int r), (4, .int (nI (4 * i))), (3, .ref o), (2, .ref (b 0)), (1, .ref (a 0)), (0, .ref sc)]) hx hb dL_law_435 hl (by decide) rfl (fun ls hl => ?_)
  refine lv_aload_n hx hb dL_law_437 rfl (lv_at hl 3 rfl) ?_
  refine lv_aload_n hx hb dL_law_438 rfl (lv_at hl 5 rfl) ?_
  refine lv_iload hx hb dL_law_439 (lv_at hl 1 rfl) ?_
  refine lv_iconst (v := 1) hx hb dL_law_441 (by decide) ?_
  refine lv_iadd hx hb dL_law_442 ?_
  rw [show (nI (4 * i)) + (1 : Int32) = nI ((4 * i) + 1) from nI_add (4 * i) 1]
  refine va_sld (b := sc) (L := L) (xs := xs) (i := nI ((4 * i) + 1)) hx hb hX hbl hbA hS (vp_in_nI (show ((4 * i) + 1) < L by omega) (by omega)) dL_law_443 ?_
  rw [nI_clamp (show ((4 * i) + 1) < 2 ^ 31 by omega)]
  refine lv_aload_n hx hb dL_law_444 rfl (lv_at hl 5 rfl) ?_
  refine lv_iload hx hb dL_law_445 (lv_at hl 1 rfl) ?_
  refine lv_iconst (v := 2) hx hb dL_law_447 (by decide) ?_
  refine lv_iadd hx hb dL_law_448 ?_
  rw [show (nI (4 * i)) + (2 : Int32) = nI ((4 * i) + 2) from nI_add (4 * i) 2]
  refine va_sld (b := sc) (L := L) (xs := xs) (i := nI ((4 * i) + 2)) hx hb hX hbl hbA hS (vp_in_nI (show ((4 * i) + 2) < L by omega) (by omega)) dL_law_449 ?_
  rw [nI_clamp (show ((4 * i) + 2) < 2 ^ 31 by omega)]
  have hPm := pm_P hP
  have hDm := pm_D hD
  refine va_calll (va_runV (As := [.int (xs ((4 * i) + 1)), .int (xs ((4 * i) + 2))]) (rest := []) ⟨hx, hb, hml, hown, hg⟩ (c_X3_value l (lA s) D cI cL cQ (xw cI cQ a pl pq nq nm ab lg (nI cnt) (zi kb) ++ [ow cL o u.2]) b cod cnt hc pl' nm' od op kb kU kD kl up dn ml (xs ((4 * i) + 1)) (xs ((4 * i) + 2)) (fun q hq j hj => by rw [hiv.2.2.1 q hq j hj]; exact hiv.2.2.2.2.2.1 q hq j hj)) (cwV 2 hg (gw_V ml_L_84 im_X3_value se_X3_value ini_X3 co_X3_value) rfl rfl rfl (by decide +kernel) ⟨Nat.le_of_ble_eq_true rfl, Nat.le_of_ble_eq_true rfl⟩) ⟨wd_B.blind, va_recv hK hPm (ci := 3) (q0 := 0) rfl rfl, fun U hU hW => ⟨rfl, wd_B.at hG hK hPm hDm hS hA hU hW⟩⟩ rfl rfl hl.1 rfl (lv_room (Nat.le_of_ble_eq_true rfl)) dL_law_450 ⟨hk1, hk2⟩) hS (fun q _ h => h) (fun q h => h) (fun r2 w t H1 locs ht hvm h2 hB hz1 hk9 hS => ?_)
  obtain ⟨hK, hP, hD⟩ := hB.back ht hvm
  clear hPm hDm
  generalize H1 = H at hP hS ⊢
  have hP := mp_P (show va_P D vwCl (lwm cI cL cQ a b o pl pq nq nm ab lg cnt kb u.2 w.1 cnt pl' nm' od op kb kU kD kl w.2.1 w.2.2.1 w.2.2.2) H from hP)
  have hD := mp_D (show va_D (lA s) (lwm cI cL cQ a b o pl pq nq nm ab lg cnt kb u.2 w.1 cnt pl' nm' od op kb kU kD kl w.2.1 w.2.2.1 w.2.2.2) from hD)
  have hag := ag_value hiv h1 h2
  have hP : va_P D vwCl (lww cI cL cQ a b o pl pq nq nm ab lg cnt kb u.2 w.1 cnt pl' nm' od op kb kU kD kl w.2.1 w.2.2.1 w.2.2.2) H := hP
  have hD : va_D (lA s) (lww cI cL cQ a b o pl pq nq nm ab lg cnt kb u.2 w.1 cnt pl' nm' od op kb kU kD kl w.2.1 w.2.2.1 w.2.2.2) := hD
  refine lv_lstore (lv' := [(6, .long r2), (5, .int r), (4, .int (nI (4 * i))), (3, .ref o), (2, .ref (b 0)), (1, .ref (a 0)), (0, .ref sc)]) hx hb dL_law_453 hl (by decide) rfl (fun ls hl => ?_)
  refine lv_aload_n hx hb dL_law_455 rfl (lv_at hl 4 rfl) ?_
  refine vp_callSi (W.runV (As := []) (rest := []) ⟨hx, hb, hml, hown, hg⟩ (c_X3_thrown l D cI cL cQ (b 0) [.int w.1, .int (nI cnt), .ref (b 1), .ref (b 2), .ref (b 3), .ref (b 4), .int (zi kb), .long kU, .long kD, .ref (b 5), .long w.2.1, .long w.2.2.1, .ref (b 6)] w.1 rfl) (cwV 0 hg (gw_V ml_L_59 im_X3_thrown se_X3_thrown ini_X3 co_X3_thrown) rfl rfl rfl (by decide +kernel) ⟨Nat.le_of_ble_eq_true rfl, Nat.le_of_ble_eq_true rfl⟩) ⟨pu_B.blind, va_recv hK hP (ci := 3) (q0 := 14) rfl rfl, fun U hU hW => ⟨rfl, pu_B.at hK (hP.sub (ws' := [(b 0, .inr (3, [.int w.1, .int (nI cnt), .ref (b 1), .ref (b 2), .ref (b 3), .ref (b 4), .int (zi kb), .long kU, .long kD, .ref (b 5), .long w.2.1, .long w.2.2.1, .ref (b 6)]))]) [14] rfl) hU hW⟩⟩ rfl rfl hl.1 rfl (lv_room (Nat.le_of_ble_eq_true rfl)) dL_law_456 ⟨hk1, hk2⟩) (fun r_1 hr_1 => ?_)
  rw [hr_1]
  refine lv_iload hx hb dL_law_459 (lv_at hl 1 rfl) ?_
  refine lv_icmp_eq (tgt := 466) hx hb dL_law_461 (by decide) (fun c_2 => ?_) (fun c_2 => ?_)
  · refine lv_iload hx hb dL_law_466 (lv_at hl 1 rfl) ?_
    refine lv_if_ne (tgt := 482) hx hb dL_law_468 (by decide) (fun c_3 => ?_) (fun c_3 => ?_)
    · refine lv_goto (tgt := 708) hx hb dL_law_482 (by decide) ?_
      exact K pl pq nq nm ab lg cnt kb u.2 w.1 pl' nm' od op kU kD kl w.2.1 w.2.2.1 w.2.2.2 _ _ ls hiv hP hD hS (lv_sub hl [2, 3, 4, 5, 6] rfl)
    · refine lv_aload_n hx hb dL_law_471 rfl (lv_at hl 3 rfl) ?_
      refine lv_iconst (v := 0) hx hb dL_law_472 (by decide) ?_
      refine va_lald (D := D) (n := 1) (f := u.2) hx hb hK hP 13 1 rfl rfl (vp_in_nI (show 0 < 1 by decide) (by decide)) dL_law_473 ?_
      rw [show (0 : Int32).toNatClampNeg = 0 from by decide]
      refine lv_lload hx hb dL_law_474 (lv_at hl 0 rfl) ?_
      refine W.lcmp hx hb dL_law_476 ?_
      refine lv_if_eq (tgt := 482) hx hb dL_law_477 (by decide) (fun c_4 => ?_) (fun c_4 => ?_)
      · replace c_4 := lc_eq.mp c_4
        refine lv_goto (tgt := 708) hx hb dL_law_482 (by decide) ?_
        exact K pl pq nq nm ab lg cnt kb u.2 w.1 pl' nm' od op kU kD kl w.2.1 w.2.2.1 w.2.2.2 _ _ ls hiv hP hD hS (lv_sub hl [2, 3, 4, 5, 6] rfl)
      · replace c_4 := fun h => c_4 (lc_eq.mpr h)
        refine lv_iconst (v := 0) hx hb dL_law_480 (by decide) ?_
        exact absurd (hag.2 c_3) c_4
  · refine lv_iconst (v := 0) hx hb dL_law_464 (by decide) ?_
    exact absurd hag.1 c_2
set_option maxHeartbeats 4000000 in
set_option maxRecDepth 100000 in
theorem lw_k7 {p : Program} {l : Launch} {e : Env} {s : State} {m : MethodId} {below : List Frame} {meth : Method} {c : Code} {D : va_G} {cI cL cQ : ClassId} {sc L : Nat} {xs : Nat → Int32} {a b : Nat → Nat} {o i k1 k2 : Nat} (C : lw_C p l s m meth c D cI cL cQ sc L xs) (hi : 4 * i + 4 ≤ L) (hk1 : k1 + 1 ≤ room_1.cells) (hk2 : k2 + 6 ≤ room_1.slots) (K : lw_R p l e s m below meth c D cI cL cQ sc a b o 708 i (k1 + 1) (k2 + 6)) : lw_R p l e s m below meth c D cI cL cQ sc a b o 485 i k1 k2 := by
  obtain ⟨hx, hb, hr, hml, hown, hg, hG, hK, hX, hbl, hlocks, hlt, hL⟩ := C
  intro pl pq nq nm ab lg cnt kb f cod pl' nm' od op kU kD kl up dn ml H locs ls hiv hP hD hS hl
  have hc : cnt ≤ 3 := hiv.1
  have hk1z : k1 + 0 ≤ room_1.cells := by omega
  have hk2z : k2 + 0 ≤ room_1.slots := by omega
  have hA : ∀ q : Nat, s.heap.size ≤ q → lA s q := fun _ h => h
  have hbA : ¬ lA s sc := Nat.not_le.mpr hbl
  refine lv_aload_n hx hb dL_law_485 rfl (lv_at hl 3 rfl) ?_
  refine lv_aload_n hx hb dL_law_486 rfl (lv_at hl 4 rfl) ?_
  refine lv_iload hx hb dL_law_487 (lv_at hl 0 rfl) ?_
  refine lv_iconst (v := 1) hx hb dL_law_489 (by decide) ?_
  refine lv_iadd hx hb dL_law_490 ?_
  rw [show (nI (4 * i)) + (1 : Int32) = nI ((4 * i) + 1) from nI_add (4 * i) 1]
  refine va_sld (b := sc) (L := L) (xs := xs) (i := nI ((4 * i) + 1)) hx hb hX hbl hbA hS (vp_in_nI (show ((4 * i) + 1) < L by omega) (by omega)) dL_law_491 ?_
  rw [nI_clamp (show ((4 * i) + 1) < 2 ^ 31 by omega)]
  refine lv_aload_n hx hb dL_law_492 rfl (lv_at hl 4 rfl) ?_
  refine lv_iload hx hb dL_law_493 (lv_at hl 0 rfl) ?_
  refine lv_iconst (v := 2) hx hb dL_law_495 (by decide) ?_
  refine lv_iadd hx hb dL_law_496 ?_
  rw [show (nI (4 * i)) + (2 : Int32) = nI ((4 * i) + 2) from nI_add (4 * i) 2]
  refine va_sld (b := sc) (L := L) (xs := xs) (i := nI ((4 * i) + 2)) hx hb hX hbl hbA hS (vp_in_nI (show ((4 * i) + 2) < L by omega) (by omega)) dL_law_497 ?_
  rw [nI_clamp (show ((4 * i) + 2) < 2 ^ 31 by omega)]
  refine lv_aload_n hx hb dL_law_498 rfl (lv_at hl 1 rfl) ?_
  refine va_calli (vx_runSW (As := [.ref (a 0), .int (xs ((4 * i) + 1)), .int (xs ((4 * i) + 2)), .ref o]) (rest := []) ⟨hx, hb, hml, hown, hg⟩ (c_L_integral l hlt (lA s) D cI cL cQ (mw cI b cod (nI cnt) pl' nm' od op (zi kb) kU kD kl up dn ml) a pl pq nq nm ab lg cnt hc kb o f (xs ((4 * i) + 1)) (xs ((4 * i) + 2)) (fun j hj => in9_6 (hiv.2.2.2.1 j hj)) (fun j hj => hiv.2.2.2.2.2.1 j hj 7 (by decide))) (vx_cwSW 4 hg (gw_SW ml_L_85 sm_L_integral ini_L co_L_integral) rfl rfl rfl (by decide +kernel) ⟨Nat.le_of_ble_eq_true rfl, Nat.le_of_ble_eq_true rfl⟩) ⟨wd_B.blind, fun U hU hW => ⟨rfl, wd_B.at hG hK hP hD hS hA hU hW⟩⟩ rfl rfl hl.1 rfl (lv_room (Nat.le_of_ble_eq_true rfl)) dL_law_499 ⟨hk1, hk2⟩) hS (fun q _ h => h) (fun q h => h) (fun r u t H1 locs ht hvm h1 hB hz1 hk9 hS => ?_)
  obtain ⟨hK, hP, hD⟩ := hB.back ht hvm
  generalize H1 = H at hP hS ⊢
  have hP : va_P D vwCl (lww cI cL cQ a b o pl pq nq nm u.1.1 u.1.2.1 cnt u.1.2.2 u.2 cod cnt pl' nm' od op kb kU kD kl up dn ml) H := hP
  have hD : va_D (lA s) (lww cI cL cQ a b o pl pq nq nm u.1.1 u.1.2.1 cnt u.1.2.2 u.2 cod cnt pl' nm' od op kb kU kD kl up dn ml) := hD
  refine lv_istore (lv' := [(5, .int r), (4, .int (nI (4 * i))), (3, .ref o), (2, .ref (b 0)), (1, .ref (a 0)), (0, .ref sc)]) hx hb dL_law_502 hl (by decide) rfl (fun ls hl => ?_)
  refine lv_aload_n hx hb dL_law_504 rfl (lv_at hl 3 rfl) ?_
  refine lv_aload_n hx hb dL_law_505 rfl (lv_at hl 5 rfl) ?_
  refine lv_iload hx hb dL_law_506 (lv_at hl 1 rfl) ?_
  refine lv_iconst (v := 1) hx hb dL_law_508 (by decide) ?_
  refine lv_iadd hx hb dL_law_509 ?_
  rw [show (nI (4 * i)) + (1 : Int32) = nI ((4 * i) + 1) from nI_add (4 * i) 1]
  refine va_sld (b := sc) (L := L) (xs := xs) (i := nI ((4 * i) + 1)) hx hb hX hbl hbA hS (vp_in_nI (show ((4 * i) + 1) < L by omega) (by omega)) dL_law_510 ?_
  rw [nI_clamp (show ((4 * i) + 1) < 2 ^ 31 by omega)]
  refine lv_aload_n hx hb dL_law_511 rfl (lv_at hl 5 rfl) ?_
  refine lv_iload hx hb dL_law_512 (lv_at hl 1 rfl) ?_
  refine lv_iconst (v := 2) hx hb dL_law_514 (by decide) ?_
  refine lv_iadd hx hb dL_law_515 ?_
  rw [show (nI (4 * i)) + (2 : Int32) = nI ((4 * i) + 2) from nI_add (4 * i) 2]
  refine va_sld (b := sc) (L := L) (xs := xs) (i := nI ((4 * i) + 2)) hx hb hX hbl hbA hS (vp_in_nI (show ((4 * i) + 2) < L by omega) (by omega)) dL_law_516 ?_
  rw [nI_clamp (show ((4 * i) + 2) < 2 ^ 31 by omega)]
  have hPm := pm_P hP
  have hDm := pm_D hD
  refine va_calli (va_runV (As := [.int (xs ((4 * i) + 1)), .int (xs ((4 * i) + 2))]) (rest := []) ⟨hx, hb, hml, hown, hg⟩ (c_X3_integral l (lA s) D cI cL cQ (xw cI cQ a pl pq nq nm u.1.1 u.1.2.1 (nI cnt) (zi u.1.2.2) ++ [ow cL o u.2]) b cod cnt hc pl' nm' od op kb kU kD kl up dn ml (xs ((4 * i) + 1)) (xs ((4 * i) + 2)) (fun j hj => by rw [hiv.2.1 j hj]; exact hiv.2.2.2.1 j hj) (fun q hq j hj => by rw [hiv.2.2.1 q hq j hj]; exact hiv.2.2.2.2.2.1 q hq j hj)) (cwV 2 hg (gw_V ml_L_87 im_X3_integral se_X3_integral ini_X3 co_X3_integral) rfl rfl rfl (by decide +kernel) ⟨Nat.le_of_ble_eq_true rfl, Nat.le_of_ble_eq_true rfl⟩) ⟨wd_B.blind, va_recv hK hPm (ci := 3) (q0 := 0) rfl rfl, fun U hU hW => ⟨rfl, wd_B.at hG hK hPm hDm hS hA hU hW⟩⟩ rfl rfl hl.1 rfl (lv_room (Nat.le_of_ble_eq_true rfl)) dL_law_517 ⟨hk1, hk2⟩) hS (fun q _ h => h) (fun q h => h) (fun r2 w t H1 locs ht hvm h2 hB hz1 hk9 hS => ?_)
  obtain ⟨hK, hP, hD⟩ := hB.back ht hvm
  clear hPm hDm
  generalize H1 = H at hP hS ⊢
  have hP := mp_P (show va_P D vwCl (lwm cI cL cQ a b o pl pq nq nm u.1.1 u.1.2.1 cnt u.1.2.2 u.2 w.1 cnt pl' nm' od op w.2.1 w.2.2.1 w.2.2.2.1 w.2.2.2.2.1 w.2.2.2.2.2.1 w.2.2.2.2.2.2.1 w.2.2.2.2.2.2.2) H from hP)
  have hD := mp_D (show va_D (lA s) (lwm cI cL cQ a b o pl pq nq nm u.1.1 u.1.2.1 cnt u.1.2.2 u.2 w.1 cnt pl' nm' od op w.2.1 w.2.2.1 w.2.2.2.1 w.2.2.2.2.1 w.2.2.2.2.2.1 w.2.2.2.2.2.2.1 w.2.2.2.2.2.2.2) from hD)
  have hag := ag_integral hiv h1 h2
  rw [hag.2.2.1] at hP hD
  have hP : va_P D vwCl (lww cI cL cQ a b o pl pq nq nm u.1.1 u.1.2.1 cnt u.1.2.2 u.2 w.1 cnt pl' nm' od op u.1.2.2 w.2.2.1 w.2.2.2.1 w.2.2.2.2.1 w.2.2.2.2.2.1 w.2.2.2.2.2.2.1 w.2.2.2.2.2.2.2) H := hP
  have hD : va_D (lA s) (lww cI cL cQ a b o pl pq nq nm u.1.1 u.1.2.1 cnt u.1.2.2 u.2 w.1 cnt pl' nm' od op u.1.2.2 w.2.2.1 w.2.2.2.1 w.2.2.2.2.1 w.2.2.2.2.2.1 w.2.2.2.2.2.2.1 w.2.2.2.2.2.2.2) := hD
  refine lv_istore (lv' := [(6, .int r2), (5, .int r), (4, .int (nI (4 * i))), (3, .ref o), (2, .ref (b 0)), (1, .ref (a 0)), (0, .ref sc)]) hx hb dL_law_520 hl (by decide) rfl (fun ls hl => ?_)
  refine lv_aload_n hx hb dL_law_522 rfl (lv_at hl 4 rfl) ?_
  refine vp_callSi (W.runV (As := []) (rest := []) ⟨hx, hb, hml, hown, hg⟩ (c_X3_thrown l D cI cL cQ (b 0) [.int w.1, .int (nI cnt), .ref (b 1), .ref (b 2), .ref (b 3), .ref (b 4), .int (zi u.1.2.2), .long w.2.2.1, .long w.2.2.2.1, .ref (b 5), .long w.2.2.2.2.2.1, .long w.2.2.2.2.2.2.1, .ref (b 6)] w.1 rfl) (cwV 0 hg (gw_V ml_L_59 im_X3_thrown se_X3_thrown ini_X3 co_X3_thrown) rfl rfl rfl (by decide +kernel) ⟨Nat.le_of_ble_eq_true rfl, Nat.le_of_ble_eq_true rfl⟩) ⟨pu_B.blind, va_recv hK hP (ci := 3) (q0 := 14) rfl rfl, fun U hU hW => ⟨rfl, pu_B.at hK (hP.sub (ws' := [(b 0, .inr (3, [.int w.1, .int (nI cnt), .ref (b 1), .ref (b 2), .ref (b 3), .ref (b 4), .int (zi u.1.2.2), .long w.2.2.1, .long w.2.2.2.1, .ref (b 5), .long w.2.2.2.2.2.1, .long w.2.2.2.2.2.2.1, .ref (b 6)]))]) [14] rfl) hU hW⟩⟩ rfl rfl hl.1 rfl (lv_room (Nat.le_of_ble_eq_true rfl)) dL_law_523 ⟨hk1, hk2⟩) (fun r_1 hr_1 => ?_)
  rw [hr_1]
  refine lv_iload hx hb dL_law_526 (lv_at hl 1 rfl) ?_
  refine lv_icmp_eq (tgt := 533) hx hb dL_law_528 (by decide) (fun c_2 => ?_) (fun c_2 => ?_)
  · refine lv_iload hx hb dL_law_533 (lv_at hl 1 rfl) ?_
    refine lv_if_ne (tgt := 557) hx hb dL_law_535 (by decide) (fun c_3 => ?_) (fun c_3 => ?_)
    · refine lv_goto (tgt := 708) hx hb dL_law_557 (by decide) ?_
      exact K pl pq nq nm u.1.1 u.1.2.1 cnt u.1.2.2 u.2 w.1 pl' nm' od op w.2.2.1 w.2.2.2.1 w.2.2.2.2.1 w.2.2.2.2.2.1 w.2.2.2.2.2.2.1 w.2.2.2.2.2.2.2 _ _ ls hag.2.2.2 hP hD hS (lv_sub hl [2, 3, 4, 5, 6] rfl)
    · refine lv_aload_n hx hb dL_law_538 rfl (lv_at hl 3 rfl) ?_
      refine lv_iconst (v := 0) hx hb dL_law_539 (by decide) ?_
      refine va_lald (D := D) (n := 1) (f := u.2) hx hb hK hP 13 1 rfl rfl (vp_in_nI (show 0 < 1 by decide) (by decide)) dL_law_540 ?_
      rw [show (0 : Int32).toNatClampNeg = 0 from by decide]
      refine lv_iload hx hb dL_law_541 (lv_at hl 0 rfl) ?_
      refine lv_if_eq (tgt := 550) hx hb dL_law_543 (by decide) (fun c_4 => ?_) (fun c_4 => ?_)
      · refine lv_lconst (v := 0) hx hb dL_law_550 (by decide) ?_
        refine W.lcmp hx hb dL_law_551 ?_
        refine lv_if_eq (tgt := 557) hx hb dL_law_552 (by decide) (fun c_5 => ?_) (fun c_5 => ?_)
        · replace c_5 := lc_eq.mp c_5
          refine lv_goto (tgt := 708) hx hb dL_law_557 (by decide) ?_
          exact K pl pq nq nm u.1.1 u.1.2.1 cnt u.1.2.2 u.2 w.1 pl' nm' od op w.2.2.1 w.2.2.2.1 w.2.2.2.2.1 w.2.2.2.2.2.1 w.2.2.2.2.2.2.1 w.2.2.2.2.2.2.2 _ _ ls hag.2.2.2 hP hD hS (lv_sub hl [2, 3, 4, 5, 6] rfl)
        · replace c_5 := fun h => c_5 (lc_eq.mpr h)
          refine lv_iconst (v := 0) hx hb dL_law_555 (by decide) ?_
          exact absurd ((hag.2.1 c_3).trans (if_pos c_4)) c_5
      · refine lv_lconst (v := 1) hx hb dL_law_546 (by decide) ?_
        refine lv_goto (tgt := 551) hx hb dL_law_547 (by decide) ?_
        refine W.lcmp hx hb dL_law_551 ?_
        refine lv_if_eq (tgt := 557) hx hb dL_law_552 (by decide) (fun c_6 => ?_) (fun c_6 => ?_)
        · replace c_6 := lc_eq.mp c_6
          refine lv_goto (tgt := 708) hx hb dL_law_557 (by decide) ?_
          exact K pl pq nq nm u.1.1 u.1.2.1 cnt u.1.2.2 u.2 w.1 pl' nm' od op w.2.2.1 w.2.2.2.1 w.2.2.2.2.1 w.2.2.2.2.2.1 w.2.2.2.2.2.2.1 w.2.2.2.2.2.2.2 _ _ ls hag.2.2.2 hP hD hS (lv_sub hl [2, 3, 4, 5, 6] rfl)
        · replace c_6 := fun h => c_6 (lc_eq.mpr h)
          refine lv_iconst (v := 0) hx hb dL_law_555 (by decide) ?_
          exact absurd ((hag.2.1 c_3).trans (if_neg c_4)) c_6
  · refine lv_iconst (v := 0) hx hb dL_law_531 (by decide) ?_
    exact absurd hag.1 c_2
set_option maxHeartbeats 4000000 in
set_option maxRecDepth 100000 in
theorem lw_k8 {p : Program} {l : Launch} {e : Env} {s : State} {m : MethodId} {below : List Frame} {meth : Method} {c : Code} {D : va_G} {cI cL cQ : ClassId} {sc L : Nat} {xs : Nat → Int32} {a b : Nat → Nat} {o i k1 k2 : Nat} (C : lw_C p l s m meth c D cI cL cQ sc L xs) (hi : 4 * i + 4 ≤ L) (hk1 : k1 + 1 ≤ room_1.cells) (hk2 : k2 + 6 ≤ room_1.slots) (K : lw_R p l e s m below meth c D cI cL cQ sc a b o 708 i (k1 + 1) (k2 + 6)) : lw_R p l e s m below meth c D cI cL cQ sc a b o 560 i k1 k2 := by
  obtain ⟨hx, hb, hr, hml, hown, hg, hG, hK, hX, hbl, hlocks, hlt, hL⟩ := C
  intro pl pq nq nm ab lg cnt kb f cod pl' nm' od op kU kD kl up dn ml H locs ls hiv hP hD hS hl
  have hc : cnt ≤ 3 := hiv.1
  have hk1z : k1 + 0 ≤ room_1.cells := by omega
  have hk2z : k2 + 0 ≤ room_1.slots := by omega
  have hA : ∀ q : Nat, s.heap.size ≤ q → lA s q := fun _ h => h
  have hbA : ¬ lA s sc := Nat.not_le.mpr hbl
  refine lv_aload_n hx hb dL_law_560 rfl (lv_at hl 3 rfl) ?_
  refine lv_aload_n hx hb dL_law_561 rfl (lv_at hl 4 rfl) ?_
  refine lv_iload hx hb dL_law_562 (lv_at hl 0 rfl) ?_
  refine lv_iconst (v := 1) hx hb dL_law_564 (by decide) ?_
  refine lv_iadd hx hb dL_law_565 ?_
  rw [show (nI (4 * i)) + (1 : Int32) = nI ((4 * i) + 1) from nI_add (4 * i) 1]
  refine va_sld (b := sc) (L := L) (xs := xs) (i := nI ((4 * i) + 1)) hx hb hX hbl hbA hS (vp_in_nI (show ((4 * i) + 1) < L by omega) (by omega)) dL_law_566 ?_
  rw [nI_clamp (show ((4 * i) + 1) < 2 ^ 31 by omega)]
  refine lv_aload_n hx hb dL_law_567 rfl (lv_at hl 1 rfl) ?_
  refine va_calli (vx_runSW (As := [.ref (a 0), .int (xs ((4 * i) + 1)), .ref o]) (rest := []) ⟨hx, hb, hml, hown, hg⟩ (c_L_fraction l hlt (lA s) D cI cL cQ (mw cI b cod (nI cnt) pl' nm' od op (zi kb) kU kD kl up dn ml) a pl pq nq nm ab lg cnt hc kb o f (xs ((4 * i) + 1))) (vx_cwSW 3 hg (gw_SW ml_L_88 sm_L_fraction ini_L co_L_fraction) rfl rfl rfl (by decide +kernel) ⟨Nat.le_of_ble_eq_true rfl, Nat.le_of_ble_eq_true rfl⟩) ⟨wd_B.blind, fun U hU hW => ⟨rfl, wd_B.at hG hK hP hD hS hA hU hW⟩⟩ rfl rfl hl.1 rfl (lv_room (Nat.le_of_ble_eq_true rfl)) dL_law_568 ⟨hk1, hk2⟩) hS (fun q _ h => h) (fun q h => h) (fun r u t H1 locs ht hvm h1 hB hz1 hk9 hS => ?_)
  obtain ⟨hK, hP, hD⟩ := hB.back ht hvm
  generalize H1 = H at hP hS ⊢
  have hP : va_P D vwCl (lww cI cL cQ a b o pl pq nq nm ab lg cnt kb u.2 cod cnt pl' nm' od op kb kU kD kl up dn ml) H := hP
  have hD : va_D (lA s) (lww cI cL cQ a b o pl pq nq nm ab lg cnt kb u.2 cod cnt pl' nm' od op kb kU kD kl up dn ml) := hD
  refine lv_istore (lv' := [(5, .int r), (4, .int (nI (4 * i))), (3, .ref o), (2, .ref (b 0)), (1, .ref (a 0)), (0, .ref sc)]) hx hb dL_law_571 hl (by decide) rfl (fun ls hl => ?_)
  refine lv_aload_n hx hb dL_law_573 rfl (lv_at hl 3 rfl) ?_
  refine lv_aload_n hx hb dL_law_574 rfl (lv_at hl 5 rfl) ?_
  refine lv_iload hx hb dL_law_575 (lv_at hl 1 rfl) ?_
  refine lv_iconst (v := 1) hx hb dL_law_577 (by decide) ?_
  refine lv_iadd hx hb dL_law_578 ?_
  rw [show (nI (4 * i)) + (1 : Int32) = nI ((4 * i) + 1) from nI_add (4 * i) 1]
  refine va_sld (b := sc) (L := L) (xs := xs) (i := nI ((4 * i) + 1)) hx hb hX hbl hbA hS (vp_in_nI (show ((4 * i) + 1) < L by omega) (by omega)) dL_law_579 ?_
  rw [nI_clamp (show ((4 * i) + 1) < 2 ^ 31 by omega)]
  have hPm := pm_P hP
  have hDm := pm_D hD
  refine va_calll (va_runV (As := [.int (xs ((4 * i) + 1))]) (rest := []) ⟨hx, hb, hml, hown, hg⟩ (c_X3_fraction l (lA s) D cI cL cQ (xw cI cQ a pl pq nq nm ab lg (nI cnt) (zi kb) ++ [ow cL o u.2]) b cod cnt hc pl' nm' od op kb kU kD kl up dn ml (xs ((4 * i) + 1))) (cwV 1 hg (gw_V ml_L_90 im_X3_fraction se_X3_fraction ini_X3 co_X3_fraction) rfl rfl rfl (by decide +kernel) ⟨Nat.le_of_ble_eq_true rfl, Nat.le_of_ble_eq_true rfl⟩) ⟨wd_B.blind, va_recv hK hPm (ci := 3) (q0 := 0) rfl rfl, fun U hU hW => ⟨rfl, wd_B.at hG hK hPm hDm hS hA hU hW⟩⟩ rfl rfl hl.1 rfl (lv_room (Nat.le_of_ble_eq_true rfl)) dL_law_580 ⟨hk1, hk2⟩) hS (fun q _ h => h) (fun q h => h) (fun r2 w t H1 locs ht hvm h2 hB hz1 hk9 hS => ?_)
  obtain ⟨hK, hP, hD⟩ := hB.back ht hvm
  clear hPm hDm
  generalize H1 = H at hP hS ⊢
  have hP := mp_P (show va_P D vwCl (lwm cI cL cQ a b o pl pq nq nm ab lg cnt kb u.2 w cnt pl' nm' od op kb kU kD kl up dn ml) H from hP)
  have hD := mp_D (show va_D (lA s) (lwm cI cL cQ a b o pl pq nq nm ab lg cnt kb u.2 w cnt pl' nm' od op kb kU kD kl up dn ml) from hD)
  have hag := ag_fraction hiv h1 h2
  have hP : va_P D vwCl (lww cI cL cQ a b o pl pq nq nm ab lg cnt kb u.2 w cnt pl' nm' od op kb kU kD kl up dn ml) H := hP
  have hD : va_D (lA s) (lww cI cL cQ a b o pl pq nq nm ab lg cnt kb u.2 w cnt pl' nm' od op kb kU kD kl up dn ml) := hD
  refine lv_lstore (lv' := [(6, .long r2), (5, .int r), (4, .int (nI (4 * i))), (3, .ref o), (2, .ref (b 0)), (1, .ref (a 0)), (0, .ref sc)]) hx hb dL_law_583 hl (by decide) rfl (fun ls hl => ?_)
  refine lv_aload_n hx hb dL_law_585 rfl (lv_at hl 4 rfl) ?_
  refine vp_callSi (W.runV (As := []) (rest := []) ⟨hx, hb, hml, hown, hg⟩ (c_X3_thrown l D cI cL cQ (b 0) [.int w, .int (nI cnt), .ref (b 1), .ref (b 2), .ref (b 3), .ref (b 4), .int (zi kb), .long kU, .long kD, .ref (b 5), .long up, .long dn, .ref (b 6)] w rfl) (cwV 0 hg (gw_V ml_L_59 im_X3_thrown se_X3_thrown ini_X3 co_X3_thrown) rfl rfl rfl (by decide +kernel) ⟨Nat.le_of_ble_eq_true rfl, Nat.le_of_ble_eq_true rfl⟩) ⟨pu_B.blind, va_recv hK hP (ci := 3) (q0 := 14) rfl rfl, fun U hU hW => ⟨rfl, pu_B.at hK (hP.sub (ws' := [(b 0, .inr (3, [.int w, .int (nI cnt), .ref (b 1), .ref (b 2), .ref (b 3), .ref (b 4), .int (zi kb), .long kU, .long kD, .ref (b 5), .long up, .long dn, .ref (b 6)]))]) [14] rfl) hU hW⟩⟩ rfl rfl hl.1 rfl (lv_room (Nat.le_of_ble_eq_true rfl)) dL_law_586 ⟨hk1, hk2⟩) (fun r_1 hr_1 => ?_)
  rw [hr_1]
  refine lv_iload hx hb dL_law_589 (lv_at hl 1 rfl) ?_
  refine lv_icmp_eq (tgt := 596) hx hb dL_law_591 (by decide) (fun c_2 => ?_) (fun c_2 => ?_)
  · refine lv_iload hx hb dL_law_596 (lv_at hl 1 rfl) ?_
    refine lv_if_ne (tgt := 612) hx hb dL_law_598 (by decide) (fun c_3 => ?_) (fun c_3 => ?_)
    · refine lv_goto (tgt := 708) hx hb dL_law_612 (by decide) ?_
      exact K pl pq nq nm ab lg cnt kb u.2 w pl' nm' od op kU kD kl up dn ml _ _ ls hiv hP hD hS (lv_sub hl [2, 3, 4, 5, 6] rfl)
    · refine lv_aload_n hx hb dL_law_601 rfl (lv_at hl 3 rfl) ?_
      refine lv_iconst (v := 0) hx hb dL_law_602 (by decide) ?_
      refine va_lald (D := D) (n := 1) (f := u.2) hx hb hK hP 13 1 rfl rfl (vp_in_nI (show 0 < 1 by decide) (by decide)) dL_law_603 ?_
      rw [show (0 : Int32).toNatClampNeg = 0 from by decide]
      refine lv_lload hx hb dL_law_604 (lv_at hl 0 rfl) ?_
      refine W.lcmp hx hb dL_law_606 ?_
      refine lv_if_eq (tgt := 612) hx hb dL_law_607 (by decide) (fun c_4 => ?_) (fun c_4 => ?_)
      · replace c_4 := lc_eq.mp c_4
        refine lv_goto (tgt := 708) hx hb dL_law_612 (by decide) ?_
        exact K pl pq nq nm ab lg cnt kb u.2 w pl' nm' od op kU kD kl up dn ml _ _ ls hiv hP hD hS (lv_sub hl [2, 3, 4, 5, 6] rfl)
      · replace c_4 := fun h => c_4 (lc_eq.mpr h)
        refine lv_iconst (v := 0) hx hb dL_law_610 (by decide) ?_
        exact absurd (hag.2 c_3) c_4
  · refine lv_iconst (v := 0) hx hb dL_law_594 (by decide) ?_
    exact absurd hag.1 c_2
set_option maxHeartbeats 4000000 in
set_option maxRecDepth 100000 in
theorem lw_k9 {p : Program} {l : Launch} {e : Env} {s : State} {m : MethodId} {below : List Frame} {meth : Method} {c : Code} {D : va_G} {cI cL cQ : ClassId} {sc L : Nat} {xs : Nat → Int32} {a b : Nat → Nat} {o i k1 k2 : Nat} (C : lw_C p l s m meth c D cI cL cQ sc L xs) (hi : 4 * i + 4 ≤ L) (hk1 : k1 + 1 ≤ room_1.cells) (hk2 : k2 + 6 ≤ room_1.slots) (K : lw_R p l e s m below meth c D cI cL cQ sc a b o 708 i (k1 + 1) (k2 + 6)) : lw_R p l e s m below meth c D cI cL cQ sc a b o 615 i k1 k2 := by
  obtain ⟨hx, hb, hr, hml, hown, hg, hG, hK, hX, hbl, hlocks, hlt, hL⟩ := C
  intro pl pq nq nm ab lg cnt kb f cod pl' nm' od op kU kD kl up dn ml H locs ls hiv hP hD hS hl
  have hc : cnt ≤ 3 := hiv.1
  have hk1z : k1 + 0 ≤ room_1.cells := by omega
  have hk2z : k2 + 0 ≤ room_1.slots := by omega
  have hA : ∀ q : Nat, s.heap.size ≤ q → lA s q := fun _ h => h
  have hbA : ¬ lA s sc := Nat.not_le.mpr hbl
  refine lv_aload_n hx hb dL_law_615 rfl (lv_at hl 3 rfl) ?_
  refine lv_aload_n hx hb dL_law_616 rfl (lv_at hl 4 rfl) ?_
  refine lv_iload hx hb dL_law_617 (lv_at hl 0 rfl) ?_
  refine lv_iconst (v := 1) hx hb dL_law_619 (by decide) ?_
  refine lv_iadd hx hb dL_law_620 ?_
  rw [show (nI (4 * i)) + (1 : Int32) = nI ((4 * i) + 1) from nI_add (4 * i) 1]
  refine va_sld (b := sc) (L := L) (xs := xs) (i := nI ((4 * i) + 1)) hx hb hX hbl hbA hS (vp_in_nI (show ((4 * i) + 1) < L by omega) (by omega)) dL_law_621 ?_
  rw [nI_clamp (show ((4 * i) + 1) < 2 ^ 31 by omega)]
  refine lv_aload_n hx hb dL_law_622 rfl (lv_at hl 1 rfl) ?_
  refine va_calli (vx_runSW (As := [.ref (a 0), .int (xs ((4 * i) + 1)), .ref o]) (rest := []) ⟨hx, hb, hml, hown, hg⟩ (c_L_logarithm l hlt (lA s) D cI cL cQ (mw cI b cod (nI cnt) pl' nm' od op (zi kb) kU kD kl up dn ml) a pl pq nq nm ab lg cnt hc kb o f (xs ((4 * i) + 1))) (vx_cwSW 3 hg (gw_SW ml_L_91 sm_L_logarithm ini_L co_L_logarithm) rfl rfl rfl (by decide +kernel) ⟨Nat.le_of_ble_eq_true rfl, Nat.le_of_ble_eq_true rfl⟩) ⟨wd_B.blind, fun U hU hW => ⟨rfl, wd_B.at hG hK hP hD hS hA hU hW⟩⟩ rfl rfl hl.1 rfl (lv_room (Nat.le_of_ble_eq_true rfl)) dL_law_623 ⟨hk1, hk2⟩) hS (fun q _ h => h) (fun q h => h) (fun r u t H1 locs ht hvm h1 hB hz1 hk9 hS => ?_)
  obtain ⟨hK, hP, hD⟩ := hB.back ht hvm
  generalize H1 = H at hP hS ⊢
  have hP : va_P D vwCl (lww cI cL cQ a b o pl pq nq nm ab lg cnt kb u.2 cod cnt pl' nm' od op kb kU kD kl up dn ml) H := hP
  have hD : va_D (lA s) (lww cI cL cQ a b o pl pq nq nm ab lg cnt kb u.2 cod cnt pl' nm' od op kb kU kD kl up dn ml) := hD
  refine lv_istore (lv' := [(5, .int r), (4, .int (nI (4 * i))), (3, .ref o), (2, .ref (b 0)), (1, .ref (a 0)), (0, .ref sc)]) hx hb dL_law_626 hl (by decide) rfl (fun ls hl => ?_)
  refine lv_aload_n hx hb dL_law_628 rfl (lv_at hl 3 rfl) ?_
  refine lv_aload_n hx hb dL_law_629 rfl (lv_at hl 5 rfl) ?_
  refine lv_iload hx hb dL_law_630 (lv_at hl 1 rfl) ?_
  refine lv_iconst (v := 1) hx hb dL_law_632 (by decide) ?_
  refine lv_iadd hx hb dL_law_633 ?_
  rw [show (nI (4 * i)) + (1 : Int32) = nI ((4 * i) + 1) from nI_add (4 * i) 1]
  refine va_sld (b := sc) (L := L) (xs := xs) (i := nI ((4 * i) + 1)) hx hb hX hbl hbA hS (vp_in_nI (show ((4 * i) + 1) < L by omega) (by omega)) dL_law_634 ?_
  rw [nI_clamp (show ((4 * i) + 1) < 2 ^ 31 by omega)]
  have hPm := pm_P hP
  have hDm := pm_D hD
  refine va_calli (va_runV (As := [.int (xs ((4 * i) + 1))]) (rest := []) ⟨hx, hb, hml, hown, hg⟩ (c_X3_logarithm l (lA s) D cI cL cQ (xw cI cQ a pl pq nq nm ab lg (nI cnt) (zi kb) ++ [ow cL o u.2]) b cod cnt hc pl' nm' od op kb kU kD kl up dn ml (xs ((4 * i) + 1))) (cwV 1 hg (gw_V ml_L_93 im_X3_logarithm se_X3_logarithm ini_X3 co_X3_logarithm) rfl rfl rfl (by decide +kernel) ⟨Nat.le_of_ble_eq_true rfl, Nat.le_of_ble_eq_true rfl⟩) ⟨wd_B.blind, va_recv hK hPm (ci := 3) (q0 := 0) rfl rfl, fun U hU hW => ⟨rfl, wd_B.at hG hK hPm hDm hS hA hU hW⟩⟩ rfl rfl hl.1 rfl (lv_room (Nat.le_of_ble_eq_true rfl)) dL_law_635 ⟨hk1, hk2⟩) hS (fun q _ h => h) (fun q h => h) (fun r2 w t H1 locs ht hvm h2 hB hz1 hk9 hS => ?_)
  obtain ⟨hK, hP, hD⟩ := hB.back ht hvm
  clear hPm hDm
  generalize H1 = H at hP hS ⊢
  have hP := mp_P (show va_P D vwCl (lwm cI cL cQ a b o pl pq nq nm ab lg cnt kb u.2 w cnt pl' nm' od op kb kU kD kl up dn ml) H from hP)
  have hD := mp_D (show va_D (lA s) (lwm cI cL cQ a b o pl pq nq nm ab lg cnt kb u.2 w cnt pl' nm' od op kb kU kD kl up dn ml) from hD)
  have hag := ag_logarithm hiv h1 h2
  have hP : va_P D vwCl (lww cI cL cQ a b o pl pq nq nm ab lg cnt kb u.2 w cnt pl' nm' od op kb kU kD kl up dn ml) H := hP
  have hD : va_D (lA s) (lww cI cL cQ a b o pl pq nq nm ab lg cnt kb u.2 w cnt pl' nm' od op kb kU kD kl up dn ml) := hD
  refine lv_istore (lv' := [(6, .int r2), (5, .int r), (4, .int (nI (4 * i))), (3, .ref o), (2, .ref (b 0)), (1, .ref (a 0)), (0, .ref sc)]) hx hb dL_law_638 hl (by decide) rfl (fun ls hl => ?_)
  refine lv_aload_n hx hb dL_law_640 rfl (lv_at hl 4 rfl) ?_
  refine vp_callSi (W.runV (As := []) (rest := []) ⟨hx, hb, hml, hown, hg⟩ (c_X3_thrown l D cI cL cQ (b 0) [.int w, .int (nI cnt), .ref (b 1), .ref (b 2), .ref (b 3), .ref (b 4), .int (zi kb), .long kU, .long kD, .ref (b 5), .long up, .long dn, .ref (b 6)] w rfl) (cwV 0 hg (gw_V ml_L_59 im_X3_thrown se_X3_thrown ini_X3 co_X3_thrown) rfl rfl rfl (by decide +kernel) ⟨Nat.le_of_ble_eq_true rfl, Nat.le_of_ble_eq_true rfl⟩) ⟨pu_B.blind, va_recv hK hP (ci := 3) (q0 := 14) rfl rfl, fun U hU hW => ⟨rfl, pu_B.at hK (hP.sub (ws' := [(b 0, .inr (3, [.int w, .int (nI cnt), .ref (b 1), .ref (b 2), .ref (b 3), .ref (b 4), .int (zi kb), .long kU, .long kD, .ref (b 5), .long up, .long dn, .ref (b 6)]))]) [14] rfl) hU hW⟩⟩ rfl rfl hl.1 rfl (lv_room (Nat.le_of_ble_eq_true rfl)) dL_law_641 ⟨hk1, hk2⟩) (fun r_1 hr_1 => ?_)
  rw [hr_1]
  refine lv_iload hx hb dL_law_644 (lv_at hl 1 rfl) ?_
  refine lv_icmp_eq (tgt := 651) hx hb dL_law_646 (by decide) (fun c_2 => ?_) (fun c_2 => ?_)
  · refine lv_iload hx hb dL_law_651 (lv_at hl 1 rfl) ?_
    refine lv_if_ne (tgt := 668) hx hb dL_law_653 (by decide) (fun c_3 => ?_) (fun c_3 => ?_)
    · refine lv_goto (tgt := 708) hx hb dL_law_668 (by decide) ?_
      exact K pl pq nq nm ab lg cnt kb u.2 w pl' nm' od op kU kD kl up dn ml _ _ ls hiv hP hD hS (lv_sub hl [2, 3, 4, 5, 6] rfl)
    · refine lv_aload_n hx hb dL_law_656 rfl (lv_at hl 3 rfl) ?_
      refine lv_iconst (v := 0) hx hb dL_law_657 (by decide) ?_
      refine va_lald (D := D) (n := 1) (f := u.2) hx hb hK hP 13 1 rfl rfl (vp_in_nI (show 0 < 1 by decide) (by decide)) dL_law_658 ?_
      rw [show (0 : Int32).toNatClampNeg = 0 from by decide]
      refine lv_iload hx hb dL_law_659 (lv_at hl 0 rfl) ?_
      refine lv_i2l hx hb dL_law_661 rfl ?_
      refine W.lcmp hx hb dL_law_662 ?_
      refine lv_if_eq (tgt := 668) hx hb dL_law_663 (by decide) (fun c_4 => ?_) (fun c_4 => ?_)
      · replace c_4 := lc_eq.mp c_4
        refine lv_goto (tgt := 708) hx hb dL_law_668 (by decide) ?_
        exact K pl pq nq nm ab lg cnt kb u.2 w pl' nm' od op kU kD kl up dn ml _ _ ls hiv hP hD hS (lv_sub hl [2, 3, 4, 5, 6] rfl)
      · replace c_4 := fun h => c_4 (lc_eq.mpr h)
        refine lv_iconst (v := 0) hx hb dL_law_666 (by decide) ?_
        exact absurd (hag.2 c_3) c_4
  · refine lv_iconst (v := 0) hx hb dL_law_649 (by decide) ?_
    exact absurd hag.1 c_2
set_option maxHeartbeats 4000000 in
set_option maxRecDepth 100000 in
theorem lw_k10 {p : Program} {l : Launch} {e : Env} {s : State} {m : MethodId} {below : List Frame} {meth : Method} {c : Code} {D : va_G} {cI cL cQ : ClassId} {sc L : Nat} {xs : Nat → Int32} {a b : Nat → Nat} {o i k1 k2 : Nat} (C : lw_C p l s m meth c D cI cL cQ sc L xs) (hi : 4 * i + 4 ≤ L) (hk1 : k1 + 1 ≤ room_1.cells) (hk2 : k2 + 6 ≤ room_1.slots) (K : lw_R p l e s m below meth c D cI cL cQ sc a b o 708 i (k1 + 1) (k2 + 6)) : lw_R p l e s m below meth c D cI cL cQ sc a b o 671 i k1 k2 := by
  obtain ⟨hx, hb, hr, hml, hown, hg, hG, hK, hX, hbl, hlocks, hlt, hL⟩ := C
  intro pl pq nq nm ab lg cnt kb f cod pl' nm' od op kU kD kl up dn ml H locs ls hiv hP hD hS hl
  have hc : cnt ≤ 3 := hiv.1
  have hk1z : k1 + 0 ≤ room_1.cells := by omega
  have hk2z : k2 + 0 ≤ room_1.slots := by omega
  have hA : ∀ q : Nat, s.heap.size ≤ q → lA s q := fun _ h => h
  have hbA : ¬ lA s sc := Nat.not_le.mpr hbl
  refine lv_aload_n hx hb dL_law_671 rfl (lv_at hl 3 rfl) ?_
  refine vp_callSi (W.runV (As := []) (rest := []) ⟨hx, hb, hml, hown, hg⟩ (c_X2_symmetry l (lA s) D cI cL cQ (ow cL o f :: mw cI b cod (nI cnt) pl' nm' od op (zi kb) kU kD kl up dn ml) a pl pq nq nm ab lg cnt hc (zi kb)) (cwV 0 hg (gw_V ml_L_94 im_X2_symmetry se_X2_symmetry ini_X2 co_X2_symmetry) rfl rfl rfl (by decide +kernel) ⟨Nat.le_of_ble_eq_true rfl, Nat.le_of_ble_eq_true rfl⟩) ⟨gp_blind, va_recv hK hP (ci := 2) (q0 := 0) rfl rfl, fun U hU hW => ⟨rfl, hG.warm hS hU hW, pu_B.at hK hP hU hW⟩⟩ rfl rfl hl.1 rfl (lv_room (Nat.le_of_ble_eq_true rfl)) dL_law_672 ⟨hk1z, hk2z⟩) (fun r_1 hr_1 => ?_)
  subst hr_1
  refine lv_aload_n hx hb dL_law_675 rfl (lv_at hl 2 rfl) ?_
  have hPm := pm_P hP
  have hDm := pm_D hD
  refine va_calli (va_runV (As := []) (rest := [.int (x_sym pl nm cnt)]) ⟨hx, hb, hml, hown, hg⟩ (c_X3_symmetry l (lA s) D cI cL cQ (xw cI cQ a pl pq nq nm ab lg (nI cnt) (zi kb) ++ [ow cL o f]) b cod cnt hc pl' nm' od op kb kU kD kl up dn ml ) (cwV 0 hg (gw_V ml_L_97 im_X3_symmetry se_X3_symmetry ini_X3 co_X3_symmetry) rfl rfl rfl (by decide +kernel) ⟨Nat.le_of_ble_eq_true rfl, Nat.le_of_ble_eq_true rfl⟩) ⟨wd_B.blind, va_recv hK hPm (ci := 3) (q0 := 0) rfl rfl, fun U hU hW => ⟨rfl, wd_B.at hG hK hPm hDm hS hA hU hW⟩⟩ rfl rfl hl.1 rfl (lv_room (Nat.le_of_ble_eq_true rfl)) dL_law_676 ⟨hk1z, hk2z⟩) hS (fun q _ h => h) (fun q h => h) (fun r2 w t H1 locs ht hvm h2 hB hz1 hk9 hS => ?_)
  obtain ⟨hK, hP, hD⟩ := hB.back ht hvm
  clear hPm hDm
  generalize H1 = H at hP hS ⊢
  have hP := mp_P (show va_P D vwCl (lwm cI cL cQ a b o pl pq nq nm ab lg cnt kb f 0 cnt pl' nm' od op kb kU kD kl up dn ml) H from hP)
  have hD := mp_D (show va_D (lA s) (lwm cI cL cQ a b o pl pq nq nm ab lg cnt kb f 0 cnt pl' nm' od op kb kU kD kl up dn ml) from hD)
  have hag := ag_symmetry hiv
  subst h2
  have hP : va_P D vwCl (lww cI cL cQ a b o pl pq nq nm ab lg cnt kb f 0 cnt pl' nm' od op kb kU kD kl up dn ml) H := hP
  have hD : va_D (lA s) (lww cI cL cQ a b o pl pq nq nm ab lg cnt kb f 0 cnt pl' nm' od op kb kU kD kl up dn ml) := hD
  refine lv_icmp_eq (tgt := 708) hx hb dL_law_679 (by decide) (fun c_2 => ?_) (fun c_2 => ?_)
  · refine W.widen (k := k1 + 1) (n := k2 + 6) (Nat.le_add_right k1 1) (Nat.le_add_right k2 6) ?_
    exact K pl pq nq nm ab lg cnt kb f 0 pl' nm' od op kU kD kl up dn ml _ _ ls hiv hP hD hS (lv_sub hl [0, 1, 2, 3, 4] rfl)
  · refine lv_iconst (v := 0) hx hb dL_law_682 (by decide) ?_
    exact absurd hag.symm c_2
set_option maxHeartbeats 4000000 in
set_option maxRecDepth 100000 in
theorem lw_k11 {p : Program} {l : Launch} {e : Env} {s : State} {m : MethodId} {below : List Frame} {meth : Method} {c : Code} {D : va_G} {cI cL cQ : ClassId} {sc L : Nat} {xs : Nat → Int32} {a b : Nat → Nat} {o i k1 k2 : Nat} (C : lw_C p l s m meth c D cI cL cQ sc L xs) (hi : 4 * i + 4 ≤ L) (hk1 : k1 + 1 ≤ room_1.cells) (hk2 : k2 + 6 ≤ room_1.slots) (K : lw_R p l e s m below meth c D cI cL cQ sc a b o 708 i (k1 + 1) (k2 + 6)) : lw_R p l e s m below meth c D cI cL cQ sc a b o 684 i k1 k2 := by
  obtain ⟨hx, hb, hr, hml, hown, hg, hG, hK, hX, hbl, hlocks, hlt, hL⟩ := C
  intro pl pq nq nm ab lg cnt kb f cod pl' nm' od op kU kD kl up dn ml H locs ls hiv hP hD hS hl
  have hc : cnt ≤ 3 := hiv.1
  have hk1z : k1 + 0 ≤ room_1.cells := by omega
  have hk2z : k2 + 0 ≤ room_1.slots := by omega
  have hA : ∀ q : Nat, s.heap.size ≤ q → lA s q := fun _ h => h
  have hbA : ¬ lA s sc := Nat.not_le.mpr hbl
  refine lv_aload_n hx hb dL_law_684 rfl (lv_at hl 3 rfl) ?_
  refine vp_callSi (W.runV (As := []) (rest := []) ⟨hx, hb, hml, hown, hg⟩ (c_X2_cuts l (lA s) D cI cL cQ (ow cL o f :: mw cI b cod (nI cnt) pl' nm' od op (zi kb) kU kD kl up dn ml) a pl pq nq nm ab lg cnt hc (zi kb)) (cwV 0 hg (gw_V ml_L_98 im_X2_cuts se_X2_cuts ini_X2 co_X2_cuts) rfl rfl rfl (by decide +kernel) ⟨Nat.le_of_ble_eq_true rfl, Nat.le_of_ble_eq_true rfl⟩) ⟨gp_blind, va_recv hK hP (ci := 2) (q0 := 0) rfl rfl, fun U hU hW => ⟨rfl, hG.warm hS hU hW, pu_B.at hK hP hU hW⟩⟩ rfl rfl hl.1 rfl (lv_room (Nat.le_of_ble_eq_true rfl)) dL_law_685 ⟨hk1z, hk2z⟩) (fun r_1 hr_1 => ?_)
  subst hr_1
  refine lv_aload_n hx hb dL_law_688 rfl (lv_at hl 2 rfl) ?_
  have hPm := pm_P hP
  have hDm := pm_D hD
  refine va_calli (va_runV (As := []) (rest := [.int (nI cnt)]) ⟨hx, hb, hml, hown, hg⟩ (c_X3_cuts l (lA s) D cI cL cQ (xw cI cQ a pl pq nq nm ab lg (nI cnt) (zi kb) ++ [ow cL o f]) b cod cnt hc pl' nm' od op kb kU kD kl up dn ml ) (cwV 0 hg (gw_V ml_L_101 im_X3_cuts se_X3_cuts ini_X3 co_X3_cuts) rfl rfl rfl (by decide +kernel) ⟨Nat.le_of_ble_eq_true rfl, Nat.le_of_ble_eq_true rfl⟩) ⟨wd_B.blind, va_recv hK hPm (ci := 3) (q0 := 0) rfl rfl, fun U hU hW => ⟨rfl, wd_B.at hG hK hPm hDm hS hA hU hW⟩⟩ rfl rfl hl.1 rfl (lv_room (Nat.le_of_ble_eq_true rfl)) dL_law_689 ⟨hk1z, hk2z⟩) hS (fun q _ h => h) (fun q h => h) (fun r2 w t H1 locs ht hvm h2 hB hz1 hk9 hS => ?_)
  obtain ⟨hK, hP, hD⟩ := hB.back ht hvm
  clear hPm hDm
  generalize H1 = H at hP hS ⊢
  have hP := mp_P (show va_P D vwCl (lwm cI cL cQ a b o pl pq nq nm ab lg cnt kb f 0 cnt pl' nm' od op kb kU kD kl up dn ml) H from hP)
  have hD := mp_D (show va_D (lA s) (lwm cI cL cQ a b o pl pq nq nm ab lg cnt kb f 0 cnt pl' nm' od op kb kU kD kl up dn ml) from hD)
  subst h2
  have hP : va_P D vwCl (lww cI cL cQ a b o pl pq nq nm ab lg cnt kb f 0 cnt pl' nm' od op kb kU kD kl up dn ml) H := hP
  have hD : va_D (lA s) (lww cI cL cQ a b o pl pq nq nm ab lg cnt kb f 0 cnt pl' nm' od op kb kU kD kl up dn ml) := hD
  refine lv_icmp_eq (tgt := 708) hx hb dL_law_692 (by decide) (fun c_2 => ?_) (fun c_2 => ?_)
  · replace c_2 : cnt = cnt := (nI_eq (a := cnt) (b := cnt) (by omega) (by omega)).mp c_2
    refine W.widen (k := k1 + 1) (n := k2 + 6) (Nat.le_add_right k1 1) (Nat.le_add_right k2 6) ?_
    exact K pl pq nq nm ab lg cnt kb f 0 pl' nm' od op kU kD kl up dn ml _ _ ls hiv hP hD hS (lv_sub hl [0, 1, 2, 3, 4] rfl)
  · replace c_2 : ¬ cnt = cnt := fun h => c_2 ((nI_eq (a := cnt) (b := cnt) (by omega) (by omega)).mpr h)
    refine lv_iconst (v := 0) hx hb dL_law_695 (by decide) ?_
    exact absurd (rfl : cnt = cnt) c_2
set_option maxHeartbeats 4000000 in
set_option maxRecDepth 100000 in
theorem lw_k12 {p : Program} {l : Launch} {e : Env} {s : State} {m : MethodId} {below : List Frame} {meth : Method} {c : Code} {D : va_G} {cI cL cQ : ClassId} {sc L : Nat} {xs : Nat → Int32} {a b : Nat → Nat} {o i k1 k2 : Nat} (C : lw_C p l s m meth c D cI cL cQ sc L xs) (hi : 4 * i + 4 ≤ L) (hk1 : k1 + 1 ≤ room_1.cells) (hk2 : k2 + 6 ≤ room_1.slots) (K : lw_R p l e s m below meth c D cI cL cQ sc a b o 708 i (k1 + 1) (k2 + 6)) : lw_R p l e s m below meth c D cI cL cQ sc a b o 697 i k1 k2 := by
  obtain ⟨hx, hb, hr, hml, hown, hg, hG, hK, hX, hbl, hlocks, hlt, hL⟩ := C
  intro pl pq nq nm ab lg cnt kb f cod pl' nm' od op kU kD kl up dn ml H locs ls hiv hP hD hS hl
  have hc : cnt ≤ 3 := hiv.1
  have hk1z : k1 + 0 ≤ room_1.cells := by omega
  have hk2z : k2 + 0 ≤ room_1.slots := by omega
  have hA : ∀ q : Nat, s.heap.size ≤ q → lA s q := fun _ h => h
  have hbA : ¬ lA s sc := Nat.not_le.mpr hbl
  refine lv_aload_n hx hb dL_law_697 rfl (lv_at hl 3 rfl) ?_
  refine va_callv (va_runV (As := []) (rest := []) ⟨hx, hb, hml, hown, hg⟩ (c_X2_clear l (lA s) D cI cL cQ (ow cL o f :: mw cI b cod (nI cnt) pl' nm' od op (zi kb) kU kD kl up dn ml) a pl pq nq nm ab lg cnt hc (zi kb)) (cwV 0 hg (gw_V ml_L_102 im_X2_clear se_X2_clear ini_X2 co_X2_clear) rfl rfl rfl (by decide +kernel) ⟨Nat.le_of_ble_eq_true rfl, Nat.le_of_ble_eq_true rfl⟩) ⟨wd_B.blind, va_recv hK hP (ci := 2) (q0 := 0) rfl rfl, fun U hU hW => ⟨rfl, wd_B.at hG hK hP hD hS hA hU hW⟩⟩ rfl rfl hl.1 rfl (lv_room (Nat.le_of_ble_eq_true rfl)) dL_law_698 ⟨hk1z, hk2z⟩) hS (fun q _ h => h) (fun q h => h) (fun u t H1 locs ht hvm h1 hB hz1 hk9 hS => ?_)
  obtain ⟨hK, hP, hD⟩ := hB.back ht hvm
  generalize H1 = H at hP hS ⊢
  have hP : va_P D vwCl (lww cI cL cQ a b o pl pq nq (va_up nm 0 (fun _ => 0)) ab lg 0 false f cod cnt pl' nm' od op kb kU kD kl up dn ml) H := hP
  have hD : va_D (lA s) (lww cI cL cQ a b o pl pq nq (va_up nm 0 (fun _ => 0)) ab lg 0 false f cod cnt pl' nm' od op kb kU kD kl up dn ml) := hD
  refine lv_aload_n hx hb dL_law_701 rfl (lv_at hl 2 rfl) ?_
  have hPm := pm_P hP
  have hDm := pm_D hD
  refine va_callv (va_runV (As := []) (rest := []) ⟨hx, hb, hml, hown, hg⟩ (c_X3_clear l (lA s) D cI cL cQ (xw cI cQ a pl pq nq (va_up nm 0 (fun _ => 0)) ab lg (nI 0) (zi false) ++ [ow cL o f]) b cod cnt hc pl' nm' od op kb kU kD kl up dn ml ) (cwV 0 hg (gw_V ml_L_105 im_X3_clear se_X3_clear ini_X3 co_X3_clear) rfl rfl rfl (by decide +kernel) ⟨Nat.le_of_ble_eq_true rfl, Nat.le_of_ble_eq_true rfl⟩) ⟨wd_B.blind, va_recv hK hPm (ci := 3) (q0 := 0) rfl rfl, fun U hU hW => ⟨rfl, wd_B.at hG hK hPm hDm hS hA hU hW⟩⟩ rfl rfl hl.1 rfl (lv_room (Nat.le_of_ble_eq_true rfl)) dL_law_702 ⟨hk1z, hk2z⟩) hS (fun q _ h => h) (fun q h => h) (fun w t H1 locs ht hvm h2 hB hz1 hk9 hS => ?_)
  obtain ⟨hK, hP, hD⟩ := hB.back ht hvm
  clear hPm hDm
  generalize H1 = H at hP hS ⊢
  have hP := mp_P (show va_P D vwCl (lwm cI cL cQ a b o pl pq nq (va_up nm 0 (fun _ => 0)) ab lg 0 false f 0 0 pl' (fun _ => 0) od op false kU kD kl up dn ml) H from hP)
  have hD := mp_D (show va_D (lA s) (lwm cI cL cQ a b o pl pq nq (va_up nm 0 (fun _ => 0)) ab lg 0 false f 0 0 pl' (fun _ => 0) od op false kU kD kl up dn ml) from hD)
  have hag := ag_clear hiv
  have hP : va_P D vwCl (lww cI cL cQ a b o pl pq nq (va_up nm 0 (fun _ => 0)) ab lg 0 false f 0 0 pl' (fun _ => 0) od op false kU kD kl up dn ml) H := hP
  have hD : va_D (lA s) (lww cI cL cQ a b o pl pq nq (va_up nm 0 (fun _ => 0)) ab lg 0 false f 0 0 pl' (fun _ => 0) od op false kU kD kl up dn ml) := hD
  refine lv_goto (tgt := 708) hx hb dL_law_705 (by decide) ?_
  refine W.widen (k := k1 + 1) (n := k2 + 6) (Nat.le_add_right k1 1) (Nat.le_add_right k2 6) ?_
  exact K pl pq nq (va_up nm 0 (fun _ => 0)) ab lg 0 false f 0 pl' (fun _ => 0) od op kU kD kl up dn ml _ _ ls hag hP hD hS (lv_sub hl [0, 1, 2, 3, 4] rfl)
