/-! the law's loop -/
set_option maxHeartbeats 4000000 in
set_option maxRecDepth 100000 in
theorem lw_step {p : Program} {l : Launch} {e : Env} {s : State} {m : MethodId} {below : List Frame} {meth : Method} {c : Code} {D : va_G} {cI cL cQ : ClassId} {sc L : Nat} {xs : Nat → Int32} {a b : Nat → Nat} {o i k1 k2 : Nat} (C : lw_C p l s m meth c D cI cL cQ sc L xs) (K : lw_R p l e s m below meth c D cI cL cQ sc a b o 23 (i + 1) k1 k2) : lw_R p l e s m below meth c D cI cL cQ sc a b o 708 i k1 k2 := by
  obtain ⟨hx, hb, hr, hml, hown, hg, hG, hK, hX, hbl, hlocks, hlt, hL⟩ := C
  intro pl pq nq nm ab lg cnt kb f cod pl' nm' od op kU kD kl up dn ml H locs ls hiv hP hD hS hl
  refine lv_iinc (v := nI (4 * (i + 1))) (lv' := [(4, .int (nI (4 * (i + 1)))), (3, .ref o), (2, .ref (b 0)), (1, .ref (a 0)), (0, .ref sc)]) hx hb dL_law_708 hl (k := 0) rfl (by rw [show Int32.ofInt 4 = nI 4 from by decide, nI_add, show 4 * i + 4 = 4 * (i + 1) by omega]) (by decide) rfl (fun ls hl => ?_)
  refine lv_goto (tgt := 23) hx hb dL_law_711 (by decide) ?_
  exact K pl pq nq nm ab lg cnt kb f cod pl' nm' od op kU kD kl up dn ml _ _ ls hiv hP hD hS hl
set_option maxHeartbeats 4000000 in
set_option maxRecDepth 100000 in
theorem lw_head {p : Program} {l : Launch} {e : Env} {s : State} {m : MethodId} {below : List Frame} {meth : Method} {c : Code} {D : va_G} {cI cL cQ : ClassId} {sc L : Nat} {xs : Nat → Int32} {a b : Nat → Nat} {o i k1 k2 : Nat} (C : lw_C p l s m meth c D cI cL cQ sc L xs) (hi : 4 * i ≤ L) (hk1 : k1 + 1 ≤ room_1.cells) (hk2 : k2 + 6 ≤ room_1.slots) (K : 4 * i + 4 ≤ L → lw_R p l e s m below meth c D cI cL cQ sc a b o 708 i (k1 + 1) (k2 + 6)) : lw_R p l e s m below meth c D cI cL cQ sc a b o 23 i k1 k2 := by
  have C0 := C
  obtain ⟨hx, hb, hr, hml, hown, hg, hG, hK, hX, hbl, hlocks, hlt, hL⟩ := C
  intro pl pq nq nm ab lg cnt kb f cod pl' nm' od op kU kD kl up dn ml H locs ls hiv hP hD hS hl
  have hbA : ¬ lA s sc := Nat.not_le.mpr hbl
  refine lv_iload hx hb dL_law_23 (lv_at hl 0 rfl) ?_
  refine lv_aload_n hx hb dL_law_25 rfl (lv_at hl 4 rfl) ?_
  refine va_slen (b := sc) (L := L) (xs := xs) hx hb hX hbl hbA hS dL_law_26 ?_
  refine lv_iconst (v := 4) hx hb dL_law_27 (by decide) ?_
  refine lv_isub hx hb dL_law_28 ?_
  have eL : (Int32.ofNat L - 4).toInt = (L : Int) - 4 := by
    have h1 : (Int32.ofNat L).toInt = (L : Int) := nI_toInt (n := L) (by omega)
    have h2 : (4 : Int32).toInt = 4 := rfl
    rw [Int32.toInt_sub, h1, h2, ma_I] <;> omega
  have eI : (nI (4 * i)).toInt = 4 * (i : Int) := by rw [nI_toInt (by omega)]; omega
  refine lv_icmp_gt (tgt := 714) hx hb dL_law_29 (by decide) (fun c_1 => ?_) (fun c_1 => ?_)
  · refine lv_iconst (v := 1) hx hb dL_law_714 (by decide) ?_
    refine va_forget (fun q hq => hS.2.2 q hq) ?_
    refine W.widen (k := 671320) (n := 7082144) (by have := hk1; show k1 ≤ 671320; exact Nat.le_trans (Nat.le_succ k1) hk1) (by show k2 ≤ 7082144; exact Nat.le_trans (Nat.le_add_right k2 6) hk2) ?_
    exact lw_ret hx hb hr hlocks dL_law_715
  · have h4 : 4 * i + 4 ≤ L := by
      rw [Int32.lt_iff_toInt_lt, eL, eI] at c_1
      omega
    refine lv_aload_n hx hb dL_law_32 rfl (lv_at hl 4 rfl) ?_
    refine lv_iload hx hb dL_law_33 (lv_at hl 0 rfl) ?_
    refine va_sld (b := sc) (L := L) (xs := xs) (i := nI (4 * i)) hx hb hX hbl hbA hS (vp_in_nI (show 4 * i < L by omega) (by omega)) dL_law_35 ?_
    refine lv_bipush (v := 15) hx hb dL_law_36 (by decide) ?_
    refine lv_iand hx hb dL_law_38 ?_
    refine lv_topi (fun v ev => ?_)
    clear ev
    by_cases hv : v.toInt < 0 ∨ 12 < v.toInt
    · refine lv_tableOut (tgt := 708) hx hb dL_law_39 hv (by decide) ?_
      refine W.widen (k := k1 + 1) (n := k2 + 6) (Nat.le_add_right k1 1) (Nat.le_add_right k2 6) ?_
      exact K h4 pl pq nq nm ab lg cnt kb f cod pl' nm' od op kU kD kl up dn ml _ _ ls hiv hP hD hS hl
    · obtain ⟨n, hn, rfl⟩ : ∃ n : Nat, n ≤ 12 ∧ v = nI n := ⟨v.toInt.toNat, by omega, Int32.toInt_inj.mp (by rw [nI_toInt (by omega)]; omega)⟩
      rcases (show n = 0 ∨ n = 1 ∨ n = 2 ∨ n = 3 ∨ n = 4 ∨ n = 5 ∨ n = 6 ∨ n = 7 ∨ n = 8 ∨ n = 9 ∨ n = 10 ∨ n = 11 ∨ n = 12 by omega) with rfl | rfl | rfl | rfl | rfl | rfl | rfl | rfl | rfl | rfl | rfl | rfl | rfl
      · refine lv_tableIn (off := 65) (tgt := 104) hx hb dL_law_39 (by decide) (by decide) (by decide) (by decide) ?_
        exact lw_k0 C0 h4 hk1 hk2 (K h4) pl pq nq nm ab lg cnt kb f cod pl' nm' od op kU kD kl up dn ml _ _ ls hiv hP hD hS hl
      · refine lv_tableIn (off := 121) (tgt := 160) hx hb dL_law_39 (by decide) (by decide) (by decide) (by decide) ?_
        exact lw_k1 C0 h4 hk1 hk2 (K h4) pl pq nq nm ab lg cnt kb f cod pl' nm' od op kU kD kl up dn ml _ _ ls hiv hP hD hS hl
      · refine lv_tableIn (off := 157) (tgt := 196) hx hb dL_law_39 (by decide) (by decide) (by decide) (by decide) ?_
        exact lw_k2 C0 h4 hk1 hk2 (K h4) pl pq nq nm ab lg cnt kb f cod pl' nm' od op kU kD kl up dn ml _ _ ls hiv hP hD hS hl
      · refine lv_tableIn (off := 244) (tgt := 283) hx hb dL_law_39 (by decide) (by decide) (by decide) (by decide) ?_
        exact lw_k3 C0 h4 hk1 hk2 (K h4) pl pq nq nm ab lg cnt kb f cod pl' nm' od op kU kD kl up dn ml _ _ ls hiv hP hD hS hl
      · refine lv_tableIn (off := 312) (tgt := 351) hx hb dL_law_39 (by decide) (by decide) (by decide) (by decide) ?_
        exact lw_k4 C0 h4 hk1 hk2 (K h4) pl pq nq nm ab lg cnt kb f cod pl' nm' od op kU kD kl up dn ml _ _ ls hiv hP hD hS hl
      · refine lv_tableIn (off := 368) (tgt := 407) hx hb dL_law_39 (by decide) (by decide) (by decide) (by decide) ?_
        exact lw_k5 C0 h4 hk1 hk2 (K h4) pl pq nq nm ab lg cnt kb f cod pl' nm' od op kU kD kl up dn ml _ _ ls hiv hP hD hS hl
      · refine lv_tableIn (off := 379) (tgt := 418) hx hb dL_law_39 (by decide) (by decide) (by decide) (by decide) ?_
        exact lw_k6 C0 h4 hk1 hk2 (K h4) pl pq nq nm ab lg cnt kb f cod pl' nm' od op kU kD kl up dn ml _ _ ls hiv hP hD hS hl
      · refine lv_tableIn (off := 446) (tgt := 485) hx hb dL_law_39 (by decide) (by decide) (by decide) (by decide) ?_
        exact lw_k7 C0 h4 hk1 hk2 (K h4) pl pq nq nm ab lg cnt kb f cod pl' nm' od op kU kD kl up dn ml _ _ ls hiv hP hD hS hl
      · refine lv_tableIn (off := 521) (tgt := 560) hx hb dL_law_39 (by decide) (by decide) (by decide) (by decide) ?_
        exact lw_k8 C0 h4 hk1 hk2 (K h4) pl pq nq nm ab lg cnt kb f cod pl' nm' od op kU kD kl up dn ml _ _ ls hiv hP hD hS hl
      · refine lv_tableIn (off := 576) (tgt := 615) hx hb dL_law_39 (by decide) (by decide) (by decide) (by decide) ?_
        exact lw_k9 C0 h4 hk1 hk2 (K h4) pl pq nq nm ab lg cnt kb f cod pl' nm' od op kU kD kl up dn ml _ _ ls hiv hP hD hS hl
      · refine lv_tableIn (off := 632) (tgt := 671) hx hb dL_law_39 (by decide) (by decide) (by decide) (by decide) ?_
        exact lw_k10 C0 h4 hk1 hk2 (K h4) pl pq nq nm ab lg cnt kb f cod pl' nm' od op kU kD kl up dn ml _ _ ls hiv hP hD hS hl
      · refine lv_tableIn (off := 645) (tgt := 684) hx hb dL_law_39 (by decide) (by decide) (by decide) (by decide) ?_
        exact lw_k11 C0 h4 hk1 hk2 (K h4) pl pq nq nm ab lg cnt kb f cod pl' nm' od op kU kD kl up dn ml _ _ ls hiv hP hD hS hl
      · refine lv_tableIn (off := 658) (tgt := 697) hx hb dL_law_39 (by decide) (by decide) (by decide) (by decide) ?_
        exact lw_k12 C0 h4 hk1 hk2 (K h4) pl pq nq nm ab lg cnt kb f cod pl' nm' od op kU kD kl up dn ml _ _ ls hiv hP hD hS hl
theorem lw_loop {p : Program} {l : Launch} {e : Env} {s : State} {m : MethodId} {below : List Frame} {meth : Method} {c : Code} {D : va_G} {cI cL cQ : ClassId} {sc L : Nat} {xs : Nat → Int32} {a b : Nat → Nat} {o : Nat} (C : lw_C p l s m meth c D cI cL cQ sc L xs) : ∀ (n i : Nat), 4 * i ≤ L → L ≤ 4 * i + n → lw_R p l e s m below meth c D cI cL cQ sc a b o 23 i (21 + i) (149 + 6 * i)
  | 0, i, h1, h2 => lw_head C h1 (by have hL := C.2.2.2.2.2.2.2.2.2.2.2.2; show 21 + i + 1 ≤ 671320; omega) (by have hL := C.2.2.2.2.2.2.2.2.2.2.2.2; show 149 + 6 * i + 6 ≤ 7082144; omega) (fun h => absurd h (by omega))
  | n + 1, i, h1, h2 => lw_head C h1 (by have hL := C.2.2.2.2.2.2.2.2.2.2.2.2; show 21 + i + 1 ≤ 671320; omega) (by have hL := C.2.2.2.2.2.2.2.2.2.2.2.2; show 149 + 6 * i + 6 ≤ 7082144; omega) (fun h => lw_step C (lw_loop C n (i + 1) (by omega) (by omega)))
