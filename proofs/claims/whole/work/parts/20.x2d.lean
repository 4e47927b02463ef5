abbrev xw0 (cI cQ : ClassId) (a : Nat → Nat) (rr : Nat → Option Nat) (pl : Nat → Int32) (pq nq : Nat → Nat) (nm : Nat → Nat → Int32) (ab : Int64) (lg : Nat → Int32) (cnt kn : Int32) : va_W :=
  [(a 0, .inr (2, [.ref (a 1), .ref (a 2), .ref (a 3), .int cnt, .int kn])), (a 1, .inl (cI, 3, .inl pl)), (a 2, .inl (cQ, 4, .inr (.inr (.inr (.inr rr))))), (a 3, .inr (1, [.long ab, .ref (a 4)])), (a 4, .inl (cI, 5, .inl lg)),
    (pq 0, .inr (0, [.ref (nq 0)])), (nq 0, .inl (cI, 8, .inl (nm 0))), (pq 1, .inr (0, [.ref (nq 1)])), (nq 1, .inl (cI, 8, .inl (nm 1))), (pq 2, .inr (0, [.ref (nq 2)])), (nq 2, .inl (cI, 8, .inl (nm 2))), (pq 3, .inr (0, [.ref (nq 3)])), (nq 3, .inl (cI, 8, .inl (nm 3)))]
theorem pc_cgq {cA : ClassId} {n : Nat} {f g : Nat → Option Nat} (h : ∀ j, j < n → f j = g j) : vp_cell cA (n, .inr (.inr (.inr (.inr f)))) = vp_cell cA (n, .inr (.inr (.inr (.inr g)))) := by
  rw [vp_cell_q, vp_cell_q, arrV, arrV]
  congr 1
  apply Array.ext_getElem?
  intro j
  rcases Nat.lt_or_ge j n with hj | hj
  · simp [hj, h j hj]
  · simp [hj]
theorem va_P.cgq {D : va_G} {cl : List vw_C} {ws : va_W} {H : Heap} {p a n : Nat} {cA : ClassId} {f g : Nat → Option Nat} (hP : va_P D cl ws H) (hp : ws[p]? = some (a, .inl (cA, n, .inr (.inr (.inr (.inr f)))))) (h : ∀ j, j < n → f j = g j) : va_P D cl (ws.set p (a, .inl (cA, n, .inr (.inr (.inr (.inr g)))))) H := by
  intro k q hk
  by_cases e : p = k
  · subst e
    rw [st_at hp] at hk
    cases hk
    have h1 := hP p _ hp
    show H[a]? = some (vp_cell cA (n, .inr (.inr (.inr (.inr g)))))
    rw [← pc_cgq h]
    exact h1
  · rw [List.getElem?_set_ne e] at hk
    exact hP k q hk
def mi_s (cnt j : Nat) : Nat := if j ≤ cnt then cnt - j else j
set_option maxHeartbeats 4000000 in
set_option maxRecDepth 100000 in
theorem c_X2_mirror (l : Launch) (A : Nat → Prop) (D : va_G) (cI cL cQ : ClassId) (fr : va_W) (a : Nat → Nat) (pl : Nat → Int32) (pq nq : Nat → Nat) (nm : Nat → Nat → Int32) (ab : Int64) (lg : Nat → Int32) (cnt : Nat) (hc : cnt ≤ 3) (kn : Int32) : Met l yX2_mirror wsX2_mirror { frames := 1, cells := 0, slots := 0, locals := 21 } (va_Pc [.ref (a 0)] (wd_B D (ty3 cI cL cQ) A (xw cI cQ a pl pq nq nm ab lg (nI cnt) kn ++ fr))) (va_Qv (fun (u : (Nat → Int32) × (Nat → Nat) × (Nat → Nat) × (Nat → Nat → Int32)) => (∀ j, j < cnt → u.1 j = -(pl (cnt - 1 - j))) ∧ (∀ i, i ≤ cnt → ∀ j, u.2.2.2 i j = nm (cnt - i) j * gl_sign j)) (fun u t => wd_E D (ty3 cI cL cQ) A (xw cI cQ a u.1 u.2.1 u.2.2.1 u.2.2.2 ab lg (nI cnt) kn ++ fr) t) A) 0 0 A := by
  refine Met.ofW (cc := cX2_mirror) (maxL := 4) (ret := none) (by decide) rfl ?_
  intro p e s m args below meth c s₁ B hml hv
  obtain ⟨rfl, hG, hK, hP, hD, hA⟩ := hv
  have hx := B.exec
  have hb := B.bytes
  have hr := B.returns
  have hts := atoms_spec (ws := wsX2_mirror) B.pre
  have hg : ∀ w ∈ gw, w.before ([.ref (a 0)] : List Value).toArray s = true := fun w h => hts w (List.mem_cons_of_mem _ h)
  have hown : s.vm.findClass RX2 = some m.cls := findClass_of_methodNamed B.named
  have hlocks := B.notSynchronized
  have hS : va_S A s.heap s.heap [] := va_S.rf
  have hl := lv_entry ([.ref (a 0)]) (n := 4) (Nat.le_of_ble_eq_true rfl)
  rw [lg_entry_eq]
  generalize (lg_sl ([.ref (a 0)]) ++ List.replicate (4 - (lg_sl ([.ref (a 0)])).length) Slot.unset).toArray = ls at hl ⊢
  have hl : lv_has ls 4 [(0, .ref (a 0))] := hl
  rcases (show cnt = 0 ∨ cnt = 1 ∨ cnt = 2 ∨ cnt = 3 by omega) with rfl | rfl | rfl | rfl
  · have hP : va_P D vwCl (xw cI cQ a pl pq nq nm ab lg 0 kn ++ fr) s.heap := hP
    have hD : va_D A (xw cI cQ a pl pq nq nm ab lg 0 kn ++ fr) := hD
    refine lv_iconst (v := 0) hx hb dX2_mirror_0 (by decide) ?_
    refine lv_istore_n (lv' := [(1, .int 0), (0, .ref (a 0))]) hx hb dX2_mirror_1 rfl hl (by decide) rfl (fun ls hl => ?_)
    refine lv_aload_n hx hb dX2_mirror_2 rfl (lv_at hl 1 rfl) ?_
    refine va_get (D := D) (ci := 2) (v := .int 0) (C := RX2) (T := TX2) (N := 5) hx hb hg inX2 hown hK hP 0 rfl rfl 3 (by decide) (hg _ fl_X2_26) (fun _ h9 => h9) rfl dX2_mirror_3 ?_
    refine lv_iconst (v := 1) hx hb dX2_mirror_6 (by decide) ?_
    refine lv_isub hx hb dX2_mirror_7 ?_
    rw [show (0 : Int32) - 1 = (-1) from by decide]
    refine lv_istore_n (lv' := [(2, .int (-1)), (1, .int 0), (0, .ref (a 0))]) hx hb dX2_mirror_8 rfl hl (by decide) rfl (fun ls hl => ?_)
    refine lv_iload_n hx hb dX2_mirror_9 rfl (lv_at hl 1 rfl) ?_
    refine lv_iload_n hx hb dX2_mirror_10 rfl (lv_at hl 0 rfl) ?_
    refine lv_icmp_gt (tgt := 51) hx hb dX2_mirror_11 (by decide) (fun _ => ?_) (fun c_1 => absurd c_1 (by decide))
    refine lv_iconst (v := 0) hx hb dX2_mirror_51 (by decide) ?_
    refine lv_istore_n (lv' := [(1, .int 0), (2, .int (-1)), (0, .ref (a 0))]) hx hb dX2_mirror_52 rfl hl (by decide) rfl (fun ls hl => ?_)
    refine lv_aload_n hx hb dX2_mirror_53 rfl (lv_at hl 2 rfl) ?_
    refine va_get (D := D) (ci := 2) (v := .int 0) (C := RX2) (T := TX2) (N := 5) hx hb hg inX2 hown hK hP 0 rfl rfl 3 (by decide) (hg _ fl_X2_26) (fun _ h9 => h9) rfl dX2_mirror_54 ?_
    refine lv_istore_n (lv' := [(2, .int 0), (1, .int 0), (0, .ref (a 0))]) hx hb dX2_mirror_57 rfl hl (by decide) rfl (fun ls hl => ?_)
    refine lv_iload_n hx hb dX2_mirror_58 rfl (lv_at hl 1 rfl) ?_
    refine lv_iload_n hx hb dX2_mirror_59 rfl (lv_at hl 0 rfl) ?_
    refine lv_icmp_ge (tgt := 98) hx hb dX2_mirror_60 (by decide) (fun _ => ?_) (fun c_2 => absurd c_2 (by decide))
    have hP := hP.cgq (p := 2) (g := fun j => some (pq (mi_s 0 j))) rfl (fun j hj => by rcases (show j = 0 ∨ j = 1 ∨ j = 2 ∨ j = 3 by omega) with rfl | rfl | rfl | rfl <;> rfl)
    have hD := hD.set (p := 2) (e := .inl (cQ, 4, .inr (.inr (.inr (.inr (fun j => some (pq (mi_s 0 j)))))))) rfl
    have hP : va_P D vwCl (xw0 cI cQ a (fun j => some (pq (mi_s 0 j))) pl pq nq nm ab lg 0 kn ++ fr) s.heap := hP
    have hD : va_D A (xw0 cI cQ a (fun j => some (pq (mi_s 0 j))) pl pq nq nm ab lg 0 kn ++ fr) := hD
    have hP : va_P D vwCl (xw cI cQ a pl (fun j => pq (mi_s 0 j)) (fun j => nq (mi_s 0 j)) (fun j => nm (mi_s 0 j)) ab lg 0 kn ++ fr) s.heap := va_P.part (X := xw0 cI cQ a (fun j => some (pq (mi_s 0 j))) pl pq nq nm ab lg 0 kn) hP [0, 1, 2, 3, 4, 5, 6, 7, 8, 9, 10, 11, 12] rfl
    have hD : va_D A (xw cI cQ a pl (fun j => pq (mi_s 0 j)) (fun j => nq (mi_s 0 j)) (fun j => nm (mi_s 0 j)) ab lg 0 kn ++ fr) := va_D.part (X := xw0 cI cQ a (fun j => some (pq (mi_s 0 j))) pl pq nq nm ab lg 0 kn) hD [0, 1, 2, 3, 4, 5, 6, 7, 8, 9, 10, 11, 12] rfl rfl
    have hnm2 : ∀ j, (fun j => nm (mi_s 0 j)) j = nm (mi_s 0 j) := fun _ => rfl
    generalize (fun j => pq (mi_s 0 j)) = pq2 at hP hD
    generalize (fun j => nq (mi_s 0 j)) = nq2 at hP hD
    generalize (fun j => nm (mi_s 0 j)) = nm2 at hP hD hnm2
    have hP : va_P D vwCl (xw cI cQ a pl pq2 nq2 nm2 ab lg 0 kn ++ fr) s.heap := hP
    have hD : va_D A (xw cI cQ a pl pq2 nq2 nm2 ab lg 0 kn ++ fr) := hD
    refine lv_iconst (v := 0) hx hb dX2_mirror_98 (by decide) ?_
    refine lv_istore_n (lv' := [(1, .int 0), (2, .int 0), (0, .ref (a 0))]) hx hb dX2_mirror_99 rfl hl (by decide) rfl (fun ls hl => ?_)
    refine lv_iload_n hx hb dX2_mirror_100 rfl (lv_at hl 0 rfl) ?_
    refine lv_aload_n hx hb dX2_mirror_101 rfl (lv_at hl 2 rfl) ?_
    refine va_get (D := D) (ci := 2) (v := .int 0) (C := RX2) (T := TX2) (N := 5) hx hb hg inX2 hown hK hP 0 rfl rfl 3 (by decide) (hg _ fl_X2_26) (fun _ h9 => h9) rfl dX2_mirror_102 ?_
    refine lv_icmp_gt (tgt := 123) hx hb dX2_mirror_105 (by decide) (fun c_3 => absurd c_3 (by decide)) (fun _ => ?_)
    refine lv_aload_n hx hb dX2_mirror_108 rfl (lv_at hl 2 rfl) ?_
    refine va_get (D := D) (ci := 2) (v := .ref (a 2)) (C := RX2) (T := TX2) (N := 5) hx hb hg inX2 hown hK hP 0 rfl rfl 1 (by decide) (hg _ fl_X2_15) (fun _ h9 => h9) rfl dX2_mirror_109 ?_
    refine lv_iload_n hx hb dX2_mirror_112 rfl (lv_at hl 0 rfl) ?_
    refine va_aldq (D := D) (n := 4) (f := (fun j => some (pq2 j))) hx hb hK hP 2 2 rfl rfl (vp_in_nI (show 0 < 4 by decide) (by decide)) dX2_mirror_113 ?_
    refine W.eq (g2 := F0 m 114 ls [.ref (pq2 0)]) rfl ?_
    refine va_callv (va_runVN (As := []) (rest := []) ⟨hx, hb, hml, hown, hg⟩ (c_X0_turnRound l A D cI cL cQ (xw cI cQ a pl pq2 nq2 nm2 ab lg 0 kn ++ fr) 5 6 (pq2 0) (nq2 0) (nm2 0) rfl rfl) ⟨va_cnB 0 hg (gw_C co_X0_turnRound) rfl rfl rfl (hG.1 _ mn_X2_77) (hg _ ini_X0) (by decide +kernel) ⟨Nat.le_of_ble_eq_true rfl, Nat.le_of_ble_eq_true rfl⟩, hg _ im_X0_turnRound, hg _ se_X0_turnRound⟩ ⟨wd_B.blind, va_recv hK hP (ci := 0) (q0 := 5) rfl rfl, (fun U hU hW => ⟨rfl, wd_B.at hG hK hP hD hS hA hU hW⟩)⟩ rfl rfl hl.1 rfl (lv_room (Nat.le_of_ble_eq_true rfl)) dX2_mirror_114 ⟨Nat.le_of_ble_eq_true rfl, Nat.le_of_ble_eq_true rfl⟩) hS (fun q _ h => h) (fun q h => h) (fun u t H1 locs ht hvm hr_4 hB hz1 hk1 hS => ?_)
    obtain ⟨hK, hP, hD⟩ := hB.back ht hvm
    generalize H1 = H at hP hS ⊢
    have hP : va_P D vwCl (xw cI cQ a pl pq2 nq2 (va_up nm2 0 (fun j => nm2 0 j * gl_sign j)) ab lg 0 kn ++ fr) H := hP
    have hD : va_D A (xw cI cQ a pl pq2 nq2 (va_up nm2 0 (fun j => nm2 0 j * gl_sign j)) ab lg 0 kn ++ fr) := hD
    refine lv_iinc (v := 1) (lv' := [(1, .int 1), (2, .int 0), (0, .ref (a 0))]) hx hb dX2_mirror_117 hl (k := 0) rfl (by decide) (by decide) rfl (fun ls hl => ?_)
    refine lv_goto (tgt := 100) hx hb dX2_mirror_120 (by decide) ?_
    refine lv_iload_n hx hb dX2_mirror_100 rfl (lv_at hl 0 rfl) ?_
    refine lv_aload_n hx hb dX2_mirror_101 rfl (lv_at hl 2 rfl) ?_
    refine va_get (D := D) (ci := 2) (v := .int 0) (C := RX2) (T := TX2) (N := 5) hx hb hg inX2 hown hK hP 0 rfl rfl 3 (by decide) (hg _ fl_X2_26) (fun _ h9 => h9) rfl dX2_mirror_102 ?_
    refine lv_icmp_gt (tgt := 123) hx hb dX2_mirror_105 (by decide) (fun _ => ?_) (fun c_5 => absurd c_5 (by decide))
    exact W.vret hx hb hr (fun t ht hW => ⟨⟨(pl, pq2, nq2, (va_up nm2 0 (fun j => nm2 0 j * gl_sign j))), rfl, ⟨fun j hj => absurd hj (Nat.not_lt_zero j), fun i hi j => by rcases (show i = 0 by omega) with rfl <;> simp [va_up, hnm2, mi_s]⟩, wd_E.at hK hP hD ht hW⟩, hS.F ht⟩) hS.2.2 dX2_mirror_123
  · have hP : va_P D vwCl (xw cI cQ a pl pq nq nm ab lg 1 kn ++ fr) s.heap := hP
    have hD : va_D A (xw cI cQ a pl pq nq nm ab lg 1 kn ++ fr) := hD
    refine lv_iconst (v := 0) hx hb dX2_mirror_0 (by decide) ?_
    refine lv_istore_n (lv' := [(1, .int 0), (0, .ref (a 0))]) hx hb dX2_mirror_1 rfl hl (by decide) rfl (fun ls hl => ?_)
    refine lv_aload_n hx hb dX2_mirror_2 rfl (lv_at hl 1 rfl) ?_
    refine va_get (D := D) (ci := 2) (v := .int 1) (C := RX2) (T := TX2) (N := 5) hx hb hg inX2 hown hK hP 0 rfl rfl 3 (by decide) (hg _ fl_X2_26) (fun _ h9 => h9) rfl dX2_mirror_3 ?_
    refine lv_iconst (v := 1) hx hb dX2_mirror_6 (by decide) ?_
    refine lv_isub hx hb dX2_mirror_7 ?_
    rw [show (1 : Int32) - 1 = 0 from by decide]
    refine lv_istore_n (lv' := [(2, .int 0), (1, .int 0), (0, .ref (a 0))]) hx hb dX2_mirror_8 rfl hl (by decide) rfl (fun ls hl => ?_)
    refine lv_iload_n hx hb dX2_mirror_9 rfl (lv_at hl 1 rfl) ?_
    refine lv_iload_n hx hb dX2_mirror_10 rfl (lv_at hl 0 rfl) ?_
    refine lv_icmp_gt (tgt := 51) hx hb dX2_mirror_11 (by decide) (fun c_6 => absurd c_6 (by decide)) (fun _ => ?_)
    refine lv_aload_n hx hb dX2_mirror_14 rfl (lv_at hl 2 rfl) ?_
    refine va_get (D := D) (ci := 2) (v := .ref (a 1)) (C := RX2) (T := TX2) (N := 5) hx hb hg inX2 hown hK hP 0 rfl rfl 0 (by decide) (hg _ fl_X2_9) (fun _ h9 => h9) rfl dX2_mirror_15 ?_
    refine lv_iload_n hx hb dX2_mirror_18 rfl (lv_at hl 1 rfl) ?_
    refine va_iald (D := D) (n := 3) (f := pl) hx hb hK hP 1 0 rfl rfl (vp_in_nI (show 0 < 3 by decide) (by decide)) dX2_mirror_19 ?_
    rw [show (0 : Int32).toNatClampNeg = 0 from by decide]
    refine lv_topi (fun v_7 ev_7 => ?_)
    refine lv_istore_n (lv' := [(3, .int v_7), (2, .int 0), (1, .int 0), (0, .ref (a 0))]) hx hb dX2_mirror_20 rfl hl (by decide) rfl (fun ls hl => ?_)
    refine lv_aload_n hx hb dX2_mirror_21 rfl (lv_at hl 3 rfl) ?_
    refine va_get (D := D) (ci := 2) (v := .ref (a 1)) (C := RX2) (T := TX2) (N := 5) hx hb hg inX2 hown hK hP 0 rfl rfl 0 (by decide) (hg _ fl_X2_9) (fun _ h9 => h9) rfl dX2_mirror_22 ?_
    refine lv_iload_n hx hb dX2_mirror_25 rfl (lv_at hl 2 rfl) ?_
    refine lv_aload_n hx hb dX2_mirror_26 rfl (lv_at hl 3 rfl) ?_
    refine va_get (D := D) (ci := 2) (v := .ref (a 1)) (C := RX2) (T := TX2) (N := 5) hx hb hg inX2 hown hK hP 0 rfl rfl 0 (by decide) (hg _ fl_X2_9) (fun _ h9 => h9) rfl dX2_mirror_27 ?_
    refine lv_iload_n hx hb dX2_mirror_30 rfl (lv_at hl 1 rfl) ?_
    refine va_iald (D := D) (n := 3) (f := pl) hx hb hK hP 1 0 rfl rfl (vp_in_nI (show 0 < 3 by decide) (by decide)) dX2_mirror_31 ?_
    rw [show (0 : Int32).toNatClampNeg = 0 from by decide]
    refine lv_ineg hx hb dX2_mirror_32 ?_
    refine lv_topi (fun v_8 ev_8 => ?_)
    refine va_iast (D := D) (n := 3) (f := pl) (x := v_8) hx hb hK hP hD hS 1 0 rfl rfl (vp_in_nI (show 0 < 3 by decide) (by decide)) dX2_mirror_33 (fun H locs hP hD hS => ?_)
    rw [show (0 : Int32).toNatClampNeg = 0 from by decide] at hP hD
    have hP : va_P D vwCl (xw cI cQ a (upd pl 0 v_8) pq nq nm ab lg 1 kn ++ fr) H := hP
    have hD : va_D A (xw cI cQ a (upd pl 0 v_8) pq nq nm ab lg 1 kn ++ fr) := hD
    refine lv_aload_n hx hb dX2_mirror_34 rfl (lv_at hl 3 rfl) ?_
    refine va_get (D := D) (ci := 2) (v := .ref (a 1)) (C := RX2) (T := TX2) (N := 5) hx hb hg inX2 hown hK hP 0 rfl rfl 0 (by decide) (hg _ fl_X2_9) (fun _ h9 => h9) rfl dX2_mirror_35 ?_
    refine lv_iload_n hx hb dX2_mirror_38 rfl (lv_at hl 1 rfl) ?_
    refine lv_iload_n hx hb dX2_mirror_39 rfl (lv_at hl 0 rfl) ?_
    refine lv_ineg hx hb dX2_mirror_40 ?_
    refine lv_topi (fun v_9 ev_9 => ?_)
    refine va_iast (D := D) (n := 3) (f := (upd pl 0 v_8)) (x := v_9) hx hb hK hP hD hS 1 0 rfl rfl (vp_in_nI (show 0 < 3 by decide) (by decide)) dX2_mirror_41 (fun H locs hP hD hS => ?_)
    rw [show (0 : Int32).toNatClampNeg = 0 from by decide] at hP hD
    have hP : va_P D vwCl (xw cI cQ a (upd (upd pl 0 v_8) 0 v_9) pq nq nm ab lg 1 kn ++ fr) H := hP
    have hD : va_D A (xw cI cQ a (upd (upd pl 0 v_8) 0 v_9) pq nq nm ab lg 1 kn ++ fr) := hD
    refine lv_iinc (v := 1) (lv' := [(1, .int 1), (3, .int v_7), (2, .int 0), (0, .ref (a 0))]) hx hb dX2_mirror_42 hl (k := 2) rfl (by decide) (by decide) rfl (fun ls hl => ?_)
    refine lv_iinc (v := (-1)) (lv' := [(2, .int (-1)), (1, .int 1), (3, .int v_7), (0, .ref (a 0))]) hx hb dX2_mirror_45 hl (k := 2) rfl (by decide) (by decide) rfl (fun ls hl => ?_)
    refine lv_goto (tgt := 9) hx hb dX2_mirror_48 (by decide) ?_
    refine lv_iload_n hx hb dX2_mirror_9 rfl (lv_at hl 1 rfl) ?_
    refine lv_iload_n hx hb dX2_mirror_10 rfl (lv_at hl 0 rfl) ?_
    refine lv_icmp_gt (tgt := 51) hx hb dX2_mirror_11 (by decide) (fun _ => ?_) (fun c_10 => absurd c_10 (by decide))
    refine lv_iconst (v := 0) hx hb dX2_mirror_51 (by decide) ?_
    refine lv_istore_n (lv' := [(1, .int 0), (2, .int (-1)), (3, .int v_7), (0, .ref (a 0))]) hx hb dX2_mirror_52 rfl hl (by decide) rfl (fun ls hl => ?_)
    refine lv_aload_n hx hb dX2_mirror_53 rfl (lv_at hl 3 rfl) ?_
    refine va_get (D := D) (ci := 2) (v := .int 1) (C := RX2) (T := TX2) (N := 5) hx hb hg inX2 hown hK hP 0 rfl rfl 3 (by decide) (hg _ fl_X2_26) (fun _ h9 => h9) rfl dX2_mirror_54 ?_
    refine lv_istore_n (lv' := [(2, .int 1), (1, .int 0), (3, .int v_7), (0, .ref (a 0))]) hx hb dX2_mirror_57 rfl hl (by decide) rfl (fun ls hl => ?_)
    refine lv_iload_n hx hb dX2_mirror_58 rfl (lv_at hl 1 rfl) ?_
    refine lv_iload_n hx hb dX2_mirror_59 rfl (lv_at hl 0 rfl) ?_
    refine lv_icmp_ge (tgt := 98) hx hb dX2_mirror_60 (by decide) (fun c_11 => absurd c_11 (by decide)) (fun _ => ?_)
    refine lv_aload_n hx hb dX2_mirror_63 rfl (lv_at hl 3 rfl) ?_
    refine va_get (D := D) (ci := 2) (v := .ref (a 2)) (C := RX2) (T := TX2) (N := 5) hx hb hg inX2 hown hK hP 0 rfl rfl 1 (by decide) (hg _ fl_X2_15) (fun _ h9 => h9) rfl dX2_mirror_64 ?_
    refine lv_iload_n hx hb dX2_mirror_67 rfl (lv_at hl 1 rfl) ?_
    refine va_aldq (D := D) (n := 4) (f := (fun j => some (pq j))) hx hb hK hP 2 2 rfl rfl (vp_in_nI (show 0 < 4 by decide) (by decide)) dX2_mirror_68 ?_
    refine W.eq (g2 := F0 m 69 ls [.ref (pq 0)]) rfl ?_
    refine lv_astore_n (lv' := [(3, .ref (pq 0)), (2, .int 1), (1, .int 0), (0, .ref (a 0))]) hx hb dX2_mirror_69 rfl hl (by decide) rfl (fun ls hl => ?_)
    refine lv_aload_n hx hb dX2_mirror_70 rfl (lv_at hl 3 rfl) ?_
    refine va_get (D := D) (ci := 2) (v := .ref (a 2)) (C := RX2) (T := TX2) (N := 5) hx hb hg inX2 hown hK hP 0 rfl rfl 1 (by decide) (hg _ fl_X2_15) (fun _ h9 => h9) rfl dX2_mirror_71 ?_
    refine lv_iload_n hx hb dX2_mirror_74 rfl (lv_at hl 2 rfl) ?_
    refine lv_aload_n hx hb dX2_mirror_75 rfl (lv_at hl 3 rfl) ?_
    refine va_get (D := D) (ci := 2) (v := .ref (a 2)) (C := RX2) (T := TX2) (N := 5) hx hb hg inX2 hown hK hP 0 rfl rfl 1 (by decide) (hg _ fl_X2_15) (fun _ h9 => h9) rfl dX2_mirror_76 ?_
    refine lv_iload_n hx hb dX2_mirror_79 rfl (lv_at hl 1 rfl) ?_
    refine va_aldq (D := D) (n := 4) (f := (fun j => some (pq j))) hx hb hK hP 2 2 rfl rfl (vp_in_nI (show 1 < 4 by decide) (by decide)) dX2_mirror_80 ?_
    refine W.eq (g2 := F0 m 81 ls [.ref (pq 1), .int 0, .ref (a 2)]) rfl ?_
    refine va_astq (D := D) (n := 4) (f := (fun j => some (pq j))) hx hb hK hP hD hS 2 2 7 0 rfl rfl rfl rfl (vp_in_nI (show 0 < 4 by decide) (by decide)) dX2_mirror_81 (fun H locs hP hD hS => ?_)
    rw [show (0 : Int32).toNatClampNeg = 0 from by decide] at hP hD
    have hP : va_P D vwCl (xw0 cI cQ a (va_up (fun j => some (pq j)) 0 (some (pq 1))) (upd (upd pl 0 v_8) 0 v_9) pq nq nm ab lg 1 kn ++ fr) H := hP
    have hD : va_D A (xw0 cI cQ a (va_up (fun j => some (pq j)) 0 (some (pq 1))) (upd (upd pl 0 v_8) 0 v_9) pq nq nm ab lg 1 kn ++ fr) := hD
    refine lv_aload_n hx hb dX2_mirror_82 rfl (lv_at hl 3 rfl) ?_
    refine va_get (D := D) (ci := 2) (v := .ref (a 2)) (C := RX2) (T := TX2) (N := 5) hx hb hg inX2 hown hK hP 0 rfl rfl 1 (by decide) (hg _ fl_X2_15) (fun _ h9 => h9) rfl dX2_mirror_83 ?_
    refine lv_iload_n hx hb dX2_mirror_86 rfl (lv_at hl 1 rfl) ?_
    refine lv_aload_n hx hb dX2_mirror_87 rfl (lv_at hl 0 rfl) ?_
    refine va_astq (D := D) (n := 4) (f := (va_up (fun j => some (pq j)) 0 (some (pq 1)))) hx hb hK hP hD hS 2 2 5 0 rfl rfl rfl rfl (vp_in_nI (show 1 < 4 by decide) (by decide)) dX2_mirror_88 (fun H locs hP hD hS => ?_)
    rw [show (1 : Int32).toNatClampNeg = 1 from by decide] at hP hD
    have hP : va_P D vwCl (xw0 cI cQ a (va_up (va_up (fun j => some (pq j)) 0 (some (pq 1))) 1 (some (pq 0))) (upd (upd pl 0 v_8) 0 v_9) pq nq nm ab lg 1 kn ++ fr) H := hP
    have hD : va_D A (xw0 cI cQ a (va_up (va_up (fun j => some (pq j)) 0 (some (pq 1))) 1 (some (pq 0))) (upd (upd pl 0 v_8) 0 v_9) pq nq nm ab lg 1 kn ++ fr) := hD
    refine lv_iinc (v := 1) (lv' := [(1, .int 1), (3, .ref (pq 0)), (2, .int 1), (0, .ref (a 0))]) hx hb dX2_mirror_89 hl (k := 2) rfl (by decide) (by decide) rfl (fun ls hl => ?_)
    refine lv_iinc (v := 0) (lv' := [(2, .int 0), (1, .int 1), (3, .ref (pq 0)), (0, .ref (a 0))]) hx hb dX2_mirror_92 hl (k := 2) rfl (by decide) (by decide) rfl (fun ls hl => ?_)
    refine lv_goto (tgt := 58) hx hb dX2_mirror_95 (by decide) ?_
    refine lv_iload_n hx hb dX2_mirror_58 rfl (lv_at hl 1 rfl) ?_
    refine lv_iload_n hx hb dX2_mirror_59 rfl (lv_at hl 0 rfl) ?_
    refine lv_icmp_ge (tgt := 98) hx hb dX2_mirror_60 (by decide) (fun _ => ?_) (fun c_12 => absurd c_12 (by decide))
    have hP := hP.cgq (p := 2) (g := fun j => some (pq (mi_s 1 j))) rfl (fun j hj => by rcases (show j = 0 ∨ j = 1 ∨ j = 2 ∨ j = 3 by omega) with rfl | rfl | rfl | rfl <;> rfl)
    have hD := hD.set (p := 2) (e := .inl (cQ, 4, .inr (.inr (.inr (.inr (fun j => some (pq (mi_s 1 j)))))))) rfl
    have hP : va_P D vwCl (xw0 cI cQ a (fun j => some (pq (mi_s 1 j))) (upd (upd pl 0 v_8) 0 v_9) pq nq nm ab lg 1 kn ++ fr) H := hP
    have hD : va_D A (xw0 cI cQ a (fun j => some (pq (mi_s 1 j))) (upd (upd pl 0 v_8) 0 v_9) pq nq nm ab lg 1 kn ++ fr) := hD
    have hP : va_P D vwCl (xw cI cQ a (upd (upd pl 0 v_8) 0 v_9) (fun j => pq (mi_s 1 j)) (fun j => nq (mi_s 1 j)) (fun j => nm (mi_s 1 j)) ab lg 1 kn ++ fr) H := va_P.part (X := xw0 cI cQ a (fun j => some (pq (mi_s 1 j))) (upd (upd pl 0 v_8) 0 v_9) pq nq nm ab lg 1 kn) hP [0, 1, 2, 3, 4, 7, 8, 5, 6, 9, 10, 11, 12] rfl
    have hD : va_D A (xw cI cQ a (upd (upd pl 0 v_8) 0 v_9) (fun j => pq (mi_s 1 j)) (fun j => nq (mi_s 1 j)) (fun j => nm (mi_s 1 j)) ab lg 1 kn ++ fr) := va_D.part (X := xw0 cI cQ a (fun j => some (pq (mi_s 1 j))) (upd (upd pl 0 v_8) 0 v_9) pq nq nm ab lg 1 kn) hD [0, 1, 2, 3, 4, 7, 8, 5, 6, 9, 10, 11, 12] rfl rfl
    have hnm2 : ∀ j, (fun j => nm (mi_s 1 j)) j = nm (mi_s 1 j) := fun _ => rfl
    generalize (fun j => pq (mi_s 1 j)) = pq2 at hP hD
    generalize (fun j => nq (mi_s 1 j)) = nq2 at hP hD
    generalize (fun j => nm (mi_s 1 j)) = nm2 at hP hD hnm2
    have hP : va_P D vwCl (xw cI cQ a (upd (upd pl 0 v_8) 0 v_9) pq2 nq2 nm2 ab lg 1 kn ++ fr) H := hP
    have hD : va_D A (xw cI cQ a (upd (upd pl 0 v_8) 0 v_9) pq2 nq2 nm2 ab lg 1 kn ++ fr) := hD
    refine lv_iconst (v := 0) hx hb dX2_mirror_98 (by decide) ?_
    refine lv_istore_n (lv' := [(1, .int 0), (2, .int 0), (3, .ref (pq 0)), (0, .ref (a 0))]) hx hb dX2_mirror_99 rfl hl (by decide) rfl (fun ls hl => ?_)
    refine lv_iload_n hx hb dX2_mirror_100 rfl (lv_at hl 0 rfl) ?_
    refine lv_aload_n hx hb dX2_mirror_101 rfl (lv_at hl 3 rfl) ?_
    refine va_get (D := D) (ci := 2) (v := .int 1) (C := RX2) (T := TX2) (N := 5) hx hb hg inX2 hown hK hP 0 rfl rfl 3 (by decide) (hg _ fl_X2_26) (fun _ h9 => h9) rfl dX2_mirror_102 ?_
    refine lv_icmp_gt (tgt := 123) hx hb dX2_mirror_105 (by decide) (fun c_13 => absurd c_13 (by decide)) (fun _ => ?_)
    refine lv_aload_n hx hb dX2_mirror_108 rfl (lv_at hl 3 rfl) ?_
    refine va_get (D := D) (ci := 2) (v := .ref (a 2)) (C := RX2) (T := TX2) (N := 5) hx hb hg inX2 hown hK hP 0 rfl rfl 1 (by decide) (hg _ fl_X2_15) (fun _ h9 => h9) rfl dX2_mirror_109 ?_
    refine lv_iload_n hx hb dX2_mirror_112 rfl (lv_at hl 0 rfl) ?_
    refine va_aldq (D := D) (n := 4) (f := (fun j => some (pq2 j))) hx hb hK hP 2 2 rfl rfl (vp_in_nI (show 0 < 4 by decide) (by decide)) dX2_mirror_113 ?_
    refine W.eq (g2 := F0 m 114 ls [.ref (pq2 0)]) rfl ?_
    refine va_callv (va_runVN (As := []) (rest := []) ⟨hx, hb, hml, hown, hg⟩ (c_X0_turnRound l A D cI cL cQ (xw cI cQ a (upd (upd pl 0 v_8) 0 v_9) pq2 nq2 nm2 ab lg 1 kn ++ fr) 5 6 (pq2 0) (nq2 0) (nm2 0) rfl rfl) ⟨va_cnB 0 hg (gw_C co_X0_turnRound) rfl rfl rfl (hG.1 _ mn_X2_77) (hg _ ini_X0) (by decide +kernel) ⟨Nat.le_of_ble_eq_true rfl, Nat.le_of_ble_eq_true rfl⟩, hg _ im_X0_turnRound, hg _ se_X0_turnRound⟩ ⟨wd_B.blind, va_recv hK hP (ci := 0) (q0 := 5) rfl rfl, (fun U hU hW => ⟨rfl, wd_B.at hG hK hP hD hS hA hU hW⟩)⟩ rfl rfl hl.1 rfl (lv_room (Nat.le_of_ble_eq_true rfl)) dX2_mirror_114 ⟨Nat.le_of_ble_eq_true rfl, Nat.le_of_ble_eq_true rfl⟩) hS (fun q _ h => h) (fun q h => h) (fun u t H1 locs ht hvm hr_14 hB hz1 hk1 hS => ?_)
    obtain ⟨hK, hP, hD⟩ := hB.back ht hvm
    generalize H1 = H at hP hS ⊢
    have hP : va_P D vwCl (xw cI cQ a (upd (upd pl 0 v_8) 0 v_9) pq2 nq2 (va_up nm2 0 (fun j => nm2 0 j * gl_sign j)) ab lg 1 kn ++ fr) H := hP
    have hD : va_D A (xw cI cQ a (upd (upd pl 0 v_8) 0 v_9) pq2 nq2 (va_up nm2 0 (fun j => nm2 0 j * gl_sign j)) ab lg 1 kn ++ fr) := hD
    refine lv_iinc (v := 1) (lv' := [(1, .int 1), (2, .int 0), (3, .ref (pq 0)), (0, .ref (a 0))]) hx hb dX2_mirror_117 hl (k := 0) rfl (by decide) (by decide) rfl (fun ls hl => ?_)
    refine lv_goto (tgt := 100) hx hb dX2_mirror_120 (by decide) ?_
    refine lv_iload_n hx hb dX2_mirror_100 rfl (lv_at hl 0 rfl) ?_
    refine lv_aload_n hx hb dX2_mirror_101 rfl (lv_at hl 3 rfl) ?_
    refine va_get (D := D) (ci := 2) (v := .int 1) (C := RX2) (T := TX2) (N := 5) hx hb hg inX2 hown hK hP 0 rfl rfl 3 (by decide) (hg _ fl_X2_26) (fun _ h9 => h9) rfl dX2_mirror_102 ?_
    refine lv_icmp_gt (tgt := 123) hx hb dX2_mirror_105 (by decide) (fun c_15 => absurd c_15 (by decide)) (fun _ => ?_)
    refine lv_aload_n hx hb dX2_mirror_108 rfl (lv_at hl 3 rfl) ?_
    refine va_get (D := D) (ci := 2) (v := .ref (a 2)) (C := RX2) (T := TX2) (N := 5) hx hb hg inX2 hown hK hP 0 rfl rfl 1 (by decide) (hg _ fl_X2_15) (fun _ h9 => h9) rfl dX2_mirror_109 ?_
    refine lv_iload_n hx hb dX2_mirror_112 rfl (lv_at hl 0 rfl) ?_
    refine va_aldq (D := D) (n := 4) (f := (fun j => some (pq2 j))) hx hb hK hP 2 2 rfl rfl (vp_in_nI (show 1 < 4 by decide) (by decide)) dX2_mirror_113 ?_
    refine W.eq (g2 := F0 m 114 ls [.ref (pq2 1)]) rfl ?_
    refine va_callv (va_runVN (As := []) (rest := []) ⟨hx, hb, hml, hown, hg⟩ (c_X0_turnRound l A D cI cL cQ (xw cI cQ a (upd (upd pl 0 v_8) 0 v_9) pq2 nq2 (va_up nm2 0 (fun j => nm2 0 j * gl_sign j)) ab lg 1 kn ++ fr) 7 8 (pq2 1) (nq2 1) ((va_up nm2 0 (fun j => nm2 0 j * gl_sign j)) 1) rfl rfl) ⟨va_cnB 0 hg (gw_C co_X0_turnRound) rfl rfl rfl (hG.1 _ mn_X2_77) (hg _ ini_X0) (by decide +kernel) ⟨Nat.le_of_ble_eq_true rfl, Nat.le_of_ble_eq_true rfl⟩, hg _ im_X0_turnRound, hg _ se_X0_turnRound⟩ ⟨wd_B.blind, va_recv hK hP (ci := 0) (q0 := 7) rfl rfl, (fun U hU hW => ⟨rfl, wd_B.at hG hK hP hD hS hA hU hW⟩)⟩ rfl rfl hl.1 rfl (lv_room (Nat.le_of_ble_eq_true rfl)) dX2_mirror_114 ⟨Nat.le_of_ble_eq_true rfl, Nat.le_of_ble_eq_true rfl⟩) hS (fun q _ h => h) (fun q h => h) (fun u t H1 locs ht hvm hr_16 hB hz1 hk1 hS => ?_)
    obtain ⟨hK, hP, hD⟩ := hB.back ht hvm
    generalize H1 = H at hP hS ⊢
    have hP : va_P D vwCl (xw cI cQ a (upd (upd pl 0 v_8) 0 v_9) pq2 nq2 (va_up (va_up nm2 0 (fun j => nm2 0 j * gl_sign j)) 1 (fun j => (va_up nm2 0 (fun j => nm2 0 j * gl_sign j)) 1 j * gl_sign j)) ab lg 1 kn ++ fr) H := hP
    have hD : va_D A (xw cI cQ a (upd (upd pl 0 v_8) 0 v_9) pq2 nq2 (va_up (va_up nm2 0 (fun j => nm2 0 j * gl_sign j)) 1 (fun j => (va_up nm2 0 (fun j => nm2 0 j * gl_sign j)) 1 j * gl_sign j)) ab lg 1 kn ++ fr) := hD
    refine lv_iinc (v := 2) (lv' := [(1, .int 2), (2, .int 0), (3, .ref (pq 0)), (0, .ref (a 0))]) hx hb dX2_mirror_117 hl (k := 0) rfl (by decide) (by decide) rfl (fun ls hl => ?_)
    refine lv_goto (tgt := 100) hx hb dX2_mirror_120 (by decide) ?_
    refine lv_iload_n hx hb dX2_mirror_100 rfl (lv_at hl 0 rfl) ?_
    refine lv_aload_n hx hb dX2_mirror_101 rfl (lv_at hl 3 rfl) ?_
    refine va_get (D := D) (ci := 2) (v := .int 1) (C := RX2) (T := TX2) (N := 5) hx hb hg inX2 hown hK hP 0 rfl rfl 3 (by decide) (hg _ fl_X2_26) (fun _ h9 => h9) rfl dX2_mirror_102 ?_
    refine lv_icmp_gt (tgt := 123) hx hb dX2_mirror_105 (by decide) (fun _ => ?_) (fun c_17 => absurd c_17 (by decide))
    exact W.vret hx hb hr (fun t ht hW => ⟨⟨((upd (upd pl 0 v_8) 0 v_9), pq2, nq2, (va_up (va_up nm2 0 (fun j => nm2 0 j * gl_sign j)) 1 (fun j => (va_up nm2 0 (fun j => nm2 0 j * gl_sign j)) 1 j * gl_sign j))), rfl, ⟨fun j hj => by rcases (show j = 0 by omega) with rfl <;> simp [upd, ev_7, ev_8, ev_9], fun i hi j => by rcases (show i = 0 ∨ i = 1 by omega) with rfl | rfl <;> simp [va_up, hnm2, mi_s]⟩, wd_E.at hK hP hD ht hW⟩, hS.F ht⟩) hS.2.2 dX2_mirror_123
  · have hP : va_P D vwCl (xw cI cQ a pl pq nq nm ab lg 2 kn ++ fr) s.heap := hP
    have hD : va_D A (xw cI cQ a pl pq nq nm ab lg 2 kn ++ fr) := hD
    refine lv_iconst (v := 0) hx hb dX2_mirror_0 (by decide) ?_
    refine lv_istore_n (lv' := [(1, .int 0), (0, .ref (a 0))]) hx hb dX2_mirror_1 rfl hl (by decide) rfl (fun ls hl => ?_)
    refine lv_aload_n hx hb dX2_mirror_2 rfl (lv_at hl 1 rfl) ?_
    refine va_get (D := D) (ci := 2) (v := .int 2) (C := RX2) (T := TX2) (N := 5) hx hb hg inX2 hown hK hP 0 rfl rfl 3 (by decide) (hg _ fl_X2_26) (fun _ h9 => h9) rfl dX2_mirror_3 ?_
    refine lv_iconst (v := 1) hx hb dX2_mirror_6 (by decide) ?_
    refine lv_isub hx hb dX2_mirror_7 ?_
    rw [show (2 : Int32) - 1 = 1 from by decide]
    refine lv_istore_n (lv' := [(2, .int 1), (1, .int 0), (0, .ref (a 0))]) hx hb dX2_mirror_8 rfl hl (by decide) rfl (fun ls hl => ?_)
    refine lv_iload_n hx hb dX2_mirror_9 rfl (lv_at hl 1 rfl) ?_
    refine lv_iload_n hx hb dX2_mirror_10 rfl (lv_at hl 0 rfl) ?_
    refine lv_icmp_gt (tgt := 51) hx hb dX2_mirror_11 (by decide) (fun c_18 => absurd c_18 (by decide)) (fun _ => ?_)
    refine lv_aload_n hx hb dX2_mirror_14 rfl (lv_at hl 2 rfl) ?_
    refine va_get (D := D) (ci := 2) (v := .ref (a 1)) (C := RX2) (T := TX2) (N := 5) hx hb hg inX2 hown hK hP 0 rfl rfl 0 (by decide) (hg _ fl_X2_9) (fun _ h9 => h9) rfl dX2_mirror_15 ?_
    refine lv_iload_n hx hb dX2_mirror_18 rfl (lv_at hl 1 rfl) ?_
    refine va_iald (D := D) (n := 3) (f := pl) hx hb hK hP 1 0 rfl rfl (vp_in_nI (show 0 < 3 by decide) (by decide)) dX2_mirror_19 ?_
    rw [show (0 : Int32).toNatClampNeg = 0 from by decide]
    refine lv_topi (fun v_19 ev_19 => ?_)
    refine lv_istore_n (lv' := [(3, .int v_19), (2, .int 1), (1, .int 0), (0, .ref (a 0))]) hx hb dX2_mirror_20 rfl hl (by decide) rfl (fun ls hl => ?_)
    refine lv_aload_n hx hb dX2_mirror_21 rfl (lv_at hl 3 rfl) ?_
    refine va_get (D := D) (ci := 2) (v := .ref (a 1)) (C := RX2) (T := TX2) (N := 5) hx hb hg inX2 hown hK hP 0 rfl rfl 0 (by decide) (hg _ fl_X2_9) (fun _ h9 => h9) rfl dX2_mirror_22 ?_
    refine lv_iload_n hx hb dX2_mirror_25 rfl (lv_at hl 2 rfl) ?_
    refine lv_aload_n hx hb dX2_mirror_26 rfl (lv_at hl 3 rfl) ?_
    refine va_get (D := D) (ci := 2) (v := .ref (a 1)) (C := RX2) (T := TX2) (N := 5) hx hb hg inX2 hown hK hP 0 rfl rfl 0 (by decide) (hg _ fl_X2_9) (fun _ h9 => h9) rfl dX2_mirror_27 ?_
    refine lv_iload_n hx hb dX2_mirror_30 rfl (lv_at hl 1 rfl) ?_
    refine va_iald (D := D) (n := 3) (f := pl) hx hb hK hP 1 0 rfl rfl (vp_in_nI (show 1 < 3 by decide) (by decide)) dX2_mirror_31 ?_
    rw [show (1 : Int32).toNatClampNeg = 1 from by decide]
    refine lv_ineg hx hb dX2_mirror_32 ?_
    refine lv_topi (fun v_20 ev_20 => ?_)
    refine va_iast (D := D) (n := 3) (f := pl) (x := v_20) hx hb hK hP hD hS 1 0 rfl rfl (vp_in_nI (show 0 < 3 by decide) (by decide)) dX2_mirror_33 (fun H locs hP hD hS => ?_)
    rw [show (0 : Int32).toNatClampNeg = 0 from by decide] at hP hD
    have hP : va_P D vwCl (xw cI cQ a (upd pl 0 v_20) pq nq nm ab lg 2 kn ++ fr) H := hP
    have hD : va_D A (xw cI cQ a (upd pl 0 v_20) pq nq nm ab lg 2 kn ++ fr) := hD
    refine lv_aload_n hx hb dX2_mirror_34 rfl (lv_at hl 3 rfl) ?_
    refine va_get (D := D) (ci := 2) (v := .ref (a 1)) (C := RX2) (T := TX2) (N := 5) hx hb hg inX2 hown hK hP 0 rfl rfl 0 (by decide) (hg _ fl_X2_9) (fun _ h9 => h9) rfl dX2_mirror_35 ?_
    refine lv_iload_n hx hb dX2_mirror_38 rfl (lv_at hl 1 rfl) ?_
    refine lv_iload_n hx hb dX2_mirror_39 rfl (lv_at hl 0 rfl) ?_
    refine lv_ineg hx hb dX2_mirror_40 ?_
    refine lv_topi (fun v_21 ev_21 => ?_)
    refine va_iast (D := D) (n := 3) (f := (upd pl 0 v_20)) (x := v_21) hx hb hK hP hD hS 1 0 rfl rfl (vp_in_nI (show 1 < 3 by decide) (by decide)) dX2_mirror_41 (fun H locs hP hD hS => ?_)
    rw [show (1 : Int32).toNatClampNeg = 1 from by decide] at hP hD
    have hP : va_P D vwCl (xw cI cQ a (upd (upd pl 0 v_20) 1 v_21) pq nq nm ab lg 2 kn ++ fr) H := hP
    have hD : va_D A (xw cI cQ a (upd (upd pl 0 v_20) 1 v_21) pq nq nm ab lg 2 kn ++ fr) := hD
    refine lv_iinc (v := 1) (lv' := [(1, .int 1), (3, .int v_19), (2, .int 1), (0, .ref (a 0))]) hx hb dX2_mirror_42 hl (k := 2) rfl (by decide) (by decide) rfl (fun ls hl => ?_)
    refine lv_iinc (v := 0) (lv' := [(2, .int 0), (1, .int 1), (3, .int v_19), (0, .ref (a 0))]) hx hb dX2_mirror_45 hl (k := 2) rfl (by decide) (by decide) rfl (fun ls hl => ?_)
    refine lv_goto (tgt := 9) hx hb dX2_mirror_48 (by decide) ?_
    refine lv_iload_n hx hb dX2_mirror_9 rfl (lv_at hl 1 rfl) ?_
    refine lv_iload_n hx hb dX2_mirror_10 rfl (lv_at hl 0 rfl) ?_
    refine lv_icmp_gt (tgt := 51) hx hb dX2_mirror_11 (by decide) (fun _ => ?_) (fun c_22 => absurd c_22 (by decide))
    refine lv_iconst (v := 0) hx hb dX2_mirror_51 (by decide) ?_
    refine lv_istore_n (lv' := [(1, .int 0), (2, .int 0), (3, .int v_19), (0, .ref (a 0))]) hx hb dX2_mirror_52 rfl hl (by decide) rfl (fun ls hl => ?_)
    refine lv_aload_n hx hb dX2_mirror_53 rfl (lv_at hl 3 rfl) ?_
    refine va_get (D := D) (ci := 2) (v := .int 2) (C := RX2) (T := TX2) (N := 5) hx hb hg inX2 hown hK hP 0 rfl rfl 3 (by decide) (hg _ fl_X2_26) (fun _ h9 => h9) rfl dX2_mirror_54 ?_
    refine lv_istore_n (lv' := [(2, .int 2), (1, .int 0), (3, .int v_19), (0, .ref (a 0))]) hx hb dX2_mirror_57 rfl hl (by decide) rfl (fun ls hl => ?_)
    refine lv_iload_n hx hb dX2_mirror_58 rfl (lv_at hl 1 rfl) ?_
    refine lv_iload_n hx hb dX2_mirror_59 rfl (lv_at hl 0 rfl) ?_
    refine lv_icmp_ge (tgt := 98) hx hb dX2_mirror_60 (by decide) (fun c_23 => absurd c_23 (by decide)) (fun _ => ?_)
    refine lv_aload_n hx hb dX2_mirror_63 rfl (lv_at hl 3 rfl) ?_
    refine va_get (D := D) (ci := 2) (v := .ref (a 2)) (C := RX2) (T := TX2) (N := 5) hx hb hg inX2 hown hK hP 0 rfl rfl 1 (by decide) (hg _ fl_X2_15) (fun _ h9 => h9) rfl dX2_mirror_64 ?_
    refine lv_iload_n hx hb dX2_mirror_67 rfl (lv_at hl 1 rfl) ?_
    refine va_aldq (D := D) (n := 4) (f := (fun j => some (pq j))) hx hb hK hP 2 2 rfl rfl (vp_in_nI (show 0 < 4 by decide) (by decide)) dX2_mirror_68 ?_
    refine W.eq (g2 := F0 m 69 ls [.ref (pq 0)]) rfl ?_
    refine lv_astore_n (lv' := [(3, .ref (pq 0)), (2, .int 2), (1, .int 0), (0, .ref (a 0))]) hx hb dX2_mirror_69 rfl hl (by decide) rfl (fun ls hl => ?_)
    refine lv_aload_n hx hb dX2_mirror_70 rfl (lv_at hl 3 rfl) ?_
    refine va_get (D := D) (ci := 2) (v := .ref (a 2)) (C := RX2) (T := TX2) (N := 5) hx hb hg inX2 hown hK hP 0 rfl rfl 1 (by decide) (hg _ fl_X2_15) (fun _ h9 => h9) rfl dX2_mirror_71 ?_
    refine lv_iload_n hx hb dX2_mirror_74 rfl (lv_at hl 2 rfl) ?_
    refine lv_aload_n hx hb dX2_mirror_75 rfl (lv_at hl 3 rfl) ?_
    refine va_get (D := D) (ci := 2) (v := .ref (a 2)) (C := RX2) (T := TX2) (N := 5) hx hb hg inX2 hown hK hP 0 rfl rfl 1 (by decide) (hg _ fl_X2_15) (fun _ h9 => h9) rfl dX2_mirror_76 ?_
    refine lv_iload_n hx hb dX2_mirror_79 rfl (lv_at hl 1 rfl) ?_
    refine va_aldq (D := D) (n := 4) (f := (fun j => some (pq j))) hx hb hK hP 2 2 rfl rfl (vp_in_nI (show 2 < 4 by decide) (by decide)) dX2_mirror_80 ?_
    refine W.eq (g2 := F0 m 81 ls [.ref (pq 2), .int 0, .ref (a 2)]) rfl ?_
    refine va_astq (D := D) (n := 4) (f := (fun j => some (pq j))) hx hb hK hP hD hS 2 2 9 0 rfl rfl rfl rfl (vp_in_nI (show 0 < 4 by decide) (by decide)) dX2_mirror_81 (fun H locs hP hD hS => ?_)
    rw [show (0 : Int32).toNatClampNeg = 0 from by decide] at hP hD
    have hP : va_P D vwCl (xw0 cI cQ a (va_up (fun j => some (pq j)) 0 (some (pq 2))) (upd (upd pl 0 v_20) 1 v_21) pq nq nm ab lg 2 kn ++ fr) H := hP
    have hD : va_D A (xw0 cI cQ a (va_up (fun j => some (pq j)) 0 (some (pq 2))) (upd (upd pl 0 v_20) 1 v_21) pq nq nm ab lg 2 kn ++ fr) := hD
    refine lv_aload_n hx hb dX2_mirror_82 rfl (lv_at hl 3 rfl) ?_
    refine va_get (D := D) (ci := 2) (v := .ref (a 2)) (C := RX2) (T := TX2) (N := 5) hx hb hg inX2 hown hK hP 0 rfl rfl 1 (by decide) (hg _ fl_X2_15) (fun _ h9 => h9) rfl dX2_mirror_83 ?_
    refine lv_iload_n hx hb dX2_mirror_86 rfl (lv_at hl 1 rfl) ?_
    refine lv_aload_n hx hb dX2_mirror_87 rfl (lv_at hl 0 rfl) ?_
    refine va_astq (D := D) (n := 4) (f := (va_up (fun j => some (pq j)) 0 (some (pq 2)))) hx hb hK hP hD hS 2 2 5 0 rfl rfl rfl rfl (vp_in_nI (show 2 < 4 by decide) (by decide)) dX2_mirror_88 (fun H locs hP hD hS => ?_)
    rw [show (2 : Int32).toNatClampNeg = 2 from by decide] at hP hD
    have hP : va_P D vwCl (xw0 cI cQ a (va_up (va_up (fun j => some (pq j)) 0 (some (pq 2))) 2 (some (pq 0))) (upd (upd pl 0 v_20) 1 v_21) pq nq nm ab lg 2 kn ++ fr) H := hP
    have hD : va_D A (xw0 cI cQ a (va_up (va_up (fun j => some (pq j)) 0 (some (pq 2))) 2 (some (pq 0))) (upd (upd pl 0 v_20) 1 v_21) pq nq nm ab lg 2 kn ++ fr) := hD
    refine lv_iinc (v := 1) (lv' := [(1, .int 1), (3, .ref (pq 0)), (2, .int 2), (0, .ref (a 0))]) hx hb dX2_mirror_89 hl (k := 2) rfl (by decide) (by decide) rfl (fun ls hl => ?_)
    refine lv_iinc (v := 1) (lv' := [(2, .int 1), (1, .int 1), (3, .ref (pq 0)), (0, .ref (a 0))]) hx hb dX2_mirror_92 hl (k := 2) rfl (by decide) (by decide) rfl (fun ls hl => ?_)
    refine lv_goto (tgt := 58) hx hb dX2_mirror_95 (by decide) ?_
    refine lv_iload_n hx hb dX2_mirror_58 rfl (lv_at hl 1 rfl) ?_
    refine lv_iload_n hx hb dX2_mirror_59 rfl (lv_at hl 0 rfl) ?_
    refine lv_icmp_ge (tgt := 98) hx hb dX2_mirror_60 (by decide) (fun _ => ?_) (fun c_24 => absurd c_24 (by decide))
    have hP := hP.cgq (p := 2) (g := fun j => some (pq (mi_s 2 j))) rfl (fun j hj => by rcases (show j = 0 ∨ j = 1 ∨ j = 2 ∨ j = 3 by omega) with rfl | rfl | rfl | rfl <;> rfl)
    have hD := hD.set (p := 2) (e := .inl (cQ, 4, .inr (.inr (.inr (.inr (fun j => some (pq (mi_s 2 j)))))))) rfl
    have hP : va_P D vwCl (xw0 cI cQ a (fun j => some (pq (mi_s 2 j))) (upd (upd pl 0 v_20) 1 v_21) pq nq nm ab lg 2 kn ++ fr) H := hP
    have hD : va_D A (xw0 cI cQ a (fun j => some (pq (mi_s 2 j))) (upd (upd pl 0 v_20) 1 v_21) pq nq nm ab lg 2 kn ++ fr) := hD
    have hP : va_P D vwCl (xw cI cQ a (upd (upd pl 0 v_20) 1 v_21) (fun j => pq (mi_s 2 j)) (fun j => nq (mi_s 2 j)) (fun j => nm (mi_s 2 j)) ab lg 2 kn ++ fr) H := va_P.part (X := xw0 cI cQ a (fun j => some (pq (mi_s 2 j))) (upd (upd pl 0 v_20) 1 v_21) pq nq nm ab lg 2 kn) hP [0, 1, 2, 3, 4, 9, 10, 7, 8, 5, 6, 11, 12] rfl
    have hD : va_D A (xw cI cQ a (upd (upd pl 0 v_20) 1 v_21) (fun j => pq (mi_s 2 j)) (fun j => nq (mi_s 2 j)) (fun j => nm (mi_s 2 j)) ab lg 2 kn ++ fr) := va_D.part (X := xw0 cI cQ a (fun j => some (pq (mi_s 2 j))) (upd (upd pl 0 v_20) 1 v_21) pq nq nm ab lg 2 kn) hD [0, 1, 2, 3, 4, 9, 10, 7, 8, 5, 6, 11, 12] rfl rfl
    have hnm2 : ∀ j, (fun j => nm (mi_s 2 j)) j = nm (mi_s 2 j) := fun _ => rfl
    generalize (fun j => pq (mi_s 2 j)) = pq2 at hP hD
    generalize (fun j => nq (mi_s 2 j)) = nq2 at hP hD
    generalize (fun j => nm (mi_s 2 j)) = nm2 at hP hD hnm2
    have hP : va_P D vwCl (xw cI cQ a (upd (upd pl 0 v_20) 1 v_21) pq2 nq2 nm2 ab lg 2 kn ++ fr) H := hP
    have hD : va_D A (xw cI cQ a (upd (upd pl 0 v_20) 1 v_21) pq2 nq2 nm2 ab lg 2 kn ++ fr) := hD
    refine lv_iconst (v := 0) hx hb dX2_mirror_98 (by decide) ?_
    refine lv_istore_n (lv' := [(1, .int 0), (2, .int 1), (3, .ref (pq 0)), (0, .ref (a 0))]) hx hb dX2_mirror_99 rfl hl (by decide) rfl (fun ls hl => ?_)
    refine lv_iload_n hx hb dX2_mirror_100 rfl (lv_at hl 0 rfl) ?_
    refine lv_aload_n hx hb dX2_mirror_101 rfl (lv_at hl 3 rfl) ?_
    refine va_get (D := D) (ci := 2) (v := .int 2) (C := RX2) (T := TX2) (N := 5) hx hb hg inX2 hown hK hP 0 rfl rfl 3 (by decide) (hg _ fl_X2_26) (fun _ h9 => h9) rfl dX2_mirror_102 ?_
    refine lv_icmp_gt (tgt := 123) hx hb dX2_mirror_105 (by decide) (fun c_25 => absurd c_25 (by decide)) (fun _ => ?_)
    refine lv_aload_n hx hb dX2_mirror_108 rfl (lv_at hl 3 rfl) ?_
    refine va_get (D := D) (ci := 2) (v := .ref (a 2)) (C := RX2) (T := TX2) (N := 5) hx hb hg inX2 hown hK hP 0 rfl rfl 1 (by decide) (hg _ fl_X2_15) (fun _ h9 => h9) rfl dX2_mirror_109 ?_
    refine lv_iload_n hx hb dX2_mirror_112 rfl (lv_at hl 0 rfl) ?_
    refine va_aldq (D := D) (n := 4) (f := (fun j => some (pq2 j))) hx hb hK hP 2 2 rfl rfl (vp_in_nI (show 0 < 4 by decide) (by decide)) dX2_mirror_113 ?_
    refine W.eq (g2 := F0 m 114 ls [.ref (pq2 0)]) rfl ?_
    refine va_callv (va_runVN (As := []) (rest := []) ⟨hx, hb, hml, hown, hg⟩ (c_X0_turnRound l A D cI cL cQ (xw cI cQ a (upd (upd pl 0 v_20) 1 v_21) pq2 nq2 nm2 ab lg 2 kn ++ fr) 5 6 (pq2 0) (nq2 0) (nm2 0) rfl rfl) ⟨va_cnB 0 hg (gw_C co_X0_turnRound) rfl rfl rfl (hG.1 _ mn_X2_77) (hg _ ini_X0) (by decide +kernel) ⟨Nat.le_of_ble_eq_true rfl, Nat.le_of_ble_eq_true rfl⟩, hg _ im_X0_turnRound, hg _ se_X0_turnRound⟩ ⟨wd_B.blind, va_recv hK hP (ci := 0) (q0 := 5) rfl rfl, (fun U hU hW => ⟨rfl, wd_B.at hG hK hP hD hS hA hU hW⟩)⟩ rfl rfl hl.1 rfl (lv_room (Nat.le_of_ble_eq_true rfl)) dX2_mirror_114 ⟨Nat.le_of_ble_eq_true rfl, Nat.le_of_ble_eq_true rfl⟩) hS (fun q _ h => h) (fun q h => h) (fun u t H1 locs ht hvm hr_26 hB hz1 hk1 hS => ?_)
    obtain ⟨hK, hP, hD⟩ := hB.back ht hvm
    generalize H1 = H at hP hS ⊢
    have hP : va_P D vwCl (xw cI cQ a (upd (upd pl 0 v_20) 1 v_21) pq2 nq2 (va_up nm2 0 (fun j => nm2 0 j * gl_sign j)) ab lg 2 kn ++ fr) H := hP
    have hD : va_D A (xw cI cQ a (upd (upd pl 0 v_20) 1 v_21) pq2 nq2 (va_up nm2 0 (fun j => nm2 0 j * gl_sign j)) ab lg 2 kn ++ fr) := hD
    refine lv_iinc (v := 1) (lv' := [(1, .int 1), (2, .int 1), (3, .ref (pq 0)), (0, .ref (a 0))]) hx hb dX2_mirror_117 hl (k := 0) rfl (by decide) (by decide) rfl (fun ls hl => ?_)
    refine lv_goto (tgt := 100) hx hb dX2_mirror_120 (by decide) ?_
    refine lv_iload_n hx hb dX2_mirror_100 rfl (lv_at hl 0 rfl) ?_
    refine lv_aload_n hx hb dX2_mirror_101 rfl (lv_at hl 3 rfl) ?_
    refine va_get (D := D) (ci := 2) (v := .int 2) (C := RX2) (T := TX2) (N := 5) hx hb hg inX2 hown hK hP 0 rfl rfl 3 (by decide) (hg _ fl_X2_26) (fun _ h9 => h9) rfl dX2_mirror_102 ?_
    refine lv_icmp_gt (tgt := 123) hx hb dX2_mirror_105 (by decide) (fun c_27 => absurd c_27 (by decide)) (fun _ => ?_)
    refine lv_aload_n hx hb dX2_mirror_108 rfl (lv_at hl 3 rfl) ?_
    refine va_get (D := D) (ci := 2) (v := .ref (a 2)) (C := RX2) (T := TX2) (N := 5) hx hb hg inX2 hown hK hP 0 rfl rfl 1 (by decide) (hg _ fl_X2_15) (fun _ h9 => h9) rfl dX2_mirror_109 ?_
    refine lv_iload_n hx hb dX2_mirror_112 rfl (lv_at hl 0 rfl) ?_
    refine va_aldq (D := D) (n := 4) (f := (fun j => some (pq2 j))) hx hb hK hP 2 2 rfl rfl (vp_in_nI (show 1 < 4 by decide) (by decide)) dX2_mirror_113 ?_
    refine W.eq (g2 := F0 m 114 ls [.ref (pq2 1)]) rfl ?_
    refine va_callv (va_runVN (As := []) (rest := []) ⟨hx, hb, hml, hown, hg⟩ (c_X0_turnRound l A D cI cL cQ (xw cI cQ a (upd (upd pl 0 v_20) 1 v_21) pq2 nq2 (va_up nm2 0 (fun j => nm2 0 j * gl_sign j)) ab lg 2 kn ++ fr) 7 8 (pq2 1) (nq2 1) ((va_up nm2 0 (fun j => nm2 0 j * gl_sign j)) 1) rfl rfl) ⟨va_cnB 0 hg (gw_C co_X0_turnRound) rfl rfl rfl (hG.1 _ mn_X2_77) (hg _ ini_X0) (by decide +kernel) ⟨Nat.le_of_ble_eq_true rfl, Nat.le_of_ble_eq_true rfl⟩, hg _ im_X0_turnRound, hg _ se_X0_turnRound⟩ ⟨wd_B.blind, va_recv hK hP (ci := 0) (q0 := 7) rfl rfl, (fun U hU hW => ⟨rfl, wd_B.at hG hK hP hD hS hA hU hW⟩)⟩ rfl rfl hl.1 rfl (lv_room (Nat.le_of_ble_eq_true rfl)) dX2_mirror_114 ⟨Nat.le_of_ble_eq_true rfl, Nat.le_of_ble_eq_true rfl⟩) hS (fun q _ h => h) (fun q h => h) (fun u t H1 locs ht hvm hr_28 hB hz1 hk1 hS => ?_)
    obtain ⟨hK, hP, hD⟩ := hB.back ht hvm
    generalize H1 = H at hP hS ⊢
    have hP : va_P D vwCl (xw cI cQ a (upd (upd pl 0 v_20) 1 v_21) pq2 nq2 (va_up (va_up nm2 0 (fun j => nm2 0 j * gl_sign j)) 1 (fun j => (va_up nm2 0 (fun j => nm2 0 j * gl_sign j)) 1 j * gl_sign j)) ab lg 2 kn ++ fr) H := hP
    have hD : va_D A (xw cI cQ a (upd (upd pl 0 v_20) 1 v_21) pq2 nq2 (va_up (va_up nm2 0 (fun j => nm2 0 j * gl_sign j)) 1 (fun j => (va_up nm2 0 (fun j => nm2 0 j * gl_sign j)) 1 j * gl_sign j)) ab lg 2 kn ++ fr) := hD
    refine lv_iinc (v := 2) (lv' := [(1, .int 2), (2, .int 1), (3, .ref (pq 0)), (0, .ref (a 0))]) hx hb dX2_mirror_117 hl (k := 0) rfl (by decide) (by decide) rfl (fun ls hl => ?_)
    refine lv_goto (tgt := 100) hx hb dX2_mirror_120 (by decide) ?_
    refine lv_iload_n hx hb dX2_mirror_100 rfl (lv_at hl 0 rfl) ?_
    refine lv_aload_n hx hb dX2_mirror_101 rfl (lv_at hl 3 rfl) ?_
    refine va_get (D := D) (ci := 2) (v := .int 2) (C := RX2) (T := TX2) (N := 5) hx hb hg inX2 hown hK hP 0 rfl rfl 3 (by decide) (hg _ fl_X2_26) (fun _ h9 => h9) rfl dX2_mirror_102 ?_
    refine lv_icmp_gt (tgt := 123) hx hb dX2_mirror_105 (by decide) (fun c_29 => absurd c_29 (by decide)) (fun _ => ?_)
    refine lv_aload_n hx hb dX2_mirror_108 rfl (lv_at hl 3 rfl) ?_
    refine va_get (D := D) (ci := 2) (v := .ref (a 2)) (C := RX2) (T := TX2) (N := 5) hx hb hg inX2 hown hK hP 0 rfl rfl 1 (by decide) (hg _ fl_X2_15) (fun _ h9 => h9) rfl dX2_mirror_109 ?_
    refine lv_iload_n hx hb dX2_mirror_112 rfl (lv_at hl 0 rfl) ?_
    refine va_aldq (D := D) (n := 4) (f := (fun j => some (pq2 j))) hx hb hK hP 2 2 rfl rfl (vp_in_nI (show 2 < 4 by decide) (by decide)) dX2_mirror_113 ?_
    refine W.eq (g2 := F0 m 114 ls [.ref (pq2 2)]) rfl ?_
    refine va_callv (va_runVN (As := []) (rest := []) ⟨hx, hb, hml, hown, hg⟩ (c_X0_turnRound l A D cI cL cQ (xw cI cQ a (upd (upd pl 0 v_20) 1 v_21) pq2 nq2 (va_up (va_up nm2 0 (fun j => nm2 0 j * gl_sign j)) 1 (fun j => (va_up nm2 0 (fun j => nm2 0 j * gl_sign j)) 1 j * gl_sign j)) ab lg 2 kn ++ fr) 9 10 (pq2 2) (nq2 2) ((va_up (va_up nm2 0 (fun j => nm2 0 j * gl_sign j)) 1 (fun j => (va_up nm2 0 (fun j => nm2 0 j * gl_sign j)) 1 j * gl_sign j)) 2) rfl rfl) ⟨va_cnB 0 hg (gw_C co_X0_turnRound) rfl rfl rfl (hG.1 _ mn_X2_77) (hg _ ini_X0) (by decide +kernel) ⟨Nat.le_of_ble_eq_true rfl, Nat.le_of_ble_eq_true rfl⟩, hg _ im_X0_turnRound, hg _ se_X0_turnRound⟩ ⟨wd_B.blind, va_recv hK hP (ci := 0) (q0 := 9) rfl rfl, (fun U hU hW => ⟨rfl, wd_B.at hG hK hP hD hS hA hU hW⟩)⟩ rfl rfl hl.1 rfl (lv_room (Nat.le_of_ble_eq_true rfl)) dX2_mirror_114 ⟨Nat.le_of_ble_eq_true rfl, Nat.le_of_ble_eq_true rfl⟩) hS (fun q _ h => h) (fun q h => h) (fun u t H1 locs ht hvm hr_30 hB hz1 hk1 hS => ?_)
    obtain ⟨hK, hP, hD⟩ := hB.back ht hvm
    generalize H1 = H at hP hS ⊢
    have hP : va_P D vwCl (xw cI cQ a (upd (upd pl 0 v_20) 1 v_21) pq2 nq2 (va_up (va_up (va_up nm2 0 (fun j => nm2 0 j * gl_sign j)) 1 (fun j => (va_up nm2 0 (fun j => nm2 0 j * gl_sign j)) 1 j * gl_sign j)) 2 (fun j => (va_up (va_up nm2 0 (fun j => nm2 0 j * gl_sign j)) 1 (fun j => (va_up nm2 0 (fun j => nm2 0 j * gl_sign j)) 1 j * gl_sign j)) 2 j * gl_sign j)) ab lg 2 kn ++ fr) H := hP
    have hD : va_D A (xw cI cQ a (upd (upd pl 0 v_20) 1 v_21) pq2 nq2 (va_up (va_up (va_up nm2 0 (fun j => nm2 0 j * gl_sign j)) 1 (fun j => (va_up nm2 0 (fun j => nm2 0 j * gl_sign j)) 1 j * gl_sign j)) 2 (fun j => (va_up (va_up nm2 0 (fun j => nm2 0 j * gl_sign j)) 1 (fun j => (va_up nm2 0 (fun j => nm2 0 j * gl_sign j)) 1 j * gl_sign j)) 2 j * gl_sign j)) ab lg 2 kn ++ fr) := hD
    refine lv_iinc (v := 3) (lv' := [(1, .int 3), (2, .int 1), (3, .ref (pq 0)), (0, .ref (a 0))]) hx hb dX2_mirror_117 hl (k := 0) rfl (by decide) (by decide) rfl (fun ls hl => ?_)
    refine lv_goto (tgt := 100) hx hb dX2_mirror_120 (by decide) ?_
    refine lv_iload_n hx hb dX2_mirror_100 rfl (lv_at hl 0 rfl) ?_
    refine lv_aload_n hx hb dX2_mirror_101 rfl (lv_at hl 3 rfl) ?_
    refine va_get (D := D) (ci := 2) (v := .int 2) (C := RX2) (T := TX2) (N := 5) hx hb hg inX2 hown hK hP 0 rfl rfl 3 (by decide) (hg _ fl_X2_26) (fun _ h9 => h9) rfl dX2_mirror_102 ?_
    refine lv_icmp_gt (tgt := 123) hx hb dX2_mirror_105 (by decide) (fun _ => ?_) (fun c_31 => absurd c_31 (by decide))
    exact W.vret hx hb hr (fun t ht hW => ⟨⟨((upd (upd pl 0 v_20) 1 v_21), pq2, nq2, (va_up (va_up (va_up nm2 0 (fun j => nm2 0 j * gl_sign j)) 1 (fun j => (va_up nm2 0 (fun j => nm2 0 j * gl_sign j)) 1 j * gl_sign j)) 2 (fun j => (va_up (va_up nm2 0 (fun j => nm2 0 j * gl_sign j)) 1 (fun j => (va_up nm2 0 (fun j => nm2 0 j * gl_sign j)) 1 j * gl_sign j)) 2 j * gl_sign j))), rfl, ⟨fun j hj => by rcases (show j = 0 ∨ j = 1 by omega) with rfl | rfl <;> simp [upd, ev_19, ev_20, ev_21], fun i hi j => by rcases (show i = 0 ∨ i = 1 ∨ i = 2 by omega) with rfl | rfl | rfl <;> simp [va_up, hnm2, mi_s]⟩, wd_E.at hK hP hD ht hW⟩, hS.F ht⟩) hS.2.2 dX2_mirror_123
  · have hP : va_P D vwCl (xw cI cQ a pl pq nq nm ab lg 3 kn ++ fr) s.heap := hP
    have hD : va_D A (xw cI cQ a pl pq nq nm ab lg 3 kn ++ fr) := hD
    refine lv_iconst (v := 0) hx hb dX2_mirror_0 (by decide) ?_
    refine lv_istore_n (lv' := [(1, .int 0), (0, .ref (a 0))]) hx hb dX2_mirror_1 rfl hl (by decide) rfl (fun ls hl => ?_)
    refine lv_aload_n hx hb dX2_mirror_2 rfl (lv_at hl 1 rfl) ?_
    refine va_get (D := D) (ci := 2) (v := .int 3) (C := RX2) (T := TX2) (N := 5) hx hb hg inX2 hown hK hP 0 rfl rfl 3 (by decide) (hg _ fl_X2_26) (fun _ h9 => h9) rfl dX2_mirror_3 ?_
    refine lv_iconst (v := 1) hx hb dX2_mirror_6 (by decide) ?_
    refine lv_isub hx hb dX2_mirror_7 ?_
    rw [show (3 : Int32) - 1 = 2 from by decide]
    refine lv_istore_n (lv' := [(2, .int 2), (1, .int 0), (0, .ref (a 0))]) hx hb dX2_mirror_8 rfl hl (by decide) rfl (fun ls hl => ?_)
    refine lv_iload_n hx hb dX2_mirror_9 rfl (lv_at hl 1 rfl) ?_
    refine lv_iload_n hx hb dX2_mirror_10 rfl (lv_at hl 0 rfl) ?_
    refine lv_icmp_gt (tgt := 51) hx hb dX2_mirror_11 (by decide) (fun c_32 => absurd c_32 (by decide)) (fun _ => ?_)
    refine lv_aload_n hx hb dX2_mirror_14 rfl (lv_at hl 2 rfl) ?_
    refine va_get (D := D) (ci := 2) (v := .ref (a 1)) (C := RX2) (T := TX2) (N := 5) hx hb hg inX2 hown hK hP 0 rfl rfl 0 (by decide) (hg _ fl_X2_9) (fun _ h9 => h9) rfl dX2_mirror_15 ?_
    refine lv_iload_n hx hb dX2_mirror_18 rfl (lv_at hl 1 rfl) ?_
    refine va_iald (D := D) (n := 3) (f := pl) hx hb hK hP 1 0 rfl rfl (vp_in_nI (show 0 < 3 by decide) (by decide)) dX2_mirror_19 ?_
    rw [show (0 : Int32).toNatClampNeg = 0 from by decide]
    refine lv_topi (fun v_33 ev_33 => ?_)
    refine lv_istore_n (lv' := [(3, .int v_33), (2, .int 2), (1, .int 0), (0, .ref (a 0))]) hx hb dX2_mirror_20 rfl hl (by decide) rfl (fun ls hl => ?_)
    refine lv_aload_n hx hb dX2_mirror_21 rfl (lv_at hl 3 rfl) ?_
    refine va_get (D := D) (ci := 2) (v := .ref (a 1)) (C := RX2) (T := TX2) (N := 5) hx hb hg inX2 hown hK hP 0 rfl rfl 0 (by decide) (hg _ fl_X2_9) (fun _ h9 => h9) rfl dX2_mirror_22 ?_
    refine lv_iload_n hx hb dX2_mirror_25 rfl (lv_at hl 2 rfl) ?_
    refine lv_aload_n hx hb dX2_mirror_26 rfl (lv_at hl 3 rfl) ?_
    refine va_get (D := D) (ci := 2) (v := .ref (a 1)) (C := RX2) (T := TX2) (N := 5) hx hb hg inX2 hown hK hP 0 rfl rfl 0 (by decide) (hg _ fl_X2_9) (fun _ h9 => h9) rfl dX2_mirror_27 ?_
    refine lv_iload_n hx hb dX2_mirror_30 rfl (lv_at hl 1 rfl) ?_
    refine va_iald (D := D) (n := 3) (f := pl) hx hb hK hP 1 0 rfl rfl (vp_in_nI (show 2 < 3 by decide) (by decide)) dX2_mirror_31 ?_
    rw [show (2 : Int32).toNatClampNeg = 2 from by decide]
    refine lv_ineg hx hb dX2_mirror_32 ?_
    refine lv_topi (fun v_34 ev_34 => ?_)
    refine va_iast (D := D) (n := 3) (f := pl) (x := v_34) hx hb hK hP hD hS 1 0 rfl rfl (vp_in_nI (show 0 < 3 by decide) (by decide)) dX2_mirror_33 (fun H locs hP hD hS => ?_)
    rw [show (0 : Int32).toNatClampNeg = 0 from by decide] at hP hD
    have hP : va_P D vwCl (xw cI cQ a (upd pl 0 v_34) pq nq nm ab lg 3 kn ++ fr) H := hP
    have hD : va_D A (xw cI cQ a (upd pl 0 v_34) pq nq nm ab lg 3 kn ++ fr) := hD
    refine lv_aload_n hx hb dX2_mirror_34 rfl (lv_at hl 3 rfl) ?_
    refine va_get (D := D) (ci := 2) (v := .ref (a 1)) (C := RX2) (T := TX2) (N := 5) hx hb hg inX2 hown hK hP 0 rfl rfl 0 (by decide) (hg _ fl_X2_9) (fun _ h9 => h9) rfl dX2_mirror_35 ?_
    refine lv_iload_n hx hb dX2_mirror_38 rfl (lv_at hl 1 rfl) ?_
    refine lv_iload_n hx hb dX2_mirror_39 rfl (lv_at hl 0 rfl) ?_
    refine lv_ineg hx hb dX2_mirror_40 ?_
    refine lv_topi (fun v_35 ev_35 => ?_)
    refine va_iast (D := D) (n := 3) (f := (upd pl 0 v_34)) (x := v_35) hx hb hK hP hD hS 1 0 rfl rfl (vp_in_nI (show 2 < 3 by decide) (by decide)) dX2_mirror_41 (fun H locs hP hD hS => ?_)
    rw [show (2 : Int32).toNatClampNeg = 2 from by decide] at hP hD
    have hP : va_P D vwCl (xw cI cQ a (upd (upd pl 0 v_34) 2 v_35) pq nq nm ab lg 3 kn ++ fr) H := hP
    have hD : va_D A (xw cI cQ a (upd (upd pl 0 v_34) 2 v_35) pq nq nm ab lg 3 kn ++ fr) := hD
    refine lv_iinc (v := 1) (lv' := [(1, .int 1), (3, .int v_33), (2, .int 2), (0, .ref (a 0))]) hx hb dX2_mirror_42 hl (k := 2) rfl (by decide) (by decide) rfl (fun ls hl => ?_)
    refine lv_iinc (v := 1) (lv' := [(2, .int 1), (1, .int 1), (3, .int v_33), (0, .ref (a 0))]) hx hb dX2_mirror_45 hl (k := 2) rfl (by decide) (by decide) rfl (fun ls hl => ?_)
    refine lv_goto (tgt := 9) hx hb dX2_mirror_48 (by decide) ?_
    refine lv_iload_n hx hb dX2_mirror_9 rfl (lv_at hl 1 rfl) ?_
    refine lv_iload_n hx hb dX2_mirror_10 rfl (lv_at hl 0 rfl) ?_
    refine lv_icmp_gt (tgt := 51) hx hb dX2_mirror_11 (by decide) (fun c_36 => absurd c_36 (by decide)) (fun _ => ?_)
    refine lv_aload_n hx hb dX2_mirror_14 rfl (lv_at hl 3 rfl) ?_
    refine va_get (D := D) (ci := 2) (v := .ref (a 1)) (C := RX2) (T := TX2) (N := 5) hx hb hg inX2 hown hK hP 0 rfl rfl 0 (by decide) (hg _ fl_X2_9) (fun _ h9 => h9) rfl dX2_mirror_15 ?_
    refine lv_iload_n hx hb dX2_mirror_18 rfl (lv_at hl 1 rfl) ?_
    refine va_iald (D := D) (n := 3) (f := (upd (upd pl 0 v_34) 2 v_35)) hx hb hK hP 1 0 rfl rfl (vp_in_nI (show 1 < 3 by decide) (by decide)) dX2_mirror_19 ?_
    rw [show (1 : Int32).toNatClampNeg = 1 from by decide]
    refine lv_topi (fun v_37 ev_37 => ?_)
    refine lv_istore_n (lv' := [(3, .int v_37), (2, .int 1), (1, .int 1), (0, .ref (a 0))]) hx hb dX2_mirror_20 rfl hl (by decide) rfl (fun ls hl => ?_)
    refine lv_aload_n hx hb dX2_mirror_21 rfl (lv_at hl 3 rfl) ?_
    refine va_get (D := D) (ci := 2) (v := .ref (a 1)) (C := RX2) (T := TX2) (N := 5) hx hb hg inX2 hown hK hP 0 rfl rfl 0 (by decide) (hg _ fl_X2_9) (fun _ h9 => h9) rfl dX2_mirror_22 ?_
    refine lv_iload_n hx hb dX2_mirror_25 rfl (lv_at hl 2 rfl) ?_
    refine lv_aload_n hx hb dX2_mirror_26 rfl (lv_at hl 3 rfl) ?_
    refine va_get (D := D) (ci := 2) (v := .ref (a 1)) (C := RX2) (T := TX2) (N := 5) hx hb hg inX2 hown hK hP 0 rfl rfl 0 (by decide) (hg _ fl_X2_9) (fun _ h9 => h9) rfl dX2_mirror_27 ?_
    refine lv_iload_n hx hb dX2_mirror_30 rfl (lv_at hl 1 rfl) ?_
    refine va_iald (D := D) (n := 3) (f := (upd (upd pl 0 v_34) 2 v_35)) hx hb hK hP 1 0 rfl rfl (vp_in_nI (show 1 < 3 by decide) (by decide)) dX2_mirror_31 ?_
    rw [show (1 : Int32).toNatClampNeg = 1 from by decide]
    refine lv_ineg hx hb dX2_mirror_32 ?_
    refine lv_topi (fun v_38 ev_38 => ?_)
    refine va_iast (D := D) (n := 3) (f := (upd (upd pl 0 v_34) 2 v_35)) (x := v_38) hx hb hK hP hD hS 1 0 rfl rfl (vp_in_nI (show 1 < 3 by decide) (by decide)) dX2_mirror_33 (fun H locs hP hD hS => ?_)
    rw [show (1 : Int32).toNatClampNeg = 1 from by decide] at hP hD
    have hP : va_P D vwCl (xw cI cQ a (upd (upd (upd pl 0 v_34) 2 v_35) 1 v_38) pq nq nm ab lg 3 kn ++ fr) H := hP
    have hD : va_D A (xw cI cQ a (upd (upd (upd pl 0 v_34) 2 v_35) 1 v_38) pq nq nm ab lg 3 kn ++ fr) := hD
    refine lv_aload_n hx hb dX2_mirror_34 rfl (lv_at hl 3 rfl) ?_
    refine va_get (D := D) (ci := 2) (v := .ref (a 1)) (C := RX2) (T := TX2) (N := 5) hx hb hg inX2 hown hK hP 0 rfl rfl 0 (by decide) (hg _ fl_X2_9) (fun _ h9 => h9) rfl dX2_mirror_35 ?_
    refine lv_iload_n hx hb dX2_mirror_38 rfl (lv_at hl 1 rfl) ?_
    refine lv_iload_n hx hb dX2_mirror_39 rfl (lv_at hl 0 rfl) ?_
    refine lv_ineg hx hb dX2_mirror_40 ?_
    refine lv_topi (fun v_39 ev_39 => ?_)
    refine va_iast (D := D) (n := 3) (f := (upd (upd (upd pl 0 v_34) 2 v_35) 1 v_38)) (x := v_39) hx hb hK hP hD hS 1 0 rfl rfl (vp_in_nI (show 1 < 3 by decide) (by decide)) dX2_mirror_41 (fun H locs hP hD hS => ?_)
    rw [show (1 : Int32).toNatClampNeg = 1 from by decide] at hP hD
    have hP : va_P D vwCl (xw cI cQ a (upd (upd (upd (upd pl 0 v_34) 2 v_35) 1 v_38) 1 v_39) pq nq nm ab lg 3 kn ++ fr) H := hP
    have hD : va_D A (xw cI cQ a (upd (upd (upd (upd pl 0 v_34) 2 v_35) 1 v_38) 1 v_39) pq nq nm ab lg 3 kn ++ fr) := hD
    refine lv_iinc (v := 2) (lv' := [(1, .int 2), (3, .int v_37), (2, .int 1), (0, .ref (a 0))]) hx hb dX2_mirror_42 hl (k := 2) rfl (by decide) (by decide) rfl (fun ls hl => ?_)
    refine lv_iinc (v := 0) (lv' := [(2, .int 0), (1, .int 2), (3, .int v_37), (0, .ref (a 0))]) hx hb dX2_mirror_45 hl (k := 2) rfl (by decide) (by decide) rfl (fun ls hl => ?_)
    refine lv_goto (tgt := 9) hx hb dX2_mirror_48 (by decide) ?_
    refine lv_iload_n hx hb dX2_mirror_9 rfl (lv_at hl 1 rfl) ?_
    refine lv_iload_n hx hb dX2_mirror_10 rfl (lv_at hl 0 rfl) ?_
    refine lv_icmp_gt (tgt := 51) hx hb dX2_mirror_11 (by decide) (fun _ => ?_) (fun c_40 => absurd c_40 (by decide))
    refine lv_iconst (v := 0) hx hb dX2_mirror_51 (by decide) ?_
    refine lv_istore_n (lv' := [(1, .int 0), (2, .int 0), (3, .int v_37), (0, .ref (a 0))]) hx hb dX2_mirror_52 rfl hl (by decide) rfl (fun ls hl => ?_)
    refine lv_aload_n hx hb dX2_mirror_53 rfl (lv_at hl 3 rfl) ?_
    refine va_get (D := D) (ci := 2) (v := .int 3) (C := RX2) (T := TX2) (N := 5) hx hb hg inX2 hown hK hP 0 rfl rfl 3 (by decide) (hg _ fl_X2_26) (fun _ h9 => h9) rfl dX2_mirror_54 ?_
    refine lv_istore_n (lv' := [(2, .int 3), (1, .int 0), (3, .int v_37), (0, .ref (a 0))]) hx hb dX2_mirror_57 rfl hl (by decide) rfl (fun ls hl => ?_)
    refine lv_iload_n hx hb dX2_mirror_58 rfl (lv_at hl 1 rfl) ?_
    refine lv_iload_n hx hb dX2_mirror_59 rfl (lv_at hl 0 rfl) ?_
    refine lv_icmp_ge (tgt := 98) hx hb dX2_mirror_60 (by decide) (fun c_41 => absurd c_41 (by decide)) (fun _ => ?_)
    refine lv_aload_n hx hb dX2_mirror_63 rfl (lv_at hl 3 rfl) ?_
    refine va_get (D := D) (ci := 2) (v := .ref (a 2)) (C := RX2) (T := TX2) (N := 5) hx hb hg inX2 hown hK hP 0 rfl rfl 1 (by decide) (hg _ fl_X2_15) (fun _ h9 => h9) rfl dX2_mirror_64 ?_
    refine lv_iload_n hx hb dX2_mirror_67 rfl (lv_at hl 1 rfl) ?_
    refine va_aldq (D := D) (n := 4) (f := (fun j => some (pq j))) hx hb hK hP 2 2 rfl rfl (vp_in_nI (show 0 < 4 by decide) (by decide)) dX2_mirror_68 ?_
    refine W.eq (g2 := F0 m 69 ls [.ref (pq 0)]) rfl ?_
    refine lv_astore_n (lv' := [(3, .ref (pq 0)), (2, .int 3), (1, .int 0), (0, .ref (a 0))]) hx hb dX2_mirror_69 rfl hl (by decide) rfl (fun ls hl => ?_)
    refine lv_aload_n hx hb dX2_mirror_70 rfl (lv_at hl 3 rfl) ?_
    refine va_get (D := D) (ci := 2) (v := .ref (a 2)) (C := RX2) (T := TX2) (N := 5) hx hb hg inX2 hown hK hP 0 rfl rfl 1 (by decide) (hg _ fl_X2_15) (fun _ h9 => h9) rfl dX2_mirror_71 ?_
    refine lv_iload_n hx hb dX2_mirror_74 rfl (lv_at hl 2 rfl) ?_
    refine lv_aload_n hx hb dX2_mirror_75 rfl (lv_at hl 3 rfl) ?_
    refine va_get (D := D) (ci := 2) (v := .ref (a 2)) (C := RX2) (T := TX2) (N := 5) hx hb hg inX2 hown hK hP 0 rfl rfl 1 (by decide) (hg _ fl_X2_15) (fun _ h9 => h9) rfl dX2_mirror_76 ?_
    refine lv_iload_n hx hb dX2_mirror_79 rfl (lv_at hl 1 rfl) ?_
    refine va_aldq (D := D) (n := 4) (f := (fun j => some (pq j))) hx hb hK hP 2 2 rfl rfl (vp_in_nI (show 3 < 4 by decide) (by decide)) dX2_mirror_80 ?_
    refine W.eq (g2 := F0 m 81 ls [.ref (pq 3), .int 0, .ref (a 2)]) rfl ?_
    refine va_astq (D := D) (n := 4) (f := (fun j => some (pq j))) hx hb hK hP hD hS 2 2 11 0 rfl rfl rfl rfl (vp_in_nI (show 0 < 4 by decide) (by decide)) dX2_mirror_81 (fun H locs hP hD hS => ?_)
    rw [show (0 : Int32).toNatClampNeg = 0 from by decide] at hP hD
    have hP : va_P D vwCl (xw0 cI cQ a (va_up (fun j => some (pq j)) 0 (some (pq 3))) (upd (upd (upd (upd pl 0 v_34) 2 v_35) 1 v_38) 1 v_39) pq nq nm ab lg 3 kn ++ fr) H := hP
    have hD : va_D A (xw0 cI cQ a (va_up (fun j => some (pq j)) 0 (some (pq 3))) (upd (upd (upd (upd pl 0 v_34) 2 v_35) 1 v_38) 1 v_39) pq nq nm ab lg 3 kn ++ fr) := hD
    refine lv_aload_n hx hb dX2_mirror_82 rfl (lv_at hl 3 rfl) ?_
    refine va_get (D := D) (ci := 2) (v := .ref (a 2)) (C := RX2) (T := TX2) (N := 5) hx hb hg inX2 hown hK hP 0 rfl rfl 1 (by decide) (hg _ fl_X2_15) (fun _ h9 => h9) rfl dX2_mirror_83 ?_
    refine lv_iload_n hx hb dX2_mirror_86 rfl (lv_at hl 1 rfl) ?_
    refine lv_aload_n hx hb dX2_mirror_87 rfl (lv_at hl 0 rfl) ?_
    refine va_astq (D := D) (n := 4) (f := (va_up (fun j => some (pq j)) 0 (some (pq 3)))) hx hb hK hP hD hS 2 2 5 0 rfl rfl rfl rfl (vp_in_nI (show 3 < 4 by decide) (by decide)) dX2_mirror_88 (fun H locs hP hD hS => ?_)
    rw [show (3 : Int32).toNatClampNeg = 3 from by decide] at hP hD
    have hP : va_P D vwCl (xw0 cI cQ a (va_up (va_up (fun j => some (pq j)) 0 (some (pq 3))) 3 (some (pq 0))) (upd (upd (upd (upd pl 0 v_34) 2 v_35) 1 v_38) 1 v_39) pq nq nm ab lg 3 kn ++ fr) H := hP
    have hD : va_D A (xw0 cI cQ a (va_up (va_up (fun j => some (pq j)) 0 (some (pq 3))) 3 (some (pq 0))) (upd (upd (upd (upd pl 0 v_34) 2 v_35) 1 v_38) 1 v_39) pq nq nm ab lg 3 kn ++ fr) := hD
    refine lv_iinc (v := 1) (lv' := [(1, .int 1), (3, .ref (pq 0)), (2, .int 3), (0, .ref (a 0))]) hx hb dX2_mirror_89 hl (k := 2) rfl (by decide) (by decide) rfl (fun ls hl => ?_)
    refine lv_iinc (v := 2) (lv' := [(2, .int 2), (1, .int 1), (3, .ref (pq 0)), (0, .ref (a 0))]) hx hb dX2_mirror_92 hl (k := 2) rfl (by decide) (by decide) rfl (fun ls hl => ?_)
    refine lv_goto (tgt := 58) hx hb dX2_mirror_95 (by decide) ?_
    refine lv_iload_n hx hb dX2_mirror_58 rfl (lv_at hl 1 rfl) ?_
    refine lv_iload_n hx hb dX2_mirror_59 rfl (lv_at hl 0 rfl) ?_
    refine lv_icmp_ge (tgt := 98) hx hb dX2_mirror_60 (by decide) (fun c_42 => absurd c_42 (by decide)) (fun _ => ?_)
    refine lv_aload_n hx hb dX2_mirror_63 rfl (lv_at hl 3 rfl) ?_
    refine va_get (D := D) (ci := 2) (v := .ref (a 2)) (C := RX2) (T := TX2) (N := 5) hx hb hg inX2 hown hK hP 0 rfl rfl 1 (by decide) (hg _ fl_X2_15) (fun _ h9 => h9) rfl dX2_mirror_64 ?_
    refine lv_iload_n hx hb dX2_mirror_67 rfl (lv_at hl 1 rfl) ?_
    refine va_aldq (D := D) (n := 4) (f := (va_up (va_up (fun j => some (pq j)) 0 (some (pq 3))) 3 (some (pq 0)))) hx hb hK hP 2 2 rfl rfl (vp_in_nI (show 1 < 4 by decide) (by decide)) dX2_mirror_68 ?_
    refine W.eq (g2 := F0 m 69 ls [.ref (pq 1)]) rfl ?_
    refine lv_astore_n (lv' := [(3, .ref (pq 1)), (2, .int 2), (1, .int 1), (0, .ref (a 0))]) hx hb dX2_mirror_69 rfl hl (by decide) rfl (fun ls hl => ?_)
    refine lv_aload_n hx hb dX2_mirror_70 rfl (lv_at hl 3 rfl) ?_
    refine va_get (D := D) (ci := 2) (v := .ref (a 2)) (C := RX2) (T := TX2) (N := 5) hx hb hg inX2 hown hK hP 0 rfl rfl 1 (by decide) (hg _ fl_X2_15) (fun _ h9 => h9) rfl dX2_mirror_71 ?_
    refine lv_iload_n hx hb dX2_mirror_74 rfl (lv_at hl 2 rfl) ?_
    refine lv_aload_n hx hb dX2_mirror_75 rfl (lv_at hl 3 rfl) ?_
    refine va_get (D := D) (ci := 2) (v := .ref (a 2)) (C := RX2) (T := TX2) (N := 5) hx hb hg inX2 hown hK hP 0 rfl rfl 1 (by decide) (hg _ fl_X2_15) (fun _ h9 => h9) rfl dX2_mirror_76 ?_
    refine lv_iload_n hx hb dX2_mirror_79 rfl (lv_at hl 1 rfl) ?_
    refine va_aldq (D := D) (n := 4) (f := (va_up (va_up (fun j => some (pq j)) 0 (some (pq 3))) 3 (some (pq 0)))) hx hb hK hP 2 2 rfl rfl (vp_in_nI (show 2 < 4 by decide) (by decide)) dX2_mirror_80 ?_
    refine W.eq (g2 := F0 m 81 ls [.ref (pq 2), .int 1, .ref (a 2)]) rfl ?_
    refine va_astq (D := D) (n := 4) (f := (va_up (va_up (fun j => some (pq j)) 0 (some (pq 3))) 3 (some (pq 0)))) hx hb hK hP hD hS 2 2 9 0 rfl rfl rfl rfl (vp_in_nI (show 1 < 4 by decide) (by decide)) dX2_mirror_81 (fun H locs hP hD hS => ?_)
    rw [show (1 : Int32).toNatClampNeg = 1 from by decide] at hP hD
    have hP : va_P D vwCl (xw0 cI cQ a (va_up (va_up (va_up (fun j => some (pq j)) 0 (some (pq 3))) 3 (some (pq 0))) 1 (some (pq 2))) (upd (upd (upd (upd pl 0 v_34) 2 v_35) 1 v_38) 1 v_39) pq nq nm ab lg 3 kn ++ fr) H := hP
    have hD : va_D A (xw0 cI cQ a (va_up (va_up (va_up (fun j => some (pq j)) 0 (some (pq 3))) 3 (some (pq 0))) 1 (some (pq 2))) (upd (upd (upd (upd pl 0 v_34) 2 v_35) 1 v_38) 1 v_39) pq nq nm ab lg 3 kn ++ fr) := hD
    refine lv_aload_n hx hb dX2_mirror_82 rfl (lv_at hl 3 rfl) ?_
    refine va_get (D := D) (ci := 2) (v := .ref (a 2)) (C := RX2) (T := TX2) (N := 5) hx hb hg inX2 hown hK hP 0 rfl rfl 1 (by decide) (hg _ fl_X2_15) (fun _ h9 => h9) rfl dX2_mirror_83 ?_
    refine lv_iload_n hx hb dX2_mirror_86 rfl (lv_at hl 1 rfl) ?_
    refine lv_aload_n hx hb dX2_mirror_87 rfl (lv_at hl 0 rfl) ?_
    refine va_astq (D := D) (n := 4) (f := (va_up (va_up (va_up (fun j => some (pq j)) 0 (some (pq 3))) 3 (some (pq 0))) 1 (some (pq 2)))) hx hb hK hP hD hS 2 2 7 0 rfl rfl rfl rfl (vp_in_nI (show 2 < 4 by decide) (by decide)) dX2_mirror_88 (fun H locs hP hD hS => ?_)
    rw [show (2 : Int32).toNatClampNeg = 2 from by decide] at hP hD
    have hP : va_P D vwCl (xw0 cI cQ a (va_up (va_up (va_up (va_up (fun j => some (pq j)) 0 (some (pq 3))) 3 (some (pq 0))) 1 (some (pq 2))) 2 (some (pq 1))) (upd (upd (upd (upd pl 0 v_34) 2 v_35) 1 v_38) 1 v_39) pq nq nm ab lg 3 kn ++ fr) H := hP
    have hD : va_D A (xw0 cI cQ a (va_up (va_up (va_up (va_up (fun j => some (pq j)) 0 (some (pq 3))) 3 (some (pq 0))) 1 (some (pq 2))) 2 (some (pq 1))) (upd (upd (upd (upd pl 0 v_34) 2 v_35) 1 v_38) 1 v_39) pq nq nm ab lg 3 kn ++ fr) := hD
    refine lv_iinc (v := 2) (lv' := [(1, .int 2), (3, .ref (pq 1)), (2, .int 2), (0, .ref (a 0))]) hx hb dX2_mirror_89 hl (k := 2) rfl (by decide) (by decide) rfl (fun ls hl => ?_)
    refine lv_iinc (v := 1) (lv' := [(2, .int 1), (1, .int 2), (3, .ref (pq 1)), (0, .ref (a 0))]) hx hb dX2_mirror_92 hl (k := 2) rfl (by decide) (by decide) rfl (fun ls hl => ?_)
    refine lv_goto (tgt := 58) hx hb dX2_mirror_95 (by decide) ?_
    refine lv_iload_n hx hb dX2_mirror_58 rfl (lv_at hl 1 rfl) ?_
    refine lv_iload_n hx hb dX2_mirror_59 rfl (lv_at hl 0 rfl) ?_
    refine lv_icmp_ge (tgt := 98) hx hb dX2_mirror_60 (by decide) (fun _ => ?_) (fun c_43 => absurd c_43 (by decide))
    have hP := hP.cgq (p := 2) (g := fun j => some (pq (mi_s 3 j))) rfl (fun j hj => by rcases (show j = 0 ∨ j = 1 ∨ j = 2 ∨ j = 3 by omega) with rfl | rfl | rfl | rfl <;> rfl)
    have hD := hD.set (p := 2) (e := .inl (cQ, 4, .inr (.inr (.inr (.inr (fun j => some (pq (mi_s 3 j)))))))) rfl
    have hP : va_P D vwCl (xw0 cI cQ a (fun j => some (pq (mi_s 3 j))) (upd (upd (upd (upd pl 0 v_34) 2 v_35) 1 v_38) 1 v_39) pq nq nm ab lg 3 kn ++ fr) H := hP
    have hD : va_D A (xw0 cI cQ a (fun j => some (pq (mi_s 3 j))) (upd (upd (upd (upd pl 0 v_34) 2 v_35) 1 v_38) 1 v_39) pq nq nm ab lg 3 kn ++ fr) := hD
    have hP : va_P D vwCl (xw cI cQ a (upd (upd (upd (upd pl 0 v_34) 2 v_35) 1 v_38) 1 v_39) (fun j => pq (mi_s 3 j)) (fun j => nq (mi_s 3 j)) (fun j => nm (mi_s 3 j)) ab lg 3 kn ++ fr) H := va_P.part (X := xw0 cI cQ a (fun j => some (pq (mi_s 3 j))) (upd (upd (upd (upd pl 0 v_34) 2 v_35) 1 v_38) 1 v_39) pq nq nm ab lg 3 kn) hP [0, 1, 2, 3, 4, 11, 12, 9, 10, 7, 8, 5, 6] rfl
    have hD : va_D A (xw cI cQ a (upd (upd (upd (upd pl 0 v_34) 2 v_35) 1 v_38) 1 v_39) (fun j => pq (mi_s 3 j)) (fun j => nq (mi_s 3 j)) (fun j => nm (mi_s 3 j)) ab lg 3 kn ++ fr) := va_D.part (X := xw0 cI cQ a (fun j => some (pq (mi_s 3 j))) (upd (upd (upd (upd pl 0 v_34) 2 v_35) 1 v_38) 1 v_39) pq nq nm ab lg 3 kn) hD [0, 1, 2, 3, 4, 11, 12, 9, 10, 7, 8, 5, 6] rfl rfl
    have hnm2 : ∀ j, (fun j => nm (mi_s 3 j)) j = nm (mi_s 3 j) := fun _ => rfl
    generalize (fun j => pq (mi_s 3 j)) = pq2 at hP hD
    generalize (fun j => nq (mi_s 3 j)) = nq2 at hP hD
    generalize (fun j => nm (mi_s 3 j)) = nm2 at hP hD hnm2
    have hP : va_P D vwCl (xw cI cQ a (upd (upd (upd (upd pl 0 v_34) 2 v_35) 1 v_38) 1 v_39) pq2 nq2 nm2 ab lg 3 kn ++ fr) H := hP
    have hD : va_D A (xw cI cQ a (upd (upd (upd (upd pl 0 v_34) 2 v_35) 1 v_38) 1 v_39) pq2 nq2 nm2 ab lg 3 kn ++ fr) := hD
    refine lv_iconst (v := 0) hx hb dX2_mirror_98 (by decide) ?_
    refine lv_istore_n (lv' := [(1, .int 0), (2, .int 1), (3, .ref (pq 1)), (0, .ref (a 0))]) hx hb dX2_mirror_99 rfl hl (by decide) rfl (fun ls hl => ?_)
    refine lv_iload_n hx hb dX2_mirror_100 rfl (lv_at hl 0 rfl) ?_
    refine lv_aload_n hx hb dX2_mirror_101 rfl (lv_at hl 3 rfl) ?_
    refine va_get (D := D) (ci := 2) (v := .int 3) (C := RX2) (T := TX2) (N := 5) hx hb hg inX2 hown hK hP 0 rfl rfl 3 (by decide) (hg _ fl_X2_26) (fun _ h9 => h9) rfl dX2_mirror_102 ?_
    refine lv_icmp_gt (tgt := 123) hx hb dX2_mirror_105 (by decide) (fun c_44 => absurd c_44 (by decide)) (fun _ => ?_)
    refine lv_aload_n hx hb dX2_mirror_108 rfl (lv_at hl 3 rfl) ?_
    refine va_get (D := D) (ci := 2) (v := .ref (a 2)) (C := RX2) (T := TX2) (N := 5) hx hb hg inX2 hown hK hP 0 rfl rfl 1 (by decide) (hg _ fl_X2_15) (fun _ h9 => h9) rfl dX2_mirror_109 ?_
    refine lv_iload_n hx hb dX2_mirror_112 rfl (lv_at hl 0 rfl) ?_
    refine va_aldq (D := D) (n := 4) (f := (fun j => some (pq2 j))) hx hb hK hP 2 2 rfl rfl (vp_in_nI (show 0 < 4 by decide) (by decide)) dX2_mirror_113 ?_
    refine W.eq (g2 := F0 m 114 ls [.ref (pq2 0)]) rfl ?_
    refine va_callv (va_runVN (As := []) (rest := []) ⟨hx, hb, hml, hown, hg⟩ (c_X0_turnRound l A D cI cL cQ (xw cI cQ a (upd (upd (upd (upd pl 0 v_34) 2 v_35) 1 v_38) 1 v_39) pq2 nq2 nm2 ab lg 3 kn ++ fr) 5 6 (pq2 0) (nq2 0) (nm2 0) rfl rfl) ⟨va_cnB 0 hg (gw_C co_X0_turnRound) rfl rfl rfl (hG.1 _ mn_X2_77) (hg _ ini_X0) (by decide +kernel) ⟨Nat.le_of_ble_eq_true rfl, Nat.le_of_ble_eq_true rfl⟩, hg _ im_X0_turnRound, hg _ se_X0_turnRound⟩ ⟨wd_B.blind, va_recv hK hP (ci := 0) (q0 := 5) rfl rfl, (fun U hU hW => ⟨rfl, wd_B.at hG hK hP hD hS hA hU hW⟩)⟩ rfl rfl hl.1 rfl (lv_room (Nat.le_of_ble_eq_true rfl)) dX2_mirror_114 ⟨Nat.le_of_ble_eq_true rfl, Nat.le_of_ble_eq_true rfl⟩) hS (fun q _ h => h) (fun q h => h) (fun u t H1 locs ht hvm hr_45 hB hz1 hk1 hS => ?_)
    obtain ⟨hK, hP, hD⟩ := hB.back ht hvm
    generalize H1 = H at hP hS ⊢
    have hP : va_P D vwCl (xw cI cQ a (upd (upd (upd (upd pl 0 v_34) 2 v_35) 1 v_38) 1 v_39) pq2 nq2 (va_up nm2 0 (fun j => nm2 0 j * gl_sign j)) ab lg 3 kn ++ fr) H := hP
    have hD : va_D A (xw cI cQ a (upd (upd (upd (upd pl 0 v_34) 2 v_35) 1 v_38) 1 v_39) pq2 nq2 (va_up nm2 0 (fun j => nm2 0 j * gl_sign j)) ab lg 3 kn ++ fr) := hD
    refine lv_iinc (v := 1) (lv' := [(1, .int 1), (2, .int 1), (3, .ref (pq 1)), (0, .ref (a 0))]) hx hb dX2_mirror_117 hl (k := 0) rfl (by decide) (by decide) rfl (fun ls hl => ?_)
    refine lv_goto (tgt := 100) hx hb dX2_mirror_120 (by decide) ?_
    refine lv_iload_n hx hb dX2_mirror_100 rfl (lv_at hl 0 rfl) ?_
    refine lv_aload_n hx hb dX2_mirror_101 rfl (lv_at hl 3 rfl) ?_
    refine va_get (D := D) (ci := 2) (v := .int 3) (C := RX2) (T := TX2) (N := 5) hx hb hg inX2 hown hK hP 0 rfl rfl 3 (by decide) (hg _ fl_X2_26) (fun _ h9 => h9) rfl dX2_mirror_102 ?_
    refine lv_icmp_gt (tgt := 123) hx hb dX2_mirror_105 (by decide) (fun c_46 => absurd c_46 (by decide)) (fun _ => ?_)
    refine lv_aload_n hx hb dX2_mirror_108 rfl (lv_at hl 3 rfl) ?_
    refine va_get (D := D) (ci := 2) (v := .ref (a 2)) (C := RX2) (T := TX2) (N := 5) hx hb hg inX2 hown hK hP 0 rfl rfl 1 (by decide) (hg _ fl_X2_15) (fun _ h9 => h9) rfl dX2_mirror_109 ?_
    refine lv_iload_n hx hb dX2_mirror_112 rfl (lv_at hl 0 rfl) ?_
    refine va_aldq (D := D) (n := 4) (f := (fun j => some (pq2 j))) hx hb hK hP 2 2 rfl rfl (vp_in_nI (show 1 < 4 by decide) (by decide)) dX2_mirror_113 ?_
    refine W.eq (g2 := F0 m 114 ls [.ref (pq2 1)]) rfl ?_
    refine va_callv (va_runVN (As := []) (rest := []) ⟨hx, hb, hml, hown, hg⟩ (c_X0_turnRound l A D cI cL cQ (xw cI cQ a (upd (upd (upd (upd pl 0 v_34) 2 v_35) 1 v_38) 1 v_39) pq2 nq2 (va_up nm2 0 (fun j => nm2 0 j * gl_sign j)) ab lg 3 kn ++ fr) 7 8 (pq2 1) (nq2 1) ((va_up nm2 0 (fun j => nm2 0 j * gl_sign j)) 1) rfl rfl) ⟨va_cnB 0 hg (gw_C co_X0_turnRound) rfl rfl rfl (hG.1 _ mn_X2_77) (hg _ ini_X0) (by decide +kernel) ⟨Nat.le_of_ble_eq_true rfl, Nat.le_of_ble_eq_true rfl⟩, hg _ im_X0_turnRound, hg _ se_X0_turnRound⟩ ⟨wd_B.blind, va_recv hK hP (ci := 0) (q0 := 7) rfl rfl, (fun U hU hW => ⟨rfl, wd_B.at hG hK hP hD hS hA hU hW⟩)⟩ rfl rfl hl.1 rfl (lv_room (Nat.le_of_ble_eq_true rfl)) dX2_mirror_114 ⟨Nat.le_of_ble_eq_true rfl, Nat.le_of_ble_eq_true rfl⟩) hS (fun q _ h => h) (fun q h => h) (fun u t H1 locs ht hvm hr_47 hB hz1 hk1 hS => ?_)
    obtain ⟨hK, hP, hD⟩ := hB.back ht hvm
    generalize H1 = H at hP hS ⊢
    have hP : va_P D vwCl (xw cI cQ a (upd (upd (upd (upd pl 0 v_34) 2 v_35) 1 v_38) 1 v_39) pq2 nq2 (va_up (va_up nm2 0 (fun j => nm2 0 j * gl_sign j)) 1 (fun j => (va_up nm2 0 (fun j => nm2 0 j * gl_sign j)) 1 j * gl_sign j)) ab lg 3 kn ++ fr) H := hP
    have hD : va_D A (xw cI cQ a (upd (upd (upd (upd pl 0 v_34) 2 v_35) 1 v_38) 1 v_39) pq2 nq2 (va_up (va_up nm2 0 (fun j => nm2 0 j * gl_sign j)) 1 (fun j => (va_up nm2 0 (fun j => nm2 0 j * gl_sign j)) 1 j * gl_sign j)) ab lg 3 kn ++ fr) := hD
    refine lv_iinc (v := 2) (lv' := [(1, .int 2), (2, .int 1), (3, .ref (pq 1)), (0, .ref (a 0))]) hx hb dX2_mirror_117 hl (k := 0) rfl (by decide) (by decide) rfl (fun ls hl => ?_)
    refine lv_goto (tgt := 100) hx hb dX2_mirror_120 (by decide) ?_
    refine lv_iload_n hx hb dX2_mirror_100 rfl (lv_at hl 0 rfl) ?_
    refine lv_aload_n hx hb dX2_mirror_101 rfl (lv_at hl 3 rfl) ?_
    refine va_get (D := D) (ci := 2) (v := .int 3) (C := RX2) (T := TX2) (N := 5) hx hb hg inX2 hown hK hP 0 rfl rfl 3 (by decide) (hg _ fl_X2_26) (fun _ h9 => h9) rfl dX2_mirror_102 ?_
    refine lv_icmp_gt (tgt := 123) hx hb dX2_mirror_105 (by decide) (fun c_48 => absurd c_48 (by decide)) (fun _ => ?_)
    refine lv_aload_n hx hb dX2_mirror_108 rfl (lv_at hl 3 rfl) ?_
    refine va_get (D := D) (ci := 2) (v := .ref (a 2)) (C := RX2) (T := TX2) (N := 5) hx hb hg inX2 hown hK hP 0 rfl rfl 1 (by decide) (hg _ fl_X2_15) (fun _ h9 => h9) rfl dX2_mirror_109 ?_
    refine lv_iload_n hx hb dX2_mirror_112 rfl (lv_at hl 0 rfl) ?_
    refine va_aldq (D := D) (n := 4) (f := (fun j => some (pq2 j))) hx hb hK hP 2 2 rfl rfl (vp_in_nI (show 2 < 4 by decide) (by decide)) dX2_mirror_113 ?_
    refine W.eq (g2 := F0 m 114 ls [.ref (pq2 2)]) rfl ?_
    refine va_callv (va_runVN (As := []) (rest := []) ⟨hx, hb, hml, hown, hg⟩ (c_X0_turnRound l A D cI cL cQ (xw cI cQ a (upd (upd (upd (upd pl 0 v_34) 2 v_35) 1 v_38) 1 v_39) pq2 nq2 (va_up (va_up nm2 0 (fun j => nm2 0 j * gl_sign j)) 1 (fun j => (va_up nm2 0 (fun j => nm2 0 j * gl_sign j)) 1 j * gl_sign j)) ab lg 3 kn ++ fr) 9 10 (pq2 2) (nq2 2) ((va_up (va_up nm2 0 (fun j => nm2 0 j * gl_sign j)) 1 (fun j => (va_up nm2 0 (fun j => nm2 0 j * gl_sign j)) 1 j * gl_sign j)) 2) rfl rfl) ⟨va_cnB 0 hg (gw_C co_X0_turnRound) rfl rfl rfl (hG.1 _ mn_X2_77) (hg _ ini_X0) (by decide +kernel) ⟨Nat.le_of_ble_eq_true rfl, Nat.le_of_ble_eq_true rfl⟩, hg _ im_X0_turnRound, hg _ se_X0_turnRound⟩ ⟨wd_B.blind, va_recv hK hP (ci := 0) (q0 := 9) rfl rfl, (fun U hU hW => ⟨rfl, wd_B.at hG hK hP hD hS hA hU hW⟩)⟩ rfl rfl hl.1 rfl (lv_room (Nat.le_of_ble_eq_true rfl)) dX2_mirror_114 ⟨Nat.le_of_ble_eq_true rfl, Nat.le_of_ble_eq_true rfl⟩) hS (fun q _ h => h) (fun q h => h) (fun u t H1 locs ht hvm hr_49 hB hz1 hk1 hS => ?_)
    obtain ⟨hK, hP, hD⟩ := hB.back ht hvm
    generalize H1 = H at hP hS ⊢
    have hP : va_P D vwCl (xw cI cQ a (upd (upd (upd (upd pl 0 v_34) 2 v_35) 1 v_38) 1 v_39) pq2 nq2 (va_up (va_up (va_up nm2 0 (fun j => nm2 0 j * gl_sign j)) 1 (fun j => (va_up nm2 0 (fun j => nm2 0 j * gl_sign j)) 1 j * gl_sign j)) 2 (fun j => (va_up (va_up nm2 0 (fun j => nm2 0 j * gl_sign j)) 1 (fun j => (va_up nm2 0 (fun j => nm2 0 j * gl_sign j)) 1 j * gl_sign j)) 2 j * gl_sign j)) ab lg 3 kn ++ fr) H := hP
    have hD : va_D A (xw cI cQ a (upd (upd (upd (upd pl 0 v_34) 2 v_35) 1 v_38) 1 v_39) pq2 nq2 (va_up (va_up (va_up nm2 0 (fun j => nm2 0 j * gl_sign j)) 1 (fun j => (va_up nm2 0 (fun j => nm2 0 j * gl_sign j)) 1 j * gl_sign j)) 2 (fun j => (va_up (va_up nm2 0 (fun j => nm2 0 j * gl_sign j)) 1 (fun j => (va_up nm2 0 (fun j => nm2 0 j * gl_sign j)) 1 j * gl_sign j)) 2 j * gl_sign j)) ab lg 3 kn ++ fr) := hD
    refine lv_iinc (v := 3) (lv' := [(1, .int 3), (2, .int 1), (3, .ref (pq 1)), (0, .ref (a 0))]) hx hb dX2_mirror_117 hl (k := 0) rfl (by decide) (by decide) rfl (fun ls hl => ?_)
    refine lv_goto (tgt := 100) hx hb dX2_mirror_120 (by decide) ?_
    refine lv_iload_n hx hb dX2_mirror_100 rfl (lv_at hl 0 rfl) ?_
    refine lv_aload_n hx hb dX2_mirror_101 rfl (lv_at hl 3 rfl) ?_
    refine va_get (D := D) (ci := 2) (v := .int 3) (C := RX2) (T := TX2) (N := 5) hx hb hg inX2 hown hK hP 0 rfl rfl 3 (by decide) (hg _ fl_X2_26) (fun _ h9 => h9) rfl dX2_mirror_102 ?_
    refine lv_icmp_gt (tgt := 123) hx hb dX2_mirror_105 (by decide) (fun c_50 => absurd c_50 (by decide)) (fun _ => ?_)
    refine lv_aload_n hx hb dX2_mirror_108 rfl (lv_at hl 3 rfl) ?_
    refine va_get (D := D) (ci := 2) (v := .ref (a 2)) (C := RX2) (T := TX2) (N := 5) hx hb hg inX2 hown hK hP 0 rfl rfl 1 (by decide) (hg _ fl_X2_15) (fun _ h9 => h9) rfl dX2_mirror_109 ?_
    refine lv_iload_n hx hb dX2_mirror_112 rfl (lv_at hl 0 rfl) ?_
    refine va_aldq (D := D) (n := 4) (f := (fun j => some (pq2 j))) hx hb hK hP 2 2 rfl rfl (vp_in_nI (show 3 < 4 by decide) (by decide)) dX2_mirror_113 ?_
    refine W.eq (g2 := F0 m 114 ls [.ref (pq2 3)]) rfl ?_
    refine va_callv (va_runVN (As := []) (rest := []) ⟨hx, hb, hml, hown, hg⟩ (c_X0_turnRound l A D cI cL cQ (xw cI cQ a (upd (upd (upd (upd pl 0 v_34) 2 v_35) 1 v_38) 1 v_39) pq2 nq2 (va_up (va_up (va_up nm2 0 (fun j => nm2 0 j * gl_sign j)) 1 (fun j => (va_up nm2 0 (fun j => nm2 0 j * gl_sign j)) 1 j * gl_sign j)) 2 (fun j => (va_up (va_up nm2 0 (fun j => nm2 0 j * gl_sign j)) 1 (fun j => (va_up nm2 0 (fun j => nm2 0 j * gl_sign j)) 1 j * gl_sign j)) 2 j * gl_sign j)) ab lg 3 kn ++ fr) 11 12 (pq2 3) (nq2 3) ((va_up (va_up (va_up nm2 0 (fun j => nm2 0 j * gl_sign j)) 1 (fun j => (va_up nm2 0 (fun j => nm2 0 j * gl_sign j)) 1 j * gl_sign j)) 2 (fun j => (va_up (va_up nm2 0 (fun j => nm2 0 j * gl_sign j)) 1 (fun j => (va_up nm2 0 (fun j => nm2 0 j * gl_sign j)) 1 j * gl_sign j)) 2 j * gl_sign j)) 3) rfl rfl) ⟨va_cnB 0 hg (gw_C co_X0_turnRound) rfl rfl rfl (hG.1 _ mn_X2_77) (hg _ ini_X0) (by decide +kernel) ⟨Nat.le_of_ble_eq_true rfl, Nat.le_of_ble_eq_true rfl⟩, hg _ im_X0_turnRound, hg _ se_X0_turnRound⟩ ⟨wd_B.blind, va_recv hK hP (ci := 0) (q0 := 11) rfl rfl, (fun U hU hW => ⟨rfl, wd_B.at hG hK hP hD hS hA hU hW⟩)⟩ rfl rfl hl.1 rfl (lv_room (Nat.le_of_ble_eq_true rfl)) dX2_mirror_114 ⟨Nat.le_of_ble_eq_true rfl, Nat.le_of_ble_eq_true rfl⟩) hS (fun q _ h => h) (fun q h => h) (fun u t H1 locs ht hvm hr_51 hB hz1 hk1 hS => ?_)
    obtain ⟨hK, hP, hD⟩ := hB.back ht hvm
    generalize H1 = H at hP hS ⊢
    have hP : va_P D vwCl (xw cI cQ a (upd (upd (upd (upd pl 0 v_34) 2 v_35) 1 v_38) 1 v_39) pq2 nq2 (va_up (va_up (va_up (va_up nm2 0 (fun j => nm2 0 j * gl_sign j)) 1 (fun j => (va_up nm2 0 (fun j => nm2 0 j * gl_sign j)) 1 j * gl_sign j)) 2 (fun j => (va_up (va_up nm2 0 (fun j => nm2 0 j * gl_sign j)) 1 (fun j => (va_up nm2 0 (fun j => nm2 0 j * gl_sign j)) 1 j * gl_sign j)) 2 j * gl_sign j)) 3 (fun j => (va_up (va_up (va_up nm2 0 (fun j => nm2 0 j * gl_sign j)) 1 (fun j => (va_up nm2 0 (fun j => nm2 0 j * gl_sign j)) 1 j * gl_sign j)) 2 (fun j => (va_up (va_up nm2 0 (fun j => nm2 0 j * gl_sign j)) 1 (fun j => (va_up nm2 0 (fun j => nm2 0 j * gl_sign j)) 1 j * gl_sign j)) 2 j * gl_sign j)) 3 j * gl_sign j)) ab lg 3 kn ++ fr) H := hP
    have hD : va_D A (xw cI cQ a (upd (upd (upd (upd pl 0 v_34) 2 v_35) 1 v_38) 1 v_39) pq2 nq2 (va_up (va_up (va_up (va_up nm2 0 (fun j => nm2 0 j * gl_sign j)) 1 (fun j => (va_up nm2 0 (fun j => nm2 0 j * gl_sign j)) 1 j * gl_sign j)) 2 (fun j => (va_up (va_up nm2 0 (fun j => nm2 0 j * gl_sign j)) 1 (fun j => (va_up nm2 0 (fun j => nm2 0 j * gl_sign j)) 1 j * gl_sign j)) 2 j * gl_sign j)) 3 (fun j => (va_up (va_up (va_up nm2 0 (fun j => nm2 0 j * gl_sign j)) 1 (fun j => (va_up nm2 0 (fun j => nm2 0 j * gl_sign j)) 1 j * gl_sign j)) 2 (fun j => (va_up (va_up nm2 0 (fun j => nm2 0 j * gl_sign j)) 1 (fun j => (va_up nm2 0 (fun j => nm2 0 j * gl_sign j)) 1 j * gl_sign j)) 2 j * gl_sign j)) 3 j * gl_sign j)) ab lg 3 kn ++ fr) := hD
    refine lv_iinc (v := 4) (lv' := [(1, .int 4), (2, .int 1), (3, .ref (pq 1)), (0, .ref (a 0))]) hx hb dX2_mirror_117 hl (k := 0) rfl (by decide) (by decide) rfl (fun ls hl => ?_)
    refine lv_goto (tgt := 100) hx hb dX2_mirror_120 (by decide) ?_
    refine lv_iload_n hx hb dX2_mirror_100 rfl (lv_at hl 0 rfl) ?_
    refine lv_aload_n hx hb dX2_mirror_101 rfl (lv_at hl 3 rfl) ?_
    refine va_get (D := D) (ci := 2) (v := .int 3) (C := RX2) (T := TX2) (N := 5) hx hb hg inX2 hown hK hP 0 rfl rfl 3 (by decide) (hg _ fl_X2_26) (fun _ h9 => h9) rfl dX2_mirror_102 ?_
    refine lv_icmp_gt (tgt := 123) hx hb dX2_mirror_105 (by decide) (fun _ => ?_) (fun c_52 => absurd c_52 (by decide))
    exact W.vret hx hb hr (fun t ht hW => ⟨⟨((upd (upd (upd (upd pl 0 v_34) 2 v_35) 1 v_38) 1 v_39), pq2, nq2, (va_up (va_up (va_up (va_up nm2 0 (fun j => nm2 0 j * gl_sign j)) 1 (fun j => (va_up nm2 0 (fun j => nm2 0 j * gl_sign j)) 1 j * gl_sign j)) 2 (fun j => (va_up (va_up nm2 0 (fun j => nm2 0 j * gl_sign j)) 1 (fun j => (va_up nm2 0 (fun j => nm2 0 j * gl_sign j)) 1 j * gl_sign j)) 2 j * gl_sign j)) 3 (fun j => (va_up (va_up (va_up nm2 0 (fun j => nm2 0 j * gl_sign j)) 1 (fun j => (va_up nm2 0 (fun j => nm2 0 j * gl_sign j)) 1 j * gl_sign j)) 2 (fun j => (va_up (va_up nm2 0 (fun j => nm2 0 j * gl_sign j)) 1 (fun j => (va_up nm2 0 (fun j => nm2 0 j * gl_sign j)) 1 j * gl_sign j)) 2 j * gl_sign j)) 3 j * gl_sign j))), rfl, ⟨fun j hj => by rcases (show j = 0 ∨ j = 1 ∨ j = 2 by omega) with rfl | rfl | rfl <;> simp [upd, ev_33, ev_34, ev_35, ev_37, ev_38, ev_39], fun i hi j => by rcases (show i = 0 ∨ i = 1 ∨ i = 2 ∨ i = 3 by omega) with rfl | rfl | rfl | rfl <;> simp [va_up, hnm2, mi_s]⟩, wd_E.at hK hP hD ht hW⟩, hS.F ht⟩) hS.2.2 dX2_mirror_123
