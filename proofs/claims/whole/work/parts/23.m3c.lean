theorem nab {x : Int64} (h : x.toInt ≠ -2^63) : 0 ≤ (if 0 ≤ x then x else -x).toInt ∧ (if 0 ≤ x then x else -x).toInt.natAbs = x.toInt.natAbs := by
  by_cases c : 0 ≤ x
  · rw [if_pos c]
    rw [Int64.le_iff_toInt_le] at c
    exact ⟨c, rfl⟩
  · rw [if_neg c, ma_neg h]
    rw [Int64.le_iff_toInt_le] at c
    have h0 : (0 : Int64).toInt = 0 := rfl
    rw [h0] at c
    exact ⟨by omega, by omega⟩
theorem ge_st {x y : Int64} (hx : 0 ≤ x.toInt) (hy : y.toInt ≠ 0) : 0 ≤ (x - x / y * y).toInt ∧ (x - x / y * y).toInt.natAbs < y.toInt.natAbs ∧ Nat.gcd y.toInt.natAbs (x - x / y * y).toInt.natAbs = Nat.gcd x.toInt.natAbs y.toInt.natAbs := by
  rw [ma_rem hy, Int.natAbs_tmod]
  refine ⟨Int.tmod_nonneg _ hx, Nat.mod_lt _ (by omega), ?_⟩
  rw [Nat.gcd_comm x.toInt.natAbs, Nat.gcd_rec y.toInt.natAbs x.toInt.natAbs, Nat.gcd_comm]
set_option maxHeartbeats 4000000 in
set_option maxRecDepth 100000 in
theorem c_X3_more (l : Launch) (A : Nat → Prop) (D : va_G) (cI cL cQ : ClassId) (fr : va_W) (b : Nat → Nat) (cod : Int32) (cnt : Nat) (hc : cnt ≤ 3) (pl nm od op : Nat → Int32) (kb : Bool) (kU kD : Int64) (kl : Nat → Int32) (up dn : Int64) (lg : Nat → Int32) (x9 y9 : Int64) (hP9 : (up * y9 + x9 * dn).toInt ≠ -2^63) (hQ9 : (dn * y9).toInt ≠ -2^63) (hQ0 : (dn * y9).toInt ≠ 0) : Met l yX3_more wsX3_more { frames := 0, cells := 0, slots := 0, locals := 0 } (va_Pc [.ref (b 0), .long x9, .long y9] (wd_B D (ty3 cI cL cQ) A (mw cI b cod (nI cnt) pl nm od op (zi kb) kU kD kl up dn lg ++ fr))) (va_Qv (fun (u : Int64 × Int64) => ∃ g : Int64, 0 < g.toInt ∧ g.toInt.natAbs = Nat.gcd (up * y9 + x9 * dn).toInt.natAbs (dn * y9).toInt.natAbs ∧ u.1 = (if (dn * y9) < 0 then -((up * y9 + x9 * dn) / g) else (up * y9 + x9 * dn) / g) ∧ u.2 = (if (dn * y9) < 0 then -((dn * y9) / g) else (dn * y9) / g)) (fun u t => wd_E D (ty3 cI cL cQ) A (mw cI b cod (nI cnt) pl nm od op (zi kb) kU kD kl u.1 u.2 lg ++ fr) t) A) 0 0 A := by
  refine Met.ofW (cc := cX3_more) (maxL := 15) (ret := none) (by decide) rfl ?_
  intro p e s m args below meth c s₁ B hml hv
  obtain ⟨rfl, hG, hK, hP, hD, hA⟩ := hv
  have hx := B.exec
  have hb := B.bytes
  have hr := B.returns
  have hts := atoms_spec (ws := wsX3_more) B.pre
  have hg : ∀ w ∈ gw, w.before ([.ref (b 0), .long x9, .long y9] : List Value).toArray s = true := fun w h => hts w (List.mem_cons_of_mem _ h)
  have hown : s.vm.findClass RX3 = some m.cls := findClass_of_methodNamed B.named
  have hlocks := B.notSynchronized
  have hS : va_S A s.heap s.heap [] := va_S.rf
  have hl := lv_entry ([.ref (b 0), .long x9, .long y9]) (n := 15) (Nat.le_of_ble_eq_true rfl)
  rw [lg_entry_eq]
  generalize (lg_sl ([.ref (b 0), .long x9, .long y9]) ++ List.replicate (15 - (lg_sl ([.ref (b 0), .long x9, .long y9])).length) Slot.unset).toArray = ls at hl ⊢
  have hl : lv_has ls 15 [(0, .ref (b 0)), (1, .long x9), (3, .long y9)] := hl
  refine lv_aload_n hx hb dX3_more_0 rfl (lv_at hl 0 rfl) ?_
  refine va_get (D := D) (ci := 3) (v := .long up) (C := RX3) (T := TX3) (N := 13) hx hb hg inX3 hown hK hP 0 rfl rfl 10 (by decide) (hg _ fl_X3_47) (fun _ h9 => h9) rfl dX3_more_1 ?_
  refine lv_lload_n hx hb dX3_more_4 rfl (lv_at hl 2 rfl) ?_
  refine lv_lmul hx hb dX3_more_5 ?_
  refine lv_lload_n hx hb dX3_more_6 rfl (lv_at hl 1 rfl) ?_
  refine lv_aload_n hx hb dX3_more_7 rfl (lv_at hl 0 rfl) ?_
  refine va_get (D := D) (ci := 3) (v := .long dn) (C := RX3) (T := TX3) (N := 13) hx hb hg inX3 hown hK hP 0 rfl rfl 11 (by decide) (hg _ fl_X3_51) (fun _ h9 => h9) rfl dX3_more_8 ?_
  refine lv_lmul hx hb dX3_more_11 ?_
  refine lv_ladd hx hb dX3_more_12 ?_
  refine lv_topl (fun v_1 ev_1 => ?_)
  refine lv_lstore (lv' := [(5, .long v_1), (0, .ref (b 0)), (1, .long x9), (3, .long y9)]) hx hb dX3_more_13 hl (by decide) rfl (fun ls hl => ?_)
  refine lv_aload_n hx hb dX3_more_15 rfl (lv_at hl 1 rfl) ?_
  refine va_get (D := D) (ci := 3) (v := .long dn) (C := RX3) (T := TX3) (N := 13) hx hb hg inX3 hown hK hP 0 rfl rfl 11 (by decide) (hg _ fl_X3_51) (fun _ h9 => h9) rfl dX3_more_16 ?_
  refine lv_lload_n hx hb dX3_more_19 rfl (lv_at hl 3 rfl) ?_
  refine lv_lmul hx hb dX3_more_20 ?_
  refine lv_topl (fun v_2 ev_2 => ?_)
  refine lv_lstore (lv' := [(7, .long v_2), (5, .long v_1), (0, .ref (b 0)), (1, .long x9), (3, .long y9)]) hx hb dX3_more_21 hl (by decide) rfl (fun ls hl => ?_)
  rw [← ev_1] at hP9
  rw [← ev_2] at hQ9 hQ0
  have hM : ∀ (x y : Int64), 0 ≤ x.toInt → 0 ≤ y.toInt → Nat.gcd x.toInt.natAbs y.toInt.natAbs = Nat.gcd v_1.toInt.natAbs v_2.toInt.natAbs → ∀ (ls : Array Slot), lv_has ls 15 [(9, .long x), (11, .long y), (5, .long v_1), (7, .long v_2), (0, .ref (b 0)), (1, .long x9), (3, .long y9)] → W p l e (headSpec wsX3_more { frames := 0, cells := 0, slots := 0, locals := 0 }).room s m ([.ref (b 0), .long x9, .long y9] : List Value).toArray below meth c s.heap [] 0 0 (MQ below (va_Qv (fun (u : Int64 × Int64) => ∃ g : Int64, 0 < g.toInt ∧ g.toInt.natAbs = Nat.gcd (up * y9 + x9 * dn).toInt.natAbs (dn * y9).toInt.natAbs ∧ u.1 = (if (dn * y9) < 0 then -((up * y9 + x9 * dn) / g) else (up * y9 + x9 * dn) / g) ∧ u.2 = (if (dn * y9) < 0 then -((dn * y9) / g) else (dn * y9) / g)) (fun u t => wd_E D (ty3 cI cL cQ) A (mw cI b cod (nI cnt) pl nm od op (zi kb) kU kD kl u.1 u.2 lg ++ fr) t) A) ([.ref (b 0), .long x9, .long y9] : List Value).toArray s 0 0 A) (F0 m 57 ls []) := by
    intro x y hx0 hy0 hgc ls hl
    have L57 : ∀ (n9 : Nat) (x : Int64) (y : Int64), (0 ≤ x.toInt) → (0 ≤ y.toInt) → (Nat.gcd x.toInt.natAbs y.toInt.natAbs = Nat.gcd v_1.toInt.natAbs v_2.toInt.natAbs) → (y.toInt.natAbs < n9) → ∀ (ls : Array Slot), lv_has ls 15 [(9, .long x), (11, .long y), (5, .long v_1), (7, .long v_2), (0, .ref (b 0)), (1, .long x9), (3, .long y9)] → W p l e (headSpec wsX3_more { frames := 0, cells := 0, slots := 0, locals := 0 }).room s m ([.ref (b 0), .long x9, .long y9] : List Value).toArray below meth c s.heap [] 0 0 (MQ below (va_Qv (fun (u : Int64 × Int64) => ∃ g : Int64, 0 < g.toInt ∧ g.toInt.natAbs = Nat.gcd (up * y9 + x9 * dn).toInt.natAbs (dn * y9).toInt.natAbs ∧ u.1 = (if (dn * y9) < 0 then -((up * y9 + x9 * dn) / g) else (up * y9 + x9 * dn) / g) ∧ u.2 = (if (dn * y9) < 0 then -((dn * y9) / g) else (dn * y9) / g)) (fun u t => wd_E D (ty3 cI cL cQ) A (mw cI b cod (nI cnt) pl nm od op (zi kb) kU kD kl u.1 u.2 lg ++ fr) t) A) ([.ref (b 0), .long x9, .long y9] : List Value).toArray s 0 0 A) (F0 m 57 ls []) := by
      intro n57
      induction n57 with
      | zero => intro x y hx0 hy0 hgc h9; exact absurd h9 (by omega)
      | succ n57 ih57 =>
        intro x y hx0 hy0 hgc h9 ls hl
        refine lv_lload hx hb dX3_more_57 (lv_at hl 1 rfl) ?_
        refine lv_lconst (v := 0) hx hb dX3_more_59 (by decide) ?_
        refine W.lcmp hx hb dX3_more_60 ?_
        refine lv_if_eq (tgt := 82) hx hb dX3_more_61 (by decide) (fun c_3 => ?_) (fun c_3 => ?_)
        · replace c_3 := lc_eq.mp c_3
          have hy2 : y.toInt = 0 := by rw [c_3]; rfl
          have hgx : x.toInt.natAbs = Nat.gcd v_1.toInt.natAbs v_2.toInt.natAbs := by rw [← hgc, hy2]; simp
          have hgp : 0 < x.toInt := by have := Nat.gcd_pos_of_pos_right v_1.toInt.natAbs (n := v_2.toInt.natAbs) (by omega); omega
          have hxn : ¬ x = 0 := fun h => by rw [h] at hgp; exact absurd hgp (by decide)
          refine lv_aload_n hx hb dX3_more_82 rfl (lv_at hl 4 rfl) ?_
          refine lv_lload hx hb dX3_more_83 (lv_at hl 3 rfl) ?_
          refine lv_lconst (v := 0) hx hb dX3_more_85 (by decide) ?_
          refine W.lcmp hx hb dX3_more_86 ?_
          refine lv_if_ge (tgt := 99) hx hb dX3_more_87 (by decide) (fun c_4 => ?_) (fun c_4 => ?_)
          · replace c_4 := lc_ge.mp c_4
            refine lv_lload hx hb dX3_more_99 (lv_at hl 2 rfl) ?_
            refine lv_lload hx hb dX3_more_101 (lv_at hl 0 rfl) ?_
            refine lv_ldiv hx hb dX3_more_103 hxn ?_
            refine lv_topl (fun v_5 ev_5 => ?_)
            refine va_put (D := D) (ci := 3) (v := .long v_5) (ty := .long) (C := RX3) (T := TX3) (N := 13) hx hb hg inX3 tyX3 tyX3_ok nmX3 hown hK hP hD hS 0 rfl rfl 10 (by decide) (hg _ fl_X3_47) (fun _ h9 => h9) rfl (by decide +kernel) rfl rfl (Nat.le_of_ble_eq_true rfl) dX3_more_104 (fun H locs hP hD hS => ?_)
            have hP : va_P D vwCl (mw cI b cod (nI cnt) pl nm od op (zi kb) kU kD kl v_5 dn lg ++ fr) H := hP
            have hD : va_D A (mw cI b cod (nI cnt) pl nm od op (zi kb) kU kD kl v_5 dn lg ++ fr) := hD
            refine lv_aload_n hx hb dX3_more_107 rfl (lv_at hl 4 rfl) ?_
            refine lv_lload hx hb dX3_more_108 (lv_at hl 3 rfl) ?_
            refine lv_lconst (v := 0) hx hb dX3_more_110 (by decide) ?_
            refine W.lcmp hx hb dX3_more_111 ?_
            refine lv_if_ge (tgt := 124) hx hb dX3_more_112 (by decide) (fun _ => ?_) (fun h => absurd (lc_ge.mpr c_4) h)
            refine lv_lload hx hb dX3_more_124 (lv_at hl 3 rfl) ?_
            refine lv_lload hx hb dX3_more_126 (lv_at hl 0 rfl) ?_
            refine lv_ldiv hx hb dX3_more_128 hxn ?_
            refine lv_topl (fun v_6 ev_6 => ?_)
            refine va_put (D := D) (ci := 3) (v := .long v_6) (ty := .long) (C := RX3) (T := TX3) (N := 13) hx hb hg inX3 tyX3 tyX3_ok nmX3 hown hK hP hD hS 0 rfl rfl 11 (by decide) (hg _ fl_X3_51) (fun _ h9 => h9) rfl (by decide +kernel) rfl rfl (Nat.le_of_ble_eq_true rfl) dX3_more_129 (fun H locs hP hD hS => ?_)
            have hP : va_P D vwCl (mw cI b cod (nI cnt) pl nm od op (zi kb) kU kD kl v_5 v_6 lg ++ fr) H := hP
            have hD : va_D A (mw cI b cod (nI cnt) pl nm od op (zi kb) kU kD kl v_5 v_6 lg ++ fr) := hD
            exact W.vret hx hb hr (fun t ht hW => ⟨⟨(v_5, v_6), rfl, ⟨x, hgp, by rw [hgx, ev_1, ev_2], by rw [← ev_1, ← ev_2, if_neg (Int64.not_lt.mpr c_4)]; exact ev_5, by rw [← ev_2, if_neg (Int64.not_lt.mpr c_4)]; exact ev_6⟩, wd_E.at hK hP hD ht hW⟩, hS.F ht⟩) hS.2.2 dX3_more_132
          · replace c_4 := fun h => c_4 (lc_ge.mpr h)
            refine lv_lload hx hb dX3_more_90 (lv_at hl 2 rfl) ?_
            refine lv_lload hx hb dX3_more_92 (lv_at hl 0 rfl) ?_
            refine lv_ldiv hx hb dX3_more_94 hxn ?_
            refine lv_lneg hx hb dX3_more_95 ?_
            refine lv_goto (tgt := 104) hx hb dX3_more_96 (by decide) ?_
            refine lv_topl (fun v_7 ev_7 => ?_)
            refine va_put (D := D) (ci := 3) (v := .long v_7) (ty := .long) (C := RX3) (T := TX3) (N := 13) hx hb hg inX3 tyX3 tyX3_ok nmX3 hown hK hP hD hS 0 rfl rfl 10 (by decide) (hg _ fl_X3_47) (fun _ h9 => h9) rfl (by decide +kernel) rfl rfl (Nat.le_of_ble_eq_true rfl) dX3_more_104 (fun H locs hP hD hS => ?_)
            have hP : va_P D vwCl (mw cI b cod (nI cnt) pl nm od op (zi kb) kU kD kl v_7 dn lg ++ fr) H := hP
            have hD : va_D A (mw cI b cod (nI cnt) pl nm od op (zi kb) kU kD kl v_7 dn lg ++ fr) := hD
            refine lv_aload_n hx hb dX3_more_107 rfl (lv_at hl 4 rfl) ?_
            refine lv_lload hx hb dX3_more_108 (lv_at hl 3 rfl) ?_
            refine lv_lconst (v := 0) hx hb dX3_more_110 (by decide) ?_
            refine W.lcmp hx hb dX3_more_111 ?_
            refine lv_if_ge (tgt := 124) hx hb dX3_more_112 (by decide) (fun h => absurd (lc_ge.mp h) c_4) (fun _ => ?_)
            refine lv_lload hx hb dX3_more_115 (lv_at hl 3 rfl) ?_
            refine lv_lload hx hb dX3_more_117 (lv_at hl 0 rfl) ?_
            refine lv_ldiv hx hb dX3_more_119 hxn ?_
            refine lv_lneg hx hb dX3_more_120 ?_
            refine lv_goto (tgt := 129) hx hb dX3_more_121 (by decide) ?_
            refine lv_topl (fun v_8 ev_8 => ?_)
            refine va_put (D := D) (ci := 3) (v := .long v_8) (ty := .long) (C := RX3) (T := TX3) (N := 13) hx hb hg inX3 tyX3 tyX3_ok nmX3 hown hK hP hD hS 0 rfl rfl 11 (by decide) (hg _ fl_X3_51) (fun _ h9 => h9) rfl (by decide +kernel) rfl rfl (Nat.le_of_ble_eq_true rfl) dX3_more_129 (fun H locs hP hD hS => ?_)
            have hP : va_P D vwCl (mw cI b cod (nI cnt) pl nm od op (zi kb) kU kD kl v_7 v_8 lg ++ fr) H := hP
            have hD : va_D A (mw cI b cod (nI cnt) pl nm od op (zi kb) kU kD kl v_7 v_8 lg ++ fr) := hD
            exact W.vret hx hb hr (fun t ht hW => ⟨⟨(v_7, v_8), rfl, ⟨x, hgp, by rw [hgx, ev_1, ev_2], by rw [← ev_1, ← ev_2, if_pos (Int64.not_le.mp c_4)]; exact ev_7, by rw [← ev_2, if_pos (Int64.not_le.mp c_4)]; exact ev_8⟩, wd_E.at hK hP hD ht hW⟩, hS.F ht⟩) hS.2.2 dX3_more_132
        · replace c_3 := fun h => c_3 (lc_eq.mpr h)
          refine lv_lload hx hb dX3_more_64 (lv_at hl 0 rfl) ?_
          refine lv_lload hx hb dX3_more_66 (lv_at hl 1 rfl) ?_
          refine lv_lrem hx hb dX3_more_68 (by assumption) ?_
          refine lv_topl (fun v_9 ev_9 => ?_)
          refine lv_lstore (lv' := [(13, .long v_9), (9, .long x), (11, .long y), (5, .long v_1), (7, .long v_2), (0, .ref (b 0)), (1, .long x9), (3, .long y9)]) hx hb dX3_more_69 hl (by decide) rfl (fun ls hl => ?_)
          refine lv_lload hx hb dX3_more_71 (lv_at hl 2 rfl) ?_
          refine lv_lstore (lv' := [(9, .long y), (13, .long v_9), (11, .long y), (5, .long v_1), (7, .long v_2), (0, .ref (b 0)), (1, .long x9), (3, .long y9)]) hx hb dX3_more_73 hl (by decide) rfl (fun ls hl => ?_)
          refine lv_lload hx hb dX3_more_75 (lv_at hl 1 rfl) ?_
          refine lv_lstore (lv' := [(11, .long v_9), (9, .long y), (13, .long v_9), (5, .long v_1), (7, .long v_2), (0, .ref (b 0)), (1, .long x9), (3, .long y9)]) hx hb dX3_more_77 hl (by decide) rfl (fun ls hl => ?_)
          refine lv_goto (tgt := 57) hx hb dX3_more_79 (by decide) ?_
          have hy9 : y.toInt ≠ 0 := fun h => c_3 (Int64.toInt_inj.mp (by rw [h]; rfl))
          have hst := ge_st hx0 hy9
          rw [← ev_9] at hst
          have hst2 := hst.2.1
          exact ih57 y v_9 (hy0) (hst.1) (by rw [hst.2.2]; exact hgc)  (by omega) ls (lv_sub hl [1, 0, 3, 4, 5, 6, 7] rfl)
    exact L57 (y.toInt.natAbs + 1) x y (hx0) (hy0) (hgc)  (Nat.lt_succ_self _) ls (lv_sub hl [0, 1, 2, 3, 4, 5, 6] rfl)
  refine lv_lload hx hb dX3_more_23 (lv_at hl 1 rfl) ?_
  refine lv_lconst (v := 0) hx hb dX3_more_25 (by decide) ?_
  refine W.lcmp hx hb dX3_more_26 ?_
  refine lv_if_ge (tgt := 36) hx hb dX3_more_27 (by decide) (fun c_10 => ?_) (fun c_10 => ?_)
  · replace c_10 := lc_ge.mp c_10
    refine lv_lload hx hb dX3_more_36 (lv_at hl 1 rfl) ?_
    refine lv_lstore (lv' := [(9, .long v_1), (7, .long v_2), (5, .long v_1), (0, .ref (b 0)), (1, .long x9), (3, .long y9)]) hx hb dX3_more_38 hl (by decide) rfl (fun ls hl => ?_)
    refine lv_lload hx hb dX3_more_40 (lv_at hl 1 rfl) ?_
    refine lv_lconst (v := 0) hx hb dX3_more_42 (by decide) ?_
    refine W.lcmp hx hb dX3_more_43 ?_
    refine lv_if_ge (tgt := 53) hx hb dX3_more_44 (by decide) (fun c_11 => ?_) (fun c_11 => ?_)
    · replace c_11 := lc_ge.mp c_11
      refine lv_lload hx hb dX3_more_53 (lv_at hl 1 rfl) ?_
      refine lv_lstore (lv' := [(11, .long v_2), (9, .long v_1), (7, .long v_2), (5, .long v_1), (0, .ref (b 0)), (1, .long x9), (3, .long y9)]) hx hb dX3_more_55 hl (by decide) rfl (fun ls hl => ?_)
      have hA1 := nab (x := v_1) hP9
      have hA2 := nab (x := v_2) hQ9
      rw [if_pos c_10] at hA1
      rw [if_pos c_11] at hA2
      exact hM v_1 v_2 hA1.1 hA2.1 (by rw [hA1.2, hA2.2]) ls (lv_sub hl [1, 0, 3, 2, 4, 5, 6] rfl)
    · replace c_11 := fun h => c_11 (lc_ge.mpr h)
      refine lv_lload hx hb dX3_more_47 (lv_at hl 1 rfl) ?_
      refine lv_lneg hx hb dX3_more_49 ?_
      refine lv_goto (tgt := 55) hx hb dX3_more_50 (by decide) ?_
      refine lv_topl (fun v_12 ev_12 => ?_)
      refine lv_lstore (lv' := [(11, .long v_12), (9, .long v_1), (7, .long v_2), (5, .long v_1), (0, .ref (b 0)), (1, .long x9), (3, .long y9)]) hx hb dX3_more_55 hl (by decide) rfl (fun ls hl => ?_)
      have hA1 := nab (x := v_1) hP9
      have hA2 := nab (x := v_2) hQ9
      rw [if_pos c_10] at hA1
      rw [if_neg c_11] at hA2
      rw [← ev_12] at hA2
      exact hM v_1 v_12 hA1.1 hA2.1 (by rw [hA1.2, hA2.2]) ls (lv_sub hl [1, 0, 3, 2, 4, 5, 6] rfl)
  · replace c_10 := fun h => c_10 (lc_ge.mpr h)
    refine lv_lload hx hb dX3_more_30 (lv_at hl 1 rfl) ?_
    refine lv_lneg hx hb dX3_more_32 ?_
    refine lv_goto (tgt := 38) hx hb dX3_more_33 (by decide) ?_
    refine lv_topl (fun v_13 ev_13 => ?_)
    refine lv_lstore (lv' := [(9, .long v_13), (7, .long v_2), (5, .long v_1), (0, .ref (b 0)), (1, .long x9), (3, .long y9)]) hx hb dX3_more_38 hl (by decide) rfl (fun ls hl => ?_)
    refine lv_lload hx hb dX3_more_40 (lv_at hl 1 rfl) ?_
    refine lv_lconst (v := 0) hx hb dX3_more_42 (by decide) ?_
    refine W.lcmp hx hb dX3_more_43 ?_
    refine lv_if_ge (tgt := 53) hx hb dX3_more_44 (by decide) (fun c_14 => ?_) (fun c_14 => ?_)
    · replace c_14 := lc_ge.mp c_14
      refine lv_lload hx hb dX3_more_53 (lv_at hl 1 rfl) ?_
      refine lv_lstore (lv' := [(11, .long v_2), (9, .long v_13), (7, .long v_2), (5, .long v_1), (0, .ref (b 0)), (1, .long x9), (3, .long y9)]) hx hb dX3_more_55 hl (by decide) rfl (fun ls hl => ?_)
      have hA1 := nab (x := v_1) hP9
      have hA2 := nab (x := v_2) hQ9
      rw [if_neg c_10] at hA1
      rw [if_pos c_14] at hA2
      rw [← ev_13] at hA1
      exact hM v_13 v_2 hA1.1 hA2.1 (by rw [hA1.2, hA2.2]) ls (lv_sub hl [1, 0, 3, 2, 4, 5, 6] rfl)
    · replace c_14 := fun h => c_14 (lc_ge.mpr h)
      refine lv_lload hx hb dX3_more_47 (lv_at hl 1 rfl) ?_
      refine lv_lneg hx hb dX3_more_49 ?_
      refine lv_goto (tgt := 55) hx hb dX3_more_50 (by decide) ?_
      refine lv_topl (fun v_15 ev_15 => ?_)
      refine lv_lstore (lv' := [(11, .long v_15), (9, .long v_13), (7, .long v_2), (5, .long v_1), (0, .ref (b 0)), (1, .long x9), (3, .long y9)]) hx hb dX3_more_55 hl (by decide) rfl (fun ls hl => ?_)
      have hA1 := nab (x := v_1) hP9
      have hA2 := nab (x := v_2) hQ9
      rw [if_neg c_10] at hA1
      rw [if_neg c_14] at hA2
      rw [← ev_13] at hA1
      rw [← ev_15] at hA2
      exact hM v_13 v_15 hA1.1 hA2.1 (by rw [hA1.2, hA2.2]) ls (lv_sub hl [1, 0, 3, 2, 4, 5, 6] rfl)
def m_abs (v : Int32) : Int32 := if 0 ≤ v then v else -v
theorem tm_0 (x t : Int32) : x = x + t * nI 0 := by rw [show nI 0 = 0 from rfl, Int32.mul_zero, Int32.add_zero]
theorem tm_1 (x t : Int32) : x + t = x + t * nI 1 := by rw [show nI 1 = 1 from rfl, Int32.mul_one]
theorem tm_2 (x t : Int32) : x + t + t = x + t * nI 2 := by rw [show nI 2 = 1 + 1 from rfl, Int32.mul_add, Int32.mul_one, Int32.add_assoc]
theorem tm_3 (x t : Int32) : x + t + t + t = x + t * nI 3 := by rw [show nI 3 = 1 + 1 + 1 from rfl, Int32.mul_add, Int32.mul_add, Int32.mul_one, Int32.add_assoc, Int32.add_assoc, ← Int32.add_assoc t]
set_option maxHeartbeats 4000000 in
set_option maxRecDepth 100000 in
theorem c_X3_putLogs (l : Launch) (A : Nat → Prop) (D : va_G) (cI cL cQ : ClassId) (fr : va_W) (b : Nat → Nat) (cod : Int32) (cnt : Nat) (hc : cnt ≤ 3) (pl nm od op : Nat → Int32) (kb : Bool) (kU kD : Int64) (kl : Nat → Int32) (up dn : Int64) (lg : Nat → Int32) (n t9 : Int32) (v : Nat) (hv1 : 1 ≤ v) (hv2 : v ≤ 12) (hv : m_abs n = nI v) : Met l yX3_putLogs wsX3_putLogs { frames := 1, cells := 0, slots := 0, locals := 21 } (va_Pc [.ref (b 0), .int n, .int t9] (wd_B D (ty3 cI cL cQ) A (mw cI b cod (nI cnt) pl nm od op (zi kb) kU kD kl up dn lg ++ fr))) (va_Qv (fun (u : Unit) => True) (fun u t => wd_E D (ty3 cI cL cQ) A (mw cI b cod (nI cnt) pl nm od op (zi kb) kU kD kl up dn (fun j => lg j + t9 * nI (x_ti (gl_prime j) 3 (m_abs n))) ++ fr) t) A) 0 0 A := by
  refine Met.ofW (cc := cX3_putLogs) (maxL := 5) (ret := none) (by decide) rfl ?_
  intro p e s m args below meth c s₁ B hml hv
  obtain ⟨rfl, hG, hK, hP, hD, hA⟩ := hv
  have hx := B.exec
  have hb := B.bytes
  have hr := B.returns
  have hts := atoms_spec (ws := wsX3_putLogs) B.pre
  have hg : ∀ w ∈ gw, w.before ([.ref (b 0), .int n, .int t9] : List Value).toArray s = true := fun w h => hts w (List.mem_cons_of_mem _ h)
  have hown : s.vm.findClass RX3 = some m.cls := findClass_of_methodNamed B.named
  have hlocks := B.notSynchronized
  have hS : va_S A s.heap s.heap [] := va_S.rf
  have hl := lv_entry ([.ref (b 0), .int n, .int t9]) (n := 5) (Nat.le_of_ble_eq_true rfl)
  rw [lg_entry_eq]
  generalize (lg_sl ([.ref (b 0), .int n, .int t9]) ++ List.replicate (5 - (lg_sl ([.ref (b 0), .int n, .int t9])).length) Slot.unset).toArray = ls at hl ⊢
  have hl : lv_has ls 5 [(0, .ref (b 0)), (1, .int n), (2, .int t9)] := hl
  have hcut : W p l e (headSpec wsX3_putLogs { frames := 1, cells := 0, slots := 0, locals := 21 }).room s m ([.ref (b 0), .int n, .int t9] : List Value).toArray below meth c s.heap [] 0 0 (MQ below (va_Qv (fun (u : Unit) => True) (fun u t => wd_E D (ty3 cI cL cQ) A (mw cI b cod (nI cnt) pl nm od op (zi kb) kU kD kl up dn (fun j => lg j + t9 * nI (x_ti (gl_prime j) 3 (m_abs n))) ++ fr) t) A) ([.ref (b 0), .int n, .int t9] : List Value).toArray s 0 0 A) (F0 m 10 ls [.int (m_abs n)]) := by
    rw [hv]
    rcases (show v = 1 ∨ v = 2 ∨ v = 3 ∨ v = 4 ∨ v = 5 ∨ v = 6 ∨ v = 7 ∨ v = 8 ∨ v = 9 ∨ v = 10 ∨ v = 11 ∨ v = 12 by omega) with rfl | rfl | rfl | rfl | rfl | rfl | rfl | rfl | rfl | rfl | rfl | rfl
    · refine W.eq (g2 := F0 m 10 ls [.int 1]) rfl ?_
      refine lv_istore_n (lv' := [(3, .int 1), (0, .ref (b 0)), (1, .int n), (2, .int t9)]) hx hb dX3_putLogs_10 rfl hl (by decide) rfl (fun ls hl => ?_)
      refine lv_iconst (v := 0) hx hb dX3_putLogs_11 (by decide) ?_
      refine lv_istore (lv' := [(4, .int 0), (3, .int 1), (0, .ref (b 0)), (1, .int n), (2, .int t9)]) hx hb dX3_putLogs_12 hl (by decide) rfl (fun ls hl => ?_)
      refine lv_iload hx hb dX3_putLogs_14 (lv_at hl 0 rfl) ?_
      refine lv_iconst (v := 5) hx hb dX3_putLogs_16 (by decide) ?_
      refine lv_icmp_ge (tgt := 58) hx hb dX3_putLogs_17 (by decide) (fun c_1 => absurd c_1 (by decide)) (fun _ => ?_)
      refine lv_iload_n hx hb dX3_putLogs_20 rfl (lv_at hl 1 rfl) ?_
      refine lv_iload hx hb dX3_putLogs_21 (lv_at hl 0 rfl) ?_
      refine vp_callSi (W.runS (As := [.int 0]) (rest := [.int 1]) ⟨hx, hb, hml, hown, hg⟩ (c_X3_primeOf l 0) (va_cwS 1 hg (gw_S ml_X3_54 sm_X3_primeOf ini_X3 co_X3_primeOf) rfl rfl rfl (by decide +kernel) ⟨Nat.le_of_ble_eq_true rfl, Nat.le_of_ble_eq_true rfl⟩) ⟨tt_blind, (fun U hU hW => ⟨rfl, trivial⟩)⟩ rfl rfl hl.1 rfl (lv_room (Nat.le_of_ble_eq_true rfl)) dX3_putLogs_23 ⟨Nat.le_of_ble_eq_true rfl, Nat.le_of_ble_eq_true rfl⟩) (fun r_2 hr_2 => ?_)
      subst hr_2
      rw [show (if (0 : Int32) = 0 then 2 else if (0 : Int32) = 1 then 3 else if (0 : Int32) = 2 then 5 else if (0 : Int32) = 3 then 7 else 11) = (2 : Int32) from by decide]
      refine lv_irem hx hb dX3_putLogs_26 (by decide) ?_
      rw [show (1 : Int32) - 1 / 2 * 2 = 1 from by decide]
      refine lv_if_ne (tgt := 52) hx hb dX3_putLogs_27 (by decide) (fun _ => ?_) (fun c_3 => absurd c_3 (by decide))
      refine lv_iinc (v := 1) (lv' := [(4, .int 1), (3, .int 1), (0, .ref (b 0)), (1, .int n), (2, .int t9)]) hx hb dX3_putLogs_52 hl (k := 0) rfl (by decide) (by decide) rfl (fun ls hl => ?_)
      refine lv_goto (tgt := 14) hx hb dX3_putLogs_55 (by decide) ?_
      refine lv_iload hx hb dX3_putLogs_14 (lv_at hl 0 rfl) ?_
      refine lv_iconst (v := 5) hx hb dX3_putLogs_16 (by decide) ?_
      refine lv_icmp_ge (tgt := 58) hx hb dX3_putLogs_17 (by decide) (fun c_4 => absurd c_4 (by decide)) (fun _ => ?_)
      refine lv_iload_n hx hb dX3_putLogs_20 rfl (lv_at hl 1 rfl) ?_
      refine lv_iload hx hb dX3_putLogs_21 (lv_at hl 0 rfl) ?_
      refine vp_callSi (W.runS (As := [.int 1]) (rest := [.int 1]) ⟨hx, hb, hml, hown, hg⟩ (c_X3_primeOf l 1) (va_cwS 1 hg (gw_S ml_X3_54 sm_X3_primeOf ini_X3 co_X3_primeOf) rfl rfl rfl (by decide +kernel) ⟨Nat.le_of_ble_eq_true rfl, Nat.le_of_ble_eq_true rfl⟩) ⟨tt_blind, (fun U hU hW => ⟨rfl, trivial⟩)⟩ rfl rfl hl.1 rfl (lv_room (Nat.le_of_ble_eq_true rfl)) dX3_putLogs_23 ⟨Nat.le_of_ble_eq_true rfl, Nat.le_of_ble_eq_true rfl⟩) (fun r_5 hr_5 => ?_)
      subst hr_5
      rw [show (if (1 : Int32) = 0 then 2 else if (1 : Int32) = 1 then 3 else if (1 : Int32) = 2 then 5 else if (1 : Int32) = 3 then 7 else 11) = (3 : Int32) from by decide]
      refine lv_irem hx hb dX3_putLogs_26 (by decide) ?_
      rw [show (1 : Int32) - 1 / 3 * 3 = 1 from by decide]
      refine lv_if_ne (tgt := 52) hx hb dX3_putLogs_27 (by decide) (fun _ => ?_) (fun c_6 => absurd c_6 (by decide))
      refine lv_iinc (v := 2) (lv' := [(4, .int 2), (3, .int 1), (0, .ref (b 0)), (1, .int n), (2, .int t9)]) hx hb dX3_putLogs_52 hl (k := 0) rfl (by decide) (by decide) rfl (fun ls hl => ?_)
      refine lv_goto (tgt := 14) hx hb dX3_putLogs_55 (by decide) ?_
      refine lv_iload hx hb dX3_putLogs_14 (lv_at hl 0 rfl) ?_
      refine lv_iconst (v := 5) hx hb dX3_putLogs_16 (by decide) ?_
      refine lv_icmp_ge (tgt := 58) hx hb dX3_putLogs_17 (by decide) (fun c_7 => absurd c_7 (by decide)) (fun _ => ?_)
      refine lv_iload_n hx hb dX3_putLogs_20 rfl (lv_at hl 1 rfl) ?_
      refine lv_iload hx hb dX3_putLogs_21 (lv_at hl 0 rfl) ?_
      refine vp_callSi (W.runS (As := [.int 2]) (rest := [.int 1]) ⟨hx, hb, hml, hown, hg⟩ (c_X3_primeOf l 2) (va_cwS 1 hg (gw_S ml_X3_54 sm_X3_primeOf ini_X3 co_X3_primeOf) rfl rfl rfl (by decide +kernel) ⟨Nat.le_of_ble_eq_true rfl, Nat.le_of_ble_eq_true rfl⟩) ⟨tt_blind, (fun U hU hW => ⟨rfl, trivial⟩)⟩ rfl rfl hl.1 rfl (lv_room (Nat.le_of_ble_eq_true rfl)) dX3_putLogs_23 ⟨Nat.le_of_ble_eq_true rfl, Nat.le_of_ble_eq_true rfl⟩) (fun r_8 hr_8 => ?_)
      subst hr_8
      rw [show (if (2 : Int32) = 0 then 2 else if (2 : Int32) = 1 then 3 else if (2 : Int32) = 2 then 5 else if (2 : Int32) = 3 then 7 else 11) = (5 : Int32) from by decide]
      refine lv_irem hx hb dX3_putLogs_26 (by decide) ?_
      rw [show (1 : Int32) - 1 / 5 * 5 = 1 from by decide]
      refine lv_if_ne (tgt := 52) hx hb dX3_putLogs_27 (by decide) (fun _ => ?_) (fun c_9 => absurd c_9 (by decide))
      refine lv_iinc (v := 3) (lv' := [(4, .int 3), (3, .int 1), (0, .ref (b 0)), (1, .int n), (2, .int t9)]) hx hb dX3_putLogs_52 hl (k := 0) rfl (by decide) (by decide) rfl (fun ls hl => ?_)
      refine lv_goto (tgt := 14) hx hb dX3_putLogs_55 (by decide) ?_
      refine lv_iload hx hb dX3_putLogs_14 (lv_at hl 0 rfl) ?_
      refine lv_iconst (v := 5) hx hb dX3_putLogs_16 (by decide) ?_
      refine lv_icmp_ge (tgt := 58) hx hb dX3_putLogs_17 (by decide) (fun c_10 => absurd c_10 (by decide)) (fun _ => ?_)
      refine lv_iload_n hx hb dX3_putLogs_20 rfl (lv_at hl 1 rfl) ?_
      refine lv_iload hx hb dX3_putLogs_21 (lv_at hl 0 rfl) ?_
      refine vp_callSi (W.runS (As := [.int 3]) (rest := [.int 1]) ⟨hx, hb, hml, hown, hg⟩ (c_X3_primeOf l 3) (va_cwS 1 hg (gw_S ml_X3_54 sm_X3_primeOf ini_X3 co_X3_primeOf) rfl rfl rfl (by decide +kernel) ⟨Nat.le_of_ble_eq_true rfl, Nat.le_of_ble_eq_true rfl⟩) ⟨tt_blind, (fun U hU hW => ⟨rfl, trivial⟩)⟩ rfl rfl hl.1 rfl (lv_room (Nat.le_of_ble_eq_true rfl)) dX3_putLogs_23 ⟨Nat.le_of_ble_eq_true rfl, Nat.le_of_ble_eq_true rfl⟩) (fun r_11 hr_11 => ?_)
      subst hr_11
      rw [show (if (3 : Int32) = 0 then 2 else if (3 : Int32) = 1 then 3 else if (3 : Int32) = 2 then 5 else if (3 : Int32) = 3 then 7 else 11) = (7 : Int32) from by decide]
      refine lv_irem hx hb dX3_putLogs_26 (by decide) ?_
      rw [show (1 : Int32) - 1 / 7 * 7 = 1 from by decide]
      refine lv_if_ne (tgt := 52) hx hb dX3_putLogs_27 (by decide) (fun _ => ?_) (fun c_12 => absurd c_12 (by decide))
      refine lv_iinc (v := 4) (lv' := [(4, .int 4), (3, .int 1), (0, .ref (b 0)), (1, .int n), (2, .int t9)]) hx hb dX3_putLogs_52 hl (k := 0) rfl (by decide) (by decide) rfl (fun ls hl => ?_)
      refine lv_goto (tgt := 14) hx hb dX3_putLogs_55 (by decide) ?_
      refine lv_iload hx hb dX3_putLogs_14 (lv_at hl 0 rfl) ?_
      refine lv_iconst (v := 5) hx hb dX3_putLogs_16 (by decide) ?_
      refine lv_icmp_ge (tgt := 58) hx hb dX3_putLogs_17 (by decide) (fun c_13 => absurd c_13 (by decide)) (fun _ => ?_)
      refine lv_iload_n hx hb dX3_putLogs_20 rfl (lv_at hl 1 rfl) ?_
      refine lv_iload hx hb dX3_putLogs_21 (lv_at hl 0 rfl) ?_
      refine vp_callSi (W.runS (As := [.int 4]) (rest := [.int 1]) ⟨hx, hb, hml, hown, hg⟩ (c_X3_primeOf l 4) (va_cwS 1 hg (gw_S ml_X3_54 sm_X3_primeOf ini_X3 co_X3_primeOf) rfl rfl rfl (by decide +kernel) ⟨Nat.le_of_ble_eq_true rfl, Nat.le_of_ble_eq_true rfl⟩) ⟨tt_blind, (fun U hU hW => ⟨rfl, trivial⟩)⟩ rfl rfl hl.1 rfl (lv_room (Nat.le_of_ble_eq_true rfl)) dX3_putLogs_23 ⟨Nat.le_of_ble_eq_true rfl, Nat.le_of_ble_eq_true rfl⟩) (fun r_14 hr_14 => ?_)
      subst hr_14
      rw [show (if (4 : Int32) = 0 then 2 else if (4 : Int32) = 1 then 3 else if (4 : Int32) = 2 then 5 else if (4 : Int32) = 3 then 7 else 11) = (11 : Int32) from by decide]
      refine lv_irem hx hb dX3_putLogs_26 (by decide) ?_
      rw [show (1 : Int32) - 1 / 11 * 11 = 1 from by decide]
      refine lv_if_ne (tgt := 52) hx hb dX3_putLogs_27 (by decide) (fun _ => ?_) (fun c_15 => absurd c_15 (by decide))
      refine lv_iinc (v := 5) (lv' := [(4, .int 5), (3, .int 1), (0, .ref (b 0)), (1, .int n), (2, .int t9)]) hx hb dX3_putLogs_52 hl (k := 0) rfl (by decide) (by decide) rfl (fun ls hl => ?_)
      refine lv_goto (tgt := 14) hx hb dX3_putLogs_55 (by decide) ?_
      refine lv_iload hx hb dX3_putLogs_14 (lv_at hl 0 rfl) ?_
      refine lv_iconst (v := 5) hx hb dX3_putLogs_16 (by decide) ?_
      refine lv_icmp_ge (tgt := 58) hx hb dX3_putLogs_17 (by decide) (fun _ => ?_) (fun c_16 => absurd c_16 (by decide))
      have hfj : ∀ j, j < 5 → lg j = lg j + t9 * nI (x_ti (gl_prime j) 3 (nI 1)) := by
        intro j hj
        rcases (show j = 0 ∨ j = 1 ∨ j = 2 ∨ j = 3 ∨ j = 4 by omega) with rfl | rfl | rfl | rfl | rfl
        · rw [show x_ti (gl_prime 0) 3 (nI 1) = 0 from by decide, ← tm_0]; try simp [upd]
        · rw [show x_ti (gl_prime 1) 3 (nI 1) = 0 from by decide, ← tm_0]; try simp [upd]
        · rw [show x_ti (gl_prime 2) 3 (nI 1) = 0 from by decide, ← tm_0]; try simp [upd]
        · rw [show x_ti (gl_prime 3) 3 (nI 1) = 0 from by decide, ← tm_0]; try simp [upd]
        · rw [show x_ti (gl_prime 4) 3 (nI 1) = 0 from by decide, ← tm_0]; try simp [upd]
      have hP := hP.cg (p := 6) (g := fun j => lg j + t9 * nI (x_ti (gl_prime j) 3 (nI 1))) rfl hfj
      have hD := hD.set (p := 6) (e := .inl (cI, 5, .inl (fun j => lg j + t9 * nI (x_ti (gl_prime j) 3 (nI 1))))) rfl
      exact W.vret hx hb hr (fun t ht hW => ⟨⟨(), rfl, trivial, wd_E.at hK hP hD ht hW⟩, hS.F ht⟩) hS.2.2 dX3_putLogs_58
    · refine W.eq (g2 := F0 m 10 ls [.int 2]) rfl ?_
      refine lv_istore_n (lv' := [(3, .int 2), (0, .ref (b 0)), (1, .int n), (2, .int t9)]) hx hb dX3_putLogs_10 rfl hl (by decide) rfl (fun ls hl => ?_)
      refine lv_iconst (v := 0) hx hb dX3_putLogs_11 (by decide) ?_
      refine lv_istore (lv' := [(4, .int 0), (3, .int 2), (0, .ref (b 0)), (1, .int n), (2, .int t9)]) hx hb dX3_putLogs_12 hl (by decide) rfl (fun ls hl => ?_)
      refine lv_iload hx hb dX3_putLogs_14 (lv_at hl 0 rfl) ?_
      refine lv_iconst (v := 5) hx hb dX3_putLogs_16 (by decide) ?_
      refine lv_icmp_ge (tgt := 58) hx hb dX3_putLogs_17 (by decide) (fun c_17 => absurd c_17 (by decide)) (fun _ => ?_)
      refine lv_iload_n hx hb dX3_putLogs_20 rfl (lv_at hl 1 rfl) ?_
      refine lv_iload hx hb dX3_putLogs_21 (lv_at hl 0 rfl) ?_
      refine vp_callSi (W.runS (As := [.int 0]) (rest := [.int 2]) ⟨hx, hb, hml, hown, hg⟩ (c_X3_primeOf l 0) (va_cwS 1 hg (gw_S ml_X3_54 sm_X3_primeOf ini_X3 co_X3_primeOf) rfl rfl rfl (by decide +kernel) ⟨Nat.le_of_ble_eq_true rfl, Nat.le_of_ble_eq_true rfl⟩) ⟨tt_blind, (fun U hU hW => ⟨rfl, trivial⟩)⟩ rfl rfl hl.1 rfl (lv_room (Nat.le_of_ble_eq_true rfl)) dX3_putLogs_23 ⟨Nat.le_of_ble_eq_true rfl, Nat.le_of_ble_eq_true rfl⟩) (fun r_18 hr_18 => ?_)
      subst hr_18
      rw [show (if (0 : Int32) = 0 then 2 else if (0 : Int32) = 1 then 3 else if (0 : Int32) = 2 then 5 else if (0 : Int32) = 3 then 7 else 11) = (2 : Int32) from by decide]
      refine lv_irem hx hb dX3_putLogs_26 (by decide) ?_
      rw [show (2 : Int32) - 2 / 2 * 2 = 0 from by decide]
      refine lv_if_ne (tgt := 52) hx hb dX3_putLogs_27 (by decide) (fun c_19 => absurd c_19 (by decide)) (fun _ => ?_)
      refine lv_iload_n hx hb dX3_putLogs_30 rfl (lv_at hl 1 rfl) ?_
      refine lv_iload hx hb dX3_putLogs_31 (lv_at hl 0 rfl) ?_
      refine vp_callSi (W.runS (As := [.int 0]) (rest := [.int 2]) ⟨hx, hb, hml, hown, hg⟩ (c_X3_primeOf l 0) (va_cwS 1 hg (gw_S ml_X3_54 sm_X3_primeOf ini_X3 co_X3_primeOf) rfl rfl rfl (by decide +kernel) ⟨Nat.le_of_ble_eq_true rfl, Nat.le_of_ble_eq_true rfl⟩) ⟨tt_blind, (fun U hU hW => ⟨rfl, trivial⟩)⟩ rfl rfl hl.1 rfl (lv_room (Nat.le_of_ble_eq_true rfl)) dX3_putLogs_33 ⟨Nat.le_of_ble_eq_true rfl, Nat.le_of_ble_eq_true rfl⟩) (fun r_20 hr_20 => ?_)
      subst hr_20
      rw [show (if (0 : Int32) = 0 then 2 else if (0 : Int32) = 1 then 3 else if (0 : Int32) = 2 then 5 else if (0 : Int32) = 3 then 7 else 11) = (2 : Int32) from by decide]
      refine lv_idiv hx hb dX3_putLogs_36 (by decide) ?_
      rw [show (2 : Int32) / 2 = 1 from by decide]
      refine lv_istore_n (lv' := [(3, .int 1), (4, .int 0), (0, .ref (b 0)), (1, .int n), (2, .int t9)]) hx hb dX3_putLogs_37 rfl hl (by decide) rfl (fun ls hl => ?_)
      refine lv_aload_n hx hb dX3_putLogs_38 rfl (lv_at hl 2 rfl) ?_
      refine va_get (D := D) (ci := 3) (v := .ref (b 6)) (C := RX3) (T := TX3) (N := 13) hx hb hg inX3 hown hK hP 0 rfl rfl 12 (by decide) (hg _ fl_X3_25) (fun _ h9 => h9) rfl dX3_putLogs_39 ?_
      refine lv_iload hx hb dX3_putLogs_42 (lv_at hl 1 rfl) ?_
      refine lv_dup2_11 hx hb dX3_putLogs_44 rfl rfl ?_
      refine va_iald (D := D) (n := 5) (f := lg) hx hb hK hP 6 0 rfl rfl (vp_in_nI (show 0 < 5 by decide) (by decide)) dX3_putLogs_45 ?_
      rw [show (0 : Int32).toNatClampNeg = 0 from by decide]
      refine lv_iload_n hx hb dX3_putLogs_46 rfl (lv_at hl 4 rfl) ?_
      refine lv_iadd hx hb dX3_putLogs_47 ?_
      refine lv_topi (fun v_21 ev_21 => ?_)
      refine va_iast (D := D) (n := 5) (f := lg) (x := v_21) hx hb hK hP hD hS 6 0 rfl rfl (vp_in_nI (show 0 < 5 by decide) (by decide)) dX3_putLogs_48 (fun H locs hP hD hS => ?_)
      rw [show (0 : Int32).toNatClampNeg = 0 from by decide] at hP hD
      have hP : va_P D vwCl (mw cI b cod (nI cnt) pl nm od op (zi kb) kU kD kl up dn (upd lg 0 v_21) ++ fr) H := hP
      have hD : va_D A (mw cI b cod (nI cnt) pl nm od op (zi kb) kU kD kl up dn (upd lg 0 v_21) ++ fr) := hD
      refine lv_goto (tgt := 20) hx hb dX3_putLogs_49 (by decide) ?_
      refine lv_iload_n hx hb dX3_putLogs_20 rfl (lv_at hl 0 rfl) ?_
      refine lv_iload hx hb dX3_putLogs_21 (lv_at hl 1 rfl) ?_
      refine vp_callSi (W.runS (As := [.int 0]) (rest := [.int 1]) ⟨hx, hb, hml, hown, hg⟩ (c_X3_primeOf l 0) (va_cwS 1 hg (gw_S ml_X3_54 sm_X3_primeOf ini_X3 co_X3_primeOf) rfl rfl rfl (by decide +kernel) ⟨Nat.le_of_ble_eq_true rfl, Nat.le_of_ble_eq_true rfl⟩) ⟨tt_blind, (fun U hU hW => ⟨rfl, trivial⟩)⟩ rfl rfl hl.1 rfl (lv_room (Nat.le_of_ble_eq_true rfl)) dX3_putLogs_23 ⟨Nat.le_of_ble_eq_true rfl, Nat.le_of_ble_eq_true rfl⟩) (fun r_22 hr_22 => ?_)
      subst hr_22
      rw [show (if (0 : Int32) = 0 then 2 else if (0 : Int32) = 1 then 3 else if (0 : Int32) = 2 then 5 else if (0 : Int32) = 3 then 7 else 11) = (2 : Int32) from by decide]
      refine lv_irem hx hb dX3_putLogs_26 (by decide) ?_
      rw [show (1 : Int32) - 1 / 2 * 2 = 1 from by decide]
      refine lv_if_ne (tgt := 52) hx hb dX3_putLogs_27 (by decide) (fun _ => ?_) (fun c_23 => absurd c_23 (by decide))
      refine lv_iinc (v := 1) (lv' := [(4, .int 1), (3, .int 1), (0, .ref (b 0)), (1, .int n), (2, .int t9)]) hx hb dX3_putLogs_52 hl (k := 1) rfl (by decide) (by decide) rfl (fun ls hl => ?_)
      refine lv_goto (tgt := 14) hx hb dX3_putLogs_55 (by decide) ?_
      refine lv_iload hx hb dX3_putLogs_14 (lv_at hl 0 rfl) ?_
      refine lv_iconst (v := 5) hx hb dX3_putLogs_16 (by decide) ?_
      refine lv_icmp_ge (tgt := 58) hx hb dX3_putLogs_17 (by decide) (fun c_24 => absurd c_24 (by decide)) (fun _ => ?_)
      refine lv_iload_n hx hb dX3_putLogs_20 rfl (lv_at hl 1 rfl) ?_
      refine lv_iload hx hb dX3_putLogs_21 (lv_at hl 0 rfl) ?_
      refine vp_callSi (W.runS (As := [.int 1]) (rest := [.int 1]) ⟨hx, hb, hml, hown, hg⟩ (c_X3_primeOf l 1) (va_cwS 1 hg (gw_S ml_X3_54 sm_X3_primeOf ini_X3 co_X3_primeOf) rfl rfl rfl (by decide +kernel) ⟨Nat.le_of_ble_eq_true rfl, Nat.le_of_ble_eq_true rfl⟩) ⟨tt_blind, (fun U hU hW => ⟨rfl, trivial⟩)⟩ rfl rfl hl.1 rfl (lv_room (Nat.le_of_ble_eq_true rfl)) dX3_putLogs_23 ⟨Nat.le_of_ble_eq_true rfl, Nat.le_of_ble_eq_true rfl⟩) (fun r_25 hr_25 => ?_)
      subst hr_25
      rw [show (if (1 : Int32) = 0 then 2 else if (1 : Int32) = 1 then 3 else if (1 : Int32) = 2 then 5 else if (1 : Int32) = 3 then 7 else 11) = (3 : Int32) from by decide]
      refine lv_irem hx hb dX3_putLogs_26 (by decide) ?_
      rw [show (1 : Int32) - 1 / 3 * 3 = 1 from by decide]
      refine lv_if_ne (tgt := 52) hx hb dX3_putLogs_27 (by decide) (fun _ => ?_) (fun c_26 => absurd c_26 (by decide))
      refine lv_iinc (v := 2) (lv' := [(4, .int 2), (3, .int 1), (0, .ref (b 0)), (1, .int n), (2, .int t9)]) hx hb dX3_putLogs_52 hl (k := 0) rfl (by decide) (by decide) rfl (fun ls hl => ?_)
      refine lv_goto (tgt := 14) hx hb dX3_putLogs_55 (by decide) ?_
      refine lv_iload hx hb dX3_putLogs_14 (lv_at hl 0 rfl) ?_
      refine lv_iconst (v := 5) hx hb dX3_putLogs_16 (by decide) ?_
      refine lv_icmp_ge (tgt := 58) hx hb dX3_putLogs_17 (by decide) (fun c_27 => absurd c_27 (by decide)) (fun _ => ?_)
      refine lv_iload_n hx hb dX3_putLogs_20 rfl (lv_at hl 1 rfl) ?_
      refine lv_iload hx hb dX3_putLogs_21 (lv_at hl 0 rfl) ?_
      refine vp_callSi (W.runS (As := [.int 2]) (rest := [.int 1]) ⟨hx, hb, hml, hown, hg⟩ (c_X3_primeOf l 2) (va_cwS 1 hg (gw_S ml_X3_54 sm_X3_primeOf ini_X3 co_X3_primeOf) rfl rfl rfl (by decide +kernel) ⟨Nat.le_of_ble_eq_true rfl, Nat.le_of_ble_eq_true rfl⟩) ⟨tt_blind, (fun U hU hW => ⟨rfl, trivial⟩)⟩ rfl rfl hl.1 rfl (lv_room (Nat.le_of_ble_eq_true rfl)) dX3_putLogs_23 ⟨Nat.le_of_ble_eq_true rfl, Nat.le_of_ble_eq_true rfl⟩) (fun r_28 hr_28 => ?_)
      subst hr_28
      rw [show (if (2 : Int32) = 0 then 2 else if (2 : Int32) = 1 then 3 else if (2 : Int32) = 2 then 5 else if (2 : Int32) = 3 then 7 else 11) = (5 : Int32) from by decide]
      refine lv_irem hx hb dX3_putLogs_26 (by decide) ?_
      rw [show (1 : Int32) - 1 / 5 * 5 = 1 from by decide]
      refine lv_if_ne (tgt := 52) hx hb dX3_putLogs_27 (by decide) (fun _ => ?_) (fun c_29 => absurd c_29 (by decide))
      refine lv_iinc (v := 3) (lv' := [(4, .int 3), (3, .int 1), (0, .ref (b 0)), (1, .int n), (2, .int t9)]) hx hb dX3_putLogs_52 hl (k := 0) rfl (by decide) (by decide) rfl (fun ls hl => ?_)
      refine lv_goto (tgt := 14) hx hb dX3_putLogs_55 (by decide) ?_
      refine lv_iload hx hb dX3_putLogs_14 (lv_at hl 0 rfl) ?_
      refine lv_iconst (v := 5) hx hb dX3_putLogs_16 (by decide) ?_
      refine lv_icmp_ge (tgt := 58) hx hb dX3_putLogs_17 (by decide) (fun c_30 => absurd c_30 (by decide)) (fun _ => ?_)
      refine lv_iload_n hx hb dX3_putLogs_20 rfl (lv_at hl 1 rfl) ?_
      refine lv_iload hx hb dX3_putLogs_21 (lv_at hl 0 rfl) ?_
      refine vp_callSi (W.runS (As := [.int 3]) (rest := [.int 1]) ⟨hx, hb, hml, hown, hg⟩ (c_X3_primeOf l 3) (va_cwS 1 hg (gw_S ml_X3_54 sm_X3_primeOf ini_X3 co_X3_primeOf) rfl rfl rfl (by decide +kernel) ⟨Nat.le_of_ble_eq_true rfl, Nat.le_of_ble_eq_true rfl⟩) ⟨tt_blind, (fun U hU hW => ⟨rfl, trivial⟩)⟩ rfl rfl hl.1 rfl (lv_room (Nat.le_of_ble_eq_true rfl)) dX3_putLogs_23 ⟨Nat.le_of_ble_eq_true rfl, Nat.le_of_ble_eq_true rfl⟩) (fun r_31 hr_31 => ?_)
      subst hr_31
      rw [show (if (3 : Int32) = 0 then 2 else if (3 : Int32) = 1 then 3 else if (3 : Int32) = 2 then 5 else if (3 : Int32) = 3 then 7 else 11) = (7 : Int32) from by decide]
      refine lv_irem hx hb dX3_putLogs_26 (by decide) ?_
      rw [show (1 : Int32) - 1 / 7 * 7 = 1 from by decide]
      refine lv_if_ne (tgt := 52) hx hb dX3_putLogs_27 (by decide) (fun _ => ?_) (fun c_32 => absurd c_32 (by decide))
      refine lv_iinc (v := 4) (lv' := [(4, .int 4), (3, .int 1), (0, .ref (b 0)), (1, .int n), (2, .int t9)]) hx hb dX3_putLogs_52 hl (k := 0) rfl (by decide) (by decide) rfl (fun ls hl => ?_)
      refine lv_goto (tgt := 14) hx hb dX3_putLogs_55 (by decide) ?_
      refine lv_iload hx hb dX3_putLogs_14 (lv_at hl 0 rfl) ?_
      refine lv_iconst (v := 5) hx hb dX3_putLogs_16 (by decide) ?_
      refine lv_icmp_ge (tgt := 58) hx hb dX3_putLogs_17 (by decide) (fun c_33 => absurd c_33 (by decide)) (fun _ => ?_)
      refine lv_iload_n hx hb dX3_putLogs_20 rfl (lv_at hl 1 rfl) ?_
      refine lv_iload hx hb dX3_putLogs_21 (lv_at hl 0 rfl) ?_
      refine vp_callSi (W.runS (As := [.int 4]) (rest := [.int 1]) ⟨hx, hb, hml, hown, hg⟩ (c_X3_primeOf l 4) (va_cwS 1 hg (gw_S ml_X3_54 sm_X3_primeOf ini_X3 co_X3_primeOf) rfl rfl rfl (by decide +kernel) ⟨Nat.le_of_ble_eq_true rfl, Nat.le_of_ble_eq_true rfl⟩) ⟨tt_blind, (fun U hU hW => ⟨rfl, trivial⟩)⟩ rfl rfl hl.1 rfl (lv_room (Nat.le_of_ble_eq_true rfl)) dX3_putLogs_23 ⟨Nat.le_of_ble_eq_true rfl, Nat.le_of_ble_eq_true rfl⟩) (fun r_34 hr_34 => ?_)
      subst hr_34
      rw [show (if (4 : Int32) = 0 then 2 else if (4 : Int32) = 1 then 3 else if (4 : Int32) = 2 then 5 else if (4 : Int32) = 3 then 7 else 11) = (11 : Int32) from by decide]
      refine lv_irem hx hb dX3_putLogs_26 (by decide) ?_
      rw [show (1 : Int32) - 1 / 11 * 11 = 1 from by decide]
      refine lv_if_ne (tgt := 52) hx hb dX3_putLogs_27 (by decide) (fun _ => ?_) (fun c_35 => absurd c_35 (by decide))
      refine lv_iinc (v := 5) (lv' := [(4, .int 5), (3, .int 1), (0, .ref (b 0)), (1, .int n), (2, .int t9)]) hx hb dX3_putLogs_52 hl (k := 0) rfl (by decide) (by decide) rfl (fun ls hl => ?_)
      refine lv_goto (tgt := 14) hx hb dX3_putLogs_55 (by decide) ?_
      refine lv_iload hx hb dX3_putLogs_14 (lv_at hl 0 rfl) ?_
      refine lv_iconst (v := 5) hx hb dX3_putLogs_16 (by decide) ?_
      refine lv_icmp_ge (tgt := 58) hx hb dX3_putLogs_17 (by decide) (fun _ => ?_) (fun c_36 => absurd c_36 (by decide))
      have hfj : ∀ j, j < 5 → (upd lg 0 v_21) j = lg j + t9 * nI (x_ti (gl_prime j) 3 (nI 2)) := by
        intro j hj
        rcases (show j = 0 ∨ j = 1 ∨ j = 2 ∨ j = 3 ∨ j = 4 by omega) with rfl | rfl | rfl | rfl | rfl
        · rw [show x_ti (gl_prime 0) 3 (nI 2) = 1 from by decide, ← tm_1]; try simp [upd, ev_21]
        · rw [show x_ti (gl_prime 1) 3 (nI 2) = 0 from by decide, ← tm_0]; try simp [upd, ev_21]
        · rw [show x_ti (gl_prime 2) 3 (nI 2) = 0 from by decide, ← tm_0]; try simp [upd, ev_21]
        · rw [show x_ti (gl_prime 3) 3 (nI 2) = 0 from by decide, ← tm_0]; try simp [upd, ev_21]
        · rw [show x_ti (gl_prime 4) 3 (nI 2) = 0 from by decide, ← tm_0]; try simp [upd, ev_21]
      have hP := hP.cg (p := 6) (g := fun j => lg j + t9 * nI (x_ti (gl_prime j) 3 (nI 2))) rfl hfj
      have hD := hD.set (p := 6) (e := .inl (cI, 5, .inl (fun j => lg j + t9 * nI (x_ti (gl_prime j) 3 (nI 2))))) rfl
      exact W.vret hx hb hr (fun t ht hW => ⟨⟨(), rfl, trivial, wd_E.at hK hP hD ht hW⟩, hS.F ht⟩) hS.2.2 dX3_putLogs_58
    · refine W.eq (g2 := F0 m 10 ls [.int 3]) rfl ?_
      refine lv_istore_n (lv' := [(3, .int 3), (0, .ref (b 0)), (1, .int n), (2, .int t9)]) hx hb dX3_putLogs_10 rfl hl (by decide) rfl (fun ls hl => ?_)
      refine lv_iconst (v := 0) hx hb dX3_putLogs_11 (by decide) ?_
      refine lv_istore (lv' := [(4, .int 0), (3, .int 3), (0, .ref (b 0)), (1, .int n), (2, .int t9)]) hx hb dX3_putLogs_12 hl (by decide) rfl (fun ls hl => ?_)
      refine lv_iload hx hb dX3_putLogs_14 (lv_at hl 0 rfl) ?_
      refine lv_iconst (v := 5) hx hb dX3_putLogs_16 (by decide) ?_
      refine lv_icmp_ge (tgt := 58) hx hb dX3_putLogs_17 (by decide) (fun c_37 => absurd c_37 (by decide)) (fun _ => ?_)
      refine lv_iload_n hx hb dX3_putLogs_20 rfl (lv_at hl 1 rfl) ?_
      refine lv_iload hx hb dX3_putLogs_21 (lv_at hl 0 rfl) ?_
      refine vp_callSi (W.runS (As := [.int 0]) (rest := [.int 3]) ⟨hx, hb, hml, hown, hg⟩ (c_X3_primeOf l 0) (va_cwS 1 hg (gw_S ml_X3_54 sm_X3_primeOf ini_X3 co_X3_primeOf) rfl rfl rfl (by decide +kernel) ⟨Nat.le_of_ble_eq_true rfl, Nat.le_of_ble_eq_true rfl⟩) ⟨tt_blind, (fun U hU hW => ⟨rfl, trivial⟩)⟩ rfl rfl hl.1 rfl (lv_room (Nat.le_of_ble_eq_true rfl)) dX3_putLogs_23 ⟨Nat.le_of_ble_eq_true rfl, Nat.le_of_ble_eq_true rfl⟩) (fun r_38 hr_38 => ?_)
      subst hr_38
      rw [show (if (0 : Int32) = 0 then 2 else if (0 : Int32) = 1 then 3 else if (0 : Int32) = 2 then 5 else if (0 : Int32) = 3 then 7 else 11) = (2 : Int32) from by decide]
      refine lv_irem hx hb dX3_putLogs_26 (by decide) ?_
      rw [show (3 : Int32) - 3 / 2 * 2 = 1 from by decide]
      refine lv_if_ne (tgt := 52) hx hb dX3_putLogs_27 (by decide) (fun _ => ?_) (fun c_39 => absurd c_39 (by decide))
      refine lv_iinc (v := 1) (lv' := [(4, .int 1), (3, .int 3), (0, .ref (b 0)), (1, .int n), (2, .int t9)]) hx hb dX3_putLogs_52 hl (k := 0) rfl (by decide) (by decide) rfl (fun ls hl => ?_)
      refine lv_goto (tgt := 14) hx hb dX3_putLogs_55 (by decide) ?_
      refine lv_iload hx hb dX3_putLogs_14 (lv_at hl 0 rfl) ?_
      refine lv_iconst (v := 5) hx hb dX3_putLogs_16 (by decide) ?_
      refine lv_icmp_ge (tgt := 58) hx hb dX3_putLogs_17 (by decide) (fun c_40 => absurd c_40 (by decide)) (fun _ => ?_)
      refine lv_iload_n hx hb dX3_putLogs_20 rfl (lv_at hl 1 rfl) ?_
      refine lv_iload hx hb dX3_putLogs_21 (lv_at hl 0 rfl) ?_
      refine vp_callSi (W.runS (As := [.int 1]) (rest := [.int 3]) ⟨hx, hb, hml, hown, hg⟩ (c_X3_primeOf l 1) (va_cwS 1 hg (gw_S ml_X3_54 sm_X3_primeOf ini_X3 co_X3_primeOf) rfl rfl rfl (by decide +kernel) ⟨Nat.le_of_ble_eq_true rfl, Nat.le_of_ble_eq_true rfl⟩) ⟨tt_blind, (fun U hU hW => ⟨rfl, trivial⟩)⟩ rfl rfl hl.1 rfl (lv_room (Nat.le_of_ble_eq_true rfl)) dX3_putLogs_23 ⟨Nat.le_of_ble_eq_true rfl, Nat.le_of_ble_eq_true rfl⟩) (fun r_41 hr_41 => ?_)
      subst hr_41
      rw [show (if (1 : Int32) = 0 then 2 else if (1 : Int32) = 1 then 3 else if (1 : Int32) = 2 then 5 else if (1 : Int32) = 3 then 7 else 11) = (3 : Int32) from by decide]
      refine lv_irem hx hb dX3_putLogs_26 (by decide) ?_
      rw [show (3 : Int32) - 3 / 3 * 3 = 0 from by decide]
      refine lv_if_ne (tgt := 52) hx hb dX3_putLogs_27 (by decide) (fun c_42 => absurd c_42 (by decide)) (fun _ => ?_)
      refine lv_iload_n hx hb dX3_putLogs_30 rfl (lv_at hl 1 rfl) ?_
      refine lv_iload hx hb dX3_putLogs_31 (lv_at hl 0 rfl) ?_
      refine vp_callSi (W.runS (As := [.int 1]) (rest := [.int 3]) ⟨hx, hb, hml, hown, hg⟩ (c_X3_primeOf l 1) (va_cwS 1 hg (gw_S ml_X3_54 sm_X3_primeOf ini_X3 co_X3_primeOf) rfl rfl rfl (by decide +kernel) ⟨Nat.le_of_ble_eq_true rfl, Nat.le_of_ble_eq_true rfl⟩) ⟨tt_blind, (fun U hU hW => ⟨rfl, trivial⟩)⟩ rfl rfl hl.1 rfl (lv_room (Nat.le_of_ble_eq_true rfl)) dX3_putLogs_33 ⟨Nat.le_of_ble_eq_true rfl, Nat.le_of_ble_eq_true rfl⟩) (fun r_43 hr_43 => ?_)
      subst hr_43
      rw [show (if (1 : Int32) = 0 then 2 else if (1 : Int32) = 1 then 3 else if (1 : Int32) = 2 then 5 else if (1 : Int32) = 3 then 7 else 11) = (3 : Int32) from by decide]
      refine lv_idiv hx hb dX3_putLogs_36 (by decide) ?_
      rw [show (3 : Int32) / 3 = 1 from by decide]
      refine lv_istore_n (lv' := [(3, .int 1), (4, .int 1), (0, .ref (b 0)), (1, .int n), (2, .int t9)]) hx hb dX3_putLogs_37 rfl hl (by decide) rfl (fun ls hl => ?_)
      refine lv_aload_n hx hb dX3_putLogs_38 rfl (lv_at hl 2 rfl) ?_
      refine va_get (D := D) (ci := 3) (v := .ref (b 6)) (C := RX3) (T := TX3) (N := 13) hx hb hg inX3 hown hK hP 0 rfl rfl 12 (by decide) (hg _ fl_X3_25) (fun _ h9 => h9) rfl dX3_putLogs_39 ?_
      refine lv_iload hx hb dX3_putLogs_42 (lv_at hl 1 rfl) ?_
      refine lv_dup2_11 hx hb dX3_putLogs_44 rfl rfl ?_
      refine va_iald (D := D) (n := 5) (f := lg) hx hb hK hP 6 0 rfl rfl (vp_in_nI (show 1 < 5 by decide) (by decide)) dX3_putLogs_45 ?_
      rw [show (1 : Int32).toNatClampNeg = 1 from by decide]
      refine lv_iload_n hx hb dX3_putLogs_46 rfl (lv_at hl 4 rfl) ?_
      refine lv_iadd hx hb dX3_putLogs_47 ?_
      refine lv_topi (fun v_44 ev_44 => ?_)
      refine va_iast (D := D) (n := 5) (f := lg) (x := v_44) hx hb hK hP hD hS 6 0 rfl rfl (vp_in_nI (show 1 < 5 by decide) (by decide)) dX3_putLogs_48 (fun H locs hP hD hS => ?_)
      rw [show (1 : Int32).toNatClampNeg = 1 from by decide] at hP hD
      have hP : va_P D vwCl (mw cI b cod (nI cnt) pl nm od op (zi kb) kU kD kl up dn (upd lg 1 v_44) ++ fr) H := hP
      have hD : va_D A (mw cI b cod (nI cnt) pl nm od op (zi kb) kU kD kl up dn (upd lg 1 v_44) ++ fr) := hD
      refine lv_goto (tgt := 20) hx hb dX3_putLogs_49 (by decide) ?_
      refine lv_iload_n hx hb dX3_putLogs_20 rfl (lv_at hl 0 rfl) ?_
      refine lv_iload hx hb dX3_putLogs_21 (lv_at hl 1 rfl) ?_
      refine vp_callSi (W.runS (As := [.int 1]) (rest := [.int 1]) ⟨hx, hb, hml, hown, hg⟩ (c_X3_primeOf l 1) (va_cwS 1 hg (gw_S ml_X3_54 sm_X3_primeOf ini_X3 co_X3_primeOf) rfl rfl rfl (by decide +kernel) ⟨Nat.le_of_ble_eq_true rfl, Nat.le_of_ble_eq_true rfl⟩) ⟨tt_blind, (fun U hU hW => ⟨rfl, trivial⟩)⟩ rfl rfl hl.1 rfl (lv_room (Nat.le_of_ble_eq_true rfl)) dX3_putLogs_23 ⟨Nat.le_of_ble_eq_true rfl, Nat.le_of_ble_eq_true rfl⟩) (fun r_45 hr_45 => ?_)
      subst hr_45
      rw [show (if (1 : Int32) = 0 then 2 else if (1 : Int32) = 1 then 3 else if (1 : Int32) = 2 then 5 else if (1 : Int32) = 3 then 7 else 11) = (3 : Int32) from by decide]
      refine lv_irem hx hb dX3_putLogs_26 (by decide) ?_
      rw [show (1 : Int32) - 1 / 3 * 3 = 1 from by decide]
      refine lv_if_ne (tgt := 52) hx hb dX3_putLogs_27 (by decide) (fun _ => ?_) (fun c_46 => absurd c_46 (by decide))
      refine lv_iinc (v := 2) (lv' := [(4, .int 2), (3, .int 1), (0, .ref (b 0)), (1, .int n), (2, .int t9)]) hx hb dX3_putLogs_52 hl (k := 1) rfl (by decide) (by decide) rfl (fun ls hl => ?_)
      refine lv_goto (tgt := 14) hx hb dX3_putLogs_55 (by decide) ?_
      refine lv_iload hx hb dX3_putLogs_14 (lv_at hl 0 rfl) ?_
      refine lv_iconst (v := 5) hx hb dX3_putLogs_16 (by decide) ?_
      refine lv_icmp_ge (tgt := 58) hx hb dX3_putLogs_17 (by decide) (fun c_47 => absurd c_47 (by decide)) (fun _ => ?_)
      refine lv_iload_n hx hb dX3_putLogs_20 rfl (lv_at hl 1 rfl) ?_
      refine lv_iload hx hb dX3_putLogs_21 (lv_at hl 0 rfl) ?_
      refine vp_callSi (W.runS (As := [.int 2]) (rest := [.int 1]) ⟨hx, hb, hml, hown, hg⟩ (c_X3_primeOf l 2) (va_cwS 1 hg (gw_S ml_X3_54 sm_X3_primeOf ini_X3 co_X3_primeOf) rfl rfl rfl (by decide +kernel) ⟨Nat.le_of_ble_eq_true rfl, Nat.le_of_ble_eq_true rfl⟩) ⟨tt_blind, (fun U hU hW => ⟨rfl, trivial⟩)⟩ rfl rfl hl.1 rfl (lv_room (Nat.le_of_ble_eq_true rfl)) dX3_putLogs_23 ⟨Nat.le_of_ble_eq_true rfl, Nat.le_of_ble_eq_true rfl⟩) (fun r_48 hr_48 => ?_)
      subst hr_48
      rw [show (if (2 : Int32) = 0 then 2 else if (2 : Int32) = 1 then 3 else if (2 : Int32) = 2 then 5 else if (2 : Int32) = 3 then 7 else 11) = (5 : Int32) from by decide]
      refine lv_irem hx hb dX3_putLogs_26 (by decide) ?_
      rw [show (1 : Int32) - 1 / 5 * 5 = 1 from by decide]
      refine lv_if_ne (tgt := 52) hx hb dX3_putLogs_27 (by decide) (fun _ => ?_) (fun c_49 => absurd c_49 (by decide))
      refine lv_iinc (v := 3) (lv' := [(4, .int 3), (3, .int 1), (0, .ref (b 0)), (1, .int n), (2, .int t9)]) hx hb dX3_putLogs_52 hl (k := 0) rfl (by decide) (by decide) rfl (fun ls hl => ?_)
      refine lv_goto (tgt := 14) hx hb dX3_putLogs_55 (by decide) ?_
      refine lv_iload hx hb dX3_putLogs_14 (lv_at hl 0 rfl) ?_
      refine lv_iconst (v := 5) hx hb dX3_putLogs_16 (by decide) ?_
      refine lv_icmp_ge (tgt := 58) hx hb dX3_putLogs_17 (by decide) (fun c_50 => absurd c_50 (by decide)) (fun _ => ?_)
      refine lv_iload_n hx hb dX3_putLogs_20 rfl (lv_at hl 1 rfl) ?_
      refine lv_iload hx hb dX3_putLogs_21 (lv_at hl 0 rfl) ?_
      refine vp_callSi (W.runS (As := [.int 3]) (rest := [.int 1]) ⟨hx, hb, hml, hown, hg⟩ (c_X3_primeOf l 3) (va_cwS 1 hg (gw_S ml_X3_54 sm_X3_primeOf ini_X3 co_X3_primeOf) rfl rfl rfl (by decide +kernel) ⟨Nat.le_of_ble_eq_true rfl, Nat.le_of_ble_eq_true rfl⟩) ⟨tt_blind, (fun U hU hW => ⟨rfl, trivial⟩)⟩ rfl rfl hl.1 rfl (lv_room (Nat.le_of_ble_eq_true rfl)) dX3_putLogs_23 ⟨Nat.le_of_ble_eq_true rfl, Nat.le_of_ble_eq_true rfl⟩) (fun r_51 hr_51 => ?_)
      subst hr_51
      rw [show (if (3 : Int32) = 0 then 2 else if (3 : Int32) = 1 then 3 else if (3 : Int32) = 2 then 5 else if (3 : Int32) = 3 then 7 else 11) = (7 : Int32) from by decide]
      refine lv_irem hx hb dX3_putLogs_26 (by decide) ?_
      rw [show (1 : Int32) - 1 / 7 * 7 = 1 from by decide]
      refine lv_if_ne (tgt := 52) hx hb dX3_putLogs_27 (by decide) (fun _ => ?_) (fun c_52 => absurd c_52 (by decide))
      refine lv_iinc (v := 4) (lv' := [(4, .int 4), (3, .int 1), (0, .ref (b 0)), (1, .int n), (2, .int t9)]) hx hb dX3_putLogs_52 hl (k := 0) rfl (by decide) (by decide) rfl (fun ls hl => ?_)
      refine lv_goto (tgt := 14) hx hb dX3_putLogs_55 (by decide) ?_
      refine lv_iload hx hb dX3_putLogs_14 (lv_at hl 0 rfl) ?_
      refine lv_iconst (v := 5) hx hb dX3_putLogs_16 (by decide) ?_
      refine lv_icmp_ge (tgt := 58) hx hb dX3_putLogs_17 (by decide) (fun c_53 => absurd c_53 (by decide)) (fun _ => ?_)
      refine lv_iload_n hx hb dX3_putLogs_20 rfl (lv_at hl 1 rfl) ?_
      refine lv_iload hx hb dX3_putLogs_21 (lv_at hl 0 rfl) ?_
      refine vp_callSi (W.runS (As := [.int 4]) (rest := [.int 1]) ⟨hx, hb, hml, hown, hg⟩ (c_X3_primeOf l 4) (va_cwS 1 hg (gw_S ml_X3_54 sm_X3_primeOf ini_X3 co_X3_primeOf) rfl rfl rfl (by decide +kernel) ⟨Nat.le_of_ble_eq_true rfl, Nat.le_of_ble_eq_true rfl⟩) ⟨tt_blind, (fun U hU hW => ⟨rfl, trivial⟩)⟩ rfl rfl hl.1 rfl (lv_room (Nat.le_of_ble_eq_true rfl)) dX3_putLogs_23 ⟨Nat.le_of_ble_eq_true rfl, Nat.le_of_ble_eq_true rfl⟩) (fun r_54 hr_54 => ?_)
      subst hr_54
      rw [show (if (4 : Int32) = 0 then 2 else if (4 : Int32) = 1 then 3 else if (4 : Int32) = 2 then 5 else if (4 : Int32) = 3 then 7 else 11) = (11 : Int32) from by decide]
      refine lv_irem hx hb dX3_putLogs_26 (by decide) ?_
      rw [show (1 : Int32) - 1 / 11 * 11 = 1 from by decide]
      refine lv_if_ne (tgt := 52) hx hb dX3_putLogs_27 (by decide) (fun _ => ?_) (fun c_55 => absurd c_55 (by decide))
      refine lv_iinc (v := 5) (lv' := [(4, .int 5), (3, .int 1), (0, .ref (b 0)), (1, .int n), (2, .int t9)]) hx hb dX3_putLogs_52 hl (k := 0) rfl (by decide) (by decide) rfl (fun ls hl => ?_)
      refine lv_goto (tgt := 14) hx hb dX3_putLogs_55 (by decide) ?_
      refine lv_iload hx hb dX3_putLogs_14 (lv_at hl 0 rfl) ?_
      refine lv_iconst (v := 5) hx hb dX3_putLogs_16 (by decide) ?_
      refine lv_icmp_ge (tgt := 58) hx hb dX3_putLogs_17 (by decide) (fun _ => ?_) (fun c_56 => absurd c_56 (by decide))
      have hfj : ∀ j, j < 5 → (upd lg 1 v_44) j = lg j + t9 * nI (x_ti (gl_prime j) 3 (nI 3)) := by
        intro j hj
        rcases (show j = 0 ∨ j = 1 ∨ j = 2 ∨ j = 3 ∨ j = 4 by omega) with rfl | rfl | rfl | rfl | rfl
        · rw [show x_ti (gl_prime 0) 3 (nI 3) = 0 from by decide, ← tm_0]; try simp [upd, ev_44]
        · rw [show x_ti (gl_prime 1) 3 (nI 3) = 1 from by decide, ← tm_1]; try simp [upd, ev_44]
        · rw [show x_ti (gl_prime 2) 3 (nI 3) = 0 from by decide, ← tm_0]; try simp [upd, ev_44]
        · rw [show x_ti (gl_prime 3) 3 (nI 3) = 0 from by decide, ← tm_0]; try simp [upd, ev_44]
        · rw [show x_ti (gl_prime 4) 3 (nI 3) = 0 from by decide, ← tm_0]; try simp [upd, ev_44]
      have hP := hP.cg (p := 6) (g := fun j => lg j + t9 * nI (x_ti (gl_prime j) 3 (nI 3))) rfl hfj
      have hD := hD.set (p := 6) (e := .inl (cI, 5, .inl (fun j => lg j + t9 * nI (x_ti (gl_prime j) 3 (nI 3))))) rfl
      exact W.vret hx hb hr (fun t ht hW => ⟨⟨(), rfl, trivial, wd_E.at hK hP hD ht hW⟩, hS.F ht⟩) hS.2.2 dX3_putLogs_58
    · refine W.eq (g2 := F0 m 10 ls [.int 4]) rfl ?_
      refine lv_istore_n (lv' := [(3, .int 4), (0, .ref (b 0)), (1, .int n), (2, .int t9)]) hx hb dX3_putLogs_10 rfl hl (by decide) rfl (fun ls hl => ?_)
      refine lv_iconst (v := 0) hx hb dX3_putLogs_11 (by decide) ?_
      refine lv_istore (lv' := [(4, .int 0), (3, .int 4), (0, .ref (b 0)), (1, .int n), (2, .int t9)]) hx hb dX3_putLogs_12 hl (by decide) rfl (fun ls hl => ?_)
      refine lv_iload hx hb dX3_putLogs_14 (lv_at hl 0 rfl) ?_
      refine lv_iconst (v := 5) hx hb dX3_putLogs_16 (by decide) ?_
      refine lv_icmp_ge (tgt := 58) hx hb dX3_putLogs_17 (by decide) (fun c_57 => absurd c_57 (by decide)) (fun _ => ?_)
      refine lv_iload_n hx hb dX3_putLogs_20 rfl (lv_at hl 1 rfl) ?_
      refine lv_iload hx hb dX3_putLogs_21 (lv_at hl 0 rfl) ?_
      refine vp_callSi (W.runS (As := [.int 0]) (rest := [.int 4]) ⟨hx, hb, hml, hown, hg⟩ (c_X3_primeOf l 0) (va_cwS 1 hg (gw_S ml_X3_54 sm_X3_primeOf ini_X3 co_X3_primeOf) rfl rfl rfl (by decide +kernel) ⟨Nat.le_of_ble_eq_true rfl, Nat.le_of_ble_eq_true rfl⟩) ⟨tt_blind, (fun U hU hW => ⟨rfl, trivial⟩)⟩ rfl rfl hl.1 rfl (lv_room (Nat.le_of_ble_eq_true rfl)) dX3_putLogs_23 ⟨Nat.le_of_ble_eq_true rfl, Nat.le_of_ble_eq_true rfl⟩) (fun r_58 hr_58 => ?_)
      subst hr_58
      rw [show (if (0 : Int32) = 0 then 2 else if (0 : Int32) = 1 then 3 else if (0 : Int32) = 2 then 5 else if (0 : Int32) = 3 then 7 else 11) = (2 : Int32) from by decide]
      refine lv_irem hx hb dX3_putLogs_26 (by decide) ?_
      rw [show (4 : Int32) - 4 / 2 * 2 = 0 from by decide]
      refine lv_if_ne (tgt := 52) hx hb dX3_putLogs_27 (by decide) (fun c_59 => absurd c_59 (by decide)) (fun _ => ?_)
      refine lv_iload_n hx hb dX3_putLogs_30 rfl (lv_at hl 1 rfl) ?_
      refine lv_iload hx hb dX3_putLogs_31 (lv_at hl 0 rfl) ?_
      refine vp_callSi (W.runS (As := [.int 0]) (rest := [.int 4]) ⟨hx, hb, hml, hown, hg⟩ (c_X3_primeOf l 0) (va_cwS 1 hg (gw_S ml_X3_54 sm_X3_primeOf ini_X3 co_X3_primeOf) rfl rfl rfl (by decide +kernel) ⟨Nat.le_of_ble_eq_true rfl, Nat.le_of_ble_eq_true rfl⟩) ⟨tt_blind, (fun U hU hW => ⟨rfl, trivial⟩)⟩ rfl rfl hl.1 rfl (lv_room (Nat.le_of_ble_eq_true rfl)) dX3_putLogs_33 ⟨Nat.le_of_ble_eq_true rfl, Nat.le_of_ble_eq_true rfl⟩) (fun r_60 hr_60 => ?_)
      subst hr_60
      rw [show (if (0 : Int32) = 0 then 2 else if (0 : Int32) = 1 then 3 else if (0 : Int32) = 2 then 5 else if (0 : Int32) = 3 then 7 else 11) = (2 : Int32) from by decide]
      refine lv_idiv hx hb dX3_putLogs_36 (by decide) ?_
      rw [show (4 : Int32) / 2 = 2 from by decide]
      refine lv_istore_n (lv' := [(3, .int 2), (4, .int 0), (0, .ref (b 0)), (1, .int n), (2, .int t9)]) hx hb dX3_putLogs_37 rfl hl (by decide) rfl (fun ls hl => ?_)
      refine lv_aload_n hx hb dX3_putLogs_38 rfl (lv_at hl 2 rfl) ?_
      refine va_get (D := D) (ci := 3) (v := .ref (b 6)) (C := RX3) (T := TX3) (N := 13) hx hb hg inX3 hown hK hP 0 rfl rfl 12 (by decide) (hg _ fl_X3_25) (fun _ h9 => h9) rfl dX3_putLogs_39 ?_
      refine lv_iload hx hb dX3_putLogs_42 (lv_at hl 1 rfl) ?_
      refine lv_dup2_11 hx hb dX3_putLogs_44 rfl rfl ?_
      refine va_iald (D := D) (n := 5) (f := lg) hx hb hK hP 6 0 rfl rfl (vp_in_nI (show 0 < 5 by decide) (by decide)) dX3_putLogs_45 ?_
      rw [show (0 : Int32).toNatClampNeg = 0 from by decide]
      refine lv_iload_n hx hb dX3_putLogs_46 rfl (lv_at hl 4 rfl) ?_
      refine lv_iadd hx hb dX3_putLogs_47 ?_
      refine lv_topi (fun v_61 ev_61 => ?_)
      refine va_iast (D := D) (n := 5) (f := lg) (x := v_61) hx hb hK hP hD hS 6 0 rfl rfl (vp_in_nI (show 0 < 5 by decide) (by decide)) dX3_putLogs_48 (fun H locs hP hD hS => ?_)
      rw [show (0 : Int32).toNatClampNeg = 0 from by decide] at hP hD
      have hP : va_P D vwCl (mw cI b cod (nI cnt) pl nm od op (zi kb) kU kD kl up dn (upd lg 0 v_61) ++ fr) H := hP
      have hD : va_D A (mw cI b cod (nI cnt) pl nm od op (zi kb) kU kD kl up dn (upd lg 0 v_61) ++ fr) := hD
      refine lv_goto (tgt := 20) hx hb dX3_putLogs_49 (by decide) ?_
      refine lv_iload_n hx hb dX3_putLogs_20 rfl (lv_at hl 0 rfl) ?_
      refine lv_iload hx hb dX3_putLogs_21 (lv_at hl 1 rfl) ?_
      refine vp_callSi (W.runS (As := [.int 0]) (rest := [.int 2]) ⟨hx, hb, hml, hown, hg⟩ (c_X3_primeOf l 0) (va_cwS 1 hg (gw_S ml_X3_54 sm_X3_primeOf ini_X3 co_X3_primeOf) rfl rfl rfl (by decide +kernel) ⟨Nat.le_of_ble_eq_true rfl, Nat.le_of_ble_eq_true rfl⟩) ⟨tt_blind, (fun U hU hW => ⟨rfl, trivial⟩)⟩ rfl rfl hl.1 rfl (lv_room (Nat.le_of_ble_eq_true rfl)) dX3_putLogs_23 ⟨Nat.le_of_ble_eq_true rfl, Nat.le_of_ble_eq_true rfl⟩) (fun r_62 hr_62 => ?_)
      subst hr_62
      rw [show (if (0 : Int32) = 0 then 2 else if (0 : Int32) = 1 then 3 else if (0 : Int32) = 2 then 5 else if (0 : Int32) = 3 then 7 else 11) = (2 : Int32) from by decide]
      refine lv_irem hx hb dX3_putLogs_26 (by decide) ?_
      rw [show (2 : Int32) - 2 / 2 * 2 = 0 from by decide]
      refine lv_if_ne (tgt := 52) hx hb dX3_putLogs_27 (by decide) (fun c_63 => absurd c_63 (by decide)) (fun _ => ?_)
      refine lv_iload_n hx hb dX3_putLogs_30 rfl (lv_at hl 0 rfl) ?_
      refine lv_iload hx hb dX3_putLogs_31 (lv_at hl 1 rfl) ?_
      refine vp_callSi (W.runS (As := [.int 0]) (rest := [.int 2]) ⟨hx, hb, hml, hown, hg⟩ (c_X3_primeOf l 0) (va_cwS 1 hg (gw_S ml_X3_54 sm_X3_primeOf ini_X3 co_X3_primeOf) rfl rfl rfl (by decide +kernel) ⟨Nat.le_of_ble_eq_true rfl, Nat.le_of_ble_eq_true rfl⟩) ⟨tt_blind, (fun U hU hW => ⟨rfl, trivial⟩)⟩ rfl rfl hl.1 rfl (lv_room (Nat.le_of_ble_eq_true rfl)) dX3_putLogs_33 ⟨Nat.le_of_ble_eq_true rfl, Nat.le_of_ble_eq_true rfl⟩) (fun r_64 hr_64 => ?_)
      subst hr_64
      rw [show (if (0 : Int32) = 0 then 2 else if (0 : Int32) = 1 then 3 else if (0 : Int32) = 2 then 5 else if (0 : Int32) = 3 then 7 else 11) = (2 : Int32) from by decide]
      refine lv_idiv hx hb dX3_putLogs_36 (by decide) ?_
      rw [show (2 : Int32) / 2 = 1 from by decide]
      refine lv_istore_n (lv' := [(3, .int 1), (4, .int 0), (0, .ref (b 0)), (1, .int n), (2, .int t9)]) hx hb dX3_putLogs_37 rfl hl (by decide) rfl (fun ls hl => ?_)
      refine lv_aload_n hx hb dX3_putLogs_38 rfl (lv_at hl 2 rfl) ?_
      refine va_get (D := D) (ci := 3) (v := .ref (b 6)) (C := RX3) (T := TX3) (N := 13) hx hb hg inX3 hown hK hP 0 rfl rfl 12 (by decide) (hg _ fl_X3_25) (fun _ h9 => h9) rfl dX3_putLogs_39 ?_
      refine lv_iload hx hb dX3_putLogs_42 (lv_at hl 1 rfl) ?_
      refine lv_dup2_11 hx hb dX3_putLogs_44 rfl rfl ?_
      refine va_iald (D := D) (n := 5) (f := (upd lg 0 v_61)) hx hb hK hP 6 0 rfl rfl (vp_in_nI (show 0 < 5 by decide) (by decide)) dX3_putLogs_45 ?_
      rw [show (0 : Int32).toNatClampNeg = 0 from by decide]
      refine lv_iload_n hx hb dX3_putLogs_46 rfl (lv_at hl 4 rfl) ?_
      refine lv_iadd hx hb dX3_putLogs_47 ?_
      refine lv_topi (fun v_65 ev_65 => ?_)
      refine va_iast (D := D) (n := 5) (f := (upd lg 0 v_61)) (x := v_65) hx hb hK hP hD hS 6 0 rfl rfl (vp_in_nI (show 0 < 5 by decide) (by decide)) dX3_putLogs_48 (fun H locs hP hD hS => ?_)
      rw [show (0 : Int32).toNatClampNeg = 0 from by decide] at hP hD
      have hP : va_P D vwCl (mw cI b cod (nI cnt) pl nm od op (zi kb) kU kD kl up dn (upd (upd lg 0 v_61) 0 v_65) ++ fr) H := hP
      have hD : va_D A (mw cI b cod (nI cnt) pl nm od op (zi kb) kU kD kl up dn (upd (upd lg 0 v_61) 0 v_65) ++ fr) := hD
      refine lv_goto (tgt := 20) hx hb dX3_putLogs_49 (by decide) ?_
      refine lv_iload_n hx hb dX3_putLogs_20 rfl (lv_at hl 0 rfl) ?_
      refine lv_iload hx hb dX3_putLogs_21 (lv_at hl 1 rfl) ?_
      refine vp_callSi (W.runS (As := [.int 0]) (rest := [.int 1]) ⟨hx, hb, hml, hown, hg⟩ (c_X3_primeOf l 0) (va_cwS 1 hg (gw_S ml_X3_54 sm_X3_primeOf ini_X3 co_X3_primeOf) rfl rfl rfl (by decide +kernel) ⟨Nat.le_of_ble_eq_true rfl, Nat.le_of_ble_eq_true rfl⟩) ⟨tt_blind, (fun U hU hW => ⟨rfl, trivial⟩)⟩ rfl rfl hl.1 rfl (lv_room (Nat.le_of_ble_eq_true rfl)) dX3_putLogs_23 ⟨Nat.le_of_ble_eq_true rfl, Nat.le_of_ble_eq_true rfl⟩) (fun r_66 hr_66 => ?_)
      subst hr_66
      rw [show (if (0 : Int32) = 0 then 2 else if (0 : Int32) = 1 then 3 else if (0 : Int32) = 2 then 5 else if (0 : Int32) = 3 then 7 else 11) = (2 : Int32) from by decide]
      refine lv_irem hx hb dX3_putLogs_26 (by decide) ?_
      rw [show (1 : Int32) - 1 / 2 * 2 = 1 from by decide]
      refine lv_if_ne (tgt := 52) hx hb dX3_putLogs_27 (by decide) (fun _ => ?_) (fun c_67 => absurd c_67 (by decide))
      refine lv_iinc (v := 1) (lv' := [(4, .int 1), (3, .int 1), (0, .ref (b 0)), (1, .int n), (2, .int t9)]) hx hb dX3_putLogs_52 hl (k := 1) rfl (by decide) (by decide) rfl (fun ls hl => ?_)
      refine lv_goto (tgt := 14) hx hb dX3_putLogs_55 (by decide) ?_
      refine lv_iload hx hb dX3_putLogs_14 (lv_at hl 0 rfl) ?_
      refine lv_iconst (v := 5) hx hb dX3_putLogs_16 (by decide) ?_
      refine lv_icmp_ge (tgt := 58) hx hb dX3_putLogs_17 (by decide) (fun c_68 => absurd c_68 (by decide)) (fun _ => ?_)
      refine lv_iload_n hx hb dX3_putLogs_20 rfl (lv_at hl 1 rfl) ?_
      refine lv_iload hx hb dX3_putLogs_21 (lv_at hl 0 rfl) ?_
      refine vp_callSi (W.runS (As := [.int 1]) (rest := [.int 1]) ⟨hx, hb, hml, hown, hg⟩ (c_X3_primeOf l 1) (va_cwS 1 hg (gw_S ml_X3_54 sm_X3_primeOf ini_X3 co_X3_primeOf) rfl rfl rfl (by decide +kernel) ⟨Nat.le_of_ble_eq_true rfl, Nat.le_of_ble_eq_true rfl⟩) ⟨tt_blind, (fun U hU hW => ⟨rfl, trivial⟩)⟩ rfl rfl hl.1 rfl (lv_room (Nat.le_of_ble_eq_true rfl)) dX3_putLogs_23 ⟨Nat.le_of_ble_eq_true rfl, Nat.le_of_ble_eq_true rfl⟩) (fun r_69 hr_69 => ?_)
      subst hr_69
      rw [show (if (1 : Int32) = 0 then 2 else if (1 : Int32) = 1 then 3 else if (1 : Int32) = 2 then 5 else if (1 : Int32) = 3 then 7 else 11) = (3 : Int32) from by decide]
      refine lv_irem hx hb dX3_putLogs_26 (by decide) ?_
      rw [show (1 : Int32) - 1 / 3 * 3 = 1 from by decide]
      refine lv_if_ne (tgt := 52) hx hb dX3_putLogs_27 (by decide) (fun _ => ?_) (fun c_70 => absurd c_70 (by decide))
      refine lv_iinc (v := 2) (lv' := [(4, .int 2), (3, .int 1), (0, .ref (b 0)), (1, .int n), (2, .int t9)]) hx hb dX3_putLogs_52 hl (k := 0) rfl (by decide) (by decide) rfl (fun ls hl => ?_)
      refine lv_goto (tgt := 14) hx hb dX3_putLogs_55 (by decide) ?_
      refine lv_iload hx hb dX3_putLogs_14 (lv_at hl 0 rfl) ?_
      refine lv_iconst (v := 5) hx hb dX3_putLogs_16 (by decide) ?_
      refine lv_icmp_ge (tgt := 58) hx hb dX3_putLogs_17 (by decide) (fun c_71 => absurd c_71 (by decide)) (fun _ => ?_)
      refine lv_iload_n hx hb dX3_putLogs_20 rfl (lv_at hl 1 rfl) ?_
      refine lv_iload hx hb dX3_putLogs_21 (lv_at hl 0 rfl) ?_
      refine vp_callSi (W.runS (As := [.int 2]) (rest := [.int 1]) ⟨hx, hb, hml, hown, hg⟩ (c_X3_primeOf l 2) (va_cwS 1 hg (gw_S ml_X3_54 sm_X3_primeOf ini_X3 co_X3_primeOf) rfl rfl rfl (by decide +kernel) ⟨Nat.le_of_ble_eq_true rfl, Nat.le_of_ble_eq_true rfl⟩) ⟨tt_blind, (fun U hU hW => ⟨rfl, trivial⟩)⟩ rfl rfl hl.1 rfl (lv_room (Nat.le_of_ble_eq_true rfl)) dX3_putLogs_23 ⟨Nat.le_of_ble_eq_true rfl, Nat.le_of_ble_eq_true rfl⟩) (fun r_72 hr_72 => ?_)
      subst hr_72
      rw [show (if (2 : Int32) = 0 then 2 else if (2 : Int32) = 1 then 3 else if (2 : Int32) = 2 then 5 else if (2 : Int32) = 3 then 7 else 11) = (5 : Int32) from by decide]
      refine lv_irem hx hb dX3_putLogs_26 (by decide) ?_
      rw [show (1 : Int32) - 1 / 5 * 5 = 1 from by decide]
      refine lv_if_ne (tgt := 52) hx hb dX3_putLogs_27 (by decide) (fun _ => ?_) (fun c_73 => absurd c_73 (by decide))
      refine lv_iinc (v := 3) (lv' := [(4, .int 3), (3, .int 1), (0, .ref (b 0)), (1, .int n), (2, .int t9)]) hx hb dX3_putLogs_52 hl (k := 0) rfl (by decide) (by decide) rfl (fun ls hl => ?_)
      refine lv_goto (tgt := 14) hx hb dX3_putLogs_55 (by decide) ?_
      refine lv_iload hx hb dX3_putLogs_14 (lv_at hl 0 rfl) ?_
      refine lv_iconst (v := 5) hx hb dX3_putLogs_16 (by decide) ?_
      refine lv_icmp_ge (tgt := 58) hx hb dX3_putLogs_17 (by decide) (fun c_74 => absurd c_74 (by decide)) (fun _ => ?_)
      refine lv_iload_n hx hb dX3_putLogs_20 rfl (lv_at hl 1 rfl) ?_
      refine lv_iload hx hb dX3_putLogs_21 (lv_at hl 0 rfl) ?_
      refine vp_callSi (W.runS (As := [.int 3]) (rest := [.int 1]) ⟨hx, hb, hml, hown, hg⟩ (c_X3_primeOf l 3) (va_cwS 1 hg (gw_S ml_X3_54 sm_X3_primeOf ini_X3 co_X3_primeOf) rfl rfl rfl (by decide +kernel) ⟨Nat.le_of_ble_eq_true rfl, Nat.le_of_ble_eq_true rfl⟩) ⟨tt_blind, (fun U hU hW => ⟨rfl, trivial⟩)⟩ rfl rfl hl.1 rfl (lv_room (Nat.le_of_ble_eq_true rfl)) dX3_putLogs_23 ⟨Nat.le_of_ble_eq_true rfl, Nat.le_of_ble_eq_true rfl⟩) (fun r_75 hr_75 => ?_)
      subst hr_75
      rw [show (if (3 : Int32) = 0 then 2 else if (3 : Int32) = 1 then 3 else if (3 : Int32) = 2 then 5 else if (3 : Int32) = 3 then 7 else 11) = (7 : Int32) from by decide]
      refine lv_irem hx hb dX3_putLogs_26 (by decide) ?_
      rw [show (1 : Int32) - 1 / 7 * 7 = 1 from by decide]
      refine lv_if_ne (tgt := 52) hx hb dX3_putLogs_27 (by decide) (fun _ => ?_) (fun c_76 => absurd c_76 (by decide))
      refine lv_iinc (v := 4) (lv' := [(4, .int 4), (3, .int 1), (0, .ref (b 0)), (1, .int n), (2, .int t9)]) hx hb dX3_putLogs_52 hl (k := 0) rfl (by decide) (by decide) rfl (fun ls hl => ?_)
      refine lv_goto (tgt := 14) hx hb dX3_putLogs_55 (by decide) ?_
      refine lv_iload hx hb dX3_putLogs_14 (lv_at hl 0 rfl) ?_
      refine lv_iconst (v := 5) hx hb dX3_putLogs_16 (by decide) ?_
      refine lv_icmp_ge (tgt := 58) hx hb dX3_putLogs_17 (by decide) (fun c_77 => absurd c_77 (by decide)) (fun _ => ?_)
      refine lv_iload_n hx hb dX3_putLogs_20 rfl (lv_at hl 1 rfl) ?_
      refine lv_iload hx hb dX3_putLogs_21 (lv_at hl 0 rfl) ?_
      refine vp_callSi (W.runS (As := [.int 4]) (rest := [.int 1]) ⟨hx, hb, hml, hown, hg⟩ (c_X3_primeOf l 4) (va_cwS 1 hg (gw_S ml_X3_54 sm_X3_primeOf ini_X3 co_X3_primeOf) rfl rfl rfl (by decide +kernel) ⟨Nat.le_of_ble_eq_true rfl, Nat.le_of_ble_eq_true rfl⟩) ⟨tt_blind, (fun U hU hW => ⟨rfl, trivial⟩)⟩ rfl rfl hl.1 rfl (lv_room (Nat.le_of_ble_eq_true rfl)) dX3_putLogs_23 ⟨Nat.le_of_ble_eq_true rfl, Nat.le_of_ble_eq_true rfl⟩) (fun r_78 hr_78 => ?_)
      subst hr_78
      rw [show (if (4 : Int32) = 0 then 2 else if (4 : Int32) = 1 then 3 else if (4 : Int32) = 2 then 5 else if (4 : Int32) = 3 then 7 else 11) = (11 : Int32) from by decide]
      refine lv_irem hx hb dX3_putLogs_26 (by decide) ?_
      rw [show (1 : Int32) - 1 / 11 * 11 = 1 from by decide]
      refine lv_if_ne (tgt := 52) hx hb dX3_putLogs_27 (by decide) (fun _ => ?_) (fun c_79 => absurd c_79 (by decide))
      refine lv_iinc (v := 5) (lv' := [(4, .int 5), (3, .int 1), (0, .ref (b 0)), (1, .int n), (2, .int t9)]) hx hb dX3_putLogs_52 hl (k := 0) rfl (by decide) (by decide) rfl (fun ls hl => ?_)
      refine lv_goto (tgt := 14) hx hb dX3_putLogs_55 (by decide) ?_
      refine lv_iload hx hb dX3_putLogs_14 (lv_at hl 0 rfl) ?_
      refine lv_iconst (v := 5) hx hb dX3_putLogs_16 (by decide) ?_
      refine lv_icmp_ge (tgt := 58) hx hb dX3_putLogs_17 (by decide) (fun _ => ?_) (fun c_80 => absurd c_80 (by decide))
      have hfj : ∀ j, j < 5 → (upd (upd lg 0 v_61) 0 v_65) j = lg j + t9 * nI (x_ti (gl_prime j) 3 (nI 4)) := by
        intro j hj
        rcases (show j = 0 ∨ j = 1 ∨ j = 2 ∨ j = 3 ∨ j = 4 by omega) with rfl | rfl | rfl | rfl | rfl
        · rw [show x_ti (gl_prime 0) 3 (nI 4) = 2 from by decide, ← tm_2]; try simp [upd, ev_61, ev_65]
        · rw [show x_ti (gl_prime 1) 3 (nI 4) = 0 from by decide, ← tm_0]; try simp [upd, ev_61, ev_65]
        · rw [show x_ti (gl_prime 2) 3 (nI 4) = 0 from by decide, ← tm_0]; try simp [upd, ev_61, ev_65]
        · rw [show x_ti (gl_prime 3) 3 (nI 4) = 0 from by decide, ← tm_0]; try simp [upd, ev_61, ev_65]
        · rw [show x_ti (gl_prime 4) 3 (nI 4) = 0 from by decide, ← tm_0]; try simp [upd, ev_61, ev_65]
      have hP := hP.cg (p := 6) (g := fun j => lg j + t9 * nI (x_ti (gl_prime j) 3 (nI 4))) rfl hfj
      have hD := hD.set (p := 6) (e := .inl (cI, 5, .inl (fun j => lg j + t9 * nI (x_ti (gl_prime j) 3 (nI 4))))) rfl
      exact W.vret hx hb hr (fun t ht hW => ⟨⟨(), rfl, trivial, wd_E.at hK hP hD ht hW⟩, hS.F ht⟩) hS.2.2 dX3_putLogs_58
    · refine W.eq (g2 := F0 m 10 ls [.int 5]) rfl ?_
      refine lv_istore_n (lv' := [(3, .int 5), (0, .ref (b 0)), (1, .int n), (2, .int t9)]) hx hb dX3_putLogs_10 rfl hl (by decide) rfl (fun ls hl => ?_)
      refine lv_iconst (v := 0) hx hb dX3_putLogs_11 (by decide) ?_
      refine lv_istore (lv' := [(4, .int 0), (3, .int 5), (0, .ref (b 0)), (1, .int n), (2, .int t9)]) hx hb dX3_putLogs_12 hl (by decide) rfl (fun ls hl => ?_)
      refine lv_iload hx hb dX3_putLogs_14 (lv_at hl 0 rfl) ?_
      refine lv_iconst (v := 5) hx hb dX3_putLogs_16 (by decide) ?_
      refine lv_icmp_ge (tgt := 58) hx hb dX3_putLogs_17 (by decide) (fun c_81 => absurd c_81 (by decide)) (fun _ => ?_)
      refine lv_iload_n hx hb dX3_putLogs_20 rfl (lv_at hl 1 rfl) ?_
      refine lv_iload hx hb dX3_putLogs_21 (lv_at hl 0 rfl) ?_
      refine vp_callSi (W.runS (As := [.int 0]) (rest := [.int 5]) ⟨hx, hb, hml, hown, hg⟩ (c_X3_primeOf l 0) (va_cwS 1 hg (gw_S ml_X3_54 sm_X3_primeOf ini_X3 co_X3_primeOf) rfl rfl rfl (by decide +kernel) ⟨Nat.le_of_ble_eq_true rfl, Nat.le_of_ble_eq_true rfl⟩) ⟨tt_blind, (fun U hU hW => ⟨rfl, trivial⟩)⟩ rfl rfl hl.1 rfl (lv_room (Nat.le_of_ble_eq_true rfl)) dX3_putLogs_23 ⟨Nat.le_of_ble_eq_true rfl, Nat.le_of_ble_eq_true rfl⟩) (fun r_82 hr_82 => ?_)
      subst hr_82
      rw [show (if (0 : Int32) = 0 then 2 else if (0 : Int32) = 1 then 3 else if (0 : Int32) = 2 then 5 else if (0 : Int32) = 3 then 7 else 11) = (2 : Int32) from by decide]
      refine lv_irem hx hb dX3_putLogs_26 (by decide) ?_
      rw [show (5 : Int32) - 5 / 2 * 2 = 1 from by decide]
      refine lv_if_ne (tgt := 52) hx hb dX3_putLogs_27 (by decide) (fun _ => ?_) (fun c_83 => absurd c_83 (by decide))
      refine lv_iinc (v := 1) (lv' := [(4, .int 1), (3, .int 5), (0, .ref (b 0)), (1, .int n), (2, .int t9)]) hx hb dX3_putLogs_52 hl (k := 0) rfl (by decide) (by decide) rfl (fun ls hl => ?_)
      refine lv_goto (tgt := 14) hx hb dX3_putLogs_55 (by decide) ?_
      refine lv_iload hx hb dX3_putLogs_14 (lv_at hl 0 rfl) ?_
      refine lv_iconst (v := 5) hx hb dX3_putLogs_16 (by decide) ?_
      refine lv_icmp_ge (tgt := 58) hx hb dX3_putLogs_17 (by decide) (fun c_84 => absurd c_84 (by decide)) (fun _ => ?_)
      refine lv_iload_n hx hb dX3_putLogs_20 rfl (lv_at hl 1 rfl) ?_
      refine lv_iload hx hb dX3_putLogs_21 (lv_at hl 0 rfl) ?_
      refine vp_callSi (W.runS (As := [.int 1]) (rest := [.int 5]) ⟨hx, hb, hml, hown, hg⟩ (c_X3_primeOf l 1) (va_cwS 1 hg (gw_S ml_X3_54 sm_X3_primeOf ini_X3 co_X3_primeOf) rfl rfl rfl (by decide +kernel) ⟨Nat.le_of_ble_eq_true rfl, Nat.le_of_ble_eq_true rfl⟩) ⟨tt_blind, (fun U hU hW => ⟨rfl, trivial⟩)⟩ rfl rfl hl.1 rfl (lv_room (Nat.le_of_ble_eq_true rfl)) dX3_putLogs_23 ⟨Nat.le_of_ble_eq_true rfl, Nat.le_of_ble_eq_true rfl⟩) (fun r_85 hr_85 => ?_)
      subst hr_85
      rw [show (if (1 : Int32) = 0 then 2 else if (1 : Int32) = 1 then 3 else if (1 : Int32) = 2 then 5 else if (1 : Int32) = 3 then 7 else 11) = (3 : Int32) from by decide]
      refine lv_irem hx hb dX3_putLogs_26 (by decide) ?_
      rw [show (5 : Int32) - 5 / 3 * 3 = 2 from by decide]
      refine lv_if_ne (tgt := 52) hx hb dX3_putLogs_27 (by decide) (fun _ => ?_) (fun c_86 => absurd c_86 (by decide))
      refine lv_iinc (v := 2) (lv' := [(4, .int 2), (3, .int 5), (0, .ref (b 0)), (1, .int n), (2, .int t9)]) hx hb dX3_putLogs_52 hl (k := 0) rfl (by decide) (by decide) rfl (fun ls hl => ?_)
      refine lv_goto (tgt := 14) hx hb dX3_putLogs_55 (by decide) ?_
      refine lv_iload hx hb dX3_putLogs_14 (lv_at hl 0 rfl) ?_
      refine lv_iconst (v := 5) hx hb dX3_putLogs_16 (by decide) ?_
      refine lv_icmp_ge (tgt := 58) hx hb dX3_putLogs_17 (by decide) (fun c_87 => absurd c_87 (by decide)) (fun _ => ?_)
      refine lv_iload_n hx hb dX3_putLogs_20 rfl (lv_at hl 1 rfl) ?_
      refine lv_iload hx hb dX3_putLogs_21 (lv_at hl 0 rfl) ?_
      refine vp_callSi (W.runS (As := [.int 2]) (rest := [.int 5]) ⟨hx, hb, hml, hown, hg⟩ (c_X3_primeOf l 2) (va_cwS 1 hg (gw_S ml_X3_54 sm_X3_primeOf ini_X3 co_X3_primeOf) rfl rfl rfl (by decide +kernel) ⟨Nat.le_of_ble_eq_true rfl, Nat.le_of_ble_eq_true rfl⟩) ⟨tt_blind, (fun U hU hW => ⟨rfl, trivial⟩)⟩ rfl rfl hl.1 rfl (lv_room (Nat.le_of_ble_eq_true rfl)) dX3_putLogs_23 ⟨Nat.le_of_ble_eq_true rfl, Nat.le_of_ble_eq_true rfl⟩) (fun r_88 hr_88 => ?_)
      subst hr_88
      rw [show (if (2 : Int32) = 0 then 2 else if (2 : Int32) = 1 then 3 else if (2 : Int32) = 2 then 5 else if (2 : Int32) = 3 then 7 else 11) = (5 : Int32) from by decide]
      refine lv_irem hx hb dX3_putLogs_26 (by decide) ?_
      rw [show (5 : Int32) - 5 / 5 * 5 = 0 from by decide]
      refine lv_if_ne (tgt := 52) hx hb dX3_putLogs_27 (by decide) (fun c_89 => absurd c_89 (by decide)) (fun _ => ?_)
      refine lv_iload_n hx hb dX3_putLogs_30 rfl (lv_at hl 1 rfl) ?_
      refine lv_iload hx hb dX3_putLogs_31 (lv_at hl 0 rfl) ?_
      refine vp_callSi (W.runS (As := [.int 2]) (rest := [.int 5]) ⟨hx, hb, hml, hown, hg⟩ (c_X3_primeOf l 2) (va_cwS 1 hg (gw_S ml_X3_54 sm_X3_primeOf ini_X3 co_X3_primeOf) rfl rfl rfl (by decide +kernel) ⟨Nat.le_of_ble_eq_true rfl, Nat.le_of_ble_eq_true rfl⟩) ⟨tt_blind, (fun U hU hW => ⟨rfl, trivial⟩)⟩ rfl rfl hl.1 rfl (lv_room (Nat.le_of_ble_eq_true rfl)) dX3_putLogs_33 ⟨Nat.le_of_ble_eq_true rfl, Nat.le_of_ble_eq_true rfl⟩) (fun r_90 hr_90 => ?_)
      subst hr_90
      rw [show (if (2 : Int32) = 0 then 2 else if (2 : Int32) = 1 then 3 else if (2 : Int32) = 2 then 5 else if (2 : Int32) = 3 then 7 else 11) = (5 : Int32) from by decide]
      refine lv_idiv hx hb dX3_putLogs_36 (by decide) ?_
      rw [show (5 : Int32) / 5 = 1 from by decide]
      refine lv_istore_n (lv' := [(3, .int 1), (4, .int 2), (0, .ref (b 0)), (1, .int n), (2, .int t9)]) hx hb dX3_putLogs_37 rfl hl (by decide) rfl (fun ls hl => ?_)
      refine lv_aload_n hx hb dX3_putLogs_38 rfl (lv_at hl 2 rfl) ?_
      refine va_get (D := D) (ci := 3) (v := .ref (b 6)) (C := RX3) (T := TX3) (N := 13) hx hb hg inX3 hown hK hP 0 rfl rfl 12 (by decide) (hg _ fl_X3_25) (fun _ h9 => h9) rfl dX3_putLogs_39 ?_
      refine lv_iload hx hb dX3_putLogs_42 (lv_at hl 1 rfl) ?_
      refine lv_dup2_11 hx hb dX3_putLogs_44 rfl rfl ?_
      refine va_iald (D := D) (n := 5) (f := lg) hx hb hK hP 6 0 rfl rfl (vp_in_nI (show 2 < 5 by decide) (by decide)) dX3_putLogs_45 ?_
      rw [show (2 : Int32).toNatClampNeg = 2 from by decide]
      refine lv_iload_n hx hb dX3_putLogs_46 rfl (lv_at hl 4 rfl) ?_
      refine lv_iadd hx hb dX3_putLogs_47 ?_
      refine lv_topi (fun v_91 ev_91 => ?_)
      refine va_iast (D := D) (n := 5) (f := lg) (x := v_91) hx hb hK hP hD hS 6 0 rfl rfl (vp_in_nI (show 2 < 5 by decide) (by decide)) dX3_putLogs_48 (fun H locs hP hD hS => ?_)
      rw [show (2 : Int32).toNatClampNeg = 2 from by decide] at hP hD
      have hP : va_P D vwCl (mw cI b cod (nI cnt) pl nm od op (zi kb) kU kD kl up dn (upd lg 2 v_91) ++ fr) H := hP
      have hD : va_D A (mw cI b cod (nI cnt) pl nm od op (zi kb) kU kD kl up dn (upd lg 2 v_91) ++ fr) := hD
      refine lv_goto (tgt := 20) hx hb dX3_putLogs_49 (by decide) ?_
      refine lv_iload_n hx hb dX3_putLogs_20 rfl (lv_at hl 0 rfl) ?_
      refine lv_iload hx hb dX3_putLogs_21 (lv_at hl 1 rfl) ?_
      refine vp_callSi (W.runS (As := [.int 2]) (rest := [.int 1]) ⟨hx, hb, hml, hown, hg⟩ (c_X3_primeOf l 2) (va_cwS 1 hg (gw_S ml_X3_54 sm_X3_primeOf ini_X3 co_X3_primeOf) rfl rfl rfl (by decide +kernel) ⟨Nat.le_of_ble_eq_true rfl, Nat.le_of_ble_eq_true rfl⟩) ⟨tt_blind, (fun U hU hW => ⟨rfl, trivial⟩)⟩ rfl rfl hl.1 rfl (lv_room (Nat.le_of_ble_eq_true rfl)) dX3_putLogs_23 ⟨Nat.le_of_ble_eq_true rfl, Nat.le_of_ble_eq_true rfl⟩) (fun r_92 hr_92 => ?_)
      subst hr_92
      rw [show (if (2 : Int32) = 0 then 2 else if (2 : Int32) = 1 then 3 else if (2 : Int32) = 2 then 5 else if (2 : Int32) = 3 then 7 else 11) = (5 : Int32) from by decide]
      refine lv_irem hx hb dX3_putLogs_26 (by decide) ?_
      rw [show (1 : Int32) - 1 / 5 * 5 = 1 from by decide]
      refine lv_if_ne (tgt := 52) hx hb dX3_putLogs_27 (by decide) (fun _ => ?_) (fun c_93 => absurd c_93 (by decide))
      refine lv_iinc (v := 3) (lv' := [(4, .int 3), (3, .int 1), (0, .ref (b 0)), (1, .int n), (2, .int t9)]) hx hb dX3_putLogs_52 hl (k := 1) rfl (by decide) (by decide) rfl (fun ls hl => ?_)
      refine lv_goto (tgt := 14) hx hb dX3_putLogs_55 (by decide) ?_
      refine lv_iload hx hb dX3_putLogs_14 (lv_at hl 0 rfl) ?_
      refine lv_iconst (v := 5) hx hb dX3_putLogs_16 (by decide) ?_
      refine lv_icmp_ge (tgt := 58) hx hb dX3_putLogs_17 (by decide) (fun c_94 => absurd c_94 (by decide)) (fun _ => ?_)
      refine lv_iload_n hx hb dX3_putLogs_20 rfl (lv_at hl 1 rfl) ?_
      refine lv_iload hx hb dX3_putLogs_21 (lv_at hl 0 rfl) ?_
      refine vp_callSi (W.runS (As := [.int 3]) (rest := [.int 1]) ⟨hx, hb, hml, hown, hg⟩ (c_X3_primeOf l 3) (va_cwS 1 hg (gw_S ml_X3_54 sm_X3_primeOf ini_X3 co_X3_primeOf) rfl rfl rfl (by decide +kernel) ⟨Nat.le_of_ble_eq_true rfl, Nat.le_of_ble_eq_true rfl⟩) ⟨tt_blind, (fun U hU hW => ⟨rfl, trivial⟩)⟩ rfl rfl hl.1 rfl (lv_room (Nat.le_of_ble_eq_true rfl)) dX3_putLogs_23 ⟨Nat.le_of_ble_eq_true rfl, Nat.le_of_ble_eq_true rfl⟩) (fun r_95 hr_95 => ?_)
      subst hr_95
      rw [show (if (3 : Int32) = 0 then 2 else if (3 : Int32) = 1 then 3 else if (3 : Int32) = 2 then 5 else if (3 : Int32) = 3 then 7 else 11) = (7 : Int32) from by decide]
      refine lv_irem hx hb dX3_putLogs_26 (by decide) ?_
      rw [show (1 : Int32) - 1 / 7 * 7 = 1 from by decide]
      refine lv_if_ne (tgt := 52) hx hb dX3_putLogs_27 (by decide) (fun _ => ?_) (fun c_96 => absurd c_96 (by decide))
      refine lv_iinc (v := 4) (lv' := [(4, .int 4), (3, .int 1), (0, .ref (b 0)), (1, .int n), (2, .int t9)]) hx hb dX3_putLogs_52 hl (k := 0) rfl (by decide) (by decide) rfl (fun ls hl => ?_)
      refine lv_goto (tgt := 14) hx hb dX3_putLogs_55 (by decide) ?_
      refine lv_iload hx hb dX3_putLogs_14 (lv_at hl 0 rfl) ?_
      refine lv_iconst (v := 5) hx hb dX3_putLogs_16 (by decide) ?_
      refine lv_icmp_ge (tgt := 58) hx hb dX3_putLogs_17 (by decide) (fun c_97 => absurd c_97 (by decide)) (fun _ => ?_)
      refine lv_iload_n hx hb dX3_putLogs_20 rfl (lv_at hl 1 rfl) ?_
      refine lv_iload hx hb dX3_putLogs_21 (lv_at hl 0 rfl) ?_
      refine vp_callSi (W.runS (As := [.int 4]) (rest := [.int 1]) ⟨hx, hb, hml, hown, hg⟩ (c_X3_primeOf l 4) (va_cwS 1 hg (gw_S ml_X3_54 sm_X3_primeOf ini_X3 co_X3_primeOf) rfl rfl rfl (by decide +kernel) ⟨Nat.le_of_ble_eq_true rfl, Nat.le_of_ble_eq_true rfl⟩) ⟨tt_blind, (fun U hU hW => ⟨rfl, trivial⟩)⟩ rfl rfl hl.1 rfl (lv_room (Nat.le_of_ble_eq_true rfl)) dX3_putLogs_23 ⟨Nat.le_of_ble_eq_true rfl, Nat.le_of_ble_eq_true rfl⟩) (fun r_98 hr_98 => ?_)
      subst hr_98
      rw [show (if (4 : Int32) = 0 then 2 else if (4 : Int32) = 1 then 3 else if (4 : Int32) = 2 then 5 else if (4 : Int32) = 3 then 7 else 11) = (11 : Int32) from by decide]
      refine lv_irem hx hb dX3_putLogs_26 (by decide) ?_
      rw [show (1 : Int32) - 1 / 11 * 11 = 1 from by decide]
      refine lv_if_ne (tgt := 52) hx hb dX3_putLogs_27 (by decide) (fun _ => ?_) (fun c_99 => absurd c_99 (by decide))
      refine lv_iinc (v := 5) (lv' := [(4, .int 5), (3, .int 1), (0, .ref (b 0)), (1, .int n), (2, .int t9)]) hx hb dX3_putLogs_52 hl (k := 0) rfl (by decide) (by decide) rfl (fun ls hl => ?_)
      refine lv_goto (tgt := 14) hx hb dX3_putLogs_55 (by decide) ?_
      refine lv_iload hx hb dX3_putLogs_14 (lv_at hl 0 rfl) ?_
      refine lv_iconst (v := 5) hx hb dX3_putLogs_16 (by decide) ?_
      refine lv_icmp_ge (tgt := 58) hx hb dX3_putLogs_17 (by decide) (fun _ => ?_) (fun c_100 => absurd c_100 (by decide))
      have hfj : ∀ j, j < 5 → (upd lg 2 v_91) j = lg j + t9 * nI (x_ti (gl_prime j) 3 (nI 5)) := by
        intro j hj
        rcases (show j = 0 ∨ j = 1 ∨ j = 2 ∨ j = 3 ∨ j = 4 by omega) with rfl | rfl | rfl | rfl | rfl
        · rw [show x_ti (gl_prime 0) 3 (nI 5) = 0 from by decide, ← tm_0]; try simp [upd, ev_91]
        · rw [show x_ti (gl_prime 1) 3 (nI 5) = 0 from by decide, ← tm_0]; try simp [upd, ev_91]
        · rw [show x_ti (gl_prime 2) 3 (nI 5) = 1 from by decide, ← tm_1]; try simp [upd, ev_91]
        · rw [show x_ti (gl_prime 3) 3 (nI 5) = 0 from by decide, ← tm_0]; try simp [upd, ev_91]
        · rw [show x_ti (gl_prime 4) 3 (nI 5) = 0 from by decide, ← tm_0]; try simp [upd, ev_91]
      have hP := hP.cg (p := 6) (g := fun j => lg j + t9 * nI (x_ti (gl_prime j) 3 (nI 5))) rfl hfj
      have hD := hD.set (p := 6) (e := .inl (cI, 5, .inl (fun j => lg j + t9 * nI (x_ti (gl_prime j) 3 (nI 5))))) rfl
      exact W.vret hx hb hr (fun t ht hW => ⟨⟨(), rfl, trivial, wd_E.at hK hP hD ht hW⟩, hS.F ht⟩) hS.2.2 dX3_putLogs_58
    · refine W.eq (g2 := F0 m 10 ls [.int 6]) rfl ?_
      refine lv_istore_n (lv' := [(3, .int 6), (0, .ref (b 0)), (1, .int n), (2, .int t9)]) hx hb dX3_putLogs_10 rfl hl (by decide) rfl (fun ls hl => ?_)
      refine lv_iconst (v := 0) hx hb dX3_putLogs_11 (by decide) ?_
      refine lv_istore (lv' := [(4, .int 0), (3, .int 6), (0, .ref (b 0)), (1, .int n), (2, .int t9)]) hx hb dX3_putLogs_12 hl (by decide) rfl (fun ls hl => ?_)
      refine lv_iload hx hb dX3_putLogs_14 (lv_at hl 0 rfl) ?_
      refine lv_iconst (v := 5) hx hb dX3_putLogs_16 (by decide) ?_
      refine lv_icmp_ge (tgt := 58) hx hb dX3_putLogs_17 (by decide) (fun c_101 => absurd c_101 (by decide)) (fun _ => ?_)
      refine lv_iload_n hx hb dX3_putLogs_20 rfl (lv_at hl 1 rfl) ?_
      refine lv_iload hx hb dX3_putLogs_21 (lv_at hl 0 rfl) ?_
      refine vp_callSi (W.runS (As := [.int 0]) (rest := [.int 6]) ⟨hx, hb, hml, hown, hg⟩ (c_X3_primeOf l 0) (va_cwS 1 hg (gw_S ml_X3_54 sm_X3_primeOf ini_X3 co_X3_primeOf) rfl rfl rfl (by decide +kernel) ⟨Nat.le_of_ble_eq_true rfl, Nat.le_of_ble_eq_true rfl⟩) ⟨tt_blind, (fun U hU hW => ⟨rfl, trivial⟩)⟩ rfl rfl hl.1 rfl (lv_room (Nat.le_of_ble_eq_true rfl)) dX3_putLogs_23 ⟨Nat.le_of_ble_eq_true rfl, Nat.le_of_ble_eq_true rfl⟩) (fun r_102 hr_102 => ?_)
      subst hr_102
      rw [show (if (0 : Int32) = 0 then 2 else if (0 : Int32) = 1 then 3 else if (0 : Int32) = 2 then 5 else if (0 : Int32) = 3 then 7 else 11) = (2 : Int32) from by decide]
      refine lv_irem hx hb dX3_putLogs_26 (by decide) ?_
      rw [show (6 : Int32) - 6 / 2 * 2 = 0 from by decide]
      refine lv_if_ne (tgt := 52) hx hb dX3_putLogs_27 (by decide) (fun c_103 => absurd c_103 (by decide)) (fun _ => ?_)
      refine lv_iload_n hx hb dX3_putLogs_30 rfl (lv_at hl 1 rfl) ?_
      refine lv_iload hx hb dX3_putLogs_31 (lv_at hl 0 rfl) ?_
      refine vp_callSi (W.runS (As := [.int 0]) (rest := [.int 6]) ⟨hx, hb, hml, hown, hg⟩ (c_X3_primeOf l 0) (va_cwS 1 hg (gw_S ml_X3_54 sm_X3_primeOf ini_X3 co_X3_primeOf) rfl rfl rfl (by decide +kernel) ⟨Nat.le_of_ble_eq_true rfl, Nat.le_of_ble_eq_true rfl⟩) ⟨tt_blind, (fun U hU hW => ⟨rfl, trivial⟩)⟩ rfl rfl hl.1 rfl (lv_room (Nat.le_of_ble_eq_true rfl)) dX3_putLogs_33 ⟨Nat.le_of_ble_eq_true rfl, Nat.le_of_ble_eq_true rfl⟩) (fun r_104 hr_104 => ?_)
      subst hr_104
      rw [show (if (0 : Int32) = 0 then 2 else if (0 : Int32) = 1 then 3 else if (0 : Int32) = 2 then 5 else if (0 : Int32) = 3 then 7 else 11) = (2 : Int32) from by decide]
      refine lv_idiv hx hb dX3_putLogs_36 (by decide) ?_
      rw [show (6 : Int32) / 2 = 3 from by decide]
      refine lv_istore_n (lv' := [(3, .int 3), (4, .int 0), (0, .ref (b 0)), (1, .int n), (2, .int t9)]) hx hb dX3_putLogs_37 rfl hl (by decide) rfl (fun ls hl => ?_)
      refine lv_aload_n hx hb dX3_putLogs_38 rfl (lv_at hl 2 rfl) ?_
      refine va_get (D := D) (ci := 3) (v := .ref (b 6)) (C := RX3) (T := TX3) (N := 13) hx hb hg inX3 hown hK hP 0 rfl rfl 12 (by decide) (hg _ fl_X3_25) (fun _ h9 => h9) rfl dX3_putLogs_39 ?_
      refine lv_iload hx hb dX3_putLogs_42 (lv_at hl 1 rfl) ?_
      refine lv_dup2_11 hx hb dX3_putLogs_44 rfl rfl ?_
      refine va_iald (D := D) (n := 5) (f := lg) hx hb hK hP 6 0 rfl rfl (vp_in_nI (show 0 < 5 by decide) (by decide)) dX3_putLogs_45 ?_
      rw [show (0 : Int32).toNatClampNeg = 0 from by decide]
      refine lv_iload_n hx hb dX3_putLogs_46 rfl (lv_at hl 4 rfl) ?_
      refine lv_iadd hx hb dX3_putLogs_47 ?_
      refine lv_topi (fun v_105 ev_105 => ?_)
      refine va_iast (D := D) (n := 5) (f := lg) (x := v_105) hx hb hK hP hD hS 6 0 rfl rfl (vp_in_nI (show 0 < 5 by decide) (by decide)) dX3_putLogs_48 (fun H locs hP hD hS => ?_)
      rw [show (0 : Int32).toNatClampNeg = 0 from by decide] at hP hD
      have hP : va_P D vwCl (mw cI b cod (nI cnt) pl nm od op (zi kb) kU kD kl up dn (upd lg 0 v_105) ++ fr) H := hP
      have hD : va_D A (mw cI b cod (nI cnt) pl nm od op (zi kb) kU kD kl up dn (upd lg 0 v_105) ++ fr) := hD
      refine lv_goto (tgt := 20) hx hb dX3_putLogs_49 (by decide) ?_
      refine lv_iload_n hx hb dX3_putLogs_20 rfl (lv_at hl 0 rfl) ?_
      refine lv_iload hx hb dX3_putLogs_21 (lv_at hl 1 rfl) ?_
      refine vp_callSi (W.runS (As := [.int 0]) (rest := [.int 3]) ⟨hx, hb, hml, hown, hg⟩ (c_X3_primeOf l 0) (va_cwS 1 hg (gw_S ml_X3_54 sm_X3_primeOf ini_X3 co_X3_primeOf) rfl rfl rfl (by decide +kernel) ⟨Nat.le_of_ble_eq_true rfl, Nat.le_of_ble_eq_true rfl⟩) ⟨tt_blind, (fun U hU hW => ⟨rfl, trivial⟩)⟩ rfl rfl hl.1 rfl (lv_room (Nat.le_of_ble_eq_true rfl)) dX3_putLogs_23 ⟨Nat.le_of_ble_eq_true rfl, Nat.le_of_ble_eq_true rfl⟩) (fun r_106 hr_106 => ?_)
      subst hr_106
      rw [show (if (0 : Int32) = 0 then 2 else if (0 : Int32) = 1 then 3 else if (0 : Int32) = 2 then 5 else if (0 : Int32) = 3 then 7 else 11) = (2 : Int32) from by decide]
      refine lv_irem hx hb dX3_putLogs_26 (by decide) ?_
      rw [show (3 : Int32) - 3 / 2 * 2 = 1 from by decide]
      refine lv_if_ne (tgt := 52) hx hb dX3_putLogs_27 (by decide) (fun _ => ?_) (fun c_107 => absurd c_107 (by decide))
      refine lv_iinc (v := 1) (lv' := [(4, .int 1), (3, .int 3), (0, .ref (b 0)), (1, .int n), (2, .int t9)]) hx hb dX3_putLogs_52 hl (k := 1) rfl (by decide) (by decide) rfl (fun ls hl => ?_)
      refine lv_goto (tgt := 14) hx hb dX3_putLogs_55 (by decide) ?_
      refine lv_iload hx hb dX3_putLogs_14 (lv_at hl 0 rfl) ?_
      refine lv_iconst (v := 5) hx hb dX3_putLogs_16 (by decide) ?_
      refine lv_icmp_ge (tgt := 58) hx hb dX3_putLogs_17 (by decide) (fun c_108 => absurd c_108 (by decide)) (fun _ => ?_)
      refine lv_iload_n hx hb dX3_putLogs_20 rfl (lv_at hl 1 rfl) ?_
      refine lv_iload hx hb dX3_putLogs_21 (lv_at hl 0 rfl) ?_
      refine vp_callSi (W.runS (As := [.int 1]) (rest := [.int 3]) ⟨hx, hb, hml, hown, hg⟩ (c_X3_primeOf l 1) (va_cwS 1 hg (gw_S ml_X3_54 sm_X3_primeOf ini_X3 co_X3_primeOf) rfl rfl rfl (by decide +kernel) ⟨Nat.le_of_ble_eq_true rfl, Nat.le_of_ble_eq_true rfl⟩) ⟨tt_blind, (fun U hU hW => ⟨rfl, trivial⟩)⟩ rfl rfl hl.1 rfl (lv_room (Nat.le_of_ble_eq_true rfl)) dX3_putLogs_23 ⟨Nat.le_of_ble_eq_true rfl, Nat.le_of_ble_eq_true rfl⟩) (fun r_109 hr_109 => ?_)
      subst hr_109
      rw [show (if (1 : Int32) = 0 then 2 else if (1 : Int32) = 1 then 3 else if (1 : Int32) = 2 then 5 else if (1 : Int32) = 3 then 7 else 11) = (3 : Int32) from by decide]
      refine lv_irem hx hb dX3_putLogs_26 (by decide) ?_
      rw [show (3 : Int32) - 3 / 3 * 3 = 0 from by decide]
      refine lv_if_ne (tgt := 52) hx hb dX3_putLogs_27 (by decide) (fun c_110 => absurd c_110 (by decide)) (fun _ => ?_)
      refine lv_iload_n hx hb dX3_putLogs_30 rfl (lv_at hl 1 rfl) ?_
      refine lv_iload hx hb dX3_putLogs_31 (lv_at hl 0 rfl) ?_
      refine vp_callSi (W.runS (As := [.int 1]) (rest := [.int 3]) ⟨hx, hb, hml, hown, hg⟩ (c_X3_primeOf l 1) (va_cwS 1 hg (gw_S ml_X3_54 sm_X3_primeOf ini_X3 co_X3_primeOf) rfl rfl rfl (by decide +kernel) ⟨Nat.le_of_ble_eq_true rfl, Nat.le_of_ble_eq_true rfl⟩) ⟨tt_blind, (fun U hU hW => ⟨rfl, trivial⟩)⟩ rfl rfl hl.1 rfl (lv_room (Nat.le_of_ble_eq_true rfl)) dX3_putLogs_33 ⟨Nat.le_of_ble_eq_true rfl, Nat.le_of_ble_eq_true rfl⟩) (fun r_111 hr_111 => ?_)
      subst hr_111
      rw [show (if (1 : Int32) = 0 then 2 else if (1 : Int32) = 1 then 3 else if (1 : Int32) = 2 then 5 else if (1 : Int32) = 3 then 7 else 11) = (3 : Int32) from by decide]
      refine lv_idiv hx hb dX3_putLogs_36 (by decide) ?_
      rw [show (3 : Int32) / 3 = 1 from by decide]
      refine lv_istore_n (lv' := [(3, .int 1), (4, .int 1), (0, .ref (b 0)), (1, .int n), (2, .int t9)]) hx hb dX3_putLogs_37 rfl hl (by decide) rfl (fun ls hl => ?_)
      refine lv_aload_n hx hb dX3_putLogs_38 rfl (lv_at hl 2 rfl) ?_
      refine va_get (D := D) (ci := 3) (v := .ref (b 6)) (C := RX3) (T := TX3) (N := 13) hx hb hg inX3 hown hK hP 0 rfl rfl 12 (by decide) (hg _ fl_X3_25) (fun _ h9 => h9) rfl dX3_putLogs_39 ?_
      refine lv_iload hx hb dX3_putLogs_42 (lv_at hl 1 rfl) ?_
      refine lv_dup2_11 hx hb dX3_putLogs_44 rfl rfl ?_
      refine va_iald (D := D) (n := 5) (f := (upd lg 0 v_105)) hx hb hK hP 6 0 rfl rfl (vp_in_nI (show 1 < 5 by decide) (by decide)) dX3_putLogs_45 ?_
      rw [show (1 : Int32).toNatClampNeg = 1 from by decide]
      refine lv_iload_n hx hb dX3_putLogs_46 rfl (lv_at hl 4 rfl) ?_
      refine lv_iadd hx hb dX3_putLogs_47 ?_
      refine lv_topi (fun v_112 ev_112 => ?_)
      refine va_iast (D := D) (n := 5) (f := (upd lg 0 v_105)) (x := v_112) hx hb hK hP hD hS 6 0 rfl rfl (vp_in_nI (show 1 < 5 by decide) (by decide)) dX3_putLogs_48 (fun H locs hP hD hS => ?_)
      rw [show (1 : Int32).toNatClampNeg = 1 from by decide] at hP hD
      have hP : va_P D vwCl (mw cI b cod (nI cnt) pl nm od op (zi kb) kU kD kl up dn (upd (upd lg 0 v_105) 1 v_112) ++ fr) H := hP
      have hD : va_D A (mw cI b cod (nI cnt) pl nm od op (zi kb) kU kD kl up dn (upd (upd lg 0 v_105) 1 v_112) ++ fr) := hD
      refine lv_goto (tgt := 20) hx hb dX3_putLogs_49 (by decide) ?_
      refine lv_iload_n hx hb dX3_putLogs_20 rfl (lv_at hl 0 rfl) ?_
      refine lv_iload hx hb dX3_putLogs_21 (lv_at hl 1 rfl) ?_
      refine vp_callSi (W.runS (As := [.int 1]) (rest := [.int 1]) ⟨hx, hb, hml, hown, hg⟩ (c_X3_primeOf l 1) (va_cwS 1 hg (gw_S ml_X3_54 sm_X3_primeOf ini_X3 co_X3_primeOf) rfl rfl rfl (by decide +kernel) ⟨Nat.le_of_ble_eq_true rfl, Nat.le_of_ble_eq_true rfl⟩) ⟨tt_blind, (fun U hU hW => ⟨rfl, trivial⟩)⟩ rfl rfl hl.1 rfl (lv_room (Nat.le_of_ble_eq_true rfl)) dX3_putLogs_23 ⟨Nat.le_of_ble_eq_true rfl, Nat.le_of_ble_eq_true rfl⟩) (fun r_113 hr_113 => ?_)
      subst hr_113
      rw [show (if (1 : Int32) = 0 then 2 else if (1 : Int32) = 1 then 3 else if (1 : Int32) = 2 then 5 else if (1 : Int32) = 3 then 7 else 11) = (3 : Int32) from by decide]
      refine lv_irem hx hb dX3_putLogs_26 (by decide) ?_
      rw [show (1 : Int32) - 1 / 3 * 3 = 1 from by decide]
      refine lv_if_ne (tgt := 52) hx hb dX3_putLogs_27 (by decide) (fun _ => ?_) (fun c_114 => absurd c_114 (by decide))
      refine lv_iinc (v := 2) (lv' := [(4, .int 2), (3, .int 1), (0, .ref (b 0)), (1, .int n), (2, .int t9)]) hx hb dX3_putLogs_52 hl (k := 1) rfl (by decide) (by decide) rfl (fun ls hl => ?_)
      refine lv_goto (tgt := 14) hx hb dX3_putLogs_55 (by decide) ?_
      refine lv_iload hx hb dX3_putLogs_14 (lv_at hl 0 rfl) ?_
      refine lv_iconst (v := 5) hx hb dX3_putLogs_16 (by decide) ?_
      refine lv_icmp_ge (tgt := 58) hx hb dX3_putLogs_17 (by decide) (fun c_115 => absurd c_115 (by decide)) (fun _ => ?_)
      refine lv_iload_n hx hb dX3_putLogs_20 rfl (lv_at hl 1 rfl) ?_
      refine lv_iload hx hb dX3_putLogs_21 (lv_at hl 0 rfl) ?_
      refine vp_callSi (W.runS (As := [.int 2]) (rest := [.int 1]) ⟨hx, hb, hml, hown, hg⟩ (c_X3_primeOf l 2) (va_cwS 1 hg (gw_S ml_X3_54 sm_X3_primeOf ini_X3 co_X3_primeOf) rfl rfl rfl (by decide +kernel) ⟨Nat.le_of_ble_eq_true rfl, Nat.le_of_ble_eq_true rfl⟩) ⟨tt_blind, (fun U hU hW => ⟨rfl, trivial⟩)⟩ rfl rfl hl.1 rfl (lv_room (Nat.le_of_ble_eq_true rfl)) dX3_putLogs_23 ⟨Nat.le_of_ble_eq_true rfl, Nat.le_of_ble_eq_true rfl⟩) (fun r_116 hr_116 => ?_)
      subst hr_116
      rw [show (if (2 : Int32) = 0 then 2 else if (2 : Int32) = 1 then 3 else if (2 : Int32) = 2 then 5 else if (2 : Int32) = 3 then 7 else 11) = (5 : Int32) from by decide]
      refine lv_irem hx hb dX3_putLogs_26 (by decide) ?_
      rw [show (1 : Int32) - 1 / 5 * 5 = 1 from by decide]
      refine lv_if_ne (tgt := 52) hx hb dX3_putLogs_27 (by decide) (fun _ => ?_) (fun c_117 => absurd c_117 (by decide))
      refine lv_iinc (v := 3) (lv' := [(4, .int 3), (3, .int 1), (0, .ref (b 0)), (1, .int n), (2, .int t9)]) hx hb dX3_putLogs_52 hl (k := 0) rfl (by decide) (by decide) rfl (fun ls hl => ?_)
      refine lv_goto (tgt := 14) hx hb dX3_putLogs_55 (by decide) ?_
      refine lv_iload hx hb dX3_putLogs_14 (lv_at hl 0 rfl) ?_
      refine lv_iconst (v := 5) hx hb dX3_putLogs_16 (by decide) ?_
      refine lv_icmp_ge (tgt := 58) hx hb dX3_putLogs_17 (by decide) (fun c_118 => absurd c_118 (by decide)) (fun _ => ?_)
      refine lv_iload_n hx hb dX3_putLogs_20 rfl (lv_at hl 1 rfl) ?_
      refine lv_iload hx hb dX3_putLogs_21 (lv_at hl 0 rfl) ?_
      refine vp_callSi (W.runS (As := [.int 3]) (rest := [.int 1]) ⟨hx, hb, hml, hown, hg⟩ (c_X3_primeOf l 3) (va_cwS 1 hg (gw_S ml_X3_54 sm_X3_primeOf ini_X3 co_X3_primeOf) rfl rfl rfl (by decide +kernel) ⟨Nat.le_of_ble_eq_true rfl, Nat.le_of_ble_eq_true rfl⟩) ⟨tt_blind, (fun U hU hW => ⟨rfl, trivial⟩)⟩ rfl rfl hl.1 rfl (lv_room (Nat.le_of_ble_eq_true rfl)) dX3_putLogs_23 ⟨Nat.le_of_ble_eq_true rfl, Nat.le_of_ble_eq_true rfl⟩) (fun r_119 hr_119 => ?_)
      subst hr_119
      rw [show (if (3 : Int32) = 0 then 2 else if (3 : Int32) = 1 then 3 else if (3 : Int32) = 2 then 5 else if (3 : Int32) = 3 then 7 else 11) = (7 : Int32) from by decide]
      refine lv_irem hx hb dX3_putLogs_26 (by decide) ?_
      rw [show (1 : Int32) - 1 / 7 * 7 = 1 from by decide]
      refine lv_if_ne (tgt := 52) hx hb dX3_putLogs_27 (by decide) (fun _ => ?_) (fun c_120 => absurd c_120 (by decide))
      refine lv_iinc (v := 4) (lv' := [(4, .int 4), (3, .int 1), (0, .ref (b 0)), (1, .int n), (2, .int t9)]) hx hb dX3_putLogs_52 hl (k := 0) rfl (by decide) (by decide) rfl (fun ls hl => ?_)
      refine lv_goto (tgt := 14) hx hb dX3_putLogs_55 (by decide) ?_
      refine lv_iload hx hb dX3_putLogs_14 (lv_at hl 0 rfl) ?_
      refine lv_iconst (v := 5) hx hb dX3_putLogs_16 (by decide) ?_
      refine lv_icmp_ge (tgt := 58) hx hb dX3_putLogs_17 (by decide) (fun c_121 => absurd c_121 (by decide)) (fun _ => ?_)
      refine lv_iload_n hx hb dX3_putLogs_20 rfl (lv_at hl 1 rfl) ?_
      refine lv_iload hx hb dX3_putLogs_21 (lv_at hl 0 rfl) ?_
      refine vp_callSi (W.runS (As := [.int 4]) (rest := [.int 1]) ⟨hx, hb, hml, hown, hg⟩ (c_X3_primeOf l 4) (va_cwS 1 hg (gw_S ml_X3_54 sm_X3_primeOf ini_X3 co_X3_primeOf) rfl rfl rfl (by decide +kernel) ⟨Nat.le_of_ble_eq_true rfl, Nat.le_of_ble_eq_true rfl⟩) ⟨tt_blind, (fun U hU hW => ⟨rfl, trivial⟩)⟩ rfl rfl hl.1 rfl (lv_room (Nat.le_of_ble_eq_true rfl)) dX3_putLogs_23 ⟨Nat.le_of_ble_eq_true rfl, Nat.le_of_ble_eq_true rfl⟩) (fun r_122 hr_122 => ?_)
      subst hr_122
      rw [show (if (4 : Int32) = 0 then 2 else if (4 : Int32) = 1 then 3 else if (4 : Int32) = 2 then 5 else if (4 : Int32) = 3 then 7 else 11) = (11 : Int32) from by decide]
      refine lv_irem hx hb dX3_putLogs_26 (by decide) ?_
      rw [show (1 : Int32) - 1 / 11 * 11 = 1 from by decide]
      refine lv_if_ne (tgt := 52) hx hb dX3_putLogs_27 (by decide) (fun _ => ?_) (fun c_123 => absurd c_123 (by decide))
      refine lv_iinc (v := 5) (lv' := [(4, .int 5), (3, .int 1), (0, .ref (b 0)), (1, .int n), (2, .int t9)]) hx hb dX3_putLogs_52 hl (k := 0) rfl (by decide) (by decide) rfl (fun ls hl => ?_)
      refine lv_goto (tgt := 14) hx hb dX3_putLogs_55 (by decide) ?_
      refine lv_iload hx hb dX3_putLogs_14 (lv_at hl 0 rfl) ?_
      refine lv_iconst (v := 5) hx hb dX3_putLogs_16 (by decide) ?_
      refine lv_icmp_ge (tgt := 58) hx hb dX3_putLogs_17 (by decide) (fun _ => ?_) (fun c_124 => absurd c_124 (by decide))
      have hfj : ∀ j, j < 5 → (upd (upd lg 0 v_105) 1 v_112) j = lg j + t9 * nI (x_ti (gl_prime j) 3 (nI 6)) := by
        intro j hj
        rcases (show j = 0 ∨ j = 1 ∨ j = 2 ∨ j = 3 ∨ j = 4 by omega) with rfl | rfl | rfl | rfl | rfl
        · rw [show x_ti (gl_prime 0) 3 (nI 6) = 1 from by decide, ← tm_1]; try simp [upd, ev_105, ev_112]
        · rw [show x_ti (gl_prime 1) 3 (nI 6) = 1 from by decide, ← tm_1]; try simp [upd, ev_105, ev_112]
        · rw [show x_ti (gl_prime 2) 3 (nI 6) = 0 from by decide, ← tm_0]; try simp [upd, ev_105, ev_112]
        · rw [show x_ti (gl_prime 3) 3 (nI 6) = 0 from by decide, ← tm_0]; try simp [upd, ev_105, ev_112]
        · rw [show x_ti (gl_prime 4) 3 (nI 6) = 0 from by decide, ← tm_0]; try simp [upd, ev_105, ev_112]
      have hP := hP.cg (p := 6) (g := fun j => lg j + t9 * nI (x_ti (gl_prime j) 3 (nI 6))) rfl hfj
      have hD := hD.set (p := 6) (e := .inl (cI, 5, .inl (fun j => lg j + t9 * nI (x_ti (gl_prime j) 3 (nI 6))))) rfl
      exact W.vret hx hb hr (fun t ht hW => ⟨⟨(), rfl, trivial, wd_E.at hK hP hD ht hW⟩, hS.F ht⟩) hS.2.2 dX3_putLogs_58
    · refine W.eq (g2 := F0 m 10 ls [.int 7]) rfl ?_
      refine lv_istore_n (lv' := [(3, .int 7), (0, .ref (b 0)), (1, .int n), (2, .int t9)]) hx hb dX3_putLogs_10 rfl hl (by decide) rfl (fun ls hl => ?_)
      refine lv_iconst (v := 0) hx hb dX3_putLogs_11 (by decide) ?_
      refine lv_istore (lv' := [(4, .int 0), (3, .int 7), (0, .ref (b 0)), (1, .int n), (2, .int t9)]) hx hb dX3_putLogs_12 hl (by decide) rfl (fun ls hl => ?_)
      refine lv_iload hx hb dX3_putLogs_14 (lv_at hl 0 rfl) ?_
      refine lv_iconst (v := 5) hx hb dX3_putLogs_16 (by decide) ?_
      refine lv_icmp_ge (tgt := 58) hx hb dX3_putLogs_17 (by decide) (fun c_125 => absurd c_125 (by decide)) (fun _ => ?_)
      refine lv_iload_n hx hb dX3_putLogs_20 rfl (lv_at hl 1 rfl) ?_
      refine lv_iload hx hb dX3_putLogs_21 (lv_at hl 0 rfl) ?_
      refine vp_callSi (W.runS (As := [.int 0]) (rest := [.int 7]) ⟨hx, hb, hml, hown, hg⟩ (c_X3_primeOf l 0) (va_cwS 1 hg (gw_S ml_X3_54 sm_X3_primeOf ini_X3 co_X3_primeOf) rfl rfl rfl (by decide +kernel) ⟨Nat.le_of_ble_eq_true rfl, Nat.le_of_ble_eq_true rfl⟩) ⟨tt_blind, (fun U hU hW => ⟨rfl, trivial⟩)⟩ rfl rfl hl.1 rfl (lv_room (Nat.le_of_ble_eq_true rfl)) dX3_putLogs_23 ⟨Nat.le_of_ble_eq_true rfl, Nat.le_of_ble_eq_true rfl⟩) (fun r_126 hr_126 => ?_)
      subst hr_126
      rw [show (if (0 : Int32) = 0 then 2 else if (0 : Int32) = 1 then 3 else if (0 : Int32) = 2 then 5 else if (0 : Int32) = 3 then 7 else 11) = (2 : Int32) from by decide]
      refine lv_irem hx hb dX3_putLogs_26 (by decide) ?_
      rw [show (7 : Int32) - 7 / 2 * 2 = 1 from by decide]
      refine lv_if_ne (tgt := 52) hx hb dX3_putLogs_27 (by decide) (fun _ => ?_) (fun c_127 => absurd c_127 (by decide))
      refine lv_iinc (v := 1) (lv' := [(4, .int 1), (3, .int 7), (0, .ref (b 0)), (1, .int n), (2, .int t9)]) hx hb dX3_putLogs_52 hl (k := 0) rfl (by decide) (by decide) rfl (fun ls hl => ?_)
      refine lv_goto (tgt := 14) hx hb dX3_putLogs_55 (by decide) ?_
      refine lv_iload hx hb dX3_putLogs_14 (lv_at hl 0 rfl) ?_
      refine lv_iconst (v := 5) hx hb dX3_putLogs_16 (by decide) ?_
      refine lv_icmp_ge (tgt := 58) hx hb dX3_putLogs_17 (by decide) (fun c_128 => absurd c_128 (by decide)) (fun _ => ?_)
      refine lv_iload_n hx hb dX3_putLogs_20 rfl (lv_at hl 1 rfl) ?_
      refine lv_iload hx hb dX3_putLogs_21 (lv_at hl 0 rfl) ?_
      refine vp_callSi (W.runS (As := [.int 1]) (rest := [.int 7]) ⟨hx, hb, hml, hown, hg⟩ (c_X3_primeOf l 1) (va_cwS 1 hg (gw_S ml_X3_54 sm_X3_primeOf ini_X3 co_X3_primeOf) rfl rfl rfl (by decide +kernel) ⟨Nat.le_of_ble_eq_true rfl, Nat.le_of_ble_eq_true rfl⟩) ⟨tt_blind, (fun U hU hW => ⟨rfl, trivial⟩)⟩ rfl rfl hl.1 rfl (lv_room (Nat.le_of_ble_eq_true rfl)) dX3_putLogs_23 ⟨Nat.le_of_ble_eq_true rfl, Nat.le_of_ble_eq_true rfl⟩) (fun r_129 hr_129 => ?_)
      subst hr_129
      rw [show (if (1 : Int32) = 0 then 2 else if (1 : Int32) = 1 then 3 else if (1 : Int32) = 2 then 5 else if (1 : Int32) = 3 then 7 else 11) = (3 : Int32) from by decide]
      refine lv_irem hx hb dX3_putLogs_26 (by decide) ?_
      rw [show (7 : Int32) - 7 / 3 * 3 = 1 from by decide]
      refine lv_if_ne (tgt := 52) hx hb dX3_putLogs_27 (by decide) (fun _ => ?_) (fun c_130 => absurd c_130 (by decide))
      refine lv_iinc (v := 2) (lv' := [(4, .int 2), (3, .int 7), (0, .ref (b 0)), (1, .int n), (2, .int t9)]) hx hb dX3_putLogs_52 hl (k := 0) rfl (by decide) (by decide) rfl (fun ls hl => ?_)
      refine lv_goto (tgt := 14) hx hb dX3_putLogs_55 (by decide) ?_
      refine lv_iload hx hb dX3_putLogs_14 (lv_at hl 0 rfl) ?_
      refine lv_iconst (v := 5) hx hb dX3_putLogs_16 (by decide) ?_
      refine lv_icmp_ge (tgt := 58) hx hb dX3_putLogs_17 (by decide) (fun c_131 => absurd c_131 (by decide)) (fun _ => ?_)
      refine lv_iload_n hx hb dX3_putLogs_20 rfl (lv_at hl 1 rfl) ?_
      refine lv_iload hx hb dX3_putLogs_21 (lv_at hl 0 rfl) ?_
      refine vp_callSi (W.runS (As := [.int 2]) (rest := [.int 7]) ⟨hx, hb, hml, hown, hg⟩ (c_X3_primeOf l 2) (va_cwS 1 hg (gw_S ml_X3_54 sm_X3_primeOf ini_X3 co_X3_primeOf) rfl rfl rfl (by decide +kernel) ⟨Nat.le_of_ble_eq_true rfl, Nat.le_of_ble_eq_true rfl⟩) ⟨tt_blind, (fun U hU hW => ⟨rfl, trivial⟩)⟩ rfl rfl hl.1 rfl (lv_room (Nat.le_of_ble_eq_true rfl)) dX3_putLogs_23 ⟨Nat.le_of_ble_eq_true rfl, Nat.le_of_ble_eq_true rfl⟩) (fun r_132 hr_132 => ?_)
      subst hr_132
      rw [show (if (2 : Int32) = 0 then 2 else if (2 : Int32) = 1 then 3 else if (2 : Int32) = 2 then 5 else if (2 : Int32) = 3 then 7 else 11) = (5 : Int32) from by decide]
      refine lv_irem hx hb dX3_putLogs_26 (by decide) ?_
      rw [show (7 : Int32) - 7 / 5 * 5 = 2 from by decide]
      refine lv_if_ne (tgt := 52) hx hb dX3_putLogs_27 (by decide) (fun _ => ?_) (fun c_133 => absurd c_133 (by decide))
      refine lv_iinc (v := 3) (lv' := [(4, .int 3), (3, .int 7), (0, .ref (b 0)), (1, .int n), (2, .int t9)]) hx hb dX3_putLogs_52 hl (k := 0) rfl (by decide) (by decide) rfl (fun ls hl => ?_)
      refine lv_goto (tgt := 14) hx hb dX3_putLogs_55 (by decide) ?_
      refine lv_iload hx hb dX3_putLogs_14 (lv_at hl 0 rfl) ?_
      refine lv_iconst (v := 5) hx hb dX3_putLogs_16 (by decide) ?_
      refine lv_icmp_ge (tgt := 58) hx hb dX3_putLogs_17 (by decide) (fun c_134 => absurd c_134 (by decide)) (fun _ => ?_)
      refine lv_iload_n hx hb dX3_putLogs_20 rfl (lv_at hl 1 rfl) ?_
      refine lv_iload hx hb dX3_putLogs_21 (lv_at hl 0 rfl) ?_
      refine vp_callSi (W.runS (As := [.int 3]) (rest := [.int 7]) ⟨hx, hb, hml, hown, hg⟩ (c_X3_primeOf l 3) (va_cwS 1 hg (gw_S ml_X3_54 sm_X3_primeOf ini_X3 co_X3_primeOf) rfl rfl rfl (by decide +kernel) ⟨Nat.le_of_ble_eq_true rfl, Nat.le_of_ble_eq_true rfl⟩) ⟨tt_blind, (fun U hU hW => ⟨rfl, trivial⟩)⟩ rfl rfl hl.1 rfl (lv_room (Nat.le_of_ble_eq_true rfl)) dX3_putLogs_23 ⟨Nat.le_of_ble_eq_true rfl, Nat.le_of_ble_eq_true rfl⟩) (fun r_135 hr_135 => ?_)
      subst hr_135
      rw [show (if (3 : Int32) = 0 then 2 else if (3 : Int32) = 1 then 3 else if (3 : Int32) = 2 then 5 else if (3 : Int32) = 3 then 7 else 11) = (7 : Int32) from by decide]
      refine lv_irem hx hb dX3_putLogs_26 (by decide) ?_
      rw [show (7 : Int32) - 7 / 7 * 7 = 0 from by decide]
      refine lv_if_ne (tgt := 52) hx hb dX3_putLogs_27 (by decide) (fun c_136 => absurd c_136 (by decide)) (fun _ => ?_)
      refine lv_iload_n hx hb dX3_putLogs_30 rfl (lv_at hl 1 rfl) ?_
      refine lv_iload hx hb dX3_putLogs_31 (lv_at hl 0 rfl) ?_
      refine vp_callSi (W.runS (As := [.int 3]) (rest := [.int 7]) ⟨hx, hb, hml, hown, hg⟩ (c_X3_primeOf l 3) (va_cwS 1 hg (gw_S ml_X3_54 sm_X3_primeOf ini_X3 co_X3_primeOf) rfl rfl rfl (by decide +kernel) ⟨Nat.le_of_ble_eq_true rfl, Nat.le_of_ble_eq_true rfl⟩) ⟨tt_blind, (fun U hU hW => ⟨rfl, trivial⟩)⟩ rfl rfl hl.1 rfl (lv_room (Nat.le_of_ble_eq_true rfl)) dX3_putLogs_33 ⟨Nat.le_of_ble_eq_true rfl, Nat.le_of_ble_eq_true rfl⟩) (fun r_137 hr_137 => ?_)
      subst hr_137
      rw [show (if (3 : Int32) = 0 then 2 else if (3 : Int32) = 1 then 3 else if (3 : Int32) = 2 then 5 else if (3 : Int32) = 3 then 7 else 11) = (7 : Int32) from by decide]
      refine lv_idiv hx hb dX3_putLogs_36 (by decide) ?_
      rw [show (7 : Int32) / 7 = 1 from by decide]
      refine lv_istore_n (lv' := [(3, .int 1), (4, .int 3), (0, .ref (b 0)), (1, .int n), (2, .int t9)]) hx hb dX3_putLogs_37 rfl hl (by decide) rfl (fun ls hl => ?_)
      refine lv_aload_n hx hb dX3_putLogs_38 rfl (lv_at hl 2 rfl) ?_
      refine va_get (D := D) (ci := 3) (v := .ref (b 6)) (C := RX3) (T := TX3) (N := 13) hx hb hg inX3 hown hK hP 0 rfl rfl 12 (by decide) (hg _ fl_X3_25) (fun _ h9 => h9) rfl dX3_putLogs_39 ?_
      refine lv_iload hx hb dX3_putLogs_42 (lv_at hl 1 rfl) ?_
      refine lv_dup2_11 hx hb dX3_putLogs_44 rfl rfl ?_
      refine va_iald (D := D) (n := 5) (f := lg) hx hb hK hP 6 0 rfl rfl (vp_in_nI (show 3 < 5 by decide) (by decide)) dX3_putLogs_45 ?_
      rw [show (3 : Int32).toNatClampNeg = 3 from by decide]
      refine lv_iload_n hx hb dX3_putLogs_46 rfl (lv_at hl 4 rfl) ?_
      refine lv_iadd hx hb dX3_putLogs_47 ?_
      refine lv_topi (fun v_138 ev_138 => ?_)
      refine va_iast (D := D) (n := 5) (f := lg) (x := v_138) hx hb hK hP hD hS 6 0 rfl rfl (vp_in_nI (show 3 < 5 by decide) (by decide)) dX3_putLogs_48 (fun H locs hP hD hS => ?_)
      rw [show (3 : Int32).toNatClampNeg = 3 from by decide] at hP hD
      have hP : va_P D vwCl (mw cI b cod (nI cnt) pl nm od op (zi kb) kU kD kl up dn (upd lg 3 v_138) ++ fr) H := hP
      have hD : va_D A (mw cI b cod (nI cnt) pl nm od op (zi kb) kU kD kl up dn (upd lg 3 v_138) ++ fr) := hD
      refine lv_goto (tgt := 20) hx hb dX3_putLogs_49 (by decide) ?_
      refine lv_iload_n hx hb dX3_putLogs_20 rfl (lv_at hl 0 rfl) ?_
      refine lv_iload hx hb dX3_putLogs_21 (lv_at hl 1 rfl) ?_
      refine vp_callSi (W.runS (As := [.int 3]) (rest := [.int 1]) ⟨hx, hb, hml, hown, hg⟩ (c_X3_primeOf l 3) (va_cwS 1 hg (gw_S ml_X3_54 sm_X3_primeOf ini_X3 co_X3_primeOf) rfl rfl rfl (by decide +kernel) ⟨Nat.le_of_ble_eq_true rfl, Nat.le_of_ble_eq_true rfl⟩) ⟨tt_blind, (fun U hU hW => ⟨rfl, trivial⟩)⟩ rfl rfl hl.1 rfl (lv_room (Nat.le_of_ble_eq_true rfl)) dX3_putLogs_23 ⟨Nat.le_of_ble_eq_true rfl, Nat.le_of_ble_eq_true rfl⟩) (fun r_139 hr_139 => ?_)
      subst hr_139
      rw [show (if (3 : Int32) = 0 then 2 else if (3 : Int32) = 1 then 3 else if (3 : Int32) = 2 then 5 else if (3 : Int32) = 3 then 7 else 11) = (7 : Int32) from by decide]
      refine lv_irem hx hb dX3_putLogs_26 (by decide) ?_
      rw [show (1 : Int32) - 1 / 7 * 7 = 1 from by decide]
      refine lv_if_ne (tgt := 52) hx hb dX3_putLogs_27 (by decide) (fun _ => ?_) (fun c_140 => absurd c_140 (by decide))
      refine lv_iinc (v := 4) (lv' := [(4, .int 4), (3, .int 1), (0, .ref (b 0)), (1, .int n), (2, .int t9)]) hx hb dX3_putLogs_52 hl (k := 1) rfl (by decide) (by decide) rfl (fun ls hl => ?_)
      refine lv_goto (tgt := 14) hx hb dX3_putLogs_55 (by decide) ?_
      refine lv_iload hx hb dX3_putLogs_14 (lv_at hl 0 rfl) ?_
      refine lv_iconst (v := 5) hx hb dX3_putLogs_16 (by decide) ?_
      refine lv_icmp_ge (tgt := 58) hx hb dX3_putLogs_17 (by decide) (fun c_141 => absurd c_141 (by decide)) (fun _ => ?_)
      refine lv_iload_n hx hb dX3_putLogs_20 rfl (lv_at hl 1 rfl) ?_
      refine lv_iload hx hb dX3_putLogs_21 (lv_at hl 0 rfl) ?_
      refine vp_callSi (W.runS (As := [.int 4]) (rest := [.int 1]) ⟨hx, hb, hml, hown, hg⟩ (c_X3_primeOf l 4) (va_cwS 1 hg (gw_S ml_X3_54 sm_X3_primeOf ini_X3 co_X3_primeOf) rfl rfl rfl (by decide +kernel) ⟨Nat.le_of_ble_eq_true rfl, Nat.le_of_ble_eq_true rfl⟩) ⟨tt_blind, (fun U hU hW => ⟨rfl, trivial⟩)⟩ rfl rfl hl.1 rfl (lv_room (Nat.le_of_ble_eq_true rfl)) dX3_putLogs_23 ⟨Nat.le_of_ble_eq_true rfl, Nat.le_of_ble_eq_true rfl⟩) (fun r_142 hr_142 => ?_)
      subst hr_142
      rw [show (if (4 : Int32) = 0 then 2 else if (4 : Int32) = 1 then 3 else if (4 : Int32) = 2 then 5 else if (4 : Int32) = 3 then 7 else 11) = (11 : Int32) from by decide]
      refine lv_irem hx hb dX3_putLogs_26 (by decide) ?_
      rw [show (1 : Int32) - 1 / 11 * 11 = 1 from by decide]
      refine lv_if_ne (tgt := 52) hx hb dX3_putLogs_27 (by decide) (fun _ => ?_) (fun c_143 => absurd c_143 (by decide))
      refine lv_iinc (v := 5) (lv' := [(4, .int 5), (3, .int 1), (0, .ref (b 0)), (1, .int n), (2, .int t9)]) hx hb dX3_putLogs_52 hl (k := 0) rfl (by decide) (by decide) rfl (fun ls hl => ?_)
      refine lv_goto (tgt := 14) hx hb dX3_putLogs_55 (by decide) ?_
      refine lv_iload hx hb dX3_putLogs_14 (lv_at hl 0 rfl) ?_
      refine lv_iconst (v := 5) hx hb dX3_putLogs_16 (by decide) ?_
      refine lv_icmp_ge (tgt := 58) hx hb dX3_putLogs_17 (by decide) (fun _ => ?_) (fun c_144 => absurd c_144 (by decide))
      have hfj : ∀ j, j < 5 → (upd lg 3 v_138) j = lg j + t9 * nI (x_ti (gl_prime j) 3 (nI 7)) := by
        intro j hj
        rcases (show j = 0 ∨ j = 1 ∨ j = 2 ∨ j = 3 ∨ j = 4 by omega) with rfl | rfl | rfl | rfl | rfl
        · rw [show x_ti (gl_prime 0) 3 (nI 7) = 0 from by decide, ← tm_0]; try simp [upd, ev_138]
        · rw [show x_ti (gl_prime 1) 3 (nI 7) = 0 from by decide, ← tm_0]; try simp [upd, ev_138]
        · rw [show x_ti (gl_prime 2) 3 (nI 7) = 0 from by decide, ← tm_0]; try simp [upd, ev_138]
        · rw [show x_ti (gl_prime 3) 3 (nI 7) = 1 from by decide, ← tm_1]; try simp [upd, ev_138]
        · rw [show x_ti (gl_prime 4) 3 (nI 7) = 0 from by decide, ← tm_0]; try simp [upd, ev_138]
      have hP := hP.cg (p := 6) (g := fun j => lg j + t9 * nI (x_ti (gl_prime j) 3 (nI 7))) rfl hfj
      have hD := hD.set (p := 6) (e := .inl (cI, 5, .inl (fun j => lg j + t9 * nI (x_ti (gl_prime j) 3 (nI 7))))) rfl
      exact W.vret hx hb hr (fun t ht hW => ⟨⟨(), rfl, trivial, wd_E.at hK hP hD ht hW⟩, hS.F ht⟩) hS.2.2 dX3_putLogs_58
    · refine W.eq (g2 := F0 m 10 ls [.int 8]) rfl ?_
      refine lv_istore_n (lv' := [(3, .int 8), (0, .ref (b 0)), (1, .int n), (2, .int t9)]) hx hb dX3_putLogs_10 rfl hl (by decide) rfl (fun ls hl => ?_)
      refine lv_iconst (v := 0) hx hb dX3_putLogs_11 (by decide) ?_
      refine lv_istore (lv' := [(4, .int 0), (3, .int 8), (0, .ref (b 0)), (1, .int n), (2, .int t9)]) hx hb dX3_putLogs_12 hl (by decide) rfl (fun ls hl => ?_)
      refine lv_iload hx hb dX3_putLogs_14 (lv_at hl 0 rfl) ?_
      refine lv_iconst (v := 5) hx hb dX3_putLogs_16 (by decide) ?_
      refine lv_icmp_ge (tgt := 58) hx hb dX3_putLogs_17 (by decide) (fun c_145 => absurd c_145 (by decide)) (fun _ => ?_)
      refine lv_iload_n hx hb dX3_putLogs_20 rfl (lv_at hl 1 rfl) ?_
      refine lv_iload hx hb dX3_putLogs_21 (lv_at hl 0 rfl) ?_
      refine vp_callSi (W.runS (As := [.int 0]) (rest := [.int 8]) ⟨hx, hb, hml, hown, hg⟩ (c_X3_primeOf l 0) (va_cwS 1 hg (gw_S ml_X3_54 sm_X3_primeOf ini_X3 co_X3_primeOf) rfl rfl rfl (by decide +kernel) ⟨Nat.le_of_ble_eq_true rfl, Nat.le_of_ble_eq_true rfl⟩) ⟨tt_blind, (fun U hU hW => ⟨rfl, trivial⟩)⟩ rfl rfl hl.1 rfl (lv_room (Nat.le_of_ble_eq_true rfl)) dX3_putLogs_23 ⟨Nat.le_of_ble_eq_true rfl, Nat.le_of_ble_eq_true rfl⟩) (fun r_146 hr_146 => ?_)
      subst hr_146
      rw [show (if (0 : Int32) = 0 then 2 else if (0 : Int32) = 1 then 3 else if (0 : Int32) = 2 then 5 else if (0 : Int32) = 3 then 7 else 11) = (2 : Int32) from by decide]
      refine lv_irem hx hb dX3_putLogs_26 (by decide) ?_
      rw [show (8 : Int32) - 8 / 2 * 2 = 0 from by decide]
      refine lv_if_ne (tgt := 52) hx hb dX3_putLogs_27 (by decide) (fun c_147 => absurd c_147 (by decide)) (fun _ => ?_)
      refine lv_iload_n hx hb dX3_putLogs_30 rfl (lv_at hl 1 rfl) ?_
      refine lv_iload hx hb dX3_putLogs_31 (lv_at hl 0 rfl) ?_
      refine vp_callSi (W.runS (As := [.int 0]) (rest := [.int 8]) ⟨hx, hb, hml, hown, hg⟩ (c_X3_primeOf l 0) (va_cwS 1 hg (gw_S ml_X3_54 sm_X3_primeOf ini_X3 co_X3_primeOf) rfl rfl rfl (by decide +kernel) ⟨Nat.le_of_ble_eq_true rfl, Nat.le_of_ble_eq_true rfl⟩) ⟨tt_blind, (fun U hU hW => ⟨rfl, trivial⟩)⟩ rfl rfl hl.1 rfl (lv_room (Nat.le_of_ble_eq_true rfl)) dX3_putLogs_33 ⟨Nat.le_of_ble_eq_true rfl, Nat.le_of_ble_eq_true rfl⟩) (fun r_148 hr_148 => ?_)
      subst hr_148
      rw [show (if (0 : Int32) = 0 then 2 else if (0 : Int32) = 1 then 3 else if (0 : Int32) = 2 then 5 else if (0 : Int32) = 3 then 7 else 11) = (2 : Int32) from by decide]
      refine lv_idiv hx hb dX3_putLogs_36 (by decide) ?_
      rw [show (8 : Int32) / 2 = 4 from by decide]
      refine lv_istore_n (lv' := [(3, .int 4), (4, .int 0), (0, .ref (b 0)), (1, .int n), (2, .int t9)]) hx hb dX3_putLogs_37 rfl hl (by decide) rfl (fun ls hl => ?_)
      refine lv_aload_n hx hb dX3_putLogs_38 rfl (lv_at hl 2 rfl) ?_
      refine va_get (D := D) (ci := 3) (v := .ref (b 6)) (C := RX3) (T := TX3) (N := 13) hx hb hg inX3 hown hK hP 0 rfl rfl 12 (by decide) (hg _ fl_X3_25) (fun _ h9 => h9) rfl dX3_putLogs_39 ?_
      refine lv_iload hx hb dX3_putLogs_42 (lv_at hl 1 rfl) ?_
      refine lv_dup2_11 hx hb dX3_putLogs_44 rfl rfl ?_
      refine va_iald (D := D) (n := 5) (f := lg) hx hb hK hP 6 0 rfl rfl (vp_in_nI (show 0 < 5 by decide) (by decide)) dX3_putLogs_45 ?_
      rw [show (0 : Int32).toNatClampNeg = 0 from by decide]
      refine lv_iload_n hx hb dX3_putLogs_46 rfl (lv_at hl 4 rfl) ?_
      refine lv_iadd hx hb dX3_putLogs_47 ?_
      refine lv_topi (fun v_149 ev_149 => ?_)
      refine va_iast (D := D) (n := 5) (f := lg) (x := v_149) hx hb hK hP hD hS 6 0 rfl rfl (vp_in_nI (show 0 < 5 by decide) (by decide)) dX3_putLogs_48 (fun H locs hP hD hS => ?_)
      rw [show (0 : Int32).toNatClampNeg = 0 from by decide] at hP hD
      have hP : va_P D vwCl (mw cI b cod (nI cnt) pl nm od op (zi kb) kU kD kl up dn (upd lg 0 v_149) ++ fr) H := hP
      have hD : va_D A (mw cI b cod (nI cnt) pl nm od op (zi kb) kU kD kl up dn (upd lg 0 v_149) ++ fr) := hD
      refine lv_goto (tgt := 20) hx hb dX3_putLogs_49 (by decide) ?_
      refine lv_iload_n hx hb dX3_putLogs_20 rfl (lv_at hl 0 rfl) ?_
      refine lv_iload hx hb dX3_putLogs_21 (lv_at hl 1 rfl) ?_
      refine vp_callSi (W.runS (As := [.int 0]) (rest := [.int 4]) ⟨hx, hb, hml, hown, hg⟩ (c_X3_primeOf l 0) (va_cwS 1 hg (gw_S ml_X3_54 sm_X3_primeOf ini_X3 co_X3_primeOf) rfl rfl rfl (by decide +kernel) ⟨Nat.le_of_ble_eq_true rfl, Nat.le_of_ble_eq_true rfl⟩) ⟨tt_blind, (fun U hU hW => ⟨rfl, trivial⟩)⟩ rfl rfl hl.1 rfl (lv_room (Nat.le_of_ble_eq_true rfl)) dX3_putLogs_23 ⟨Nat.le_of_ble_eq_true rfl, Nat.le_of_ble_eq_true rfl⟩) (fun r_150 hr_150 => ?_)
      subst hr_150
      rw [show (if (0 : Int32) = 0 then 2 else if (0 : Int32) = 1 then 3 else if (0 : Int32) = 2 then 5 else if (0 : Int32) = 3 then 7 else 11) = (2 : Int32) from by decide]
      refine lv_irem hx hb dX3_putLogs_26 (by decide) ?_
      rw [show (4 : Int32) - 4 / 2 * 2 = 0 from by decide]
      refine lv_if_ne (tgt := 52) hx hb dX3_putLogs_27 (by decide) (fun c_151 => absurd c_151 (by decide)) (fun _ => ?_)
      refine lv_iload_n hx hb dX3_putLogs_30 rfl (lv_at hl 0 rfl) ?_
      refine lv_iload hx hb dX3_putLogs_31 (lv_at hl 1 rfl) ?_
      refine vp_callSi (W.runS (As := [.int 0]) (rest := [.int 4]) ⟨hx, hb, hml, hown, hg⟩ (c_X3_primeOf l 0) (va_cwS 1 hg (gw_S ml_X3_54 sm_X3_primeOf ini_X3 co_X3_primeOf) rfl rfl rfl (by decide +kernel) ⟨Nat.le_of_ble_eq_true rfl, Nat.le_of_ble_eq_true rfl⟩) ⟨tt_blind, (fun U hU hW => ⟨rfl, trivial⟩)⟩ rfl rfl hl.1 rfl (lv_room (Nat.le_of_ble_eq_true rfl)) dX3_putLogs_33 ⟨Nat.le_of_ble_eq_true rfl, Nat.le_of_ble_eq_true rfl⟩) (fun r_152 hr_152 => ?_)
      subst hr_152
      rw [show (if (0 : Int32) = 0 then 2 else if (0 : Int32) = 1 then 3 else if (0 : Int32) = 2 then 5 else if (0 : Int32) = 3 then 7 else 11) = (2 : Int32) from by decide]
      refine lv_idiv hx hb dX3_putLogs_36 (by decide) ?_
      rw [show (4 : Int32) / 2 = 2 from by decide]
      refine lv_istore_n (lv' := [(3, .int 2), (4, .int 0), (0, .ref (b 0)), (1, .int n), (2, .int t9)]) hx hb dX3_putLogs_37 rfl hl (by decide) rfl (fun ls hl => ?_)
      refine lv_aload_n hx hb dX3_putLogs_38 rfl (lv_at hl 2 rfl) ?_
      refine va_get (D := D) (ci := 3) (v := .ref (b 6)) (C := RX3) (T := TX3) (N := 13) hx hb hg inX3 hown hK hP 0 rfl rfl 12 (by decide) (hg _ fl_X3_25) (fun _ h9 => h9) rfl dX3_putLogs_39 ?_
      refine lv_iload hx hb dX3_putLogs_42 (lv_at hl 1 rfl) ?_
      refine lv_dup2_11 hx hb dX3_putLogs_44 rfl rfl ?_
      refine va_iald (D := D) (n := 5) (f := (upd lg 0 v_149)) hx hb hK hP 6 0 rfl rfl (vp_in_nI (show 0 < 5 by decide) (by decide)) dX3_putLogs_45 ?_
      rw [show (0 : Int32).toNatClampNeg = 0 from by decide]
      refine lv_iload_n hx hb dX3_putLogs_46 rfl (lv_at hl 4 rfl) ?_
      refine lv_iadd hx hb dX3_putLogs_47 ?_
      refine lv_topi (fun v_153 ev_153 => ?_)
      refine va_iast (D := D) (n := 5) (f := (upd lg 0 v_149)) (x := v_153) hx hb hK hP hD hS 6 0 rfl rfl (vp_in_nI (show 0 < 5 by decide) (by decide)) dX3_putLogs_48 (fun H locs hP hD hS => ?_)
      rw [show (0 : Int32).toNatClampNeg = 0 from by decide] at hP hD
      have hP : va_P D vwCl (mw cI b cod (nI cnt) pl nm od op (zi kb) kU kD kl up dn (upd (upd lg 0 v_149) 0 v_153) ++ fr) H := hP
      have hD : va_D A (mw cI b cod (nI cnt) pl nm od op (zi kb) kU kD kl up dn (upd (upd lg 0 v_149) 0 v_153) ++ fr) := hD
      refine lv_goto (tgt := 20) hx hb dX3_putLogs_49 (by decide) ?_
      refine lv_iload_n hx hb dX3_putLogs_20 rfl (lv_at hl 0 rfl) ?_
      refine lv_iload hx hb dX3_putLogs_21 (lv_at hl 1 rfl) ?_
      refine vp_callSi (W.runS (As := [.int 0]) (rest := [.int 2]) ⟨hx, hb, hml, hown, hg⟩ (c_X3_primeOf l 0) (va_cwS 1 hg (gw_S ml_X3_54 sm_X3_primeOf ini_X3 co_X3_primeOf) rfl rfl rfl (by decide +kernel) ⟨Nat.le_of_ble_eq_true rfl, Nat.le_of_ble_eq_true rfl⟩) ⟨tt_blind, (fun U hU hW => ⟨rfl, trivial⟩)⟩ rfl rfl hl.1 rfl (lv_room (Nat.le_of_ble_eq_true rfl)) dX3_putLogs_23 ⟨Nat.le_of_ble_eq_true rfl, Nat.le_of_ble_eq_true rfl⟩) (fun r_154 hr_154 => ?_)
      subst hr_154
      rw [show (if (0 : Int32) = 0 then 2 else if (0 : Int32) = 1 then 3 else if (0 : Int32) = 2 then 5 else if (0 : Int32) = 3 then 7 else 11) = (2 : Int32) from by decide]
      refine lv_irem hx hb dX3_putLogs_26 (by decide) ?_
      rw [show (2 : Int32) - 2 / 2 * 2 = 0 from by decide]
      refine lv_if_ne (tgt := 52) hx hb dX3_putLogs_27 (by decide) (fun c_155 => absurd c_155 (by decide)) (fun _ => ?_)
      refine lv_iload_n hx hb dX3_putLogs_30 rfl (lv_at hl 0 rfl) ?_
      refine lv_iload hx hb dX3_putLogs_31 (lv_at hl 1 rfl) ?_
      refine vp_callSi (W.runS (As := [.int 0]) (rest := [.int 2]) ⟨hx, hb, hml, hown, hg⟩ (c_X3_primeOf l 0) (va_cwS 1 hg (gw_S ml_X3_54 sm_X3_primeOf ini_X3 co_X3_primeOf) rfl rfl rfl (by decide +kernel) ⟨Nat.le_of_ble_eq_true rfl, Nat.le_of_ble_eq_true rfl⟩) ⟨tt_blind, (fun U hU hW => ⟨rfl, trivial⟩)⟩ rfl rfl hl.1 rfl (lv_room (Nat.le_of_ble_eq_true rfl)) dX3_putLogs_33 ⟨Nat.le_of_ble_eq_true rfl, Nat.le_of_ble_eq_true rfl⟩) (fun r_156 hr_156 => ?_)
      subst hr_156
      rw [show (if (0 : Int32) = 0 then 2 else if (0 : Int32) = 1 then 3 else if (0 : Int32) = 2 then 5 else if (0 : Int32) = 3 then 7 else 11) = (2 : Int32) from by decide]
      refine lv_idiv hx hb dX3_putLogs_36 (by decide) ?_
      rw [show (2 : Int32) / 2 = 1 from by decide]
      refine lv_istore_n (lv' := [(3, .int 1), (4, .int 0), (0, .ref (b 0)), (1, .int n), (2, .int t9)]) hx hb dX3_putLogs_37 rfl hl (by decide) rfl (fun ls hl => ?_)
      refine lv_aload_n hx hb dX3_putLogs_38 rfl (lv_at hl 2 rfl) ?_
      refine va_get (D := D) (ci := 3) (v := .ref (b 6)) (C := RX3) (T := TX3) (N := 13) hx hb hg inX3 hown hK hP 0 rfl rfl 12 (by decide) (hg _ fl_X3_25) (fun _ h9 => h9) rfl dX3_putLogs_39 ?_
      refine lv_iload hx hb dX3_putLogs_42 (lv_at hl 1 rfl) ?_
      refine lv_dup2_11 hx hb dX3_putLogs_44 rfl rfl ?_
      refine va_iald (D := D) (n := 5) (f := (upd (upd lg 0 v_149) 0 v_153)) hx hb hK hP 6 0 rfl rfl (vp_in_nI (show 0 < 5 by decide) (by decide)) dX3_putLogs_45 ?_
      rw [show (0 : Int32).toNatClampNeg = 0 from by decide]
      refine lv_iload_n hx hb dX3_putLogs_46 rfl (lv_at hl 4 rfl) ?_
      refine lv_iadd hx hb dX3_putLogs_47 ?_
      refine lv_topi (fun v_157 ev_157 => ?_)
      refine va_iast (D := D) (n := 5) (f := (upd (upd lg 0 v_149) 0 v_153)) (x := v_157) hx hb hK hP hD hS 6 0 rfl rfl (vp_in_nI (show 0 < 5 by decide) (by decide)) dX3_putLogs_48 (fun H locs hP hD hS => ?_)
      rw [show (0 : Int32).toNatClampNeg = 0 from by decide] at hP hD
      have hP : va_P D vwCl (mw cI b cod (nI cnt) pl nm od op (zi kb) kU kD kl up dn (upd (upd (upd lg 0 v_149) 0 v_153) 0 v_157) ++ fr) H := hP
      have hD : va_D A (mw cI b cod (nI cnt) pl nm od op (zi kb) kU kD kl up dn (upd (upd (upd lg 0 v_149) 0 v_153) 0 v_157) ++ fr) := hD
      refine lv_goto (tgt := 20) hx hb dX3_putLogs_49 (by decide) ?_
      refine lv_iload_n hx hb dX3_putLogs_20 rfl (lv_at hl 0 rfl) ?_
      refine lv_iload hx hb dX3_putLogs_21 (lv_at hl 1 rfl) ?_
      refine vp_callSi (W.runS (As := [.int 0]) (rest := [.int 1]) ⟨hx, hb, hml, hown, hg⟩ (c_X3_primeOf l 0) (va_cwS 1 hg (gw_S ml_X3_54 sm_X3_primeOf ini_X3 co_X3_primeOf) rfl rfl rfl (by decide +kernel) ⟨Nat.le_of_ble_eq_true rfl, Nat.le_of_ble_eq_true rfl⟩) ⟨tt_blind, (fun U hU hW => ⟨rfl, trivial⟩)⟩ rfl rfl hl.1 rfl (lv_room (Nat.le_of_ble_eq_true rfl)) dX3_putLogs_23 ⟨Nat.le_of_ble_eq_true rfl, Nat.le_of_ble_eq_true rfl⟩) (fun r_158 hr_158 => ?_)
      subst hr_158
      rw [show (if (0 : Int32) = 0 then 2 else if (0 : Int32) = 1 then 3 else if (0 : Int32) = 2 then 5 else if (0 : Int32) = 3 then 7 else 11) = (2 : Int32) from by decide]
      refine lv_irem hx hb dX3_putLogs_26 (by decide) ?_
      rw [show (1 : Int32) - 1 / 2 * 2 = 1 from by decide]
      refine lv_if_ne (tgt := 52) hx hb dX3_putLogs_27 (by decide) (fun _ => ?_) (fun c_159 => absurd c_159 (by decide))
      refine lv_iinc (v := 1) (lv' := [(4, .int 1), (3, .int 1), (0, .ref (b 0)), (1, .int n), (2, .int t9)]) hx hb dX3_putLogs_52 hl (k := 1) rfl (by decide) (by decide) rfl (fun ls hl => ?_)
      refine lv_goto (tgt := 14) hx hb dX3_putLogs_55 (by decide) ?_
      refine lv_iload hx hb dX3_putLogs_14 (lv_at hl 0 rfl) ?_
      refine lv_iconst (v := 5) hx hb dX3_putLogs_16 (by decide) ?_
      refine lv_icmp_ge (tgt := 58) hx hb dX3_putLogs_17 (by decide) (fun c_160 => absurd c_160 (by decide)) (fun _ => ?_)
      refine lv_iload_n hx hb dX3_putLogs_20 rfl (lv_at hl 1 rfl) ?_
      refine lv_iload hx hb dX3_putLogs_21 (lv_at hl 0 rfl) ?_
      refine vp_callSi (W.runS (As := [.int 1]) (rest := [.int 1]) ⟨hx, hb, hml, hown, hg⟩ (c_X3_primeOf l 1) (va_cwS 1 hg (gw_S ml_X3_54 sm_X3_primeOf ini_X3 co_X3_primeOf) rfl rfl rfl (by decide +kernel) ⟨Nat.le_of_ble_eq_true rfl, Nat.le_of_ble_eq_true rfl⟩) ⟨tt_blind, (fun U hU hW => ⟨rfl, trivial⟩)⟩ rfl rfl hl.1 rfl (lv_room (Nat.le_of_ble_eq_true rfl)) dX3_putLogs_23 ⟨Nat.le_of_ble_eq_true rfl, Nat.le_of_ble_eq_true rfl⟩) (fun r_161 hr_161 => ?_)
      subst hr_161
      rw [show (if (1 : Int32) = 0 then 2 else if (1 : Int32) = 1 then 3 else if (1 : Int32) = 2 then 5 else if (1 : Int32) = 3 then 7 else 11) = (3 : Int32) from by decide]
      refine lv_irem hx hb dX3_putLogs_26 (by decide) ?_
      rw [show (1 : Int32) - 1 / 3 * 3 = 1 from by decide]
      refine lv_if_ne (tgt := 52) hx hb dX3_putLogs_27 (by decide) (fun _ => ?_) (fun c_162 => absurd c_162 (by decide))
      refine lv_iinc (v := 2) (lv' := [(4, .int 2), (3, .int 1), (0, .ref (b 0)), (1, .int n), (2, .int t9)]) hx hb dX3_putLogs_52 hl (k := 0) rfl (by decide) (by decide) rfl (fun ls hl => ?_)
      refine lv_goto (tgt := 14) hx hb dX3_putLogs_55 (by decide) ?_
      refine lv_iload hx hb dX3_putLogs_14 (lv_at hl 0 rfl) ?_
      refine lv_iconst (v := 5) hx hb dX3_putLogs_16 (by decide) ?_
      refine lv_icmp_ge (tgt := 58) hx hb dX3_putLogs_17 (by decide) (fun c_163 => absurd c_163 (by decide)) (fun _ => ?_)
      refine lv_iload_n hx hb dX3_putLogs_20 rfl (lv_at hl 1 rfl) ?_
      refine lv_iload hx hb dX3_putLogs_21 (lv_at hl 0 rfl) ?_
      refine vp_callSi (W.runS (As := [.int 2]) (rest := [.int 1]) ⟨hx, hb, hml, hown, hg⟩ (c_X3_primeOf l 2) (va_cwS 1 hg (gw_S ml_X3_54 sm_X3_primeOf ini_X3 co_X3_primeOf) rfl rfl rfl (by decide +kernel) ⟨Nat.le_of_ble_eq_true rfl, Nat.le_of_ble_eq_true rfl⟩) ⟨tt_blind, (fun U hU hW => ⟨rfl, trivial⟩)⟩ rfl rfl hl.1 rfl (lv_room (Nat.le_of_ble_eq_true rfl)) dX3_putLogs_23 ⟨Nat.le_of_ble_eq_true rfl, Nat.le_of_ble_eq_true rfl⟩) (fun r_164 hr_164 => ?_)
      subst hr_164
      rw [show (if (2 : Int32) = 0 then 2 else if (2 : Int32) = 1 then 3 else if (2 : Int32) = 2 then 5 else if (2 : Int32) = 3 then 7 else 11) = (5 : Int32) from by decide]
      refine lv_irem hx hb dX3_putLogs_26 (by decide) ?_
      rw [show (1 : Int32) - 1 / 5 * 5 = 1 from by decide]
      refine lv_if_ne (tgt := 52) hx hb dX3_putLogs_27 (by decide) (fun _ => ?_) (fun c_165 => absurd c_165 (by decide))
      refine lv_iinc (v := 3) (lv' := [(4, .int 3), (3, .int 1), (0, .ref (b 0)), (1, .int n), (2, .int t9)]) hx hb dX3_putLogs_52 hl (k := 0) rfl (by decide) (by decide) rfl (fun ls hl => ?_)
      refine lv_goto (tgt := 14) hx hb dX3_putLogs_55 (by decide) ?_
      refine lv_iload hx hb dX3_putLogs_14 (lv_at hl 0 rfl) ?_
      refine lv_iconst (v := 5) hx hb dX3_putLogs_16 (by decide) ?_
      refine lv_icmp_ge (tgt := 58) hx hb dX3_putLogs_17 (by decide) (fun c_166 => absurd c_166 (by decide)) (fun _ => ?_)
      refine lv_iload_n hx hb dX3_putLogs_20 rfl (lv_at hl 1 rfl) ?_
      refine lv_iload hx hb dX3_putLogs_21 (lv_at hl 0 rfl) ?_
      refine vp_callSi (W.runS (As := [.int 3]) (rest := [.int 1]) ⟨hx, hb, hml, hown, hg⟩ (c_X3_primeOf l 3) (va_cwS 1 hg (gw_S ml_X3_54 sm_X3_primeOf ini_X3 co_X3_primeOf) rfl rfl rfl (by decide +kernel) ⟨Nat.le_of_ble_eq_true rfl, Nat.le_of_ble_eq_true rfl⟩) ⟨tt_blind, (fun U hU hW => ⟨rfl, trivial⟩)⟩ rfl rfl hl.1 rfl (lv_room (Nat.le_of_ble_eq_true rfl)) dX3_putLogs_23 ⟨Nat.le_of_ble_eq_true rfl, Nat.le_of_ble_eq_true rfl⟩) (fun r_167 hr_167 => ?_)
      subst hr_167
      rw [show (if (3 : Int32) = 0 then 2 else if (3 : Int32) = 1 then 3 else if (3 : Int32) = 2 then 5 else if (3 : Int32) = 3 then 7 else 11) = (7 : Int32) from by decide]
      refine lv_irem hx hb dX3_putLogs_26 (by decide) ?_
      rw [show (1 : Int32) - 1 / 7 * 7 = 1 from by decide]
      refine lv_if_ne (tgt := 52) hx hb dX3_putLogs_27 (by decide) (fun _ => ?_) (fun c_168 => absurd c_168 (by decide))
      refine lv_iinc (v := 4) (lv' := [(4, .int 4), (3, .int 1), (0, .ref (b 0)), (1, .int n), (2, .int t9)]) hx hb dX3_putLogs_52 hl (k := 0) rfl (by decide) (by decide) rfl (fun ls hl => ?_)
      refine lv_goto (tgt := 14) hx hb dX3_putLogs_55 (by decide) ?_
      refine lv_iload hx hb dX3_putLogs_14 (lv_at hl 0 rfl) ?_
      refine lv_iconst (v := 5) hx hb dX3_putLogs_16 (by decide) ?_
      refine lv_icmp_ge (tgt := 58) hx hb dX3_putLogs_17 (by decide) (fun c_169 => absurd c_169 (by decide)) (fun _ => ?_)
      refine lv_iload_n hx hb dX3_putLogs_20 rfl (lv_at hl 1 rfl) ?_
      refine lv_iload hx hb dX3_putLogs_21 (lv_at hl 0 rfl) ?_
      refine vp_callSi (W.runS (As := [.int 4]) (rest := [.int 1]) ⟨hx, hb, hml, hown, hg⟩ (c_X3_primeOf l 4) (va_cwS 1 hg (gw_S ml_X3_54 sm_X3_primeOf ini_X3 co_X3_primeOf) rfl rfl rfl (by decide +kernel) ⟨Nat.le_of_ble_eq_true rfl, Nat.le_of_ble_eq_true rfl⟩) ⟨tt_blind, (fun U hU hW => ⟨rfl, trivial⟩)⟩ rfl rfl hl.1 rfl (lv_room (Nat.le_of_ble_eq_true rfl)) dX3_putLogs_23 ⟨Nat.le_of_ble_eq_true rfl, Nat.le_of_ble_eq_true rfl⟩) (fun r_170 hr_170 => ?_)
      subst hr_170
      rw [show (if (4 : Int32) = 0 then 2 else if (4 : Int32) = 1 then 3 else if (4 : Int32) = 2 then 5 else if (4 : Int32) = 3 then 7 else 11) = (11 : Int32) from by decide]
      refine lv_irem hx hb dX3_putLogs_26 (by decide) ?_
      rw [show (1 : Int32) - 1 / 11 * 11 = 1 from by decide]
      refine lv_if_ne (tgt := 52) hx hb dX3_putLogs_27 (by decide) (fun _ => ?_) (fun c_171 => absurd c_171 (by decide))
      refine lv_iinc (v := 5) (lv' := [(4, .int 5), (3, .int 1), (0, .ref (b 0)), (1, .int n), (2, .int t9)]) hx hb dX3_putLogs_52 hl (k := 0) rfl (by decide) (by decide) rfl (fun ls hl => ?_)
      refine lv_goto (tgt := 14) hx hb dX3_putLogs_55 (by decide) ?_
      refine lv_iload hx hb dX3_putLogs_14 (lv_at hl 0 rfl) ?_
      refine lv_iconst (v := 5) hx hb dX3_putLogs_16 (by decide) ?_
      refine lv_icmp_ge (tgt := 58) hx hb dX3_putLogs_17 (by decide) (fun _ => ?_) (fun c_172 => absurd c_172 (by decide))
      have hfj : ∀ j, j < 5 → (upd (upd (upd lg 0 v_149) 0 v_153) 0 v_157) j = lg j + t9 * nI (x_ti (gl_prime j) 3 (nI 8)) := by
        intro j hj
        rcases (show j = 0 ∨ j = 1 ∨ j = 2 ∨ j = 3 ∨ j = 4 by omega) with rfl | rfl | rfl | rfl | rfl
        · rw [show x_ti (gl_prime 0) 3 (nI 8) = 3 from by decide, ← tm_3]; try simp [upd, ev_149, ev_153, ev_157]
        · rw [show x_ti (gl_prime 1) 3 (nI 8) = 0 from by decide, ← tm_0]; try simp [upd, ev_149, ev_153, ev_157]
        · rw [show x_ti (gl_prime 2) 3 (nI 8) = 0 from by decide, ← tm_0]; try simp [upd, ev_149, ev_153, ev_157]
        · rw [show x_ti (gl_prime 3) 3 (nI 8) = 0 from by decide, ← tm_0]; try simp [upd, ev_149, ev_153, ev_157]
        · rw [show x_ti (gl_prime 4) 3 (nI 8) = 0 from by decide, ← tm_0]; try simp [upd, ev_149, ev_153, ev_157]
      have hP := hP.cg (p := 6) (g := fun j => lg j + t9 * nI (x_ti (gl_prime j) 3 (nI 8))) rfl hfj
      have hD := hD.set (p := 6) (e := .inl (cI, 5, .inl (fun j => lg j + t9 * nI (x_ti (gl_prime j) 3 (nI 8))))) rfl
      exact W.vret hx hb hr (fun t ht hW => ⟨⟨(), rfl, trivial, wd_E.at hK hP hD ht hW⟩, hS.F ht⟩) hS.2.2 dX3_putLogs_58
    · refine W.eq (g2 := F0 m 10 ls [.int 9]) rfl ?_
      refine lv_istore_n (lv' := [(3, .int 9), (0, .ref (b 0)), (1, .int n), (2, .int t9)]) hx hb dX3_putLogs_10 rfl hl (by decide) rfl (fun ls hl => ?_)
      refine lv_iconst (v := 0) hx hb dX3_putLogs_11 (by decide) ?_
      refine lv_istore (lv' := [(4, .int 0), (3, .int 9), (0, .ref (b 0)), (1, .int n), (2, .int t9)]) hx hb dX3_putLogs_12 hl (by decide) rfl (fun ls hl => ?_)
      refine lv_iload hx hb dX3_putLogs_14 (lv_at hl 0 rfl) ?_
      refine lv_iconst (v := 5) hx hb dX3_putLogs_16 (by decide) ?_
      refine lv_icmp_ge (tgt := 58) hx hb dX3_putLogs_17 (by decide) (fun c_173 => absurd c_173 (by decide)) (fun _ => ?_)
      refine lv_iload_n hx hb dX3_putLogs_20 rfl (lv_at hl 1 rfl) ?_
      refine lv_iload hx hb dX3_putLogs_21 (lv_at hl 0 rfl) ?_
      refine vp_callSi (W.runS (As := [.int 0]) (rest := [.int 9]) ⟨hx, hb, hml, hown, hg⟩ (c_X3_primeOf l 0) (va_cwS 1 hg (gw_S ml_X3_54 sm_X3_primeOf ini_X3 co_X3_primeOf) rfl rfl rfl (by decide +kernel) ⟨Nat.le_of_ble_eq_true rfl, Nat.le_of_ble_eq_true rfl⟩) ⟨tt_blind, (fun U hU hW => ⟨rfl, trivial⟩)⟩ rfl rfl hl.1 rfl (lv_room (Nat.le_of_ble_eq_true rfl)) dX3_putLogs_23 ⟨Nat.le_of_ble_eq_true rfl, Nat.le_of_ble_eq_true rfl⟩) (fun r_174 hr_174 => ?_)
      subst hr_174
      rw [show (if (0 : Int32) = 0 then 2 else if (0 : Int32) = 1 then 3 else if (0 : Int32) = 2 then 5 else if (0 : Int32) = 3 then 7 else 11) = (2 : Int32) from by decide]
      refine lv_irem hx hb dX3_putLogs_26 (by decide) ?_
      rw [show (9 : Int32) - 9 / 2 * 2 = 1 from by decide]
      refine lv_if_ne (tgt := 52) hx hb dX3_putLogs_27 (by decide) (fun _ => ?_) (fun c_175 => absurd c_175 (by decide))
      refine lv_iinc (v := 1) (lv' := [(4, .int 1), (3, .int 9), (0, .ref (b 0)), (1, .int n), (2, .int t9)]) hx hb dX3_putLogs_52 hl (k := 0) rfl (by decide) (by decide) rfl (fun ls hl => ?_)
      refine lv_goto (tgt := 14) hx hb dX3_putLogs_55 (by decide) ?_
      refine lv_iload hx hb dX3_putLogs_14 (lv_at hl 0 rfl) ?_
      refine lv_iconst (v := 5) hx hb dX3_putLogs_16 (by decide) ?_
      refine lv_icmp_ge (tgt := 58) hx hb dX3_putLogs_17 (by decide) (fun c_176 => absurd c_176 (by decide)) (fun _ => ?_)
      refine lv_iload_n hx hb dX3_putLogs_20 rfl (lv_at hl 1 rfl) ?_
      refine lv_iload hx hb dX3_putLogs_21 (lv_at hl 0 rfl) ?_
      refine vp_callSi (W.runS (As := [.int 1]) (rest := [.int 9]) ⟨hx, hb, hml, hown, hg⟩ (c_X3_primeOf l 1) (va_cwS 1 hg (gw_S ml_X3_54 sm_X3_primeOf ini_X3 co_X3_primeOf) rfl rfl rfl (by decide +kernel) ⟨Nat.le_of_ble_eq_true rfl, Nat.le_of_ble_eq_true rfl⟩) ⟨tt_blind, (fun U hU hW => ⟨rfl, trivial⟩)⟩ rfl rfl hl.1 rfl (lv_room (Nat.le_of_ble_eq_true rfl)) dX3_putLogs_23 ⟨Nat.le_of_ble_eq_true rfl, Nat.le_of_ble_eq_true rfl⟩) (fun r_177 hr_177 => ?_)
      subst hr_177
      rw [show (if (1 : Int32) = 0 then 2 else if (1 : Int32) = 1 then 3 else if (1 : Int32) = 2 then 5 else if (1 : Int32) = 3 then 7 else 11) = (3 : Int32) from by decide]
      refine lv_irem hx hb dX3_putLogs_26 (by decide) ?_
      rw [show (9 : Int32) - 9 / 3 * 3 = 0 from by decide]
      refine lv_if_ne (tgt := 52) hx hb dX3_putLogs_27 (by decide) (fun c_178 => absurd c_178 (by decide)) (fun _ => ?_)
      refine lv_iload_n hx hb dX3_putLogs_30 rfl (lv_at hl 1 rfl) ?_
      refine lv_iload hx hb dX3_putLogs_31 (lv_at hl 0 rfl) ?_
      refine vp_callSi (W.runS (As := [.int 1]) (rest := [.int 9]) ⟨hx, hb, hml, hown, hg⟩ (c_X3_primeOf l 1) (va_cwS 1 hg (gw_S ml_X3_54 sm_X3_primeOf ini_X3 co_X3_primeOf) rfl rfl rfl (by decide +kernel) ⟨Nat.le_of_ble_eq_true rfl, Nat.le_of_ble_eq_true rfl⟩) ⟨tt_blind, (fun U hU hW => ⟨rfl, trivial⟩)⟩ rfl rfl hl.1 rfl (lv_room (Nat.le_of_ble_eq_true rfl)) dX3_putLogs_33 ⟨Nat.le_of_ble_eq_true rfl, Nat.le_of_ble_eq_true rfl⟩) (fun r_179 hr_179 => ?_)
      subst hr_179
      rw [show (if (1 : Int32) = 0 then 2 else if (1 : Int32) = 1 then 3 else if (1 : Int32) = 2 then 5 else if (1 : Int32) = 3 then 7 else 11) = (3 : Int32) from by decide]
      refine lv_idiv hx hb dX3_putLogs_36 (by decide) ?_
      rw [show (9 : Int32) / 3 = 3 from by decide]
      refine lv_istore_n (lv' := [(3, .int 3), (4, .int 1), (0, .ref (b 0)), (1, .int n), (2, .int t9)]) hx hb dX3_putLogs_37 rfl hl (by decide) rfl (fun ls hl => ?_)
      refine lv_aload_n hx hb dX3_putLogs_38 rfl (lv_at hl 2 rfl) ?_
      refine va_get (D := D) (ci := 3) (v := .ref (b 6)) (C := RX3) (T := TX3) (N := 13) hx hb hg inX3 hown hK hP 0 rfl rfl 12 (by decide) (hg _ fl_X3_25) (fun _ h9 => h9) rfl dX3_putLogs_39 ?_
      refine lv_iload hx hb dX3_putLogs_42 (lv_at hl 1 rfl) ?_
      refine lv_dup2_11 hx hb dX3_putLogs_44 rfl rfl ?_
      refine va_iald (D := D) (n := 5) (f := lg) hx hb hK hP 6 0 rfl rfl (vp_in_nI (show 1 < 5 by decide) (by decide)) dX3_putLogs_45 ?_
      rw [show (1 : Int32).toNatClampNeg = 1 from by decide]
      refine lv_iload_n hx hb dX3_putLogs_46 rfl (lv_at hl 4 rfl) ?_
      refine lv_iadd hx hb dX3_putLogs_47 ?_
      refine lv_topi (fun v_180 ev_180 => ?_)
      refine va_iast (D := D) (n := 5) (f := lg) (x := v_180) hx hb hK hP hD hS 6 0 rfl rfl (vp_in_nI (show 1 < 5 by decide) (by decide)) dX3_putLogs_48 (fun H locs hP hD hS => ?_)
      rw [show (1 : Int32).toNatClampNeg = 1 from by decide] at hP hD
      have hP : va_P D vwCl (mw cI b cod (nI cnt) pl nm od op (zi kb) kU kD kl up dn (upd lg 1 v_180) ++ fr) H := hP
      have hD : va_D A (mw cI b cod (nI cnt) pl nm od op (zi kb) kU kD kl up dn (upd lg 1 v_180) ++ fr) := hD
      refine lv_goto (tgt := 20) hx hb dX3_putLogs_49 (by decide) ?_
      refine lv_iload_n hx hb dX3_putLogs_20 rfl (lv_at hl 0 rfl) ?_
      refine lv_iload hx hb dX3_putLogs_21 (lv_at hl 1 rfl) ?_
      refine vp_callSi (W.runS (As := [.int 1]) (rest := [.int 3]) ⟨hx, hb, hml, hown, hg⟩ (c_X3_primeOf l 1) (va_cwS 1 hg (gw_S ml_X3_54 sm_X3_primeOf ini_X3 co_X3_primeOf) rfl rfl rfl (by decide +kernel) ⟨Nat.le_of_ble_eq_true rfl, Nat.le_of_ble_eq_true rfl⟩) ⟨tt_blind, (fun U hU hW => ⟨rfl, trivial⟩)⟩ rfl rfl hl.1 rfl (lv_room (Nat.le_of_ble_eq_true rfl)) dX3_putLogs_23 ⟨Nat.le_of_ble_eq_true rfl, Nat.le_of_ble_eq_true rfl⟩) (fun r_181 hr_181 => ?_)
      subst hr_181
      rw [show (if (1 : Int32) = 0 then 2 else if (1 : Int32) = 1 then 3 else if (1 : Int32) = 2 then 5 else if (1 : Int32) = 3 then 7 else 11) = (3 : Int32) from by decide]
      refine lv_irem hx hb dX3_putLogs_26 (by decide) ?_
      rw [show (3 : Int32) - 3 / 3 * 3 = 0 from by decide]
      refine lv_if_ne (tgt := 52) hx hb dX3_putLogs_27 (by decide) (fun c_182 => absurd c_182 (by decide)) (fun _ => ?_)
      refine lv_iload_n hx hb dX3_putLogs_30 rfl (lv_at hl 0 rfl) ?_
      refine lv_iload hx hb dX3_putLogs_31 (lv_at hl 1 rfl) ?_
      refine vp_callSi (W.runS (As := [.int 1]) (rest := [.int 3]) ⟨hx, hb, hml, hown, hg⟩ (c_X3_primeOf l 1) (va_cwS 1 hg (gw_S ml_X3_54 sm_X3_primeOf ini_X3 co_X3_primeOf) rfl rfl rfl (by decide +kernel) ⟨Nat.le_of_ble_eq_true rfl, Nat.le_of_ble_eq_true rfl⟩) ⟨tt_blind, (fun U hU hW => ⟨rfl, trivial⟩)⟩ rfl rfl hl.1 rfl (lv_room (Nat.le_of_ble_eq_true rfl)) dX3_putLogs_33 ⟨Nat.le_of_ble_eq_true rfl, Nat.le_of_ble_eq_true rfl⟩) (fun r_183 hr_183 => ?_)
      subst hr_183
      rw [show (if (1 : Int32) = 0 then 2 else if (1 : Int32) = 1 then 3 else if (1 : Int32) = 2 then 5 else if (1 : Int32) = 3 then 7 else 11) = (3 : Int32) from by decide]
      refine lv_idiv hx hb dX3_putLogs_36 (by decide) ?_
      rw [show (3 : Int32) / 3 = 1 from by decide]
      refine lv_istore_n (lv' := [(3, .int 1), (4, .int 1), (0, .ref (b 0)), (1, .int n), (2, .int t9)]) hx hb dX3_putLogs_37 rfl hl (by decide) rfl (fun ls hl => ?_)
      refine lv_aload_n hx hb dX3_putLogs_38 rfl (lv_at hl 2 rfl) ?_
      refine va_get (D := D) (ci := 3) (v := .ref (b 6)) (C := RX3) (T := TX3) (N := 13) hx hb hg inX3 hown hK hP 0 rfl rfl 12 (by decide) (hg _ fl_X3_25) (fun _ h9 => h9) rfl dX3_putLogs_39 ?_
      refine lv_iload hx hb dX3_putLogs_42 (lv_at hl 1 rfl) ?_
      refine lv_dup2_11 hx hb dX3_putLogs_44 rfl rfl ?_
      refine va_iald (D := D) (n := 5) (f := (upd lg 1 v_180)) hx hb hK hP 6 0 rfl rfl (vp_in_nI (show 1 < 5 by decide) (by decide)) dX3_putLogs_45 ?_
      rw [show (1 : Int32).toNatClampNeg = 1 from by decide]
      refine lv_iload_n hx hb dX3_putLogs_46 rfl (lv_at hl 4 rfl) ?_
      refine lv_iadd hx hb dX3_putLogs_47 ?_
      refine lv_topi (fun v_184 ev_184 => ?_)
      refine va_iast (D := D) (n := 5) (f := (upd lg 1 v_180)) (x := v_184) hx hb hK hP hD hS 6 0 rfl rfl (vp_in_nI (show 1 < 5 by decide) (by decide)) dX3_putLogs_48 (fun H locs hP hD hS => ?_)
      rw [show (1 : Int32).toNatClampNeg = 1 from by decide] at hP hD
      have hP : va_P D vwCl (mw cI b cod (nI cnt) pl nm od op (zi kb) kU kD kl up dn (upd (upd lg 1 v_180) 1 v_184) ++ fr) H := hP
      have hD : va_D A (mw cI b cod (nI cnt) pl nm od op (zi kb) kU kD kl up dn (upd (upd lg 1 v_180) 1 v_184) ++ fr) := hD
      refine lv_goto (tgt := 20) hx hb dX3_putLogs_49 (by decide) ?_
      refine lv_iload_n hx hb dX3_putLogs_20 rfl (lv_at hl 0 rfl) ?_
      refine lv_iload hx hb dX3_putLogs_21 (lv_at hl 1 rfl) ?_
      refine vp_callSi (W.runS (As := [.int 1]) (rest := [.int 1]) ⟨hx, hb, hml, hown, hg⟩ (c_X3_primeOf l 1) (va_cwS 1 hg (gw_S ml_X3_54 sm_X3_primeOf ini_X3 co_X3_primeOf) rfl rfl rfl (by decide +kernel) ⟨Nat.le_of_ble_eq_true rfl, Nat.le_of_ble_eq_true rfl⟩) ⟨tt_blind, (fun U hU hW => ⟨rfl, trivial⟩)⟩ rfl rfl hl.1 rfl (lv_room (Nat.le_of_ble_eq_true rfl)) dX3_putLogs_23 ⟨Nat.le_of_ble_eq_true rfl, Nat.le_of_ble_eq_true rfl⟩) (fun r_185 hr_185 => ?_)
      subst hr_185
      rw [show (if (1 : Int32) = 0 then 2 else if (1 : Int32) = 1 then 3 else if (1 : Int32) = 2 then 5 else if (1 : Int32) = 3 then 7 else 11) = (3 : Int32) from by decide]
      refine lv_irem hx hb dX3_putLogs_26 (by decide) ?_
      rw [show (1 : Int32) - 1 / 3 * 3 = 1 from by decide]
      refine lv_if_ne (tgt := 52) hx hb dX3_putLogs_27 (by decide) (fun _ => ?_) (fun c_186 => absurd c_186 (by decide))
      refine lv_iinc (v := 2) (lv' := [(4, .int 2), (3, .int 1), (0, .ref (b 0)), (1, .int n), (2, .int t9)]) hx hb dX3_putLogs_52 hl (k := 1) rfl (by decide) (by decide) rfl (fun ls hl => ?_)
      refine lv_goto (tgt := 14) hx hb dX3_putLogs_55 (by decide) ?_
      refine lv_iload hx hb dX3_putLogs_14 (lv_at hl 0 rfl) ?_
      refine lv_iconst (v := 5) hx hb dX3_putLogs_16 (by decide) ?_
      refine lv_icmp_ge (tgt := 58) hx hb dX3_putLogs_17 (by decide) (fun c_187 => absurd c_187 (by decide)) (fun _ => ?_)
      refine lv_iload_n hx hb dX3_putLogs_20 rfl (lv_at hl 1 rfl) ?_
      refine lv_iload hx hb dX3_putLogs_21 (lv_at hl 0 rfl) ?_
      refine vp_callSi (W.runS (As := [.int 2]) (rest := [.int 1]) ⟨hx, hb, hml, hown, hg⟩ (c_X3_primeOf l 2) (va_cwS 1 hg (gw_S ml_X3_54 sm_X3_primeOf ini_X3 co_X3_primeOf) rfl rfl rfl (by decide +kernel) ⟨Nat.le_of_ble_eq_true rfl, Nat.le_of_ble_eq_true rfl⟩) ⟨tt_blind, (fun U hU hW => ⟨rfl, trivial⟩)⟩ rfl rfl hl.1 rfl (lv_room (Nat.le_of_ble_eq_true rfl)) dX3_putLogs_23 ⟨Nat.le_of_ble_eq_true rfl, Nat.le_of_ble_eq_true rfl⟩) (fun r_188 hr_188 => ?_)
      subst hr_188
      rw [show (if (2 : Int32) = 0 then 2 else if (2 : Int32) = 1 then 3 else if (2 : Int32) = 2 then 5 else if (2 : Int32) = 3 then 7 else 11) = (5 : Int32) from by decide]
      refine lv_irem hx hb dX3_putLogs_26 (by decide) ?_
      rw [show (1 : Int32) - 1 / 5 * 5 = 1 from by decide]
      refine lv_if_ne (tgt := 52) hx hb dX3_putLogs_27 (by decide) (fun _ => ?_) (fun c_189 => absurd c_189 (by decide))
      refine lv_iinc (v := 3) (lv' := [(4, .int 3), (3, .int 1), (0, .ref (b 0)), (1, .int n), (2, .int t9)]) hx hb dX3_putLogs_52 hl (k := 0) rfl (by decide) (by decide) rfl (fun ls hl => ?_)
      refine lv_goto (tgt := 14) hx hb dX3_putLogs_55 (by decide) ?_
      refine lv_iload hx hb dX3_putLogs_14 (lv_at hl 0 rfl) ?_
      refine lv_iconst (v := 5) hx hb dX3_putLogs_16 (by decide) ?_
      refine lv_icmp_ge (tgt := 58) hx hb dX3_putLogs_17 (by decide) (fun c_190 => absurd c_190 (by decide)) (fun _ => ?_)
      refine lv_iload_n hx hb dX3_putLogs_20 rfl (lv_at hl 1 rfl) ?_
      refine lv_iload hx hb dX3_putLogs_21 (lv_at hl 0 rfl) ?_
      refine vp_callSi (W.runS (As := [.int 3]) (rest := [.int 1]) ⟨hx, hb, hml, hown, hg⟩ (c_X3_primeOf l 3) (va_cwS 1 hg (gw_S ml_X3_54 sm_X3_primeOf ini_X3 co_X3_primeOf) rfl rfl rfl (by decide +kernel) ⟨Nat.le_of_ble_eq_true rfl, Nat.le_of_ble_eq_true rfl⟩) ⟨tt_blind, (fun U hU hW => ⟨rfl, trivial⟩)⟩ rfl rfl hl.1 rfl (lv_room (Nat.le_of_ble_eq_true rfl)) dX3_putLogs_23 ⟨Nat.le_of_ble_eq_true rfl, Nat.le_of_ble_eq_true rfl⟩) (fun r_191 hr_191 => ?_)
      subst hr_191
      rw [show (if (3 : Int32) = 0 then 2 else if (3 : Int32) = 1 then 3 else if (3 : Int32) = 2 then 5 else if (3 : Int32) = 3 then 7 else 11) = (7 : Int32) from by decide]
      refine lv_irem hx hb dX3_putLogs_26 (by decide) ?_
      rw [show (1 : Int32) - 1 / 7 * 7 = 1 from by decide]
      refine lv_if_ne (tgt := 52) hx hb dX3_putLogs_27 (by decide) (fun _ => ?_) (fun c_192 => absurd c_192 (by decide))
      refine lv_iinc (v := 4) (lv' := [(4, .int 4), (3, .int 1), (0, .ref (b 0)), (1, .int n), (2, .int t9)]) hx hb dX3_putLogs_52 hl (k := 0) rfl (by decide) (by decide) rfl (fun ls hl => ?_)
      refine lv_goto (tgt := 14) hx hb dX3_putLogs_55 (by decide) ?_
      refine lv_iload hx hb dX3_putLogs_14 (lv_at hl 0 rfl) ?_
      refine lv_iconst (v := 5) hx hb dX3_putLogs_16 (by decide) ?_
      refine lv_icmp_ge (tgt := 58) hx hb dX3_putLogs_17 (by decide) (fun c_193 => absurd c_193 (by decide)) (fun _ => ?_)
      refine lv_iload_n hx hb dX3_putLogs_20 rfl (lv_at hl 1 rfl) ?_
      refine lv_iload hx hb dX3_putLogs_21 (lv_at hl 0 rfl) ?_
      refine vp_callSi (W.runS (As := [.int 4]) (rest := [.int 1]) ⟨hx, hb, hml, hown, hg⟩ (c_X3_primeOf l 4) (va_cwS 1 hg (gw_S ml_X3_54 sm_X3_primeOf ini_X3 co_X3_primeOf) rfl rfl rfl (by decide +kernel) ⟨Nat.le_of_ble_eq_true rfl, Nat.le_of_ble_eq_true rfl⟩) ⟨tt_blind, (fun U hU hW => ⟨rfl, trivial⟩)⟩ rfl rfl hl.1 rfl (lv_room (Nat.le_of_ble_eq_true rfl)) dX3_putLogs_23 ⟨Nat.le_of_ble_eq_true rfl, Nat.le_of_ble_eq_true rfl⟩) (fun r_194 hr_194 => ?_)
      subst hr_194
      rw [show (if (4 : Int32) = 0 then 2 else if (4 : Int32) = 1 then 3 else if (4 : Int32) = 2 then 5 else if (4 : Int32) = 3 then 7 else 11) = (11 : Int32) from by decide]
      refine lv_irem hx hb dX3_putLogs_26 (by decide) ?_
      rw [show (1 : Int32) - 1 / 11 * 11 = 1 from by decide]
      refine lv_if_ne (tgt := 52) hx hb dX3_putLogs_27 (by decide) (fun _ => ?_) (fun c_195 => absurd c_195 (by decide))
      refine lv_iinc (v := 5) (lv' := [(4, .int 5), (3, .int 1), (0, .ref (b 0)), (1, .int n), (2, .int t9)]) hx hb dX3_putLogs_52 hl (k := 0) rfl (by decide) (by decide) rfl (fun ls hl => ?_)
      refine lv_goto (tgt := 14) hx hb dX3_putLogs_55 (by decide) ?_
      refine lv_iload hx hb dX3_putLogs_14 (lv_at hl 0 rfl) ?_
      refine lv_iconst (v := 5) hx hb dX3_putLogs_16 (by decide) ?_
      refine lv_icmp_ge (tgt := 58) hx hb dX3_putLogs_17 (by decide) (fun _ => ?_) (fun c_196 => absurd c_196 (by decide))
      have hfj : ∀ j, j < 5 → (upd (upd lg 1 v_180) 1 v_184) j = lg j + t9 * nI (x_ti (gl_prime j) 3 (nI 9)) := by
        intro j hj
        rcases (show j = 0 ∨ j = 1 ∨ j = 2 ∨ j = 3 ∨ j = 4 by omega) with rfl | rfl | rfl | rfl | rfl
        · rw [show x_ti (gl_prime 0) 3 (nI 9) = 0 from by decide, ← tm_0]; try simp [upd, ev_180, ev_184]
        · rw [show x_ti (gl_prime 1) 3 (nI 9) = 2 from by decide, ← tm_2]; try simp [upd, ev_180, ev_184]
        · rw [show x_ti (gl_prime 2) 3 (nI 9) = 0 from by decide, ← tm_0]; try simp [upd, ev_180, ev_184]
        · rw [show x_ti (gl_prime 3) 3 (nI 9) = 0 from by decide, ← tm_0]; try simp [upd, ev_180, ev_184]
        · rw [show x_ti (gl_prime 4) 3 (nI 9) = 0 from by decide, ← tm_0]; try simp [upd, ev_180, ev_184]
      have hP := hP.cg (p := 6) (g := fun j => lg j + t9 * nI (x_ti (gl_prime j) 3 (nI 9))) rfl hfj
      have hD := hD.set (p := 6) (e := .inl (cI, 5, .inl (fun j => lg j + t9 * nI (x_ti (gl_prime j) 3 (nI 9))))) rfl
      exact W.vret hx hb hr (fun t ht hW => ⟨⟨(), rfl, trivial, wd_E.at hK hP hD ht hW⟩, hS.F ht⟩) hS.2.2 dX3_putLogs_58
    · refine W.eq (g2 := F0 m 10 ls [.int 10]) rfl ?_
      refine lv_istore_n (lv' := [(3, .int 10), (0, .ref (b 0)), (1, .int n), (2, .int t9)]) hx hb dX3_putLogs_10 rfl hl (by decide) rfl (fun ls hl => ?_)
      refine lv_iconst (v := 0) hx hb dX3_putLogs_11 (by decide) ?_
      refine lv_istore (lv' := [(4, .int 0), (3, .int 10), (0, .ref (b 0)), (1, .int n), (2, .int t9)]) hx hb dX3_putLogs_12 hl (by decide) rfl (fun ls hl => ?_)
      refine lv_iload hx hb dX3_putLogs_14 (lv_at hl 0 rfl) ?_
      refine lv_iconst (v := 5) hx hb dX3_putLogs_16 (by decide) ?_
      refine lv_icmp_ge (tgt := 58) hx hb dX3_putLogs_17 (by decide) (fun c_197 => absurd c_197 (by decide)) (fun _ => ?_)
      refine lv_iload_n hx hb dX3_putLogs_20 rfl (lv_at hl 1 rfl) ?_
      refine lv_iload hx hb dX3_putLogs_21 (lv_at hl 0 rfl) ?_
      refine vp_callSi (W.runS (As := [.int 0]) (rest := [.int 10]) ⟨hx, hb, hml, hown, hg⟩ (c_X3_primeOf l 0) (va_cwS 1 hg (gw_S ml_X3_54 sm_X3_primeOf ini_X3 co_X3_primeOf) rfl rfl rfl (by decide +kernel) ⟨Nat.le_of_ble_eq_true rfl, Nat.le_of_ble_eq_true rfl⟩) ⟨tt_blind, (fun U hU hW => ⟨rfl, trivial⟩)⟩ rfl rfl hl.1 rfl (lv_room (Nat.le_of_ble_eq_true rfl)) dX3_putLogs_23 ⟨Nat.le_of_ble_eq_true rfl, Nat.le_of_ble_eq_true rfl⟩) (fun r_198 hr_198 => ?_)
      subst hr_198
      rw [show (if (0 : Int32) = 0 then 2 else if (0 : Int32) = 1 then 3 else if (0 : Int32) = 2 then 5 else if (0 : Int32) = 3 then 7 else 11) = (2 : Int32) from by decide]
      refine lv_irem hx hb dX3_putLogs_26 (by decide) ?_
      rw [show (10 : Int32) - 10 / 2 * 2 = 0 from by decide]
      refine lv_if_ne (tgt := 52) hx hb dX3_putLogs_27 (by decide) (fun c_199 => absurd c_199 (by decide)) (fun _ => ?_)
      refine lv_iload_n hx hb dX3_putLogs_30 rfl (lv_at hl 1 rfl) ?_
      refine lv_iload hx hb dX3_putLogs_31 (lv_at hl 0 rfl) ?_
      refine vp_callSi (W.runS (As := [.int 0]) (rest := [.int 10]) ⟨hx, hb, hml, hown, hg⟩ (c_X3_primeOf l 0) (va_cwS 1 hg (gw_S ml_X3_54 sm_X3_primeOf ini_X3 co_X3_primeOf) rfl rfl rfl (by decide +kernel) ⟨Nat.le_of_ble_eq_true rfl, Nat.le_of_ble_eq_true rfl⟩) ⟨tt_blind, (fun U hU hW => ⟨rfl, trivial⟩)⟩ rfl rfl hl.1 rfl (lv_room (Nat.le_of_ble_eq_true rfl)) dX3_putLogs_33 ⟨Nat.le_of_ble_eq_true rfl, Nat.le_of_ble_eq_true rfl⟩) (fun r_200 hr_200 => ?_)
      subst hr_200
      rw [show (if (0 : Int32) = 0 then 2 else if (0 : Int32) = 1 then 3 else if (0 : Int32) = 2 then 5 else if (0 : Int32) = 3 then 7 else 11) = (2 : Int32) from by decide]
      refine lv_idiv hx hb dX3_putLogs_36 (by decide) ?_
      rw [show (10 : Int32) / 2 = 5 from by decide]
      refine lv_istore_n (lv' := [(3, .int 5), (4, .int 0), (0, .ref (b 0)), (1, .int n), (2, .int t9)]) hx hb dX3_putLogs_37 rfl hl (by decide) rfl (fun ls hl => ?_)
      refine lv_aload_n hx hb dX3_putLogs_38 rfl (lv_at hl 2 rfl) ?_
      refine va_get (D := D) (ci := 3) (v := .ref (b 6)) (C := RX3) (T := TX3) (N := 13) hx hb hg inX3 hown hK hP 0 rfl rfl 12 (by decide) (hg _ fl_X3_25) (fun _ h9 => h9) rfl dX3_putLogs_39 ?_
      refine lv_iload hx hb dX3_putLogs_42 (lv_at hl 1 rfl) ?_
      refine lv_dup2_11 hx hb dX3_putLogs_44 rfl rfl ?_
      refine va_iald (D := D) (n := 5) (f := lg) hx hb hK hP 6 0 rfl rfl (vp_in_nI (show 0 < 5 by decide) (by decide)) dX3_putLogs_45 ?_
      rw [show (0 : Int32).toNatClampNeg = 0 from by decide]
      refine lv_iload_n hx hb dX3_putLogs_46 rfl (lv_at hl 4 rfl) ?_
      refine lv_iadd hx hb dX3_putLogs_47 ?_
      refine lv_topi (fun v_201 ev_201 => ?_)
      refine va_iast (D := D) (n := 5) (f := lg) (x := v_201) hx hb hK hP hD hS 6 0 rfl rfl (vp_in_nI (show 0 < 5 by decide) (by decide)) dX3_putLogs_48 (fun H locs hP hD hS => ?_)
      rw [show (0 : Int32).toNatClampNeg = 0 from by decide] at hP hD
      have hP : va_P D vwCl (mw cI b cod (nI cnt) pl nm od op (zi kb) kU kD kl up dn (upd lg 0 v_201) ++ fr) H := hP
      have hD : va_D A (mw cI b cod (nI cnt) pl nm od op (zi kb) kU kD kl up dn (upd lg 0 v_201) ++ fr) := hD
      refine lv_goto (tgt := 20) hx hb dX3_putLogs_49 (by decide) ?_
      refine lv_iload_n hx hb dX3_putLogs_20 rfl (lv_at hl 0 rfl) ?_
      refine lv_iload hx hb dX3_putLogs_21 (lv_at hl 1 rfl) ?_
      refine vp_callSi (W.runS (As := [.int 0]) (rest := [.int 5]) ⟨hx, hb, hml, hown, hg⟩ (c_X3_primeOf l 0) (va_cwS 1 hg (gw_S ml_X3_54 sm_X3_primeOf ini_X3 co_X3_primeOf) rfl rfl rfl (by decide +kernel) ⟨Nat.le_of_ble_eq_true rfl, Nat.le_of_ble_eq_true rfl⟩) ⟨tt_blind, (fun U hU hW => ⟨rfl, trivial⟩)⟩ rfl rfl hl.1 rfl (lv_room (Nat.le_of_ble_eq_true rfl)) dX3_putLogs_23 ⟨Nat.le_of_ble_eq_true rfl, Nat.le_of_ble_eq_true rfl⟩) (fun r_202 hr_202 => ?_)
      subst hr_202
      rw [show (if (0 : Int32) = 0 then 2 else if (0 : Int32) = 1 then 3 else if (0 : Int32) = 2 then 5 else if (0 : Int32) = 3 then 7 else 11) = (2 : Int32) from by decide]
      refine lv_irem hx hb dX3_putLogs_26 (by decide) ?_
      rw [show (5 : Int32) - 5 / 2 * 2 = 1 from by decide]
      refine lv_if_ne (tgt := 52) hx hb dX3_putLogs_27 (by decide) (fun _ => ?_) (fun c_203 => absurd c_203 (by decide))
      refine lv_iinc (v := 1) (lv' := [(4, .int 1), (3, .int 5), (0, .ref (b 0)), (1, .int n), (2, .int t9)]) hx hb dX3_putLogs_52 hl (k := 1) rfl (by decide) (by decide) rfl (fun ls hl => ?_)
      refine lv_goto (tgt := 14) hx hb dX3_putLogs_55 (by decide) ?_
      refine lv_iload hx hb dX3_putLogs_14 (lv_at hl 0 rfl) ?_
      refine lv_iconst (v := 5) hx hb dX3_putLogs_16 (by decide) ?_
      refine lv_icmp_ge (tgt := 58) hx hb dX3_putLogs_17 (by decide) (fun c_204 => absurd c_204 (by decide)) (fun _ => ?_)
      refine lv_iload_n hx hb dX3_putLogs_20 rfl (lv_at hl 1 rfl) ?_
      refine lv_iload hx hb dX3_putLogs_21 (lv_at hl 0 rfl) ?_
      refine vp_callSi (W.runS (As := [.int 1]) (rest := [.int 5]) ⟨hx, hb, hml, hown, hg⟩ (c_X3_primeOf l 1) (va_cwS 1 hg (gw_S ml_X3_54 sm_X3_primeOf ini_X3 co_X3_primeOf) rfl rfl rfl (by decide +kernel) ⟨Nat.le_of_ble_eq_true rfl, Nat.le_of_ble_eq_true rfl⟩) ⟨tt_blind, (fun U hU hW => ⟨rfl, trivial⟩)⟩ rfl rfl hl.1 rfl (lv_room (Nat.le_of_ble_eq_true rfl)) dX3_putLogs_23 ⟨Nat.le_of_ble_eq_true rfl, Nat.le_of_ble_eq_true rfl⟩) (fun r_205 hr_205 => ?_)
      subst hr_205
      rw [show (if (1 : Int32) = 0 then 2 else if (1 : Int32) = 1 then 3 else if (1 : Int32) = 2 then 5 else if (1 : Int32) = 3 then 7 else 11) = (3 : Int32) from by decide]
      refine lv_irem hx hb dX3_putLogs_26 (by decide) ?_
      rw [show (5 : Int32) - 5 / 3 * 3 = 2 from by decide]
      refine lv_if_ne (tgt := 52) hx hb dX3_putLogs_27 (by decide) (fun _ => ?_) (fun c_206 => absurd c_206 (by decide))
      refine lv_iinc (v := 2) (lv' := [(4, .int 2), (3, .int 5), (0, .ref (b 0)), (1, .int n), (2, .int t9)]) hx hb dX3_putLogs_52 hl (k := 0) rfl (by decide) (by decide) rfl (fun ls hl => ?_)
      refine lv_goto (tgt := 14) hx hb dX3_putLogs_55 (by decide) ?_
      refine lv_iload hx hb dX3_putLogs_14 (lv_at hl 0 rfl) ?_
      refine lv_iconst (v := 5) hx hb dX3_putLogs_16 (by decide) ?_
      refine lv_icmp_ge (tgt := 58) hx hb dX3_putLogs_17 (by decide) (fun c_207 => absurd c_207 (by decide)) (fun _ => ?_)
      refine lv_iload_n hx hb dX3_putLogs_20 rfl (lv_at hl 1 rfl) ?_
      refine lv_iload hx hb dX3_putLogs_21 (lv_at hl 0 rfl) ?_
      refine vp_callSi (W.runS (As := [.int 2]) (rest := [.int 5]) ⟨hx, hb, hml, hown, hg⟩ (c_X3_primeOf l 2) (va_cwS 1 hg (gw_S ml_X3_54 sm_X3_primeOf ini_X3 co_X3_primeOf) rfl rfl rfl (by decide +kernel) ⟨Nat.le_of_ble_eq_true rfl, Nat.le_of_ble_eq_true rfl⟩) ⟨tt_blind, (fun U hU hW => ⟨rfl, trivial⟩)⟩ rfl rfl hl.1 rfl (lv_room (Nat.le_of_ble_eq_true rfl)) dX3_putLogs_23 ⟨Nat.le_of_ble_eq_true rfl, Nat.le_of_ble_eq_true rfl⟩) (fun r_208 hr_208 => ?_)
      subst hr_208
      rw [show (if (2 : Int32) = 0 then 2 else if (2 : Int32) = 1 then 3 else if (2 : Int32) = 2 then 5 else if (2 : Int32) = 3 then 7 else 11) = (5 : Int32) from by decide]
      refine lv_irem hx hb dX3_putLogs_26 (by decide) ?_
      rw [show (5 : Int32) - 5 / 5 * 5 = 0 from by decide]
      refine lv_if_ne (tgt := 52) hx hb dX3_putLogs_27 (by decide) (fun c_209 => absurd c_209 (by decide)) (fun _ => ?_)
      refine lv_iload_n hx hb dX3_putLogs_30 rfl (lv_at hl 1 rfl) ?_
      refine lv_iload hx hb dX3_putLogs_31 (lv_at hl 0 rfl) ?_
      refine vp_callSi (W.runS (As := [.int 2]) (rest := [.int 5]) ⟨hx, hb, hml, hown, hg⟩ (c_X3_primeOf l 2) (va_cwS 1 hg (gw_S ml_X3_54 sm_X3_primeOf ini_X3 co_X3_primeOf) rfl rfl rfl (by decide +kernel) ⟨Nat.le_of_ble_eq_true rfl, Nat.le_of_ble_eq_true rfl⟩) ⟨tt_blind, (fun U hU hW => ⟨rfl, trivial⟩)⟩ rfl rfl hl.1 rfl (lv_room (Nat.le_of_ble_eq_true rfl)) dX3_putLogs_33 ⟨Nat.le_of_ble_eq_true rfl, Nat.le_of_ble_eq_true rfl⟩) (fun r_210 hr_210 => ?_)
      subst hr_210
      rw [show (if (2 : Int32) = 0 then 2 else if (2 : Int32) = 1 then 3 else if (2 : Int32) = 2 then 5 else if (2 : Int32) = 3 then 7 else 11) = (5 : Int32) from by decide]
      refine lv_idiv hx hb dX3_putLogs_36 (by decide) ?_
      rw [show (5 : Int32) / 5 = 1 from by decide]
      refine lv_istore_n (lv' := [(3, .int 1), (4, .int 2), (0, .ref (b 0)), (1, .int n), (2, .int t9)]) hx hb dX3_putLogs_37 rfl hl (by decide) rfl (fun ls hl => ?_)
      refine lv_aload_n hx hb dX3_putLogs_38 rfl (lv_at hl 2 rfl) ?_
      refine va_get (D := D) (ci := 3) (v := .ref (b 6)) (C := RX3) (T := TX3) (N := 13) hx hb hg inX3 hown hK hP 0 rfl rfl 12 (by decide) (hg _ fl_X3_25) (fun _ h9 => h9) rfl dX3_putLogs_39 ?_
      refine lv_iload hx hb dX3_putLogs_42 (lv_at hl 1 rfl) ?_
      refine lv_dup2_11 hx hb dX3_putLogs_44 rfl rfl ?_
      refine va_iald (D := D) (n := 5) (f := (upd lg 0 v_201)) hx hb hK hP 6 0 rfl rfl (vp_in_nI (show 2 < 5 by decide) (by decide)) dX3_putLogs_45 ?_
      rw [show (2 : Int32).toNatClampNeg = 2 from by decide]
      refine lv_iload_n hx hb dX3_putLogs_46 rfl (lv_at hl 4 rfl) ?_
      refine lv_iadd hx hb dX3_putLogs_47 ?_
      refine lv_topi (fun v_211 ev_211 => ?_)
      refine va_iast (D := D) (n := 5) (f := (upd lg 0 v_201)) (x := v_211) hx hb hK hP hD hS 6 0 rfl rfl (vp_in_nI (show 2 < 5 by decide) (by decide)) dX3_putLogs_48 (fun H locs hP hD hS => ?_)
      rw [show (2 : Int32).toNatClampNeg = 2 from by decide] at hP hD
      have hP : va_P D vwCl (mw cI b cod (nI cnt) pl nm od op (zi kb) kU kD kl up dn (upd (upd lg 0 v_201) 2 v_211) ++ fr) H := hP
      have hD : va_D A (mw cI b cod (nI cnt) pl nm od op (zi kb) kU kD kl up dn (upd (upd lg 0 v_201) 2 v_211) ++ fr) := hD
      refine lv_goto (tgt := 20) hx hb dX3_putLogs_49 (by decide) ?_
      refine lv_iload_n hx hb dX3_putLogs_20 rfl (lv_at hl 0 rfl) ?_
      refine lv_iload hx hb dX3_putLogs_21 (lv_at hl 1 rfl) ?_
      refine vp_callSi (W.runS (As := [.int 2]) (rest := [.int 1]) ⟨hx, hb, hml, hown, hg⟩ (c_X3_primeOf l 2) (va_cwS 1 hg (gw_S ml_X3_54 sm_X3_primeOf ini_X3 co_X3_primeOf) rfl rfl rfl (by decide +kernel) ⟨Nat.le_of_ble_eq_true rfl, Nat.le_of_ble_eq_true rfl⟩) ⟨tt_blind, (fun U hU hW => ⟨rfl, trivial⟩)⟩ rfl rfl hl.1 rfl (lv_room (Nat.le_of_ble_eq_true rfl)) dX3_putLogs_23 ⟨Nat.le_of_ble_eq_true rfl, Nat.le_of_ble_eq_true rfl⟩) (fun r_212 hr_212 => ?_)
      subst hr_212
      rw [show (if (2 : Int32) = 0 then 2 else if (2 : Int32) = 1 then 3 else if (2 : Int32) = 2 then 5 else if (2 : Int32) = 3 then 7 else 11) = (5 : Int32) from by decide]
      refine lv_irem hx hb dX3_putLogs_26 (by decide) ?_
      rw [show (1 : Int32) - 1 / 5 * 5 = 1 from by decide]
      refine lv_if_ne (tgt := 52) hx hb dX3_putLogs_27 (by decide) (fun _ => ?_) (fun c_213 => absurd c_213 (by decide))
      refine lv_iinc (v := 3) (lv' := [(4, .int 3), (3, .int 1), (0, .ref (b 0)), (1, .int n), (2, .int t9)]) hx hb dX3_putLogs_52 hl (k := 1) rfl (by decide) (by decide) rfl (fun ls hl => ?_)
      refine lv_goto (tgt := 14) hx hb dX3_putLogs_55 (by decide) ?_
      refine lv_iload hx hb dX3_putLogs_14 (lv_at hl 0 rfl) ?_
      refine lv_iconst (v := 5) hx hb dX3_putLogs_16 (by decide) ?_
      refine lv_icmp_ge (tgt := 58) hx hb dX3_putLogs_17 (by decide) (fun c_214 => absurd c_214 (by decide)) (fun _ => ?_)
      refine lv_iload_n hx hb dX3_putLogs_20 rfl (lv_at hl 1 rfl) ?_
      refine lv_iload hx hb dX3_putLogs_21 (lv_at hl 0 rfl) ?_
      refine vp_callSi (W.runS (As := [.int 3]) (rest := [.int 1]) ⟨hx, hb, hml, hown, hg⟩ (c_X3_primeOf l 3) (va_cwS 1 hg (gw_S ml_X3_54 sm_X3_primeOf ini_X3 co_X3_primeOf) rfl rfl rfl (by decide +kernel) ⟨Nat.le_of_ble_eq_true rfl, Nat.le_of_ble_eq_true rfl⟩) ⟨tt_blind, (fun U hU hW => ⟨rfl, trivial⟩)⟩ rfl rfl hl.1 rfl (lv_room (Nat.le_of_ble_eq_true rfl)) dX3_putLogs_23 ⟨Nat.le_of_ble_eq_true rfl, Nat.le_of_ble_eq_true rfl⟩) (fun r_215 hr_215 => ?_)
      subst hr_215
      rw [show (if (3 : Int32) = 0 then 2 else if (3 : Int32) = 1 then 3 else if (3 : Int32) = 2 then 5 else if (3 : Int32) = 3 then 7 else 11) = (7 : Int32) from by decide]
      refine lv_irem hx hb dX3_putLogs_26 (by decide) ?_
      rw [show (1 : Int32) - 1 / 7 * 7 = 1 from by decide]
      refine lv_if_ne (tgt := 52) hx hb dX3_putLogs_27 (by decide) (fun _ => ?_) (fun c_216 => absurd c_216 (by decide))
      refine lv_iinc (v := 4) (lv' := [(4, .int 4), (3, .int 1), (0, .ref (b 0)), (1, .int n), (2, .int t9)]) hx hb dX3_putLogs_52 hl (k := 0) rfl (by decide) (by decide) rfl (fun ls hl => ?_)
      refine lv_goto (tgt := 14) hx hb dX3_putLogs_55 (by decide) ?_
      refine lv_iload hx hb dX3_putLogs_14 (lv_at hl 0 rfl) ?_
      refine lv_iconst (v := 5) hx hb dX3_putLogs_16 (by decide) ?_
      refine lv_icmp_ge (tgt := 58) hx hb dX3_putLogs_17 (by decide) (fun c_217 => absurd c_217 (by decide)) (fun _ => ?_)
      refine lv_iload_n hx hb dX3_putLogs_20 rfl (lv_at hl 1 rfl) ?_
      refine lv_iload hx hb dX3_putLogs_21 (lv_at hl 0 rfl) ?_
      refine vp_callSi (W.runS (As := [.int 4]) (rest := [.int 1]) ⟨hx, hb, hml, hown, hg⟩ (c_X3_primeOf l 4) (va_cwS 1 hg (gw_S ml_X3_54 sm_X3_primeOf ini_X3 co_X3_primeOf) rfl rfl rfl (by decide +kernel) ⟨Nat.le_of_ble_eq_true rfl, Nat.le_of_ble_eq_true rfl⟩) ⟨tt_blind, (fun U hU hW => ⟨rfl, trivial⟩)⟩ rfl rfl hl.1 rfl (lv_room (Nat.le_of_ble_eq_true rfl)) dX3_putLogs_23 ⟨Nat.le_of_ble_eq_true rfl, Nat.le_of_ble_eq_true rfl⟩) (fun r_218 hr_218 => ?_)
      subst hr_218
      rw [show (if (4 : Int32) = 0 then 2 else if (4 : Int32) = 1 then 3 else if (4 : Int32) = 2 then 5 else if (4 : Int32) = 3 then 7 else 11) = (11 : Int32) from by decide]
      refine lv_irem hx hb dX3_putLogs_26 (by decide) ?_
      rw [show (1 : Int32) - 1 / 11 * 11 = 1 from by decide]
      refine lv_if_ne (tgt := 52) hx hb dX3_putLogs_27 (by decide) (fun _ => ?_) (fun c_219 => absurd c_219 (by decide))
      refine lv_iinc (v := 5) (lv' := [(4, .int 5), (3, .int 1), (0, .ref (b 0)), (1, .int n), (2, .int t9)]) hx hb dX3_putLogs_52 hl (k := 0) rfl (by decide) (by decide) rfl (fun ls hl => ?_)
      refine lv_goto (tgt := 14) hx hb dX3_putLogs_55 (by decide) ?_
      refine lv_iload hx hb dX3_putLogs_14 (lv_at hl 0 rfl) ?_
      refine lv_iconst (v := 5) hx hb dX3_putLogs_16 (by decide) ?_
      refine lv_icmp_ge (tgt := 58) hx hb dX3_putLogs_17 (by decide) (fun _ => ?_) (fun c_220 => absurd c_220 (by decide))
      have hfj : ∀ j, j < 5 → (upd (upd lg 0 v_201) 2 v_211) j = lg j + t9 * nI (x_ti (gl_prime j) 3 (nI 10)) := by
        intro j hj
        rcases (show j = 0 ∨ j = 1 ∨ j = 2 ∨ j = 3 ∨ j = 4 by omega) with rfl | rfl | rfl | rfl | rfl
        · rw [show x_ti (gl_prime 0) 3 (nI 10) = 1 from by decide, ← tm_1]; try simp [upd, ev_201, ev_211]
        · rw [show x_ti (gl_prime 1) 3 (nI 10) = 0 from by decide, ← tm_0]; try simp [upd, ev_201, ev_211]
        · rw [show x_ti (gl_prime 2) 3 (nI 10) = 1 from by decide, ← tm_1]; try simp [upd, ev_201, ev_211]
        · rw [show x_ti (gl_prime 3) 3 (nI 10) = 0 from by decide, ← tm_0]; try simp [upd, ev_201, ev_211]
        · rw [show x_ti (gl_prime 4) 3 (nI 10) = 0 from by decide, ← tm_0]; try simp [upd, ev_201, ev_211]
      have hP := hP.cg (p := 6) (g := fun j => lg j + t9 * nI (x_ti (gl_prime j) 3 (nI 10))) rfl hfj
      have hD := hD.set (p := 6) (e := .inl (cI, 5, .inl (fun j => lg j + t9 * nI (x_ti (gl_prime j) 3 (nI 10))))) rfl
      exact W.vret hx hb hr (fun t ht hW => ⟨⟨(), rfl, trivial, wd_E.at hK hP hD ht hW⟩, hS.F ht⟩) hS.2.2 dX3_putLogs_58
    · refine W.eq (g2 := F0 m 10 ls [.int 11]) rfl ?_
      refine lv_istore_n (lv' := [(3, .int 11), (0, .ref (b 0)), (1, .int n), (2, .int t9)]) hx hb dX3_putLogs_10 rfl hl (by decide) rfl (fun ls hl => ?_)
      refine lv_iconst (v := 0) hx hb dX3_putLogs_11 (by decide) ?_
      refine lv_istore (lv' := [(4, .int 0), (3, .int 11), (0, .ref (b 0)), (1, .int n), (2, .int t9)]) hx hb dX3_putLogs_12 hl (by decide) rfl (fun ls hl => ?_)
      refine lv_iload hx hb dX3_putLogs_14 (lv_at hl 0 rfl) ?_
      refine lv_iconst (v := 5) hx hb dX3_putLogs_16 (by decide) ?_
      refine lv_icmp_ge (tgt := 58) hx hb dX3_putLogs_17 (by decide) (fun c_221 => absurd c_221 (by decide)) (fun _ => ?_)
      refine lv_iload_n hx hb dX3_putLogs_20 rfl (lv_at hl 1 rfl) ?_
      refine lv_iload hx hb dX3_putLogs_21 (lv_at hl 0 rfl) ?_
      refine vp_callSi (W.runS (As := [.int 0]) (rest := [.int 11]) ⟨hx, hb, hml, hown, hg⟩ (c_X3_primeOf l 0) (va_cwS 1 hg (gw_S ml_X3_54 sm_X3_primeOf ini_X3 co_X3_primeOf) rfl rfl rfl (by decide +kernel) ⟨Nat.le_of_ble_eq_true rfl, Nat.le_of_ble_eq_true rfl⟩) ⟨tt_blind, (fun U hU hW => ⟨rfl, trivial⟩)⟩ rfl rfl hl.1 rfl (lv_room (Nat.le_of_ble_eq_true rfl)) dX3_putLogs_23 ⟨Nat.le_of_ble_eq_true rfl, Nat.le_of_ble_eq_true rfl⟩) (fun r_222 hr_222 => ?_)
      subst hr_222
      rw [show (if (0 : Int32) = 0 then 2 else if (0 : Int32) = 1 then 3 else if (0 : Int32) = 2 then 5 else if (0 : Int32) = 3 then 7 else 11) = (2 : Int32) from by decide]
      refine lv_irem hx hb dX3_putLogs_26 (by decide) ?_
      rw [show (11 : Int32) - 11 / 2 * 2 = 1 from by decide]
      refine lv_if_ne (tgt := 52) hx hb dX3_putLogs_27 (by decide) (fun _ => ?_) (fun c_223 => absurd c_223 (by decide))
      refine lv_iinc (v := 1) (lv' := [(4, .int 1), (3, .int 11), (0, .ref (b 0)), (1, .int n), (2, .int t9)]) hx hb dX3_putLogs_52 hl (k := 0) rfl (by decide) (by decide) rfl (fun ls hl => ?_)
      refine lv_goto (tgt := 14) hx hb dX3_putLogs_55 (by decide) ?_
      refine lv_iload hx hb dX3_putLogs_14 (lv_at hl 0 rfl) ?_
      refine lv_iconst (v := 5) hx hb dX3_putLogs_16 (by decide) ?_
      refine lv_icmp_ge (tgt := 58) hx hb dX3_putLogs_17 (by decide) (fun c_224 => absurd c_224 (by decide)) (fun _ => ?_)
      refine lv_iload_n hx hb dX3_putLogs_20 rfl (lv_at hl 1 rfl) ?_
      refine lv_iload hx hb dX3_putLogs_21 (lv_at hl 0 rfl) ?_
      refine vp_callSi (W.runS (As := [.int 1]) (rest := [.int 11]) ⟨hx, hb, hml, hown, hg⟩ (c_X3_primeOf l 1) (va_cwS 1 hg (gw_S ml_X3_54 sm_X3_primeOf ini_X3 co_X3_primeOf) rfl rfl rfl (by decide +kernel) ⟨Nat.le_of_ble_eq_true rfl, Nat.le_of_ble_eq_true rfl⟩) ⟨tt_blind, (fun U hU hW => ⟨rfl, trivial⟩)⟩ rfl rfl hl.1 rfl (lv_room (Nat.le_of_ble_eq_true rfl)) dX3_putLogs_23 ⟨Nat.le_of_ble_eq_true rfl, Nat.le_of_ble_eq_true rfl⟩) (fun r_225 hr_225 => ?_)
      subst hr_225
      rw [show (if (1 : Int32) = 0 then 2 else if (1 : Int32) = 1 then 3 else if (1 : Int32) = 2 then 5 else if (1 : Int32) = 3 then 7 else 11) = (3 : Int32) from by decide]
      refine lv_irem hx hb dX3_putLogs_26 (by decide) ?_
      rw [show (11 : Int32) - 11 / 3 * 3 = 2 from by decide]
      refine lv_if_ne (tgt := 52) hx hb dX3_putLogs_27 (by decide) (fun _ => ?_) (fun c_226 => absurd c_226 (by decide))
      refine lv_iinc (v := 2) (lv' := [(4, .int 2), (3, .int 11), (0, .ref (b 0)), (1, .int n), (2, .int t9)]) hx hb dX3_putLogs_52 hl (k := 0) rfl (by decide) (by decide) rfl (fun ls hl => ?_)
      refine lv_goto (tgt := 14) hx hb dX3_putLogs_55 (by decide) ?_
      refine lv_iload hx hb dX3_putLogs_14 (lv_at hl 0 rfl) ?_
      refine lv_iconst (v := 5) hx hb dX3_putLogs_16 (by decide) ?_
      refine lv_icmp_ge (tgt := 58) hx hb dX3_putLogs_17 (by decide) (fun c_227 => absurd c_227 (by decide)) (fun _ => ?_)
      refine lv_iload_n hx hb dX3_putLogs_20 rfl (lv_at hl 1 rfl) ?_
      refine lv_iload hx hb dX3_putLogs_21 (lv_at hl 0 rfl) ?_
      refine vp_callSi (W.runS (As := [.int 2]) (rest := [.int 11]) ⟨hx, hb, hml, hown, hg⟩ (c_X3_primeOf l 2) (va_cwS 1 hg (gw_S ml_X3_54 sm_X3_primeOf ini_X3 co_X3_primeOf) rfl rfl rfl (by decide +kernel) ⟨Nat.le_of_ble_eq_true rfl, Nat.le_of_ble_eq_true rfl⟩) ⟨tt_blind, (fun U hU hW => ⟨rfl, trivial⟩)⟩ rfl rfl hl.1 rfl (lv_room (Nat.le_of_ble_eq_true rfl)) dX3_putLogs_23 ⟨Nat.le_of_ble_eq_true rfl, Nat.le_of_ble_eq_true rfl⟩) (fun r_228 hr_228 => ?_)
      subst hr_228
      rw [show (if (2 : Int32) = 0 then 2 else if (2 : Int32) = 1 then 3 else if (2 : Int32) = 2 then 5 else if (2 : Int32) = 3 then 7 else 11) = (5 : Int32) from by decide]
      refine lv_irem hx hb dX3_putLogs_26 (by decide) ?_
      rw [show (11 : Int32) - 11 / 5 * 5 = 1 from by decide]
      refine lv_if_ne (tgt := 52) hx hb dX3_putLogs_27 (by decide) (fun _ => ?_) (fun c_229 => absurd c_229 (by decide))
      refine lv_iinc (v := 3) (lv' := [(4, .int 3), (3, .int 11), (0, .ref (b 0)), (1, .int n), (2, .int t9)]) hx hb dX3_putLogs_52 hl (k := 0) rfl (by decide) (by decide) rfl (fun ls hl => ?_)
      refine lv_goto (tgt := 14) hx hb dX3_putLogs_55 (by decide) ?_
      refine lv_iload hx hb dX3_putLogs_14 (lv_at hl 0 rfl) ?_
      refine lv_iconst (v := 5) hx hb dX3_putLogs_16 (by decide) ?_
      refine lv_icmp_ge (tgt := 58) hx hb dX3_putLogs_17 (by decide) (fun c_230 => absurd c_230 (by decide)) (fun _ => ?_)
      refine lv_iload_n hx hb dX3_putLogs_20 rfl (lv_at hl 1 rfl) ?_
      refine lv_iload hx hb dX3_putLogs_21 (lv_at hl 0 rfl) ?_
      refine vp_callSi (W.runS (As := [.int 3]) (rest := [.int 11]) ⟨hx, hb, hml, hown, hg⟩ (c_X3_primeOf l 3) (va_cwS 1 hg (gw_S ml_X3_54 sm_X3_primeOf ini_X3 co_X3_primeOf) rfl rfl rfl (by decide +kernel) ⟨Nat.le_of_ble_eq_true rfl, Nat.le_of_ble_eq_true rfl⟩) ⟨tt_blind, (fun U hU hW => ⟨rfl, trivial⟩)⟩ rfl rfl hl.1 rfl (lv_room (Nat.le_of_ble_eq_true rfl)) dX3_putLogs_23 ⟨Nat.le_of_ble_eq_true rfl, Nat.le_of_ble_eq_true rfl⟩) (fun r_231 hr_231 => ?_)
      subst hr_231
      rw [show (if (3 : Int32) = 0 then 2 else if (3 : Int32) = 1 then 3 else if (3 : Int32) = 2 then 5 else if (3 : Int32) = 3 then 7 else 11) = (7 : Int32) from by decide]
      refine lv_irem hx hb dX3_putLogs_26 (by decide) ?_
      rw [show (11 : Int32) - 11 / 7 * 7 = 4 from by decide]
      refine lv_if_ne (tgt := 52) hx hb dX3_putLogs_27 (by decide) (fun _ => ?_) (fun c_232 => absurd c_232 (by decide))
      refine lv_iinc (v := 4) (lv' := [(4, .int 4), (3, .int 11), (0, .ref (b 0)), (1, .int n), (2, .int t9)]) hx hb dX3_putLogs_52 hl (k := 0) rfl (by decide) (by decide) rfl (fun ls hl => ?_)
      refine lv_goto (tgt := 14) hx hb dX3_putLogs_55 (by decide) ?_
      refine lv_iload hx hb dX3_putLogs_14 (lv_at hl 0 rfl) ?_
      refine lv_iconst (v := 5) hx hb dX3_putLogs_16 (by decide) ?_
      refine lv_icmp_ge (tgt := 58) hx hb dX3_putLogs_17 (by decide) (fun c_233 => absurd c_233 (by decide)) (fun _ => ?_)
      refine lv_iload_n hx hb dX3_putLogs_20 rfl (lv_at hl 1 rfl) ?_
      refine lv_iload hx hb dX3_putLogs_21 (lv_at hl 0 rfl) ?_
      refine vp_callSi (W.runS (As := [.int 4]) (rest := [.int 11]) ⟨hx, hb, hml, hown, hg⟩ (c_X3_primeOf l 4) (va_cwS 1 hg (gw_S ml_X3_54 sm_X3_primeOf ini_X3 co_X3_primeOf) rfl rfl rfl (by decide +kernel) ⟨Nat.le_of_ble_eq_true rfl, Nat.le_of_ble_eq_true rfl⟩) ⟨tt_blind, (fun U hU hW => ⟨rfl, trivial⟩)⟩ rfl rfl hl.1 rfl (lv_room (Nat.le_of_ble_eq_true rfl)) dX3_putLogs_23 ⟨Nat.le_of_ble_eq_true rfl, Nat.le_of_ble_eq_true rfl⟩) (fun r_234 hr_234 => ?_)
      subst hr_234
      rw [show (if (4 : Int32) = 0 then 2 else if (4 : Int32) = 1 then 3 else if (4 : Int32) = 2 then 5 else if (4 : Int32) = 3 then 7 else 11) = (11 : Int32) from by decide]
      refine lv_irem hx hb dX3_putLogs_26 (by decide) ?_
      rw [show (11 : Int32) - 11 / 11 * 11 = 0 from by decide]
      refine lv_if_ne (tgt := 52) hx hb dX3_putLogs_27 (by decide) (fun c_235 => absurd c_235 (by decide)) (fun _ => ?_)
      refine lv_iload_n hx hb dX3_putLogs_30 rfl (lv_at hl 1 rfl) ?_
      refine lv_iload hx hb dX3_putLogs_31 (lv_at hl 0 rfl) ?_
      refine vp_callSi (W.runS (As := [.int 4]) (rest := [.int 11]) ⟨hx, hb, hml, hown, hg⟩ (c_X3_primeOf l 4) (va_cwS 1 hg (gw_S ml_X3_54 sm_X3_primeOf ini_X3 co_X3_primeOf) rfl rfl rfl (by decide +kernel) ⟨Nat.le_of_ble_eq_true rfl, Nat.le_of_ble_eq_true rfl⟩) ⟨tt_blind, (fun U hU hW => ⟨rfl, trivial⟩)⟩ rfl rfl hl.1 rfl (lv_room (Nat.le_of_ble_eq_true rfl)) dX3_putLogs_33 ⟨Nat.le_of_ble_eq_true rfl, Nat.le_of_ble_eq_true rfl⟩) (fun r_236 hr_236 => ?_)
      subst hr_236
      rw [show (if (4 : Int32) = 0 then 2 else if (4 : Int32) = 1 then 3 else if (4 : Int32) = 2 then 5 else if (4 : Int32) = 3 then 7 else 11) = (11 : Int32) from by decide]
      refine lv_idiv hx hb dX3_putLogs_36 (by decide) ?_
      rw [show (11 : Int32) / 11 = 1 from by decide]
      refine lv_istore_n (lv' := [(3, .int 1), (4, .int 4), (0, .ref (b 0)), (1, .int n), (2, .int t9)]) hx hb dX3_putLogs_37 rfl hl (by decide) rfl (fun ls hl => ?_)
      refine lv_aload_n hx hb dX3_putLogs_38 rfl (lv_at hl 2 rfl) ?_
      refine va_get (D := D) (ci := 3) (v := .ref (b 6)) (C := RX3) (T := TX3) (N := 13) hx hb hg inX3 hown hK hP 0 rfl rfl 12 (by decide) (hg _ fl_X3_25) (fun _ h9 => h9) rfl dX3_putLogs_39 ?_
      refine lv_iload hx hb dX3_putLogs_42 (lv_at hl 1 rfl) ?_
      refine lv_dup2_11 hx hb dX3_putLogs_44 rfl rfl ?_
      refine va_iald (D := D) (n := 5) (f := lg) hx hb hK hP 6 0 rfl rfl (vp_in_nI (show 4 < 5 by decide) (by decide)) dX3_putLogs_45 ?_
      rw [show (4 : Int32).toNatClampNeg = 4 from by decide]
      refine lv_iload_n hx hb dX3_putLogs_46 rfl (lv_at hl 4 rfl) ?_
      refine lv_iadd hx hb dX3_putLogs_47 ?_
      refine lv_topi (fun v_237 ev_237 => ?_)
      refine va_iast (D := D) (n := 5) (f := lg) (x := v_237) hx hb hK hP hD hS 6 0 rfl rfl (vp_in_nI (show 4 < 5 by decide) (by decide)) dX3_putLogs_48 (fun H locs hP hD hS => ?_)
      rw [show (4 : Int32).toNatClampNeg = 4 from by decide] at hP hD
      have hP : va_P D vwCl (mw cI b cod (nI cnt) pl nm od op (zi kb) kU kD kl up dn (upd lg 4 v_237) ++ fr) H := hP
      have hD : va_D A (mw cI b cod (nI cnt) pl nm od op (zi kb) kU kD kl up dn (upd lg 4 v_237) ++ fr) := hD
      refine lv_goto (tgt := 20) hx hb dX3_putLogs_49 (by decide) ?_
      refine lv_iload_n hx hb dX3_putLogs_20 rfl (lv_at hl 0 rfl) ?_
      refine lv_iload hx hb dX3_putLogs_21 (lv_at hl 1 rfl) ?_
      refine vp_callSi (W.runS (As := [.int 4]) (rest := [.int 1]) ⟨hx, hb, hml, hown, hg⟩ (c_X3_primeOf l 4) (va_cwS 1 hg (gw_S ml_X3_54 sm_X3_primeOf ini_X3 co_X3_primeOf) rfl rfl rfl (by decide +kernel) ⟨Nat.le_of_ble_eq_true rfl, Nat.le_of_ble_eq_true rfl⟩) ⟨tt_blind, (fun U hU hW => ⟨rfl, trivial⟩)⟩ rfl rfl hl.1 rfl (lv_room (Nat.le_of_ble_eq_true rfl)) dX3_putLogs_23 ⟨Nat.le_of_ble_eq_true rfl, Nat.le_of_ble_eq_true rfl⟩) (fun r_238 hr_238 => ?_)
      subst hr_238
      rw [show (if (4 : Int32) = 0 then 2 else if (4 : Int32) = 1 then 3 else if (4 : Int32) = 2 then 5 else if (4 : Int32) = 3 then 7 else 11) = (11 : Int32) from by decide]
      refine lv_irem hx hb dX3_putLogs_26 (by decide) ?_
      rw [show (1 : Int32) - 1 / 11 * 11 = 1 from by decide]
      refine lv_if_ne (tgt := 52) hx hb dX3_putLogs_27 (by decide) (fun _ => ?_) (fun c_239 => absurd c_239 (by decide))
      refine lv_iinc (v := 5) (lv' := [(4, .int 5), (3, .int 1), (0, .ref (b 0)), (1, .int n), (2, .int t9)]) hx hb dX3_putLogs_52 hl (k := 1) rfl (by decide) (by decide) rfl (fun ls hl => ?_)
      refine lv_goto (tgt := 14) hx hb dX3_putLogs_55 (by decide) ?_
      refine lv_iload hx hb dX3_putLogs_14 (lv_at hl 0 rfl) ?_
      refine lv_iconst (v := 5) hx hb dX3_putLogs_16 (by decide) ?_
      refine lv_icmp_ge (tgt := 58) hx hb dX3_putLogs_17 (by decide) (fun _ => ?_) (fun c_240 => absurd c_240 (by decide))
      have hfj : ∀ j, j < 5 → (upd lg 4 v_237) j = lg j + t9 * nI (x_ti (gl_prime j) 3 (nI 11)) := by
        intro j hj
        rcases (show j = 0 ∨ j = 1 ∨ j = 2 ∨ j = 3 ∨ j = 4 by omega) with rfl | rfl | rfl | rfl | rfl
        · rw [show x_ti (gl_prime 0) 3 (nI 11) = 0 from by decide, ← tm_0]; try simp [upd, ev_237]
        · rw [show x_ti (gl_prime 1) 3 (nI 11) = 0 from by decide, ← tm_0]; try simp [upd, ev_237]
        · rw [show x_ti (gl_prime 2) 3 (nI 11) = 0 from by decide, ← tm_0]; try simp [upd, ev_237]
        · rw [show x_ti (gl_prime 3) 3 (nI 11) = 0 from by decide, ← tm_0]; try simp [upd, ev_237]
        · rw [show x_ti (gl_prime 4) 3 (nI 11) = 1 from by decide, ← tm_1]; try simp [upd, ev_237]
      have hP := hP.cg (p := 6) (g := fun j => lg j + t9 * nI (x_ti (gl_prime j) 3 (nI 11))) rfl hfj
      have hD := hD.set (p := 6) (e := .inl (cI, 5, .inl (fun j => lg j + t9 * nI (x_ti (gl_prime j) 3 (nI 11))))) rfl
      exact W.vret hx hb hr (fun t ht hW => ⟨⟨(), rfl, trivial, wd_E.at hK hP hD ht hW⟩, hS.F ht⟩) hS.2.2 dX3_putLogs_58
    · refine W.eq (g2 := F0 m 10 ls [.int 12]) rfl ?_
      refine lv_istore_n (lv' := [(3, .int 12), (0, .ref (b 0)), (1, .int n), (2, .int t9)]) hx hb dX3_putLogs_10 rfl hl (by decide) rfl (fun ls hl => ?_)
      refine lv_iconst (v := 0) hx hb dX3_putLogs_11 (by decide) ?_
      refine lv_istore (lv' := [(4, .int 0), (3, .int 12), (0, .ref (b 0)), (1, .int n), (2, .int t9)]) hx hb dX3_putLogs_12 hl (by decide) rfl (fun ls hl => ?_)
      refine lv_iload hx hb dX3_putLogs_14 (lv_at hl 0 rfl) ?_
      refine lv_iconst (v := 5) hx hb dX3_putLogs_16 (by decide) ?_
      refine lv_icmp_ge (tgt := 58) hx hb dX3_putLogs_17 (by decide) (fun c_241 => absurd c_241 (by decide)) (fun _ => ?_)
      refine lv_iload_n hx hb dX3_putLogs_20 rfl (lv_at hl 1 rfl) ?_
      refine lv_iload hx hb dX3_putLogs_21 (lv_at hl 0 rfl) ?_
      refine vp_callSi (W.runS (As := [.int 0]) (rest := [.int 12]) ⟨hx, hb, hml, hown, hg⟩ (c_X3_primeOf l 0) (va_cwS 1 hg (gw_S ml_X3_54 sm_X3_primeOf ini_X3 co_X3_primeOf) rfl rfl rfl (by decide +kernel) ⟨Nat.le_of_ble_eq_true rfl, Nat.le_of_ble_eq_true rfl⟩) ⟨tt_blind, (fun U hU hW => ⟨rfl, trivial⟩)⟩ rfl rfl hl.1 rfl (lv_room (Nat.le_of_ble_eq_true rfl)) dX3_putLogs_23 ⟨Nat.le_of_ble_eq_true rfl, Nat.le_of_ble_eq_true rfl⟩) (fun r_242 hr_242 => ?_)
      subst hr_242
      rw [show (if (0 : Int32) = 0 then 2 else if (0 : Int32) = 1 then 3 else if (0 : Int32) = 2 then 5 else if (0 : Int32) = 3 then 7 else 11) = (2 : Int32) from by decide]
      refine lv_irem hx hb dX3_putLogs_26 (by decide) ?_
      rw [show (12 : Int32) - 12 / 2 * 2 = 0 from by decide]
      refine lv_if_ne (tgt := 52) hx hb dX3_putLogs_27 (by decide) (fun c_243 => absurd c_243 (by decide)) (fun _ => ?_)
      refine lv_iload_n hx hb dX3_putLogs_30 rfl (lv_at hl 1 rfl) ?_
      refine lv_iload hx hb dX3_putLogs_31 (lv_at hl 0 rfl) ?_
      refine vp_callSi (W.runS (As := [.int 0]) (rest := [.int 12]) ⟨hx, hb, hml, hown, hg⟩ (c_X3_primeOf l 0) (va_cwS 1 hg (gw_S ml_X3_54 sm_X3_primeOf ini_X3 co_X3_primeOf) rfl rfl rfl (by decide +kernel) ⟨Nat.le_of_ble_eq_true rfl, Nat.le_of_ble_eq_true rfl⟩) ⟨tt_blind, (fun U hU hW => ⟨rfl, trivial⟩)⟩ rfl rfl hl.1 rfl (lv_room (Nat.le_of_ble_eq_true rfl)) dX3_putLogs_33 ⟨Nat.le_of_ble_eq_true rfl, Nat.le_of_ble_eq_true rfl⟩) (fun r_244 hr_244 => ?_)
      subst hr_244
      rw [show (if (0 : Int32) = 0 then 2 else if (0 : Int32) = 1 then 3 else if (0 : Int32) = 2 then 5 else if (0 : Int32) = 3 then 7 else 11) = (2 : Int32) from by decide]
      refine lv_idiv hx hb dX3_putLogs_36 (by decide) ?_
      rw [show (12 : Int32) / 2 = 6 from by decide]
      refine lv_istore_n (lv' := [(3, .int 6), (4, .int 0), (0, .ref (b 0)), (1, .int n), (2, .int t9)]) hx hb dX3_putLogs_37 rfl hl (by decide) rfl (fun ls hl => ?_)
      refine lv_aload_n hx hb dX3_putLogs_38 rfl (lv_at hl 2 rfl) ?_
      refine va_get (D := D) (ci := 3) (v := .ref (b 6)) (C := RX3) (T := TX3) (N := 13) hx hb hg inX3 hown hK hP 0 rfl rfl 12 (by decide) (hg _ fl_X3_25) (fun _ h9 => h9) rfl dX3_putLogs_39 ?_
      refine lv_iload hx hb dX3_putLogs_42 (lv_at hl 1 rfl) ?_
      refine lv_dup2_11 hx hb dX3_putLogs_44 rfl rfl ?_
      refine va_iald (D := D) (n := 5) (f := lg) hx hb hK hP 6 0 rfl rfl (vp_in_nI (show 0 < 5 by decide) (by decide)) dX3_putLogs_45 ?_
      rw [show (0 : Int32).toNatClampNeg = 0 from by decide]
      refine lv_iload_n hx hb dX3_putLogs_46 rfl (lv_at hl 4 rfl) ?_
      refine lv_iadd hx hb dX3_putLogs_47 ?_
      refine lv_topi (fun v_245 ev_245 => ?_)
      refine va_iast (D := D) (n := 5) (f := lg) (x := v_245) hx hb hK hP hD hS 6 0 rfl rfl (vp_in_nI (show 0 < 5 by decide) (by decide)) dX3_putLogs_48 (fun H locs hP hD hS => ?_)
      rw [show (0 : Int32).toNatClampNeg = 0 from by decide] at hP hD
      have hP : va_P D vwCl (mw cI b cod (nI cnt) pl nm od op (zi kb) kU kD kl up dn (upd lg 0 v_245) ++ fr) H := hP
      have hD : va_D A (mw cI b cod (nI cnt) pl nm od op (zi kb) kU kD kl up dn (upd lg 0 v_245) ++ fr) := hD
      refine lv_goto (tgt := 20) hx hb dX3_putLogs_49 (by decide) ?_
      refine lv_iload_n hx hb dX3_putLogs_20 rfl (lv_at hl 0 rfl) ?_
      refine lv_iload hx hb dX3_putLogs_21 (lv_at hl 1 rfl) ?_
      refine vp_callSi (W.runS (As := [.int 0]) (rest := [.int 6]) ⟨hx, hb, hml, hown, hg⟩ (c_X3_primeOf l 0) (va_cwS 1 hg (gw_S ml_X3_54 sm_X3_primeOf ini_X3 co_X3_primeOf) rfl rfl rfl (by decide +kernel) ⟨Nat.le_of_ble_eq_true rfl, Nat.le_of_ble_eq_true rfl⟩) ⟨tt_blind, (fun U hU hW => ⟨rfl, trivial⟩)⟩ rfl rfl hl.1 rfl (lv_room (Nat.le_of_ble_eq_true rfl)) dX3_putLogs_23 ⟨Nat.le_of_ble_eq_true rfl, Nat.le_of_ble_eq_true rfl⟩) (fun r_246 hr_246 => ?_)
      subst hr_246
      rw [show (if (0 : Int32) = 0 then 2 else if (0 : Int32) = 1 then 3 else if (0 : Int32) = 2 then 5 else if (0 : Int32) = 3 then 7 else 11) = (2 : Int32) from by decide]
      refine lv_irem hx hb dX3_putLogs_26 (by decide) ?_
      rw [show (6 : Int32) - 6 / 2 * 2 = 0 from by decide]
      refine lv_if_ne (tgt := 52) hx hb dX3_putLogs_27 (by decide) (fun c_247 => absurd c_247 (by decide)) (fun _ => ?_)
      refine lv_iload_n hx hb dX3_putLogs_30 rfl (lv_at hl 0 rfl) ?_
      refine lv_iload hx hb dX3_putLogs_31 (lv_at hl 1 rfl) ?_
      refine vp_callSi (W.runS (As := [.int 0]) (rest := [.int 6]) ⟨hx, hb, hml, hown, hg⟩ (c_X3_primeOf l 0) (va_cwS 1 hg (gw_S ml_X3_54 sm_X3_primeOf ini_X3 co_X3_primeOf) rfl rfl rfl (by decide +kernel) ⟨Nat.le_of_ble_eq_true rfl, Nat.le_of_ble_eq_true rfl⟩) ⟨tt_blind, (fun U hU hW => ⟨rfl, trivial⟩)⟩ rfl rfl hl.1 rfl (lv_room (Nat.le_of_ble_eq_true rfl)) dX3_putLogs_33 ⟨Nat.le_of_ble_eq_true rfl, Nat.le_of_ble_eq_true rfl⟩) (fun r_248 hr_248 => ?_)
      subst hr_248
      rw [show (if (0 : Int32) = 0 then 2 else if (0 : Int32) = 1 then 3 else if (0 : Int32) = 2 then 5 else if (0 : Int32) = 3 then 7 else 11) = (2 : Int32) from by decide]
      refine lv_idiv hx hb dX3_putLogs_36 (by decide) ?_
      rw [show (6 : Int32) / 2 = 3 from by decide]
      refine lv_istore_n (lv' := [(3, .int 3), (4, .int 0), (0, .ref (b 0)), (1, .int n), (2, .int t9)]) hx hb dX3_putLogs_37 rfl hl (by decide) rfl (fun ls hl => ?_)
      refine lv_aload_n hx hb dX3_putLogs_38 rfl (lv_at hl 2 rfl) ?_
      refine va_get (D := D) (ci := 3) (v := .ref (b 6)) (C := RX3) (T := TX3) (N := 13) hx hb hg inX3 hown hK hP 0 rfl rfl 12 (by decide) (hg _ fl_X3_25) (fun _ h9 => h9) rfl dX3_putLogs_39 ?_
      refine lv_iload hx hb dX3_putLogs_42 (lv_at hl 1 rfl) ?_
      refine lv_dup2_11 hx hb dX3_putLogs_44 rfl rfl ?_
      refine va_iald (D := D) (n := 5) (f := (upd lg 0 v_245)) hx hb hK hP 6 0 rfl rfl (vp_in_nI (show 0 < 5 by decide) (by decide)) dX3_putLogs_45 ?_
      rw [show (0 : Int32).toNatClampNeg = 0 from by decide]
      refine lv_iload_n hx hb dX3_putLogs_46 rfl (lv_at hl 4 rfl) ?_
      refine lv_iadd hx hb dX3_putLogs_47 ?_
      refine lv_topi (fun v_249 ev_249 => ?_)
      refine va_iast (D := D) (n := 5) (f := (upd lg 0 v_245)) (x := v_249) hx hb hK hP hD hS 6 0 rfl rfl (vp_in_nI (show 0 < 5 by decide) (by decide)) dX3_putLogs_48 (fun H locs hP hD hS => ?_)
      rw [show (0 : Int32).toNatClampNeg = 0 from by decide] at hP hD
      have hP : va_P D vwCl (mw cI b cod (nI cnt) pl nm od op (zi kb) kU kD kl up dn (upd (upd lg 0 v_245) 0 v_249) ++ fr) H := hP
      have hD : va_D A (mw cI b cod (nI cnt) pl nm od op (zi kb) kU kD kl up dn (upd (upd lg 0 v_245) 0 v_249) ++ fr) := hD
      refine lv_goto (tgt := 20) hx hb dX3_putLogs_49 (by decide) ?_
      refine lv_iload_n hx hb dX3_putLogs_20 rfl (lv_at hl 0 rfl) ?_
      refine lv_iload hx hb dX3_putLogs_21 (lv_at hl 1 rfl) ?_
      refine vp_callSi (W.runS (As := [.int 0]) (rest := [.int 3]) ⟨hx, hb, hml, hown, hg⟩ (c_X3_primeOf l 0) (va_cwS 1 hg (gw_S ml_X3_54 sm_X3_primeOf ini_X3 co_X3_primeOf) rfl rfl rfl (by decide +kernel) ⟨Nat.le_of_ble_eq_true rfl, Nat.le_of_ble_eq_true rfl⟩) ⟨tt_blind, (fun U hU hW => ⟨rfl, trivial⟩)⟩ rfl rfl hl.1 rfl (lv_room (Nat.le_of_ble_eq_true rfl)) dX3_putLogs_23 ⟨Nat.le_of_ble_eq_true rfl, Nat.le_of_ble_eq_true rfl⟩) (fun r_250 hr_250 => ?_)
      subst hr_250
      rw [show (if (0 : Int32) = 0 then 2 else if (0 : Int32) = 1 then 3 else if (0 : Int32) = 2 then 5 else if (0 : Int32) = 3 then 7 else 11) = (2 : Int32) from by decide]
      refine lv_irem hx hb dX3_putLogs_26 (by decide) ?_
      rw [show (3 : Int32) - 3 / 2 * 2 = 1 from by decide]
      refine lv_if_ne (tgt := 52) hx hb dX3_putLogs_27 (by decide) (fun _ => ?_) (fun c_251 => absurd c_251 (by decide))
      refine lv_iinc (v := 1) (lv' := [(4, .int 1), (3, .int 3), (0, .ref (b 0)), (1, .int n), (2, .int t9)]) hx hb dX3_putLogs_52 hl (k := 1) rfl (by decide) (by decide) rfl (fun ls hl => ?_)
      refine lv_goto (tgt := 14) hx hb dX3_putLogs_55 (by decide) ?_
      refine lv_iload hx hb dX3_putLogs_14 (lv_at hl 0 rfl) ?_
      refine lv_iconst (v := 5) hx hb dX3_putLogs_16 (by decide) ?_
      refine lv_icmp_ge (tgt := 58) hx hb dX3_putLogs_17 (by decide) (fun c_252 => absurd c_252 (by decide)) (fun _ => ?_)
      refine lv_iload_n hx hb dX3_putLogs_20 rfl (lv_at hl 1 rfl) ?_
      refine lv_iload hx hb dX3_putLogs_21 (lv_at hl 0 rfl) ?_
      refine vp_callSi (W.runS (As := [.int 1]) (rest := [.int 3]) ⟨hx, hb, hml, hown, hg⟩ (c_X3_primeOf l 1) (va_cwS 1 hg (gw_S ml_X3_54 sm_X3_primeOf ini_X3 co_X3_primeOf) rfl rfl rfl (by decide +kernel) ⟨Nat.le_of_ble_eq_true rfl, Nat.le_of_ble_eq_true rfl⟩) ⟨tt_blind, (fun U hU hW => ⟨rfl, trivial⟩)⟩ rfl rfl hl.1 rfl (lv_room (Nat.le_of_ble_eq_true rfl)) dX3_putLogs_23 ⟨Nat.le_of_ble_eq_true rfl, Nat.le_of_ble_eq_true rfl⟩) (fun r_253 hr_253 => ?_)
      subst hr_253
      rw [show (if (1 : Int32) = 0 then 2 else if (1 : Int32) = 1 then 3 else if (1 : Int32) = 2 then 5 else if (1 : Int32) = 3 then 7 else 11) = (3 : Int32) from by decide]
      refine lv_irem hx hb dX3_putLogs_26 (by decide) ?_
      rw [show (3 : Int32) - 3 / 3 * 3 = 0 from by decide]
      refine lv_if_ne (tgt := 52) hx hb dX3_putLogs_27 (by decide) (fun c_254 => absurd c_254 (by decide)) (fun _ => ?_)
      refine lv_iload_n hx hb dX3_putLogs_30 rfl (lv_at hl 1 rfl) ?_
      refine lv_iload hx hb dX3_putLogs_31 (lv_at hl 0 rfl) ?_
      refine vp_callSi (W.runS (As := [.int 1]) (rest := [.int 3]) ⟨hx, hb, hml, hown, hg⟩ (c_X3_primeOf l 1) (va_cwS 1 hg (gw_S ml_X3_54 sm_X3_primeOf ini_X3 co_X3_primeOf) rfl rfl rfl (by decide +kernel) ⟨Nat.le_of_ble_eq_true rfl, Nat.le_of_ble_eq_true rfl⟩) ⟨tt_blind, (fun U hU hW => ⟨rfl, trivial⟩)⟩ rfl rfl hl.1 rfl (lv_room (Nat.le_of_ble_eq_true rfl)) dX3_putLogs_33 ⟨Nat.le_of_ble_eq_true rfl, Nat.le_of_ble_eq_true rfl⟩) (fun r_255 hr_255 => ?_)
      subst hr_255
      rw [show (if (1 : Int32) = 0 then 2 else if (1 : Int32) = 1 then 3 else if (1 : Int32) = 2 then 5 else if (1 : Int32) = 3 then 7 else 11) = (3 : Int32) from by decide]
      refine lv_idiv hx hb dX3_putLogs_36 (by decide) ?_
      rw [show (3 : Int32) / 3 = 1 from by decide]
      refine lv_istore_n (lv' := [(3, .int 1), (4, .int 1), (0, .ref (b 0)), (1, .int n), (2, .int t9)]) hx hb dX3_putLogs_37 rfl hl (by decide) rfl (fun ls hl => ?_)
      refine lv_aload_n hx hb dX3_putLogs_38 rfl (lv_at hl 2 rfl) ?_
      refine va_get (D := D) (ci := 3) (v := .ref (b 6)) (C := RX3) (T := TX3) (N := 13) hx hb hg inX3 hown hK hP 0 rfl rfl 12 (by decide) (hg _ fl_X3_25) (fun _ h9 => h9) rfl dX3_putLogs_39 ?_
      refine lv_iload hx hb dX3_putLogs_42 (lv_at hl 1 rfl) ?_
      refine lv_dup2_11 hx hb dX3_putLogs_44 rfl rfl ?_
      refine va_iald (D := D) (n := 5) (f := (upd (upd lg 0 v_245) 0 v_249)) hx hb hK hP 6 0 rfl rfl (vp_in_nI (show 1 < 5 by decide) (by decide)) dX3_putLogs_45 ?_
      rw [show (1 : Int32).toNatClampNeg = 1 from by decide]
      refine lv_iload_n hx hb dX3_putLogs_46 rfl (lv_at hl 4 rfl) ?_
      refine lv_iadd hx hb dX3_putLogs_47 ?_
      refine lv_topi (fun v_256 ev_256 => ?_)
      refine va_iast (D := D) (n := 5) (f := (upd (upd lg 0 v_245) 0 v_249)) (x := v_256) hx hb hK hP hD hS 6 0 rfl rfl (vp_in_nI (show 1 < 5 by decide) (by decide)) dX3_putLogs_48 (fun H locs hP hD hS => ?_)
      rw [show (1 : Int32).toNatClampNeg = 1 from by decide] at hP hD
      have hP : va_P D vwCl (mw cI b cod (nI cnt) pl nm od op (zi kb) kU kD kl up dn (upd (upd (upd lg 0 v_245) 0 v_249) 1 v_256) ++ fr) H := hP
      have hD : va_D A (mw cI b cod (nI cnt) pl nm od op (zi kb) kU kD kl up dn (upd (upd (upd lg 0 v_245) 0 v_249) 1 v_256) ++ fr) := hD
      refine lv_goto (tgt := 20) hx hb dX3_putLogs_49 (by decide) ?_
      refine lv_iload_n hx hb dX3_putLogs_20 rfl (lv_at hl 0 rfl) ?_
      refine lv_iload hx hb dX3_putLogs_21 (lv_at hl 1 rfl) ?_
      refine vp_callSi (W.runS (As := [.int 1]) (rest := [.int 1]) ⟨hx, hb, hml, hown, hg⟩ (c_X3_primeOf l 1) (va_cwS 1 hg (gw_S ml_X3_54 sm_X3_primeOf ini_X3 co_X3_primeOf) rfl rfl rfl (by decide +kernel) ⟨Nat.le_of_ble_eq_true rfl, Nat.le_of_ble_eq_true rfl⟩) ⟨tt_blind, (fun U hU hW => ⟨rfl, trivial⟩)⟩ rfl rfl hl.1 rfl (lv_room (Nat.le_of_ble_eq_true rfl)) dX3_putLogs_23 ⟨Nat.le_of_ble_eq_true rfl, Nat.le_of_ble_eq_true rfl⟩) (fun r_257 hr_257 => ?_)
      subst hr_257
      rw [show (if (1 : Int32) = 0 then 2 else if (1 : Int32) = 1 then 3 else if (1 : Int32) = 2 then 5 else if (1 : Int32) = 3 then 7 else 11) = (3 : Int32) from by decide]
      refine lv_irem hx hb dX3_putLogs_26 (by decide) ?_
      rw [show (1 : Int32) - 1 / 3 * 3 = 1 from by decide]
      refine lv_if_ne (tgt := 52) hx hb dX3_putLogs_27 (by decide) (fun _ => ?_) (fun c_258 => absurd c_258 (by decide))
      refine lv_iinc (v := 2) (lv' := [(4, .int 2), (3, .int 1), (0, .ref (b 0)), (1, .int n), (2, .int t9)]) hx hb dX3_putLogs_52 hl (k := 1) rfl (by decide) (by decide) rfl (fun ls hl => ?_)
      refine lv_goto (tgt := 14) hx hb dX3_putLogs_55 (by decide) ?_
      refine lv_iload hx hb dX3_putLogs_14 (lv_at hl 0 rfl) ?_
      refine lv_iconst (v := 5) hx hb dX3_putLogs_16 (by decide) ?_
      refine lv_icmp_ge (tgt := 58) hx hb dX3_putLogs_17 (by decide) (fun c_259 => absurd c_259 (by decide)) (fun _ => ?_)
      refine lv_iload_n hx hb dX3_putLogs_20 rfl (lv_at hl 1 rfl) ?_
      refine lv_iload hx hb dX3_putLogs_21 (lv_at hl 0 rfl) ?_
      refine vp_callSi (W.runS (As := [.int 2]) (rest := [.int 1]) ⟨hx, hb, hml, hown, hg⟩ (c_X3_primeOf l 2) (va_cwS 1 hg (gw_S ml_X3_54 sm_X3_primeOf ini_X3 co_X3_primeOf) rfl rfl rfl (by decide +kernel) ⟨Nat.le_of_ble_eq_true rfl, Nat.le_of_ble_eq_true rfl⟩) ⟨tt_blind, (fun U hU hW => ⟨rfl, trivial⟩)⟩ rfl rfl hl.1 rfl (lv_room (Nat.le_of_ble_eq_true rfl)) dX3_putLogs_23 ⟨Nat.le_of_ble_eq_true rfl, Nat.le_of_ble_eq_true rfl⟩) (fun r_260 hr_260 => ?_)
      subst hr_260
      rw [show (if (2 : Int32) = 0 then 2 else if (2 : Int32) = 1 then 3 else if (2 : Int32) = 2 then 5 else if (2 : Int32) = 3 then 7 else 11) = (5 : Int32) from by decide]
      refine lv_irem hx hb dX3_putLogs_26 (by decide) ?_
      rw [show (1 : Int32) - 1 / 5 * 5 = 1 from by decide]
      refine lv_if_ne (tgt := 52) hx hb dX3_putLogs_27 (by decide) (fun _ => ?_) (fun c_261 => absurd c_261 (by decide))
      refine lv_iinc (v := 3) (lv' := [(4, .int 3), (3, .int 1), (0, .ref (b 0)), (1, .int n), (2, .int t9)]) hx hb dX3_putLogs_52 hl (k := 0) rfl (by decide) (by decide) rfl (fun ls hl => ?_)
      refine lv_goto (tgt := 14) hx hb dX3_putLogs_55 (by decide) ?_
      refine lv_iload hx hb dX3_putLogs_14 (lv_at hl 0 rfl) ?_
      refine lv_iconst (v := 5) hx hb dX3_putLogs_16 (by decide) ?_
      refine lv_icmp_ge (tgt := 58) hx hb dX3_putLogs_17 (by decide) (fun c_262 => absurd c_262 (by decide)) (fun _ => ?_)
      refine lv_iload_n hx hb dX3_putLogs_20 rfl (lv_at hl 1 rfl) ?_
      refine lv_iload hx hb dX3_putLogs_21 (lv_at hl 0 rfl) ?_
      refine vp_callSi (W.runS (As := [.int 3]) (rest := [.int 1]) ⟨hx, hb, hml, hown, hg⟩ (c_X3_primeOf l 3) (va_cwS 1 hg (gw_S ml_X3_54 sm_X3_primeOf ini_X3 co_X3_primeOf) rfl rfl rfl (by decide +kernel) ⟨Nat.le_of_ble_eq_true rfl, Nat.le_of_ble_eq_true rfl⟩) ⟨tt_blind, (fun U hU hW => ⟨rfl, trivial⟩)⟩ rfl rfl hl.1 rfl (lv_room (Nat.le_of_ble_eq_true rfl)) dX3_putLogs_23 ⟨Nat.le_of_ble_eq_true rfl, Nat.le_of_ble_eq_true rfl⟩) (fun r_263 hr_263 => ?_)
      subst hr_263
      rw [show (if (3 : Int32) = 0 then 2 else if (3 : Int32) = 1 then 3 else if (3 : Int32) = 2 then 5 else if (3 : Int32) = 3 then 7 else 11) = (7 : Int32) from by decide]
      refine lv_irem hx hb dX3_putLogs_26 (by decide) ?_
      rw [show (1 : Int32) - 1 / 7 * 7 = 1 from by decide]
      refine lv_if_ne (tgt := 52) hx hb dX3_putLogs_27 (by decide) (fun _ => ?_) (fun c_264 => absurd c_264 (by decide))
      refine lv_iinc (v := 4) (lv' := [(4, .int 4), (3, .int 1), (0, .ref (b 0)), (1, .int n), (2, .int t9)]) hx hb dX3_putLogs_52 hl (k := 0) rfl (by decide) (by decide) rfl (fun ls hl => ?_)
      refine lv_goto (tgt := 14) hx hb dX3_putLogs_55 (by decide) ?_
      refine lv_iload hx hb dX3_putLogs_14 (lv_at hl 0 rfl) ?_
      refine lv_iconst (v := 5) hx hb dX3_putLogs_16 (by decide) ?_
      refine lv_icmp_ge (tgt := 58) hx hb dX3_putLogs_17 (by decide) (fun c_265 => absurd c_265 (by decide)) (fun _ => ?_)
      refine lv_iload_n hx hb dX3_putLogs_20 rfl (lv_at hl 1 rfl) ?_
      refine lv_iload hx hb dX3_putLogs_21 (lv_at hl 0 rfl) ?_
      refine vp_callSi (W.runS (As := [.int 4]) (rest := [.int 1]) ⟨hx, hb, hml, hown, hg⟩ (c_X3_primeOf l 4) (va_cwS 1 hg (gw_S ml_X3_54 sm_X3_primeOf ini_X3 co_X3_primeOf) rfl rfl rfl (by decide +kernel) ⟨Nat.le_of_ble_eq_true rfl, Nat.le_of_ble_eq_true rfl⟩) ⟨tt_blind, (fun U hU hW => ⟨rfl, trivial⟩)⟩ rfl rfl hl.1 rfl (lv_room (Nat.le_of_ble_eq_true rfl)) dX3_putLogs_23 ⟨Nat.le_of_ble_eq_true rfl, Nat.le_of_ble_eq_true rfl⟩) (fun r_266 hr_266 => ?_)
      subst hr_266
      rw [show (if (4 : Int32) = 0 then 2 else if (4 : Int32) = 1 then 3 else if (4 : Int32) = 2 then 5 else if (4 : Int32) = 3 then 7 else 11) = (11 : Int32) from by decide]
      refine lv_irem hx hb dX3_putLogs_26 (by decide) ?_
      rw [show (1 : Int32) - 1 / 11 * 11 = 1 from by decide]
      refine lv_if_ne (tgt := 52) hx hb dX3_putLogs_27 (by decide) (fun _ => ?_) (fun c_267 => absurd c_267 (by decide))
      refine lv_iinc (v := 5) (lv' := [(4, .int 5), (3, .int 1), (0, .ref (b 0)), (1, .int n), (2, .int t9)]) hx hb dX3_putLogs_52 hl (k := 0) rfl (by decide) (by decide) rfl (fun ls hl => ?_)
      refine lv_goto (tgt := 14) hx hb dX3_putLogs_55 (by decide) ?_
      refine lv_iload hx hb dX3_putLogs_14 (lv_at hl 0 rfl) ?_
      refine lv_iconst (v := 5) hx hb dX3_putLogs_16 (by decide) ?_
      refine lv_icmp_ge (tgt := 58) hx hb dX3_putLogs_17 (by decide) (fun _ => ?_) (fun c_268 => absurd c_268 (by decide))
      have hfj : ∀ j, j < 5 → (upd (upd (upd lg 0 v_245) 0 v_249) 1 v_256) j = lg j + t9 * nI (x_ti (gl_prime j) 3 (nI 12)) := by
        intro j hj
        rcases (show j = 0 ∨ j = 1 ∨ j = 2 ∨ j = 3 ∨ j = 4 by omega) with rfl | rfl | rfl | rfl | rfl
        · rw [show x_ti (gl_prime 0) 3 (nI 12) = 2 from by decide, ← tm_2]; try simp [upd, ev_245, ev_249, ev_256]
        · rw [show x_ti (gl_prime 1) 3 (nI 12) = 1 from by decide, ← tm_1]; try simp [upd, ev_245, ev_249, ev_256]
        · rw [show x_ti (gl_prime 2) 3 (nI 12) = 0 from by decide, ← tm_0]; try simp [upd, ev_245, ev_249, ev_256]
        · rw [show x_ti (gl_prime 3) 3 (nI 12) = 0 from by decide, ← tm_0]; try simp [upd, ev_245, ev_249, ev_256]
        · rw [show x_ti (gl_prime 4) 3 (nI 12) = 0 from by decide, ← tm_0]; try simp [upd, ev_245, ev_249, ev_256]
      have hP := hP.cg (p := 6) (g := fun j => lg j + t9 * nI (x_ti (gl_prime j) 3 (nI 12))) rfl hfj
      have hD := hD.set (p := 6) (e := .inl (cI, 5, .inl (fun j => lg j + t9 * nI (x_ti (gl_prime j) 3 (nI 12))))) rfl
      exact W.vret hx hb hr (fun t ht hW => ⟨⟨(), rfl, trivial, wd_E.at hK hP hD ht hW⟩, hS.F ht⟩) hS.2.2 dX3_putLogs_58
  refine lv_iload_n hx hb dX3_putLogs_0 rfl (lv_at hl 1 rfl) ?_
  refine lv_if_ge (tgt := 9) hx hb dX3_putLogs_1 (by decide) (fun c_269 => ?_) (fun c_269 => ?_)
  · refine lv_iload_n hx hb dX3_putLogs_9 rfl (lv_at hl 1 rfl) ?_
    have e9 : m_abs n = n := by rw [m_abs, if_pos c_269]
    exact W.eq (by rw [e9]) hcut
  · refine lv_iload_n hx hb dX3_putLogs_4 rfl (lv_at hl 1 rfl) ?_
    refine lv_ineg hx hb dX3_putLogs_5 ?_
    refine lv_goto (tgt := 10) hx hb dX3_putLogs_6 (by decide) ?_
    have e9 : m_abs n = (-n) := by rw [m_abs, if_neg c_269]
    exact W.eq (by rw [e9]) hcut
