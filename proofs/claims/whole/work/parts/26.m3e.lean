theorem sm_add {x y : Int64} {m n : Nat} (hx : x.toInt.natAbs ≤ m) (hy : y.toInt.natAbs ≤ n) (h : m + n < 2^62) : (x + y).toInt = x.toInt + y.toInt ∧ (x + y).toInt.natAbs ≤ m + n := by
  have e : (x + y).toInt = x.toInt + y.toInt := ma_add (by omega) (by omega)
  exact ⟨e, by rw [e]; omega⟩
theorem sm_mul {x y : Int64} {m n : Nat} (hx : x.toInt.natAbs ≤ m) (hy : y.toInt.natAbs ≤ n) (h : m * n < 2^62) : (x * y).toInt = x.toInt * y.toInt ∧ (x * y).toInt.natAbs ≤ m * n := by
  have hb := na_mul hx hy
  have e : (x * y).toInt = x.toInt * y.toInt := ma_mul (by omega) (by omega)
  exact ⟨e, by rw [e]; exact hb⟩
theorem sm_i {y : Int32} (h : in6 y) : y.toInt64.toInt.natAbs ≤ 6 := by rw [Int32.toInt_toInt64]; exact na6 h
theorem vl_pw {f : Nat → Int32} {x : Int32} (hf : ∀ j, j < 8 → in6 (f j)) (hx : in6 x) : (p_powers f x.toInt64).toInt.natAbs ≤ 2^15 := by
  have h3 := sm_mul (sm_i hx) (sm_i (hf 3 (by decide))) (by decide)
  have h2 := sm_mul (sm_i hx) (sm_add (sm_i (hf 2 (by decide))) h3.2 (by decide)).2 (by decide)
  have h1 := sm_mul (sm_i hx) (sm_add (sm_i (hf 1 (by decide))) h2.2 (by decide)).2 (by decide)
  exact Nat.le_trans (sm_add (sm_i (hf 0 (by decide))) h1.2 (by decide)).2 (by decide)
theorem vl_d {x y : Int32} (hx : in6 x) (hy : in6 y) : (x - y).toInt64.toInt.natAbs ≤ 12 := by
  rw [Int32.toInt_toInt64, sub6 hx hy]
  have := dl_6 hx hy
  omega
theorem vl_ab {f : Nat → Int32} {d : Int64} (hf : ∀ j, j < 8 → in6 (f j)) (hd : d.toInt.natAbs ≤ 12) : (p_above f d).toInt.natAbs ≤ 2^15 := by
  have h2 := sm_mul hd (sm_i (hf 4 (by decide))) (by decide)
  have h1 := sm_mul hd (sm_add (sm_i (hf 5 (by decide))) h2.2 (by decide)).2 (by decide)
  exact Nat.le_trans (sm_add (sm_i (hf 6 (by decide))) h1.2 (by decide)).2 (by decide)
theorem vl_q {d : Int64} (hd : d.toInt.natAbs ≤ 12) (h0 : ¬ d = 0) : (d * d * d).toInt.natAbs ≤ 2^11 ∧ (d * d * d).toInt ≠ 0 := by
  have h1 := sm_mul hd hd (by decide)
  have h2 := sm_mul h1.2 hd (by decide)
  refine ⟨Nat.le_trans h2.2 (by decide), ?_⟩
  have hz : d.toInt ≠ 0 := fun e => h0 (Int64.toInt_inj.mp (by rw [e]; rfl))
  rw [h2.1, h1.1]
  exact Int.mul_ne_zero (Int.mul_ne_zero hz hz) hz
def v_C (f : Nat → Int32) (x : Int32) : Int := if p_pole f then ((x_vd x f * x_vd x f * x_vd x f).toInt.natAbs : Int) else 1
def v_S (f : Nat → Int32) (x : Int32) : Int := if p_pole f then (p_powers f x.toInt64).toInt * ((x_vd x f * x_vd x f * x_vd x f).toInt.natAbs : Int) + (if 0 < (x_vd x f * x_vd x f * x_vd x f).toInt then (p_above f (x_vd x f)).toInt else -(p_above f (x_vd x f)).toInt) else (p_powers f x.toInt64).toInt
theorem v_sg {a q : Int} (hq : q ≠ 0) : a * (q.natAbs : Int) = (if 0 < q then a else -a) * q := by
  by_cases c : 0 < q
  · rw [if_pos c, show (q.natAbs : Int) = q by omega]
  · rw [if_neg c, show (q.natAbs : Int) = -q by omega, Int.mul_neg, Int.neg_mul]
theorem rt_0 (C : Int) : rt C 0 0 1 := ⟨by decide, by decide, by rw [show (0 : Int64).toInt = 0 from rfl]; omega⟩
theorem v_ab {a b c d : Int64} : (a * d + b) * d + c = c + d * (b + d * a) := by grind
theorem in6_of {x : Int32} (h : m_in x (-6) 6 = true) : in6 x := by
  simp only [m_in, Bool.and_eq_true, Bool.not_eq_true', decide_eq_false_iff_not, Int32.lt_iff_toInt_lt] at h
  have e1 : (-6 : Int32).toInt = -6 := by decide
  have e2 : (6 : Int32).toInt = 6 := by decide
  rw [e1, e2] at h
  exact ⟨by omega, by omega⟩
theorem v_bd {p q : Int} (hp : p.natAbs ≤ 2^15) (hq : q.natAbs ≤ 2^11) : bd (2^50) (0 + p * (q.natAbs : Int)) := by
  have := na_mul hp (show ((q.natAbs : Nat) : Int).natAbs ≤ 2^11 by omega)
  unfold bd
  omega
set_option maxHeartbeats 4000000 in
set_option maxRecDepth 100000 in
theorem c_X3_value (l : Launch) (A : Nat → Prop) (D : va_G) (cI cL cQ : ClassId) (fr : va_W) (b : Nat → Nat) (cod : Int32) (cnt : Nat) (hc : cnt ≤ 3) (pl nm od op : Nat → Int32) (kb : Bool) (kU kD : Int64) (kl : Nat → Int32) (up dn : Int64) (lg : Nat → Int32) (x k : Int32) (hn6 : ∀ q, q ≤ cnt → ∀ j, j < 8 → in6 (nm (8 * q + j))) : Met l yX3_value wsX3_value { frames := 1, cells := 0, slots := 0, locals := 34 } (va_Pc [.ref (b 0), .int x, .int k] (wd_B D (ty3 cI cL cQ) A (mw cI b cod (nI cnt) pl nm od op (zi kb) kU kD kl up dn lg ++ fr))) (va_Ql (fun r (u : Int32 × Int64 × Int64 × (Nat → Int32)) => ((m_in x (-6) 6 && m_in k 0 1) = false ∧ u.1 = 1) ∨ ((m_in x (-6) 6 && m_in k 0 1) = true ∧ ∃ p9, (p9 ≤ cnt ∧ (∀ j, j < p9 → ¬ x < pl j) ∧ (p9 < cnt → x < pl p9)) ∧ ((p_pole (fun j => nm (8 * p9 + j)) = true ∧ (x - nm (8 * p9 + 7)).toInt64 = 0 ∧ u.1 = 2) ∨ ((p_pole (fun j => nm (8 * p9 + j)) = true → ¬ (x - nm (8 * p9 + 7)).toInt64 = 0) ∧ u.1 = 0 ∧ r = (if k = 0 then u.2.1 else u.2.2.1) ∧ rt (v_C (fun j => nm (8 * p9 + j)) x) (v_S (fun j => nm (8 * p9 + j)) x) u.2.1 u.2.2.1)))) (fun u t => wd_E D (ty3 cI cL cQ) A (mw cI b u.1 (nI cnt) pl nm od op (zi kb) kU kD kl u.2.1 u.2.2.1 u.2.2.2 ++ fr) t) A) 0 0 A := by
  refine Met.ofW (cc := cX3_value) (maxL := 7) (ret := (some .long)) (by decide) rfl ?_
  intro p e s m args below meth c s₁ B hml hv
  obtain ⟨rfl, hG, hK, hP, hD, hA⟩ := hv
  have hx := B.exec
  have hb := B.bytes
  have hr := B.returns
  have hts := atoms_spec (ws := wsX3_value) B.pre
  have hg : ∀ w ∈ gw, w.before ([.ref (b 0), .int x, .int k] : List Value).toArray s = true := fun w h => hts w (List.mem_cons_of_mem _ h)
  have hown : s.vm.findClass RX3 = some m.cls := findClass_of_methodNamed B.named
  have hlocks := B.notSynchronized
  have hS : va_S A s.heap s.heap [] := va_S.rf
  have hl := lv_entry ([.ref (b 0), .int x, .int k]) (n := 7) (Nat.le_of_ble_eq_true rfl)
  rw [lg_entry_eq]
  generalize (lg_sl ([.ref (b 0), .int x, .int k]) ++ List.replicate (7 - (lg_sl ([.ref (b 0), .int x, .int k])).length) Slot.unset).toArray = ls at hl ⊢
  have hl : lv_has ls 7 [(0, .ref (b 0)), (1, .int x), (2, .int k)] := hl
  refine lv_aload_n hx hb dX3_value_0 rfl (lv_at hl 0 rfl) ?_
  refine lv_iload_n hx hb dX3_value_1 rfl (lv_at hl 1 rfl) ?_
  refine lv_bipush (v := (-6)) hx hb dX3_value_2 (by decide) ?_
  refine lv_bipush (v := 6) hx hb dX3_value_4 (by decide) ?_
  refine vp_callSi (W.runS (As := [.int x, .int (-6), .int 6]) (rest := [.ref (b 0)]) ⟨hx, hb, hml, hown, hg⟩ (c_X3_in l x (-6) 6) (va_cwS 3 hg (gw_S ml_X3_35 sm_X3_in ini_X3 co_X3_in) rfl rfl rfl (by decide +kernel) ⟨Nat.le_of_ble_eq_true rfl, Nat.le_of_ble_eq_true rfl⟩) ⟨tt_blind, (fun U hU hW => ⟨rfl, trivial⟩)⟩ rfl rfl hl.1 rfl (lv_room (Nat.le_of_ble_eq_true rfl)) dX3_value_6 ⟨Nat.le_of_ble_eq_true rfl, Nat.le_of_ble_eq_true rfl⟩) (fun r_1 hr_1 => ?_)
  subst hr_1
  refine lv_if_eq (tgt := 21) hx hb dX3_value_9 (by decide) (fun c_2 => ?_) (fun c_2 => ?_)
  · replace c_2 := zi_0 c_2
    refine lv_iconst (v := 1) hx hb dX3_value_21 (by decide) ?_
    refine lv_goto (tgt := 26) hx hb dX3_value_22 (by decide) ?_
    have hok : (m_in x (-6) 6 && m_in k 0 1) = false := by simp [c_2]
    refine va_put (D := D) (ci := 3) (v := .int 1) (ty := .int) (C := RX3) (T := TX3) (N := 13) hx hb hg inX3 tyX3 tyX3_ok nmX3 hown hK hP hD hS 0 rfl rfl 0 (by decide) (hg _ fl_X3_28) (fun _ h9 => h9) rfl (by decide +kernel) rfl rfl (Nat.le_of_ble_eq_true rfl) dX3_value_26 (fun H locs hP hD hS => ?_)
    have hP : va_P D vwCl (mw cI b 1 (nI cnt) pl nm od op (zi kb) kU kD kl up dn lg ++ fr) H := hP
    have hD : va_D A (mw cI b 1 (nI cnt) pl nm od op (zi kb) kU kD kl up dn lg ++ fr) := hD
    refine lv_aload_n hx hb dX3_value_29 rfl (lv_at hl 0 rfl) ?_
    refine va_get (D := D) (ci := 3) (v := .int 1) (C := RX3) (T := TX3) (N := 13) hx hb hg inX3 hown hK hP 0 rfl rfl 0 (by decide) (hg _ fl_X3_28) (fun _ h9 => h9) rfl dX3_value_30 ?_
    refine lv_if_le (tgt := 38) hx hb dX3_value_33 (by decide) (fun c_3 => absurd c_3 (by decide)) (fun _ => ?_)
    refine lv_lconst (v := 0) hx hb dX3_value_36 (by decide) ?_
    exact W.lret (v := 0) hx hb hr (fun t ht hW => ⟨⟨0, (1, up, dn, lg), rfl, Or.inl ⟨hok, rfl⟩, wd_E.at hK hP hD ht hW⟩, hS.F ht⟩) hS.2.2 dX3_value_37
  · replace c_2 := zi_n0 c_2
    refine lv_iload_n hx hb dX3_value_12 rfl (lv_at hl 2 rfl) ?_
    refine lv_iconst (v := 0) hx hb dX3_value_13 (by decide) ?_
    refine lv_iconst (v := 1) hx hb dX3_value_14 (by decide) ?_
    refine vp_callSi (W.runS (As := [.int k, .int 0, .int 1]) (rest := [.ref (b 0)]) ⟨hx, hb, hml, hown, hg⟩ (c_X3_in l k 0 1) (va_cwS 3 hg (gw_S ml_X3_35 sm_X3_in ini_X3 co_X3_in) rfl rfl rfl (by decide +kernel) ⟨Nat.le_of_ble_eq_true rfl, Nat.le_of_ble_eq_true rfl⟩) ⟨tt_blind, (fun U hU hW => ⟨rfl, trivial⟩)⟩ rfl rfl hl.1 rfl (lv_room (Nat.le_of_ble_eq_true rfl)) dX3_value_15 ⟨Nat.le_of_ble_eq_true rfl, Nat.le_of_ble_eq_true rfl⟩) (fun r_4 hr_4 => ?_)
    subst hr_4
    refine lv_if_ne (tgt := 25) hx hb dX3_value_18 (by decide) (fun c_5 => ?_) (fun c_5 => ?_)
    · replace c_5 := zi_n0 c_5
      refine lv_iconst (v := 0) hx hb dX3_value_25 (by decide) ?_
      have hok : (m_in x (-6) 6 && m_in k 0 1) = true := by simp [c_2, c_5]
      refine va_put (D := D) (ci := 3) (v := .int 0) (ty := .int) (C := RX3) (T := TX3) (N := 13) hx hb hg inX3 tyX3 tyX3_ok nmX3 hown hK hP hD hS 0 rfl rfl 0 (by decide) (hg _ fl_X3_28) (fun _ h9 => h9) rfl (by decide +kernel) rfl rfl (Nat.le_of_ble_eq_true rfl) dX3_value_26 (fun H locs hP hD hS => ?_)
      have hP : va_P D vwCl (mw cI b 0 (nI cnt) pl nm od op (zi kb) kU kD kl up dn lg ++ fr) H := hP
      have hD : va_D A (mw cI b 0 (nI cnt) pl nm od op (zi kb) kU kD kl up dn lg ++ fr) := hD
      refine lv_aload_n hx hb dX3_value_29 rfl (lv_at hl 0 rfl) ?_
      refine va_get (D := D) (ci := 3) (v := .int 0) (C := RX3) (T := TX3) (N := 13) hx hb hg inX3 hown hK hP 0 rfl rfl 0 (by decide) (hg _ fl_X3_28) (fun _ h9 => h9) rfl dX3_value_30 ?_
      refine lv_if_le (tgt := 38) hx hb dX3_value_33 (by decide) (fun _ => ?_) (fun c_6 => absurd c_6 (by decide))
      refine lv_iconst (v := 0) hx hb dX3_value_38 (by decide) ?_
      refine lv_istore_n (lv' := [(3, .int 0), (0, .ref (b 0)), (1, .int x), (2, .int k)]) hx hb dX3_value_39 rfl hl (by decide) rfl (fun ls hl => ?_)
      have hx6 : in6 x := in6_of (by have h9 := hok; rw [Bool.and_eq_true] at h9; exact h9.1)
      have J64 : ∀ (p9 : Nat), (p9 ≤ cnt) → (∀ j, j < p9 → ¬ x < pl j) → (p9 < cnt → x < pl p9) → ∀ (ls : Array Slot), lv_has ls 7 [(3, .int (nI p9)), (0, .ref (b 0)), (1, .int x), (2, .int k)] → W p l e (headSpec wsX3_value { frames := 1, cells := 0, slots := 0, locals := 34 }).room s m ([.ref (b 0), .int x, .int k] : List Value).toArray below meth c H locs 0 0 (MQ below (va_Ql (fun r (u : Int32 × Int64 × Int64 × (Nat → Int32)) => ((m_in x (-6) 6 && m_in k 0 1) = false ∧ u.1 = 1) ∨ ((m_in x (-6) 6 && m_in k 0 1) = true ∧ ∃ p9, (p9 ≤ cnt ∧ (∀ j, j < p9 → ¬ x < pl j) ∧ (p9 < cnt → x < pl p9)) ∧ ((p_pole (fun j => nm (8 * p9 + j)) = true ∧ (x - nm (8 * p9 + 7)).toInt64 = 0 ∧ u.1 = 2) ∨ ((p_pole (fun j => nm (8 * p9 + j)) = true → ¬ (x - nm (8 * p9 + 7)).toInt64 = 0) ∧ u.1 = 0 ∧ r = (if k = 0 then u.2.1 else u.2.2.1) ∧ rt (v_C (fun j => nm (8 * p9 + j)) x) (v_S (fun j => nm (8 * p9 + j)) x) u.2.1 u.2.2.1)))) (fun u t => wd_E D (ty3 cI cL cQ) A (mw cI b u.1 (nI cnt) pl nm od op (zi kb) kU kD kl u.2.1 u.2.2.1 u.2.2.2 ++ fr) t) A) ([.ref (b 0), .int x, .int k] : List Value).toArray s 0 0 A) (F0 m 64 ls []) := by
        intro p9 hp hlt hge ls hl
        refine lv_bipush (v := 8) hx hb dX3_value_64 (by decide) ?_
        refine lv_iload_n hx hb dX3_value_66 rfl (lv_at hl 0 rfl) ?_
        refine lv_imul hx hb dX3_value_67 ?_
        rw [show (8 : Int32) * nI p9 = nI (8 * p9) from pk_mul 8 p9]
        refine lv_istore (lv' := [(4, .int (nI (8 * p9))), (3, .int (nI p9)), (0, .ref (b 0)), (1, .int x), (2, .int k)]) hx hb dX3_value_68 hl (by decide) rfl (fun ls hl => ?_)
        refine lv_iload_n hx hb dX3_value_70 rfl (lv_at hl 3 rfl) ?_
        refine lv_aload_n hx hb dX3_value_71 rfl (lv_at hl 2 rfl) ?_
        refine va_get (D := D) (ci := 3) (v := .ref (b 2)) (C := RX3) (T := TX3) (N := 13) hx hb hg inX3 hown hK hP 0 rfl rfl 3 (by decide) (hg _ fl_X3_13) (fun _ h9 => h9) rfl dX3_value_72 ?_
        refine lv_iload hx hb dX3_value_75 (lv_at hl 0 rfl) ?_
        refine lv_bipush (v := 7) hx hb dX3_value_77 (by decide) ?_
        refine lv_iadd hx hb dX3_value_79 ?_
        rw [show (nI (8 * p9)) + (7 : Int32) = nI ((8 * p9) + 7) from nI_add (8 * p9) 7]
        refine va_iald (D := D) (n := 32) (f := nm) hx hb hK hP 2 0 rfl rfl (vp_in_nI (show ((8 * p9) + 7) < 32 by omega) (by decide)) dX3_value_80 ?_
        rw [nI_clamp (show ((8 * p9) + 7) < 2 ^ 31 by omega)]
        refine lv_isub hx hb dX3_value_81 ?_
        refine lv_i2l hx hb dX3_value_82 rfl ?_
        refine lv_topl (fun v_7 ev_7 => ?_)
        refine lv_lstore (lv' := [(5, .long v_7), (4, .int (nI (8 * p9))), (3, .int (nI p9)), (0, .ref (b 0)), (1, .int x), (2, .int k)]) hx hb dX3_value_83 hl (by decide) rfl (fun ls hl => ?_)
        refine lv_aload_n hx hb dX3_value_85 rfl (lv_at hl 3 rfl) ?_
        refine lv_iload_n hx hb dX3_value_86 rfl (lv_at hl 2 rfl) ?_
        refine vp_callSi (W.runV (As := [.int (nI p9)]) (rest := []) ⟨hx, hb, hml, hown, hg⟩ (c_X3_hasPole l D cI cL cQ (b 0) (b 2) [.int 0, .int (nI cnt), .ref (b 1), .ref (b 2), .ref (b 3), .ref (b 4), .int (zi kb), .long kU, .long kD, .ref (b 5), .long up, .long dn, .ref (b 6)] rfl nm p9 (by omega)) (cwV 1 hg (gw_V ml_X3_58 im_X3_hasPole se_X3_hasPole ini_X3 co_X3_hasPole) rfl rfl rfl (by decide +kernel) ⟨Nat.le_of_ble_eq_true rfl, Nat.le_of_ble_eq_true rfl⟩) ⟨pu_B.blind, va_recv hK hP (ci := 3) (q0 := 0) rfl rfl, (fun U hU hW => ⟨rfl, pu_B.at hK (hP.sub [0, 2] rfl) hU hW⟩)⟩ rfl rfl hl.1 rfl (lv_room (Nat.le_of_ble_eq_true rfl)) dX3_value_87 ⟨Nat.le_of_ble_eq_true rfl, Nat.le_of_ble_eq_true rfl⟩) (fun r_8 hr_8 => ?_)
        subst hr_8
        refine lv_if_eq (tgt := 107) hx hb dX3_value_90 (by decide) (fun c_9 => ?_) (fun c_9 => ?_)
        · replace c_9 := zi_0 c_9
          have hfn := hn6 p9 hp
          have hpw : (p_powers (fun j => nm (8 * p9 + j)) x.toInt64).toInt.natAbs ≤ 2^15 := vl_pw (f := (fun j => nm (8 * p9 + j))) hfn hx6
          refine lv_aload_n hx hb dX3_value_107 rfl (lv_at hl 3 rfl) ?_
          refine va_callv (va_runV (As := []) (rest := []) ⟨hx, hb, hml, hown, hg⟩ (c_X3_start l A D cI cL cQ fr b 0 cnt hc pl nm od op kb kU kD kl up dn lg) (cwV 0 hg (gw_V ml_X3_65 im_X3_start se_X3_start ini_X3 co_X3_start) rfl rfl rfl (by decide +kernel) ⟨Nat.le_of_ble_eq_true rfl, Nat.le_of_ble_eq_true rfl⟩) ⟨wd_B.blind, va_recv hK hP (ci := 3) (q0 := 0) rfl rfl, (fun U hU hW => ⟨rfl, wd_B.at hG hK hP hD hS hA hU hW⟩)⟩ rfl rfl hl.1 rfl (lv_room (Nat.le_of_ble_eq_true rfl)) dX3_value_108 ⟨Nat.le_of_ble_eq_true rfl, Nat.le_of_ble_eq_true rfl⟩) hS (fun q _ h => h) (fun q h => h) (fun u t H1 locs ht hvm hr_10 hB hz1 hk1 hS => ?_)
          obtain ⟨hK, hP, hD⟩ := hB.back ht hvm
          generalize H1 = H at hP hS ⊢
          have hP : va_P D vwCl (mw cI b 0 (nI cnt) pl nm od op (zi kb) kU kD kl 0 1 (fun _ => 0) ++ fr) H := hP
          have hD : va_D A (mw cI b 0 (nI cnt) pl nm od op (zi kb) kU kD kl 0 1 (fun _ => 0) ++ fr) := hD
          refine lv_aload_n hx hb dX3_value_111 rfl (lv_at hl 3 rfl) ?_
          refine lv_aload_n hx hb dX3_value_112 rfl (lv_at hl 3 rfl) ?_
          refine va_get (D := D) (ci := 3) (v := .ref (b 2)) (C := RX3) (T := TX3) (N := 13) hx hb hg inX3 hown hK hP 0 rfl rfl 3 (by decide) (hg _ fl_X3_13) (fun _ h9 => h9) rfl dX3_value_113 ?_
          refine lv_iload hx hb dX3_value_116 (lv_at hl 1 rfl) ?_
          refine va_iald (D := D) (n := 32) (f := nm) hx hb hK hP 2 0 rfl rfl (vp_in_nI (show (8 * p9) < 32 by omega) (by decide)) dX3_value_118 ?_
          rw [nI_clamp (show (8 * p9) < 2 ^ 31 by omega)]
          refine lv_i2l hx hb dX3_value_119 rfl ?_
          refine lv_iload_n hx hb dX3_value_120 rfl (lv_at hl 4 rfl) ?_
          refine lv_i2l hx hb dX3_value_121 rfl ?_
          refine lv_aload_n hx hb dX3_value_122 rfl (lv_at hl 3 rfl) ?_
          refine va_get (D := D) (ci := 3) (v := .ref (b 2)) (C := RX3) (T := TX3) (N := 13) hx hb hg inX3 hown hK hP 0 rfl rfl 3 (by decide) (hg _ fl_X3_13) (fun _ h9 => h9) rfl dX3_value_123 ?_
          refine lv_iload hx hb dX3_value_126 (lv_at hl 1 rfl) ?_
          refine lv_iconst (v := 1) hx hb dX3_value_128 (by decide) ?_
          refine lv_iadd hx hb dX3_value_129 ?_
          rw [show (nI (8 * p9)) + (1 : Int32) = nI ((8 * p9) + 1) from nI_add (8 * p9) 1]
          refine va_iald (D := D) (n := 32) (f := nm) hx hb hK hP 2 0 rfl rfl (vp_in_nI (show ((8 * p9) + 1) < 32 by omega) (by decide)) dX3_value_130 ?_
          rw [nI_clamp (show ((8 * p9) + 1) < 2 ^ 31 by omega)]
          refine lv_i2l hx hb dX3_value_131 rfl ?_
          refine lv_iload_n hx hb dX3_value_132 rfl (lv_at hl 4 rfl) ?_
          refine lv_i2l hx hb dX3_value_133 rfl ?_
          refine lv_aload_n hx hb dX3_value_134 rfl (lv_at hl 3 rfl) ?_
          refine va_get (D := D) (ci := 3) (v := .ref (b 2)) (C := RX3) (T := TX3) (N := 13) hx hb hg inX3 hown hK hP 0 rfl rfl 3 (by decide) (hg _ fl_X3_13) (fun _ h9 => h9) rfl dX3_value_135 ?_
          refine lv_iload hx hb dX3_value_138 (lv_at hl 1 rfl) ?_
          refine lv_iconst (v := 2) hx hb dX3_value_140 (by decide) ?_
          refine lv_iadd hx hb dX3_value_141 ?_
          rw [show (nI (8 * p9)) + (2 : Int32) = nI ((8 * p9) + 2) from nI_add (8 * p9) 2]
          refine va_iald (D := D) (n := 32) (f := nm) hx hb hK hP 2 0 rfl rfl (vp_in_nI (show ((8 * p9) + 2) < 32 by omega) (by decide)) dX3_value_142 ?_
          rw [nI_clamp (show ((8 * p9) + 2) < 2 ^ 31 by omega)]
          refine lv_i2l hx hb dX3_value_143 rfl ?_
          refine lv_iload_n hx hb dX3_value_144 rfl (lv_at hl 4 rfl) ?_
          refine lv_i2l hx hb dX3_value_145 rfl ?_
          refine lv_aload_n hx hb dX3_value_146 rfl (lv_at hl 3 rfl) ?_
          refine va_get (D := D) (ci := 3) (v := .ref (b 2)) (C := RX3) (T := TX3) (N := 13) hx hb hg inX3 hown hK hP 0 rfl rfl 3 (by decide) (hg _ fl_X3_13) (fun _ h9 => h9) rfl dX3_value_147 ?_
          refine lv_iload hx hb dX3_value_150 (lv_at hl 1 rfl) ?_
          refine lv_iconst (v := 3) hx hb dX3_value_152 (by decide) ?_
          refine lv_iadd hx hb dX3_value_153 ?_
          rw [show (nI (8 * p9)) + (3 : Int32) = nI ((8 * p9) + 3) from nI_add (8 * p9) 3]
          refine va_iald (D := D) (n := 32) (f := nm) hx hb hK hP 2 0 rfl rfl (vp_in_nI (show ((8 * p9) + 3) < 32 by omega) (by decide)) dX3_value_154 ?_
          rw [nI_clamp (show ((8 * p9) + 3) < 2 ^ 31 by omega)]
          refine lv_i2l hx hb dX3_value_155 rfl ?_
          refine lv_lmul hx hb dX3_value_156 ?_
          refine lv_ladd hx hb dX3_value_157 ?_
          refine lv_lmul hx hb dX3_value_158 ?_
          refine lv_ladd hx hb dX3_value_159 ?_
          refine lv_lmul hx hb dX3_value_160 ?_
          refine lv_ladd hx hb dX3_value_161 ?_
          refine lv_lconst (v := 1) hx hb dX3_value_162 (by decide) ?_
          have hm := rt_more (C := 1) (S := 0) (T := (p_powers (fun j => nm (8 * p9 + j)) x.toInt64).toInt * 1) (x9 := ((nm (8 * p9)).toInt64 + (x.toInt64 * ((nm ((8 * p9) + 1)).toInt64 + (x.toInt64 * ((nm ((8 * p9) + 2)).toInt64 + (x.toInt64 * (nm ((8 * p9) + 3)).toInt64))))))) (y9 := 1) (by decide) (by decide) (rt_0 _) (by rw [show (1 : Int64).toInt = 1 from rfl]; exact (Int.mul_one _).symm) (by decide) (by decide) (hpw) (⟨by decide, by decide⟩)
          refine va_callv (va_runV (As := [.long ((nm (8 * p9)).toInt64 + (x.toInt64 * ((nm ((8 * p9) + 1)).toInt64 + (x.toInt64 * ((nm ((8 * p9) + 2)).toInt64 + (x.toInt64 * (nm ((8 * p9) + 3)).toInt64)))))), .long 1]) (rest := []) ⟨hx, hb, hml, hown, hg⟩ (c_X3_more l A D cI cL cQ fr b 0 cnt hc pl nm od op kb kU kD kl 0 1 (fun _ => 0) ((nm (8 * p9)).toInt64 + (x.toInt64 * ((nm ((8 * p9) + 1)).toInt64 + (x.toInt64 * ((nm ((8 * p9) + 2)).toInt64 + (x.toInt64 * (nm ((8 * p9) + 3)).toInt64)))))) 1 hm.1 hm.2.1 hm.2.2.1) (cwV 2 hg (gw_V ml_X3_68 im_X3_more se_X3_more ini_X3 co_X3_more) rfl rfl rfl (by decide +kernel) ⟨Nat.le_of_ble_eq_true rfl, Nat.le_of_ble_eq_true rfl⟩) ⟨wd_B.blind, va_recv hK hP (ci := 3) (q0 := 0) rfl rfl, (fun U hU hW => ⟨rfl, wd_B.at hG hK hP hD hS hA hU hW⟩)⟩ rfl rfl hl.1 rfl (lv_room (Nat.le_of_ble_eq_true rfl)) dX3_value_163 ⟨Nat.le_of_ble_eq_true rfl, Nat.le_of_ble_eq_true rfl⟩) hS (fun q _ h => h) (fun q h => h) (fun u t H1 locs ht hvm hr_12 hB hz1 hk1 hS => ?_)
          obtain ⟨hK, hP, hD⟩ := hB.back ht hvm
          generalize H1 = H at hP hS ⊢
          obtain ⟨up_11, dn_11⟩ := u
          have hrtu_11 : rt (1) (0 + (p_powers (fun j => nm (8 * p9 + j)) x.toInt64).toInt * 1) up_11 dn_11 := hm.2.2.2 _ hr_12
          have hP : va_P D vwCl (mw cI b 0 (nI cnt) pl nm od op (zi kb) kU kD kl up_11 dn_11 (fun _ => 0) ++ fr) H := hP
          have hD : va_D A (mw cI b 0 (nI cnt) pl nm od op (zi kb) kU kD kl up_11 dn_11 (fun _ => 0) ++ fr) := hD
          refine lv_aload_n hx hb dX3_value_166 rfl (lv_at hl 3 rfl) ?_
          refine lv_iload_n hx hb dX3_value_167 rfl (lv_at hl 2 rfl) ?_
          refine vp_callSi (W.runV (As := [.int (nI p9)]) (rest := []) ⟨hx, hb, hml, hown, hg⟩ (c_X3_hasPole l D cI cL cQ (b 0) (b 2) [.int 0, .int (nI cnt), .ref (b 1), .ref (b 2), .ref (b 3), .ref (b 4), .int (zi kb), .long kU, .long kD, .ref (b 5), .long up_11, .long dn_11, .ref (b 6)] rfl nm p9 (by omega)) (cwV 1 hg (gw_V ml_X3_58 im_X3_hasPole se_X3_hasPole ini_X3 co_X3_hasPole) rfl rfl rfl (by decide +kernel) ⟨Nat.le_of_ble_eq_true rfl, Nat.le_of_ble_eq_true rfl⟩) ⟨pu_B.blind, va_recv hK hP (ci := 3) (q0 := 0) rfl rfl, (fun U hU hW => ⟨rfl, pu_B.at hK (hP.sub [0, 2] rfl) hU hW⟩)⟩ rfl rfl hl.1 rfl (lv_room (Nat.le_of_ble_eq_true rfl)) dX3_value_168 ⟨Nat.le_of_ble_eq_true rfl, Nat.le_of_ble_eq_true rfl⟩) (fun r_13 hr_13 => ?_)
          subst hr_13
          refine lv_if_eq (tgt := 225) hx hb dX3_value_171 (by decide) (fun _ => ?_) (fun h => absurd ((zi_n0 h).symm.trans c_9) (by decide))
          refine lv_iload_n hx hb dX3_value_225 rfl (lv_at hl 5 rfl) ?_
          refine lv_if_ne (tgt := 236) hx hb dX3_value_226 (by decide) (fun c_14 => ?_) (fun c_14 => ?_)
          · refine lv_aload_n hx hb dX3_value_236 rfl (lv_at hl 3 rfl) ?_
            refine va_get (D := D) (ci := 3) (v := .long dn_11) (C := RX3) (T := TX3) (N := 13) hx hb hg inX3 hown hK hP 0 rfl rfl 11 (by decide) (hg _ fl_X3_51) (fun _ h9 => h9) rfl dX3_value_237 ?_
            exact W.lret (v := dn_11) hx hb hr (fun t ht hW => ⟨⟨dn_11, (0, up_11, dn_11, (fun _ => 0)), rfl, Or.inr ⟨hok, p9, ⟨hp, hlt, hge⟩, Or.inr ⟨fun h9 => absurd (h9.symm.trans c_9) (by decide), rfl, by rw [if_neg c_14], by rw [v_C, v_S, if_neg (by rw [c_9]; decide), if_neg (by rw [c_9]; decide)]; rw [Int.zero_add, Int.mul_one] at hrtu_11; exact hrtu_11⟩⟩, wd_E.at hK hP hD ht hW⟩, hS.F ht⟩) hS.2.2 dX3_value_240
          · refine lv_aload_n hx hb dX3_value_229 rfl (lv_at hl 3 rfl) ?_
            refine va_get (D := D) (ci := 3) (v := .long up_11) (C := RX3) (T := TX3) (N := 13) hx hb hg inX3 hown hK hP 0 rfl rfl 10 (by decide) (hg _ fl_X3_47) (fun _ h9 => h9) rfl dX3_value_230 ?_
            refine lv_goto (tgt := 240) hx hb dX3_value_233 (by decide) ?_
            exact W.lret (v := up_11) hx hb hr (fun t ht hW => ⟨⟨up_11, (0, up_11, dn_11, (fun _ => 0)), rfl, Or.inr ⟨hok, p9, ⟨hp, hlt, hge⟩, Or.inr ⟨fun h9 => absurd (h9.symm.trans c_9) (by decide), rfl, by rw [if_pos c_14], by rw [v_C, v_S, if_neg (by rw [c_9]; decide), if_neg (by rw [c_9]; decide)]; rw [Int.zero_add, Int.mul_one] at hrtu_11; exact hrtu_11⟩⟩, wd_E.at hK hP hD ht hW⟩, hS.F ht⟩) hS.2.2 dX3_value_240
        · replace c_9 := zi_n0 c_9
          refine lv_lload hx hb dX3_value_93 (lv_at hl 0 rfl) ?_
          refine lv_lconst (v := 0) hx hb dX3_value_95 (by decide) ?_
          refine W.lcmp hx hb dX3_value_96 ?_
          refine lv_if_ne (tgt := 107) hx hb dX3_value_97 (by decide) (fun c_15 => ?_) (fun c_15 => ?_)
          · replace c_15 := fun h => c_15 (lc_eq.mpr h)
            have hfn := hn6 p9 hp
            have hpw : (p_powers (fun j => nm (8 * p9 + j)) x.toInt64).toInt.natAbs ≤ 2^15 := vl_pw (f := (fun j => nm (8 * p9 + j))) hfn hx6
            have hdb : v_7.toInt.natAbs ≤ 12 := by rw [ev_7]; exact vl_d hx6 (hfn 7 (by decide))
            have hq9 := vl_q hdb c_15
            have hab : (p_above (fun j => nm (8 * p9 + j)) v_7).toInt.natAbs ≤ 2^15 := vl_ab (f := (fun j => nm (8 * p9 + j))) hfn hdb
            refine lv_aload_n hx hb dX3_value_107 rfl (lv_at hl 3 rfl) ?_
            refine va_callv (va_runV (As := []) (rest := []) ⟨hx, hb, hml, hown, hg⟩ (c_X3_start l A D cI cL cQ fr b 0 cnt hc pl nm od op kb kU kD kl up dn lg) (cwV 0 hg (gw_V ml_X3_65 im_X3_start se_X3_start ini_X3 co_X3_start) rfl rfl rfl (by decide +kernel) ⟨Nat.le_of_ble_eq_true rfl, Nat.le_of_ble_eq_true rfl⟩) ⟨wd_B.blind, va_recv hK hP (ci := 3) (q0 := 0) rfl rfl, (fun U hU hW => ⟨rfl, wd_B.at hG hK hP hD hS hA hU hW⟩)⟩ rfl rfl hl.1 rfl (lv_room (Nat.le_of_ble_eq_true rfl)) dX3_value_108 ⟨Nat.le_of_ble_eq_true rfl, Nat.le_of_ble_eq_true rfl⟩) hS (fun q _ h => h) (fun q h => h) (fun u t H1 locs ht hvm hr_16 hB hz1 hk1 hS => ?_)
            obtain ⟨hK, hP, hD⟩ := hB.back ht hvm
            generalize H1 = H at hP hS ⊢
            have hP : va_P D vwCl (mw cI b 0 (nI cnt) pl nm od op (zi kb) kU kD kl 0 1 (fun _ => 0) ++ fr) H := hP
            have hD : va_D A (mw cI b 0 (nI cnt) pl nm od op (zi kb) kU kD kl 0 1 (fun _ => 0) ++ fr) := hD
            refine lv_aload_n hx hb dX3_value_111 rfl (lv_at hl 3 rfl) ?_
            refine lv_aload_n hx hb dX3_value_112 rfl (lv_at hl 3 rfl) ?_
            refine va_get (D := D) (ci := 3) (v := .ref (b 2)) (C := RX3) (T := TX3) (N := 13) hx hb hg inX3 hown hK hP 0 rfl rfl 3 (by decide) (hg _ fl_X3_13) (fun _ h9 => h9) rfl dX3_value_113 ?_
            refine lv_iload hx hb dX3_value_116 (lv_at hl 1 rfl) ?_
            refine va_iald (D := D) (n := 32) (f := nm) hx hb hK hP 2 0 rfl rfl (vp_in_nI (show (8 * p9) < 32 by omega) (by decide)) dX3_value_118 ?_
            rw [nI_clamp (show (8 * p9) < 2 ^ 31 by omega)]
            refine lv_i2l hx hb dX3_value_119 rfl ?_
            refine lv_iload_n hx hb dX3_value_120 rfl (lv_at hl 4 rfl) ?_
            refine lv_i2l hx hb dX3_value_121 rfl ?_
            refine lv_aload_n hx hb dX3_value_122 rfl (lv_at hl 3 rfl) ?_
            refine va_get (D := D) (ci := 3) (v := .ref (b 2)) (C := RX3) (T := TX3) (N := 13) hx hb hg inX3 hown hK hP 0 rfl rfl 3 (by decide) (hg _ fl_X3_13) (fun _ h9 => h9) rfl dX3_value_123 ?_
            refine lv_iload hx hb dX3_value_126 (lv_at hl 1 rfl) ?_
            refine lv_iconst (v := 1) hx hb dX3_value_128 (by decide) ?_
            refine lv_iadd hx hb dX3_value_129 ?_
            rw [show (nI (8 * p9)) + (1 : Int32) = nI ((8 * p9) + 1) from nI_add (8 * p9) 1]
            refine va_iald (D := D) (n := 32) (f := nm) hx hb hK hP 2 0 rfl rfl (vp_in_nI (show ((8 * p9) + 1) < 32 by omega) (by decide)) dX3_value_130 ?_
            rw [nI_clamp (show ((8 * p9) + 1) < 2 ^ 31 by omega)]
            refine lv_i2l hx hb dX3_value_131 rfl ?_
            refine lv_iload_n hx hb dX3_value_132 rfl (lv_at hl 4 rfl) ?_
            refine lv_i2l hx hb dX3_value_133 rfl ?_
            refine lv_aload_n hx hb dX3_value_134 rfl (lv_at hl 3 rfl) ?_
            refine va_get (D := D) (ci := 3) (v := .ref (b 2)) (C := RX3) (T := TX3) (N := 13) hx hb hg inX3 hown hK hP 0 rfl rfl 3 (by decide) (hg _ fl_X3_13) (fun _ h9 => h9) rfl dX3_value_135 ?_
            refine lv_iload hx hb dX3_value_138 (lv_at hl 1 rfl) ?_
            refine lv_iconst (v := 2) hx hb dX3_value_140 (by decide) ?_
            refine lv_iadd hx hb dX3_value_141 ?_
            rw [show (nI (8 * p9)) + (2 : Int32) = nI ((8 * p9) + 2) from nI_add (8 * p9) 2]
            refine va_iald (D := D) (n := 32) (f := nm) hx hb hK hP 2 0 rfl rfl (vp_in_nI (show ((8 * p9) + 2) < 32 by omega) (by decide)) dX3_value_142 ?_
            rw [nI_clamp (show ((8 * p9) + 2) < 2 ^ 31 by omega)]
            refine lv_i2l hx hb dX3_value_143 rfl ?_
            refine lv_iload_n hx hb dX3_value_144 rfl (lv_at hl 4 rfl) ?_
            refine lv_i2l hx hb dX3_value_145 rfl ?_
            refine lv_aload_n hx hb dX3_value_146 rfl (lv_at hl 3 rfl) ?_
            refine va_get (D := D) (ci := 3) (v := .ref (b 2)) (C := RX3) (T := TX3) (N := 13) hx hb hg inX3 hown hK hP 0 rfl rfl 3 (by decide) (hg _ fl_X3_13) (fun _ h9 => h9) rfl dX3_value_147 ?_
            refine lv_iload hx hb dX3_value_150 (lv_at hl 1 rfl) ?_
            refine lv_iconst (v := 3) hx hb dX3_value_152 (by decide) ?_
            refine lv_iadd hx hb dX3_value_153 ?_
            rw [show (nI (8 * p9)) + (3 : Int32) = nI ((8 * p9) + 3) from nI_add (8 * p9) 3]
            refine va_iald (D := D) (n := 32) (f := nm) hx hb hK hP 2 0 rfl rfl (vp_in_nI (show ((8 * p9) + 3) < 32 by omega) (by decide)) dX3_value_154 ?_
            rw [nI_clamp (show ((8 * p9) + 3) < 2 ^ 31 by omega)]
            refine lv_i2l hx hb dX3_value_155 rfl ?_
            refine lv_lmul hx hb dX3_value_156 ?_
            refine lv_ladd hx hb dX3_value_157 ?_
            refine lv_lmul hx hb dX3_value_158 ?_
            refine lv_ladd hx hb dX3_value_159 ?_
            refine lv_lmul hx hb dX3_value_160 ?_
            refine lv_ladd hx hb dX3_value_161 ?_
            refine lv_lconst (v := 1) hx hb dX3_value_162 (by decide) ?_
            have hm := rt_more (C := (((v_7 * v_7 * v_7).toInt.natAbs : Nat) : Int)) (S := 0) (T := (p_powers (fun j => nm (8 * p9 + j)) x.toInt64).toInt * (((v_7 * v_7 * v_7).toInt.natAbs : Nat) : Int)) (x9 := ((nm (8 * p9)).toInt64 + (x.toInt64 * ((nm ((8 * p9) + 1)).toInt64 + (x.toInt64 * ((nm ((8 * p9) + 2)).toInt64 + (x.toInt64 * (nm ((8 * p9) + 3)).toInt64))))))) (y9 := 1) (by have := hq9.2; omega) (by have := hq9.1; omega) (rt_0 _) (by rw [show (1 : Int64).toInt = 1 from rfl]; exact (Int.mul_one _).symm) (by decide) (by decide) (hpw) (⟨by decide, by decide⟩)
            refine va_callv (va_runV (As := [.long ((nm (8 * p9)).toInt64 + (x.toInt64 * ((nm ((8 * p9) + 1)).toInt64 + (x.toInt64 * ((nm ((8 * p9) + 2)).toInt64 + (x.toInt64 * (nm ((8 * p9) + 3)).toInt64)))))), .long 1]) (rest := []) ⟨hx, hb, hml, hown, hg⟩ (c_X3_more l A D cI cL cQ fr b 0 cnt hc pl nm od op kb kU kD kl 0 1 (fun _ => 0) ((nm (8 * p9)).toInt64 + (x.toInt64 * ((nm ((8 * p9) + 1)).toInt64 + (x.toInt64 * ((nm ((8 * p9) + 2)).toInt64 + (x.toInt64 * (nm ((8 * p9) + 3)).toInt64)))))) 1 hm.1 hm.2.1 hm.2.2.1) (cwV 2 hg (gw_V ml_X3_68 im_X3_more se_X3_more ini_X3 co_X3_more) rfl rfl rfl (by decide +kernel) ⟨Nat.le_of_ble_eq_true rfl, Nat.le_of_ble_eq_true rfl⟩) ⟨wd_B.blind, va_recv hK hP (ci := 3) (q0 := 0) rfl rfl, (fun U hU hW => ⟨rfl, wd_B.at hG hK hP hD hS hA hU hW⟩)⟩ rfl rfl hl.1 rfl (lv_room (Nat.le_of_ble_eq_true rfl)) dX3_value_163 ⟨Nat.le_of_ble_eq_true rfl, Nat.le_of_ble_eq_true rfl⟩) hS (fun q _ h => h) (fun q h => h) (fun u t H1 locs ht hvm hr_18 hB hz1 hk1 hS => ?_)
            obtain ⟨hK, hP, hD⟩ := hB.back ht hvm
            generalize H1 = H at hP hS ⊢
            obtain ⟨up_17, dn_17⟩ := u
            have hrtu_17 : rt ((((v_7 * v_7 * v_7).toInt.natAbs : Nat) : Int)) (0 + (p_powers (fun j => nm (8 * p9 + j)) x.toInt64).toInt * (((v_7 * v_7 * v_7).toInt.natAbs : Nat) : Int)) up_17 dn_17 := hm.2.2.2 _ hr_18
            have hP : va_P D vwCl (mw cI b 0 (nI cnt) pl nm od op (zi kb) kU kD kl up_17 dn_17 (fun _ => 0) ++ fr) H := hP
            have hD : va_D A (mw cI b 0 (nI cnt) pl nm od op (zi kb) kU kD kl up_17 dn_17 (fun _ => 0) ++ fr) := hD
            refine lv_aload_n hx hb dX3_value_166 rfl (lv_at hl 3 rfl) ?_
            refine lv_iload_n hx hb dX3_value_167 rfl (lv_at hl 2 rfl) ?_
            refine vp_callSi (W.runV (As := [.int (nI p9)]) (rest := []) ⟨hx, hb, hml, hown, hg⟩ (c_X3_hasPole l D cI cL cQ (b 0) (b 2) [.int 0, .int (nI cnt), .ref (b 1), .ref (b 2), .ref (b 3), .ref (b 4), .int (zi kb), .long kU, .long kD, .ref (b 5), .long up_17, .long dn_17, .ref (b 6)] rfl nm p9 (by omega)) (cwV 1 hg (gw_V ml_X3_58 im_X3_hasPole se_X3_hasPole ini_X3 co_X3_hasPole) rfl rfl rfl (by decide +kernel) ⟨Nat.le_of_ble_eq_true rfl, Nat.le_of_ble_eq_true rfl⟩) ⟨pu_B.blind, va_recv hK hP (ci := 3) (q0 := 0) rfl rfl, (fun U hU hW => ⟨rfl, pu_B.at hK (hP.sub [0, 2] rfl) hU hW⟩)⟩ rfl rfl hl.1 rfl (lv_room (Nat.le_of_ble_eq_true rfl)) dX3_value_168 ⟨Nat.le_of_ble_eq_true rfl, Nat.le_of_ble_eq_true rfl⟩) (fun r_19 hr_19 => ?_)
            subst hr_19
            refine lv_if_eq (tgt := 225) hx hb dX3_value_171 (by decide) (fun h => absurd ((zi_0 h).symm.trans c_9) (by decide)) (fun _ => ?_)
            refine lv_aload_n hx hb dX3_value_174 rfl (lv_at hl 3 rfl) ?_
            refine lv_aload_n hx hb dX3_value_175 rfl (lv_at hl 3 rfl) ?_
            refine va_get (D := D) (ci := 3) (v := .ref (b 2)) (C := RX3) (T := TX3) (N := 13) hx hb hg inX3 hown hK hP 0 rfl rfl 3 (by decide) (hg _ fl_X3_13) (fun _ h9 => h9) rfl dX3_value_176 ?_
            refine lv_iload hx hb dX3_value_179 (lv_at hl 1 rfl) ?_
            refine lv_iconst (v := 4) hx hb dX3_value_181 (by decide) ?_
            refine lv_iadd hx hb dX3_value_182 ?_
            rw [show (nI (8 * p9)) + (4 : Int32) = nI ((8 * p9) + 4) from nI_add (8 * p9) 4]
            refine va_iald (D := D) (n := 32) (f := nm) hx hb hK hP 2 0 rfl rfl (vp_in_nI (show ((8 * p9) + 4) < 32 by omega) (by decide)) dX3_value_183 ?_
            rw [nI_clamp (show ((8 * p9) + 4) < 2 ^ 31 by omega)]
            refine lv_i2l hx hb dX3_value_184 rfl ?_
            refine lv_lload hx hb dX3_value_185 (lv_at hl 0 rfl) ?_
            refine lv_lmul hx hb dX3_value_187 ?_
            refine lv_aload_n hx hb dX3_value_188 rfl (lv_at hl 3 rfl) ?_
            refine va_get (D := D) (ci := 3) (v := .ref (b 2)) (C := RX3) (T := TX3) (N := 13) hx hb hg inX3 hown hK hP 0 rfl rfl 3 (by decide) (hg _ fl_X3_13) (fun _ h9 => h9) rfl dX3_value_189 ?_
            refine lv_iload hx hb dX3_value_192 (lv_at hl 1 rfl) ?_
            refine lv_iconst (v := 5) hx hb dX3_value_194 (by decide) ?_
            refine lv_iadd hx hb dX3_value_195 ?_
            rw [show (nI (8 * p9)) + (5 : Int32) = nI ((8 * p9) + 5) from nI_add (8 * p9) 5]
            refine va_iald (D := D) (n := 32) (f := nm) hx hb hK hP 2 0 rfl rfl (vp_in_nI (show ((8 * p9) + 5) < 32 by omega) (by decide)) dX3_value_196 ?_
            rw [nI_clamp (show ((8 * p9) + 5) < 2 ^ 31 by omega)]
            refine lv_i2l hx hb dX3_value_197 rfl ?_
            refine lv_ladd hx hb dX3_value_198 ?_
            refine lv_lload hx hb dX3_value_199 (lv_at hl 0 rfl) ?_
            refine lv_lmul hx hb dX3_value_201 ?_
            refine lv_aload_n hx hb dX3_value_202 rfl (lv_at hl 3 rfl) ?_
            refine va_get (D := D) (ci := 3) (v := .ref (b 2)) (C := RX3) (T := TX3) (N := 13) hx hb hg inX3 hown hK hP 0 rfl rfl 3 (by decide) (hg _ fl_X3_13) (fun _ h9 => h9) rfl dX3_value_203 ?_
            refine lv_iload hx hb dX3_value_206 (lv_at hl 1 rfl) ?_
            refine lv_bipush (v := 6) hx hb dX3_value_208 (by decide) ?_
            refine lv_iadd hx hb dX3_value_210 ?_
            rw [show (nI (8 * p9)) + (6 : Int32) = nI ((8 * p9) + 6) from nI_add (8 * p9) 6]
            refine va_iald (D := D) (n := 32) (f := nm) hx hb hK hP 2 0 rfl rfl (vp_in_nI (show ((8 * p9) + 6) < 32 by omega) (by decide)) dX3_value_211 ?_
            rw [nI_clamp (show ((8 * p9) + 6) < 2 ^ 31 by omega)]
            refine lv_i2l hx hb dX3_value_212 rfl ?_
            refine lv_ladd hx hb dX3_value_213 ?_
            refine lv_lload hx hb dX3_value_214 (lv_at hl 0 rfl) ?_
            refine lv_lload hx hb dX3_value_216 (lv_at hl 0 rfl) ?_
            refine lv_lmul hx hb dX3_value_218 ?_
            refine lv_lload hx hb dX3_value_219 (lv_at hl 0 rfl) ?_
            refine lv_lmul hx hb dX3_value_221 ?_
            have hae : (((((nm ((8 * p9) + 4)).toInt64 * v_7) + (nm ((8 * p9) + 5)).toInt64) * v_7) + (nm ((8 * p9) + 6)).toInt64) = p_above (fun j => nm (8 * p9 + j)) v_7 := v_ab
            have hbd : bd (2^50) (0 + (p_powers (fun j => nm (8 * p9 + j)) x.toInt64).toInt * (((v_7 * v_7 * v_7).toInt.natAbs : Nat) : Int)) := v_bd hpw hq9.1
            have hm := rt_more (C := (((v_7 * v_7 * v_7).toInt.natAbs : Nat) : Int)) (S := 0 + (p_powers (fun j => nm (8 * p9 + j)) x.toInt64).toInt * (((v_7 * v_7 * v_7).toInt.natAbs : Nat) : Int)) (T := (if 0 < (v_7 * v_7 * v_7).toInt then (p_above (fun j => nm (8 * p9 + j)) v_7).toInt else -(p_above (fun j => nm (8 * p9 + j)) v_7).toInt)) (x9 := (((((nm ((8 * p9) + 4)).toInt64 * v_7) + (nm ((8 * p9) + 5)).toInt64) * v_7) + (nm ((8 * p9) + 6)).toInt64)) (y9 := ((v_7 * v_7) * v_7)) (by have := hq9.2; omega) (by have := hq9.1; omega) (hrtu_17) (by rw [hae]; exact v_sg hq9.2) (hq9.2) (hq9.1) (by rw [hae]; exact hab) (hbd)
            refine va_callv (va_runV (As := [.long (((((nm ((8 * p9) + 4)).toInt64 * v_7) + (nm ((8 * p9) + 5)).toInt64) * v_7) + (nm ((8 * p9) + 6)).toInt64), .long ((v_7 * v_7) * v_7)]) (rest := []) ⟨hx, hb, hml, hown, hg⟩ (c_X3_more l A D cI cL cQ fr b 0 cnt hc pl nm od op kb kU kD kl up_17 dn_17 (fun _ => 0) (((((nm ((8 * p9) + 4)).toInt64 * v_7) + (nm ((8 * p9) + 5)).toInt64) * v_7) + (nm ((8 * p9) + 6)).toInt64) ((v_7 * v_7) * v_7) hm.1 hm.2.1 hm.2.2.1) (cwV 2 hg (gw_V ml_X3_68 im_X3_more se_X3_more ini_X3 co_X3_more) rfl rfl rfl (by decide +kernel) ⟨Nat.le_of_ble_eq_true rfl, Nat.le_of_ble_eq_true rfl⟩) ⟨wd_B.blind, va_recv hK hP (ci := 3) (q0 := 0) rfl rfl, (fun U hU hW => ⟨rfl, wd_B.at hG hK hP hD hS hA hU hW⟩)⟩ rfl rfl hl.1 rfl (lv_room (Nat.le_of_ble_eq_true rfl)) dX3_value_222 ⟨Nat.le_of_ble_eq_true rfl, Nat.le_of_ble_eq_true rfl⟩) hS (fun q _ h => h) (fun q h => h) (fun u t H1 locs ht hvm hr_21 hB hz1 hk1 hS => ?_)
            obtain ⟨hK, hP, hD⟩ := hB.back ht hvm
            generalize H1 = H at hP hS ⊢
            obtain ⟨up_20, dn_20⟩ := u
            have hrtu_20 : rt ((((v_7 * v_7 * v_7).toInt.natAbs : Nat) : Int)) (0 + (p_powers (fun j => nm (8 * p9 + j)) x.toInt64).toInt * (((v_7 * v_7 * v_7).toInt.natAbs : Nat) : Int) + (if 0 < (v_7 * v_7 * v_7).toInt then (p_above (fun j => nm (8 * p9 + j)) v_7).toInt else -(p_above (fun j => nm (8 * p9 + j)) v_7).toInt)) up_20 dn_20 := hm.2.2.2 _ hr_21
            have hP : va_P D vwCl (mw cI b 0 (nI cnt) pl nm od op (zi kb) kU kD kl up_20 dn_20 (fun _ => 0) ++ fr) H := hP
            have hD : va_D A (mw cI b 0 (nI cnt) pl nm od op (zi kb) kU kD kl up_20 dn_20 (fun _ => 0) ++ fr) := hD
            refine lv_iload_n hx hb dX3_value_225 rfl (lv_at hl 5 rfl) ?_
            refine lv_if_ne (tgt := 236) hx hb dX3_value_226 (by decide) (fun c_22 => ?_) (fun c_22 => ?_)
            · refine lv_aload_n hx hb dX3_value_236 rfl (lv_at hl 3 rfl) ?_
              refine va_get (D := D) (ci := 3) (v := .long dn_20) (C := RX3) (T := TX3) (N := 13) hx hb hg inX3 hown hK hP 0 rfl rfl 11 (by decide) (hg _ fl_X3_51) (fun _ h9 => h9) rfl dX3_value_237 ?_
              exact W.lret (v := dn_20) hx hb hr (fun t ht hW => ⟨⟨dn_20, (0, up_20, dn_20, (fun _ => 0)), rfl, Or.inr ⟨hok, p9, ⟨hp, hlt, hge⟩, Or.inr ⟨fun _ h9 => c_15 (by rw [ev_7]; exact h9), rfl, by rw [if_neg c_22], by have ed : v_7 = x_vd x (fun j => nm (8 * p9 + j)) := ev_7; rw [v_C, v_S, if_pos c_9, if_pos c_9, ← ed]; rw [Int.zero_add] at hrtu_20; exact hrtu_20⟩⟩, wd_E.at hK hP hD ht hW⟩, hS.F ht⟩) hS.2.2 dX3_value_240
            · refine lv_aload_n hx hb dX3_value_229 rfl (lv_at hl 3 rfl) ?_
              refine va_get (D := D) (ci := 3) (v := .long up_20) (C := RX3) (T := TX3) (N := 13) hx hb hg inX3 hown hK hP 0 rfl rfl 10 (by decide) (hg _ fl_X3_47) (fun _ h9 => h9) rfl dX3_value_230 ?_
              refine lv_goto (tgt := 240) hx hb dX3_value_233 (by decide) ?_
              exact W.lret (v := up_20) hx hb hr (fun t ht hW => ⟨⟨up_20, (0, up_20, dn_20, (fun _ => 0)), rfl, Or.inr ⟨hok, p9, ⟨hp, hlt, hge⟩, Or.inr ⟨fun _ h9 => c_15 (by rw [ev_7]; exact h9), rfl, by rw [if_pos c_22], by have ed : v_7 = x_vd x (fun j => nm (8 * p9 + j)) := ev_7; rw [v_C, v_S, if_pos c_9, if_pos c_9, ← ed]; rw [Int.zero_add] at hrtu_20; exact hrtu_20⟩⟩, wd_E.at hK hP hD ht hW⟩, hS.F ht⟩) hS.2.2 dX3_value_240
          · replace c_15 := lc_eq.mp c_15
            refine lv_aload_n hx hb dX3_value_100 rfl (lv_at hl 3 rfl) ?_
            refine lv_iconst (v := 2) hx hb dX3_value_101 (by decide) ?_
            refine va_calli (va_runV (As := [.int 2]) (rest := []) ⟨hx, hb, hml, hown, hg⟩ (c_X3_raise l A D cI cL cQ fr b 0 cnt hc pl nm od op kb kU kD kl up dn lg 2) (cwV 1 hg (gw_V ml_X3_62 im_X3_raise se_X3_raise ini_X3 co_X3_raise) rfl rfl rfl (by decide +kernel) ⟨Nat.le_of_ble_eq_true rfl, Nat.le_of_ble_eq_true rfl⟩) ⟨wd_B.blind, va_recv hK hP (ci := 3) (q0 := 0) rfl rfl, (fun U hU hW => ⟨rfl, wd_B.at hG hK hP hD hS hA hU hW⟩)⟩ rfl rfl hl.1 rfl (lv_room (Nat.le_of_ble_eq_true rfl)) dX3_value_102 ⟨Nat.le_of_ble_eq_true rfl, Nat.le_of_ble_eq_true rfl⟩) hS (fun q _ h => h) (fun q h => h) (fun r_23 u t H1 locs ht hvm hr_23 hB hz1 hk1 hS => ?_)
            obtain ⟨hK, hP, hD⟩ := hB.back ht hvm
            generalize H1 = H at hP hS ⊢
            subst hr_23
            have hP : va_P D vwCl (mw cI b 2 (nI cnt) pl nm od op (zi kb) kU kD kl up dn lg ++ fr) H := hP
            have hD : va_D A (mw cI b 2 (nI cnt) pl nm od op (zi kb) kU kD kl up dn lg ++ fr) := hD
            refine lv_i2l hx hb dX3_value_105 rfl ?_
            rw [show (0 : Int32).toInt64 = 0 from by decide]
            exact W.lret (v := 0) hx hb hr (fun t ht hW => ⟨⟨0, (2, up, dn, lg), rfl, Or.inr ⟨hok, p9, ⟨hp, hlt, hge⟩, Or.inl ⟨c_9, by rw [← ev_7]; exact c_15, rfl⟩⟩, wd_E.at hK hP hD ht hW⟩, hS.F ht⟩) hS.2.2 dX3_value_106
      have L40 : ∀ (n9 : Nat) (p9 : Nat), (p9 ≤ cnt) → (∀ j, j < p9 → ¬ x < pl j) → (cnt - p9 < n9) → ∀ (ls : Array Slot), lv_has ls 7 [(3, .int (nI p9)), (0, .ref (b 0)), (1, .int x), (2, .int k)] → W p l e (headSpec wsX3_value { frames := 1, cells := 0, slots := 0, locals := 34 }).room s m ([.ref (b 0), .int x, .int k] : List Value).toArray below meth c H locs 0 0 (MQ below (va_Ql (fun r (u : Int32 × Int64 × Int64 × (Nat → Int32)) => ((m_in x (-6) 6 && m_in k 0 1) = false ∧ u.1 = 1) ∨ ((m_in x (-6) 6 && m_in k 0 1) = true ∧ ∃ p9, (p9 ≤ cnt ∧ (∀ j, j < p9 → ¬ x < pl j) ∧ (p9 < cnt → x < pl p9)) ∧ ((p_pole (fun j => nm (8 * p9 + j)) = true ∧ (x - nm (8 * p9 + 7)).toInt64 = 0 ∧ u.1 = 2) ∨ ((p_pole (fun j => nm (8 * p9 + j)) = true → ¬ (x - nm (8 * p9 + 7)).toInt64 = 0) ∧ u.1 = 0 ∧ r = (if k = 0 then u.2.1 else u.2.2.1) ∧ rt (v_C (fun j => nm (8 * p9 + j)) x) (v_S (fun j => nm (8 * p9 + j)) x) u.2.1 u.2.2.1)))) (fun u t => wd_E D (ty3 cI cL cQ) A (mw cI b u.1 (nI cnt) pl nm od op (zi kb) kU kD kl u.2.1 u.2.2.1 u.2.2.2 ++ fr) t) A) ([.ref (b 0), .int x, .int k] : List Value).toArray s 0 0 A) (F0 m 40 ls []) := by
        intro n40
        induction n40 with
        | zero => intro p9 hp hlt h9; exact absurd h9 (by omega)
        | succ n40 ih40 =>
          intro p9 hp hlt h9 ls hl
          refine lv_iload_n hx hb dX3_value_40 rfl (lv_at hl 0 rfl) ?_
          refine lv_aload_n hx hb dX3_value_41 rfl (lv_at hl 1 rfl) ?_
          refine va_get (D := D) (ci := 3) (v := .int (nI cnt)) (C := RX3) (T := TX3) (N := 13) hx hb hg inX3 hown hK hP 0 rfl rfl 1 (by decide) (hg _ fl_X3_32) (fun _ h9 => h9) rfl dX3_value_42 ?_
          refine lv_icmp_ge (tgt := 64) hx hb dX3_value_45 (by decide) (fun c_24 => ?_) (fun c_24 => ?_)
          · replace c_24 : cnt ≤ p9 := (nI_leI (a := cnt) (b := p9) (by omega) (by omega)).mp c_24
            exact J64 p9 (by omega) (hlt) (fun h9 => absurd h9 (by omega))  ls (lv_sub hl [0, 1, 2, 3] rfl)
          · replace c_24 : ¬ cnt ≤ p9 := fun h => c_24 ((nI_leI (a := cnt) (b := p9) (by omega) (by omega)).mpr h)
            refine lv_aload_n hx hb dX3_value_48 rfl (lv_at hl 1 rfl) ?_
            refine va_get (D := D) (ci := 3) (v := .ref (b 1)) (C := RX3) (T := TX3) (N := 13) hx hb hg inX3 hown hK hP 0 rfl rfl 2 (by decide) (hg _ fl_X3_7) (fun _ h9 => h9) rfl dX3_value_49 ?_
            refine lv_iload_n hx hb dX3_value_52 rfl (lv_at hl 0 rfl) ?_
            refine va_iald (D := D) (n := 3) (f := pl) hx hb hK hP 1 0 rfl rfl (vp_in_nI (show p9 < 3 by omega) (by decide)) dX3_value_53 ?_
            rw [nI_clamp (show p9 < 2 ^ 31 by omega)]
            refine lv_iload_n hx hb dX3_value_54 rfl (lv_at hl 2 rfl) ?_
            refine lv_icmp_gt (tgt := 64) hx hb dX3_value_55 (by decide) (fun c_25 => ?_) (fun c_25 => ?_)
            · exact J64 p9 (by omega) (hlt) (fun _ => c_25)  ls (lv_sub hl [0, 1, 2, 3] rfl)
            · refine lv_iinc (v := nI (p9 + 1)) (lv' := [(3, .int (nI (p9 + 1))), (0, .ref (b 0)), (1, .int x), (2, .int k)]) hx hb dX3_value_58 hl (k := 0) rfl (nI_1 p9) (by decide) rfl (fun ls hl => ?_)
              refine lv_goto (tgt := 40) hx hb dX3_value_61 (by decide) ?_
              exact ih40 (p9 + 1) (by omega) (fun j hj => by rcases Nat.lt_or_ge j p9 with h | h; exact hlt j h; rw [show j = p9 by omega]; exact c_25)  (by omega) ls (lv_sub hl [0, 1, 2, 3] rfl)
      exact L40 ((cnt - 0) + 1) 0 (Nat.zero_le _) (fun j hj => absurd hj (Nat.not_lt_zero j))  (Nat.lt_succ_self _) ls (lv_sub hl [0, 1, 2, 3] rfl)
    · replace c_5 := zi_0 c_5
      refine lv_iconst (v := 1) hx hb dX3_value_21 (by decide) ?_
      refine lv_goto (tgt := 26) hx hb dX3_value_22 (by decide) ?_
      have hok : (m_in x (-6) 6 && m_in k 0 1) = false := by simp [c_2, c_5]
      refine va_put (D := D) (ci := 3) (v := .int 1) (ty := .int) (C := RX3) (T := TX3) (N := 13) hx hb hg inX3 tyX3 tyX3_ok nmX3 hown hK hP hD hS 0 rfl rfl 0 (by decide) (hg _ fl_X3_28) (fun _ h9 => h9) rfl (by decide +kernel) rfl rfl (Nat.le_of_ble_eq_true rfl) dX3_value_26 (fun H locs hP hD hS => ?_)
      have hP : va_P D vwCl (mw cI b 1 (nI cnt) pl nm od op (zi kb) kU kD kl up dn lg ++ fr) H := hP
      have hD : va_D A (mw cI b 1 (nI cnt) pl nm od op (zi kb) kU kD kl up dn lg ++ fr) := hD
      refine lv_aload_n hx hb dX3_value_29 rfl (lv_at hl 0 rfl) ?_
      refine va_get (D := D) (ci := 3) (v := .int 1) (C := RX3) (T := TX3) (N := 13) hx hb hg inX3 hown hK hP 0 rfl rfl 0 (by decide) (hg _ fl_X3_28) (fun _ h9 => h9) rfl dX3_value_30 ?_
      refine lv_if_le (tgt := 38) hx hb dX3_value_33 (by decide) (fun c_26 => absurd c_26 (by decide)) (fun _ => ?_)
      refine lv_lconst (v := 0) hx hb dX3_value_36 (by decide) ?_
      exact W.lret (v := 0) hx hb hr (fun t ht hW => ⟨⟨0, (1, up, dn, lg), rfl, Or.inl ⟨hok, rfl⟩, wd_E.at hK hP hD ht hW⟩, hS.F ht⟩) hS.2.2 dX3_value_37
