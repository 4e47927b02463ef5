/-! the ends of an integral, as whole numbers over 1536796800 -/
theorem cb_d {d : Int} (h1 : -12 ≤ d) (h2 : d ≤ 12) (h0 : d ≠ 0) : Int.tdiv 1536796800 d * d = 1536796800 ∧ (Int.tdiv 1536796800 d).natAbs ≤ 1536796800 := by
  have : d = -12 ∨ d = -11 ∨ d = -10 ∨ d = -9 ∨ d = -8 ∨ d = -7 ∨ d = -6 ∨ d = -5 ∨ d = -4 ∨ d = -3 ∨ d = -2 ∨ d = -1 ∨ d = 1 ∨ d = 2 ∨ d = 3 ∨ d = 4 ∨ d = 5 ∨ d = 6 ∨ d = 7 ∨ d = 8 ∨ d = 9 ∨ d = 10 ∨ d = 11 ∨ d = 12 := by omega
  rcases this with h | h | h | h | h | h | h | h | h | h | h | h | h | h | h | h | h | h | h | h | h | h | h | h <;> rw [h] <;> decide
theorem cb_dd {d : Int} (h1 : -12 ≤ d) (h2 : d ≤ 12) (h0 : d ≠ 0) : Int.tdiv 1536796800 (2 * d * d) * (2 * d * d) = 1536796800 ∧ (Int.tdiv 1536796800 (2 * d * d)).natAbs ≤ 1536796800 ∧ 2 ≤ 2 * d * d ∧ 2 * d * d ≤ 288 := by
  have : d = -12 ∨ d = -11 ∨ d = -10 ∨ d = -9 ∨ d = -8 ∨ d = -7 ∨ d = -6 ∨ d = -5 ∨ d = -4 ∨ d = -3 ∨ d = -2 ∨ d = -1 ∨ d = 1 ∨ d = 2 ∨ d = 3 ∨ d = 4 ∨ d = 5 ∨ d = 6 ∨ d = 7 ∨ d = 8 ∨ d = 9 ∨ d = 10 ∨ d = 11 ∨ d = 12 := by omega
  rcases this with h | h | h | h | h | h | h | h | h | h | h | h | h | h | h | h | h | h | h | h | h | h | h | h <;> rw [h] <;> decide
theorem pe_t0 (w : Int) : w * 1536796800 = w * 1536796800 * 1 := by omega
theorem pe_t1 (w : Int) : w * 1536796800 = w * 768398400 * 2 := by omega
theorem pe_t2 (w : Int) : w * 1536796800 = w * 512265600 * 3 := by omega
theorem pe_t3 (w : Int) : w * 1536796800 = w * 384199200 * 4 := by omega
theorem pe_q {w q d : Int} (h : q * d = 1536796800) : -w * 1536796800 = -(w * q) * d := by rw [← h, Int.neg_mul, Int.neg_mul, Int.mul_assoc]
theorem pe_12 {d : Int} (h1 : -12 ≤ d) (h2 : d ≤ 12) : d.natAbs ≤ 2^11 := by omega
theorem pe_288 {d : Int} (h1 : 2 ≤ d) (h2 : d ≤ 288) : d ≠ 0 := by omega
theorem pe_288b {d : Int} (h1 : 2 ≤ d) (h2 : d ≤ 288) : d.natAbs ≤ 2^11 := by omega
theorem pe_15 {d : Int} (h1 : d.natAbs ≤ 6) : (-d).natAbs ≤ 2^15 := by omega
theorem dl_1 {d : Int} (h1 : d ≠ 0) : 1 ≤ d.natAbs := by omega
theorem dl_12 {d : Int} (h1 : -12 ≤ d) (h2 : d ≤ 12) : d.natAbs ≤ 12 := by omega
theorem dl_6 {x y : Int32} (hx : in6 x) (hy : in6 y) : -12 ≤ x.toInt - y.toInt ∧ x.toInt - y.toInt ≤ 12 := by unfold in6 at *; omega
def e_pw (f : Nat → Int32) (x z : Int32) : Int := z.toInt * x.toInt * (f 0).toInt * 1536796800 + z.toInt * x.toInt * x.toInt * (f 1).toInt * 768398400 + z.toInt * x.toInt * x.toInt * x.toInt * (f 2).toInt * 512265600 + z.toInt * x.toInt * x.toInt * x.toInt * x.toInt * (f 3).toInt * 384199200
def e_po (f : Nat → Int32) (x z : Int32) : Int := -(z.toInt * (f 5).toInt * Int.tdiv 1536796800 (x.toInt - (f 7).toInt)) + -(z.toInt * (f 6).toInt * Int.tdiv 1536796800 (2 * (x.toInt - (f 7).toInt) * (x.toInt - (f 7).toInt)))
def e_all (f : Nat → Int32) (x z : Int32) : Int := if p_pole f then e_pw f x z + e_po f x z else e_pw f x z
theorem na6 {v : Int32} (h : in6 v) : v.toInt.natAbs ≤ 6 := by unfold in6 at h; omega
theorem i64_le {m : Int64} {n : Nat} (h : m.toInt.natAbs ≤ n) (hn : n < 2^63) : -2^63 ≤ m.toInt ∧ m.toInt < 2^63 := by omega
/-- a product of a long and an int, both small -/
theorem pe_mul {v : Int64} {y : Int32} {V : Int} {n : Nat} (hv : v.toInt = V) (hV : V.natAbs ≤ n) (hn : n ≤ 2^20) (hy : in6 y) : (v * y.toInt64).toInt = V * y.toInt ∧ (V * y.toInt).natAbs ≤ n * 6 := by
  have hb : (V * y.toInt).natAbs ≤ n * 6 := na_mul hV (na6 hy)
  refine ⟨?_, hb⟩
  rw [ma_mul, hv, Int32.toInt_toInt64] <;> rw [hv, Int32.toInt_toInt64] <;> omega
theorem in6_z {z : Int32} (h : z = 1 ∨ z = -1) : z.toInt.natAbs = 1 ∧ (-z).toInt = -z.toInt ∧ (-z = 1 ∨ -z = -1) := by
  rcases h with rfl | rfl <;> decide
theorem sub6 {x y : Int32} (hx : in6 x) (hy : in6 y) : (x - y).toInt = x.toInt - y.toInt := by
  unfold in6 at *
  rw [Int32.toInt_sub, ma_I] <;> omega
theorem ab_n {d : Int32} {D9 : Int} (h : d.toInt = D9) (h1 : -12 ≤ D9) (h2 : D9 ≤ 12) : m_abs d = nI D9.natAbs := by
  apply Int32.toInt_inj.mp
  rw [nI_toInt (by omega), m_abs]
  have hz : (0 : Int32).toInt = 0 := rfl
  by_cases c : 0 ≤ d
  · rw [if_pos c, h]
    rw [Int32.le_iff_toInt_le, hz] at c
    omega
  · rw [if_neg c, Int32.toInt_neg, ma_I (by omega) (by omega), h]
    rw [Int32.le_iff_toInt_le, hz] at c
    omega
theorem pe_ng {z y : Int32} (hz : z = 1 ∨ z = -1) (hy : in6 y) : ((-z).toInt64 * y.toInt64).toInt = -(z.toInt * y.toInt) ∧ (z.toInt * y.toInt).natAbs ≤ 6 := by
  obtain ⟨h1, h2, -⟩ := in6_z hz
  have hb : (z.toInt * y.toInt).natAbs ≤ 1 * 6 := na_mul (by omega) (na6 hy)
  have e : (-z).toInt64.toInt = -z.toInt := by rw [Int32.toInt_toInt64, h2]
  refine ⟨?_, by omega⟩
  have hk := (pe_mul (v := (-z).toInt64) (n := 1) e (by omega) (by decide) hy).1
  rw [hk]
  grind
theorem pe_dd {d : Int64} {D9 : Int} (h : d.toInt = D9) (h1 : -12 ≤ D9) (h2 : D9 ≤ 12) : (2 * d * d).toInt = 2 * D9 * D9 := by
  have b1 : (D9 * D9).natAbs ≤ 12 * 12 := na_mul (by omega) (by omega)
  have e2 : (2 : Int64).toInt = 2 := rfl
  have e : (2 * d).toInt = 2 * D9 := by rw [ma_mul, h, e2] <;> rw [h, e2] <;> omega
  have e3 : 2 * D9 * D9 = 2 * (D9 * D9) := Int.mul_assoc ..
  rw [ma_mul, e, h] <;> rw [e, h, e3] <;> omega
set_option maxHeartbeats 4000000 in
set_option maxRecDepth 100000 in
theorem c_X3_putEnd (l : Launch) (A : Nat → Prop) (D : va_G) (cI cL cQ : ClassId) (fr : va_W) (b : Nat → Nat) (cod : Int32) (cnt : Nat) (hc : cnt ≤ 3) (pl nm od op : Nat → Int32) (kb : Bool) (kU kD : Int64) (kl : Nat → Int32) (up dn : Int64) (lg : Nat → Int32) (p9 : Nat) (hp : p9 < 4) (x z : Int32) (S0 : Int) (hx6 : in6 x) (hz : z = 1 ∨ z = -1) (hn6 : ∀ j, j < 8 → in6 (nm (8 * p9 + j))) (hd9 : p_pole (fun j => nm (8 * p9 + j)) = true → ¬ x - (nm (8 * p9 + 7)) = 0) (hrt : rt 1536796800 S0 up dn) (hS0 : bd (2^49) S0) : Met l yX3_putEnd wsX3_putEnd { frames := 2, cells := 0, slots := 0, locals := 45 } (va_Pc [.ref (b 0), .int (nI p9), .int x, .int z] (wd_B D (ty3 cI cL cQ) A (mw cI b cod (nI cnt) pl nm od op (zi kb) kU kD kl up dn lg ++ fr))) (va_Qv (fun (u : Int64 × Int64 × (Nat → Int32)) => rt 1536796800 (S0 + e_all (fun j => nm (8 * p9 + j)) x z) u.1 u.2.1 ∧ u.2.2 = if p_pole (fun j => nm (8 * p9 + j)) then (fun j => lg j + z * (nm (8 * p9 + 4)) * nI (x_ti (gl_prime j) 3 (m_abs (x - (nm (8 * p9 + 7)))))) else lg) (fun u t => wd_E D (ty3 cI cL cQ) A (mw cI b cod (nI cnt) pl nm od op (zi kb) kU kD kl u.1 u.2.1 u.2.2 ++ fr) t) A) 0 0 A := by
  refine Met.ofW (cc := cX3_putEnd) (maxL := 8) (ret := none) (by decide) rfl ?_
  intro p e s m args below meth c s₁ B hml hv
  obtain ⟨rfl, hG, hK, hP, hD, hA⟩ := hv
  have hx := B.exec
  have hb := B.bytes
  have hr := B.returns
  have hts := atoms_spec (ws := wsX3_putEnd) B.pre
  have hg : ∀ w ∈ gw, w.before ([.ref (b 0), .int (nI p9), .int x, .int z] : List Value).toArray s = true := fun w h => hts w (List.mem_cons_of_mem _ h)
  have hown : s.vm.findClass RX3 = some m.cls := findClass_of_methodNamed B.named
  have hlocks := B.notSynchronized
  have hS : va_S A s.heap s.heap [] := va_S.rf
  have hl := lv_entry ([.ref (b 0), .int (nI p9), .int x, .int z]) (n := 8) (Nat.le_of_ble_eq_true rfl)
  rw [lg_entry_eq]
  generalize (lg_sl ([.ref (b 0), .int (nI p9), .int x, .int z]) ++ List.replicate (8 - (lg_sl ([.ref (b 0), .int (nI p9), .int x, .int z])).length) Slot.unset).toArray = ls at hl ⊢
  have hl : lv_has ls 8 [(0, .ref (b 0)), (1, .int (nI p9)), (2, .int x), (3, .int z)] := hl
  obtain ⟨hz1, hz2, hz3⟩ := in6_z hz
  have hX : x.toInt.natAbs ≤ 6 := na6 hx6
  refine lv_bipush (v := 8) hx hb dX3_putEnd_0 (by decide) ?_
  refine lv_iload_n hx hb dX3_putEnd_2 rfl (lv_at hl 1 rfl) ?_
  refine lv_imul hx hb dX3_putEnd_3 ?_
  rw [show (8 : Int32) * nI p9 = nI (8 * p9) from pk_mul 8 p9]
  refine lv_istore (lv' := [(4, .int (nI (8 * p9))), (0, .ref (b 0)), (1, .int (nI p9)), (2, .int x), (3, .int z)]) hx hb dX3_putEnd_4 hl (by decide) rfl (fun ls hl => ?_)
  refine lv_iload_n hx hb dX3_putEnd_6 rfl (lv_at hl 4 rfl) ?_
  refine lv_i2l hx hb dX3_putEnd_7 rfl ?_
  refine lv_topl (fun v_1 ev_1 => ?_)
  refine lv_lstore (lv' := [(5, .long v_1), (4, .int (nI (8 * p9))), (0, .ref (b 0)), (1, .int (nI p9)), (2, .int x), (3, .int z)]) hx hb dX3_putEnd_8 hl (by decide) rfl (fun ls hl => ?_)
  refine lv_iconst (v := 0) hx hb dX3_putEnd_10 (by decide) ?_
  refine lv_istore (lv' := [(7, .int 0), (5, .long v_1), (4, .int (nI (8 * p9))), (0, .ref (b 0)), (1, .int (nI p9)), (2, .int x), (3, .int z)]) hx hb dX3_putEnd_11 hl (by decide) rfl (fun ls hl => ?_)
  refine lv_iload hx hb dX3_putEnd_13 (lv_at hl 0 rfl) ?_
  refine lv_iconst (v := 4) hx hb dX3_putEnd_15 (by decide) ?_
  refine lv_icmp_ge (tgt := 55) hx hb dX3_putEnd_16 (by decide) (fun c_2 => absurd c_2 (by decide)) (fun _ => ?_)
  refine lv_lload hx hb dX3_putEnd_19 (lv_at hl 1 rfl) ?_
  refine lv_iload_n hx hb dX3_putEnd_21 rfl (lv_at hl 5 rfl) ?_
  refine lv_i2l hx hb dX3_putEnd_22 rfl ?_
  refine lv_lmul hx hb dX3_putEnd_23 ?_
  refine lv_topl (fun v_3 ev_3 => ?_)
  refine lv_lstore (lv' := [(5, .long v_3), (7, .int 0), (4, .int (nI (8 * p9))), (0, .ref (b 0)), (1, .int (nI p9)), (2, .int x), (3, .int z)]) hx hb dX3_putEnd_24 hl (by decide) rfl (fun ls hl => ?_)
  refine lv_aload_n hx hb dX3_putEnd_26 rfl (lv_at hl 3 rfl) ?_
  refine lv_lload hx hb dX3_putEnd_27 (lv_at hl 0 rfl) ?_
  refine lv_aload_n hx hb dX3_putEnd_29 rfl (lv_at hl 3 rfl) ?_
  refine va_get (D := D) (ci := 3) (v := .ref (b 2)) (C := RX3) (T := TX3) (N := 13) hx hb hg inX3 hown hK hP 0 rfl rfl 3 (by decide) (hg _ fl_X3_13) (fun _ h9 => h9) rfl dX3_putEnd_30 ?_
  refine lv_iload hx hb dX3_putEnd_33 (lv_at hl 2 rfl) ?_
  refine lv_iload hx hb dX3_putEnd_35 (lv_at hl 1 rfl) ?_
  refine lv_iadd hx hb dX3_putEnd_37 ?_
  rw [show (nI (8 * p9)) + (0 : Int32) = nI ((8 * p9) + 0) from nI_add (8 * p9) 0]
  refine va_iald (D := D) (n := 32) (f := nm) hx hb hK hP 2 0 rfl rfl (vp_in_nI (show ((8 * p9) + 0) < 32 by omega) (by decide)) dX3_putEnd_38 ?_
  rw [nI_clamp (show ((8 * p9) + 0) < 2 ^ 31 by omega)]
  refine lv_i2l hx hb dX3_putEnd_39 rfl ?_
  refine lv_lmul hx hb dX3_putEnd_40 ?_
  refine lv_iload hx hb dX3_putEnd_41 (lv_at hl 1 rfl) ?_
  refine lv_i2l hx hb dX3_putEnd_43 rfl ?_
  rw [show (0 : Int32).toInt64 = 0 from by decide]
  refine lv_lconst (v := 1) hx hb dX3_putEnd_44 (by decide) ?_
  refine lv_ladd hx hb dX3_putEnd_45 ?_
  rw [show (0 : Int64) + 1 = 1 from by decide]
  have hvz : v_1.toInt = z.toInt ∧ z.toInt.natAbs ≤ 1 := ⟨by rw [ev_1]; exact Int32.toInt_toInt64 z, by omega⟩
  have hv0 : v_3.toInt = z.toInt * x.toInt ∧ (z.toInt * x.toInt).natAbs ≤ 6 := by rw [ev_3]; exact pe_mul hvz.1 hvz.2 (by decide) hx6
  have hw0 := pe_mul (y := (nm (8 * p9 + 0))) hv0.1 hv0.2 (by decide) (hn6 0 (by decide))
  have hm := rt_more (C := 1536796800) (S := S0) (T := z.toInt * x.toInt * (nm (8 * p9 + 0)).toInt * 1536796800) (x9 := (v_3 * (nm ((8 * p9) + 0)).toInt64)) (y9 := 1) (by decide) (by decide) hrt (by rw [hw0.1, show (1 : Int64).toInt = 1 from rfl]; exact pe_t0 _) (by decide) (by decide) (by rw [hw0.1]; exact Nat.le_trans hw0.2 (by decide)) (bd_le hS0 (by decide))
  refine va_callv (va_runV (As := [.long (v_3 * (nm ((8 * p9) + 0)).toInt64), .long 1]) (rest := []) ⟨hx, hb, hml, hown, hg⟩ (c_X3_more l A D cI cL cQ fr b cod cnt hc pl nm od op kb kU kD kl up dn lg (v_3 * (nm ((8 * p9) + 0)).toInt64) 1 hm.1 hm.2.1 hm.2.2.1) (cwV 2 hg (gw_V ml_X3_68 im_X3_more se_X3_more ini_X3 co_X3_more) rfl rfl rfl (by decide +kernel) ⟨Nat.le_of_ble_eq_true rfl, Nat.le_of_ble_eq_true rfl⟩) ⟨wd_B.blind, va_recv hK hP (ci := 3) (q0 := 0) rfl rfl, (fun U hU hW => ⟨rfl, wd_B.at hG hK hP hD hS hA hU hW⟩)⟩ rfl rfl hl.1 rfl (lv_room (Nat.le_of_ble_eq_true rfl)) dX3_putEnd_46 ⟨Nat.le_of_ble_eq_true rfl, Nat.le_of_ble_eq_true rfl⟩) hS (fun q _ h => h) (fun q h => h) (fun u t H1 locs ht hvm hr_5 hB hz1 hk1 hS => ?_)
  obtain ⟨hK, hP, hD⟩ := hB.back ht hvm
  generalize H1 = H at hP hS ⊢
  obtain ⟨up_4, dn_4⟩ := u
  have hrt : rt 1536796800 (S0 + z.toInt * x.toInt * (nm (8 * p9 + 0)).toInt * 1536796800) up_4 dn_4 := hm.2.2.2 _ hr_5
  have hSb_4 := bd_add hS0 (bd_c hw0.2 1536796800)
  have hP : va_P D vwCl (mw cI b cod (nI cnt) pl nm od op (zi kb) kU kD kl up_4 dn_4 lg ++ fr) H := hP
  have hD : va_D A (mw cI b cod (nI cnt) pl nm od op (zi kb) kU kD kl up_4 dn_4 lg ++ fr) := hD
  refine lv_iinc (v := 1) (lv' := [(7, .int 1), (5, .long v_3), (4, .int (nI (8 * p9))), (0, .ref (b 0)), (1, .int (nI p9)), (2, .int x), (3, .int z)]) hx hb dX3_putEnd_49 hl (k := 1) rfl (by decide) (by decide) rfl (fun ls hl => ?_)
  refine lv_goto (tgt := 13) hx hb dX3_putEnd_52 (by decide) ?_
  refine lv_iload hx hb dX3_putEnd_13 (lv_at hl 0 rfl) ?_
  refine lv_iconst (v := 4) hx hb dX3_putEnd_15 (by decide) ?_
  refine lv_icmp_ge (tgt := 55) hx hb dX3_putEnd_16 (by decide) (fun c_6 => absurd c_6 (by decide)) (fun _ => ?_)
  refine lv_lload hx hb dX3_putEnd_19 (lv_at hl 1 rfl) ?_
  refine lv_iload_n hx hb dX3_putEnd_21 rfl (lv_at hl 5 rfl) ?_
  refine lv_i2l hx hb dX3_putEnd_22 rfl ?_
  refine lv_lmul hx hb dX3_putEnd_23 ?_
  refine lv_topl (fun v_7 ev_7 => ?_)
  refine lv_lstore (lv' := [(5, .long v_7), (7, .int 1), (4, .int (nI (8 * p9))), (0, .ref (b 0)), (1, .int (nI p9)), (2, .int x), (3, .int z)]) hx hb dX3_putEnd_24 hl (by decide) rfl (fun ls hl => ?_)
  refine lv_aload_n hx hb dX3_putEnd_26 rfl (lv_at hl 3 rfl) ?_
  refine lv_lload hx hb dX3_putEnd_27 (lv_at hl 0 rfl) ?_
  refine lv_aload_n hx hb dX3_putEnd_29 rfl (lv_at hl 3 rfl) ?_
  refine va_get (D := D) (ci := 3) (v := .ref (b 2)) (C := RX3) (T := TX3) (N := 13) hx hb hg inX3 hown hK hP 0 rfl rfl 3 (by decide) (hg _ fl_X3_13) (fun _ h9 => h9) rfl dX3_putEnd_30 ?_
  refine lv_iload hx hb dX3_putEnd_33 (lv_at hl 2 rfl) ?_
  refine lv_iload hx hb dX3_putEnd_35 (lv_at hl 1 rfl) ?_
  refine lv_iadd hx hb dX3_putEnd_37 ?_
  rw [show (nI (8 * p9)) + (1 : Int32) = nI ((8 * p9) + 1) from nI_add (8 * p9) 1]
  refine va_iald (D := D) (n := 32) (f := nm) hx hb hK hP 2 0 rfl rfl (vp_in_nI (show ((8 * p9) + 1) < 32 by omega) (by decide)) dX3_putEnd_38 ?_
  rw [nI_clamp (show ((8 * p9) + 1) < 2 ^ 31 by omega)]
  refine lv_i2l hx hb dX3_putEnd_39 rfl ?_
  refine lv_lmul hx hb dX3_putEnd_40 ?_
  refine lv_iload hx hb dX3_putEnd_41 (lv_at hl 1 rfl) ?_
  refine lv_i2l hx hb dX3_putEnd_43 rfl ?_
  rw [show (1 : Int32).toInt64 = 1 from by decide]
  refine lv_lconst (v := 1) hx hb dX3_putEnd_44 (by decide) ?_
  refine lv_ladd hx hb dX3_putEnd_45 ?_
  rw [show (1 : Int64) + 1 = 2 from by decide]
  have hv1 : v_7.toInt = z.toInt * x.toInt * x.toInt ∧ (z.toInt * x.toInt * x.toInt).natAbs ≤ 36 := by rw [ev_7]; exact pe_mul hv0.1 hv0.2 (by decide) hx6
  have hw1 := pe_mul (y := (nm (8 * p9 + 1))) hv1.1 hv1.2 (by decide) (hn6 1 (by decide))
  have hm := rt_more (C := 1536796800) (S := S0 + z.toInt * x.toInt * (nm (8 * p9 + 0)).toInt * 1536796800) (T := z.toInt * x.toInt * x.toInt * (nm (8 * p9 + 1)).toInt * 768398400) (x9 := (v_7 * (nm ((8 * p9) + 1)).toInt64)) (y9 := 2) (by decide) (by decide) hrt (by rw [hw1.1, show (2 : Int64).toInt = 2 from rfl]; exact pe_t1 _) (by decide) (by decide) (by rw [hw1.1]; exact Nat.le_trans hw1.2 (by decide)) (bd_le hSb_4 (by decide))
  refine va_callv (va_runV (As := [.long (v_7 * (nm ((8 * p9) + 1)).toInt64), .long 2]) (rest := []) ⟨hx, hb, hml, hown, hg⟩ (c_X3_more l A D cI cL cQ fr b cod cnt hc pl nm od op kb kU kD kl up_4 dn_4 lg (v_7 * (nm ((8 * p9) + 1)).toInt64) 2 hm.1 hm.2.1 hm.2.2.1) (cwV 2 hg (gw_V ml_X3_68 im_X3_more se_X3_more ini_X3 co_X3_more) rfl rfl rfl (by decide +kernel) ⟨Nat.le_of_ble_eq_true rfl, Nat.le_of_ble_eq_true rfl⟩) ⟨wd_B.blind, va_recv hK hP (ci := 3) (q0 := 0) rfl rfl, (fun U hU hW => ⟨rfl, wd_B.at hG hK hP hD hS hA hU hW⟩)⟩ rfl rfl hl.1 rfl (lv_room (Nat.le_of_ble_eq_true rfl)) dX3_putEnd_46 ⟨Nat.le_of_ble_eq_true rfl, Nat.le_of_ble_eq_true rfl⟩) hS (fun q _ h => h) (fun q h => h) (fun u t H1 locs ht hvm hr_9 hB hz1 hk1 hS => ?_)
  obtain ⟨hK, hP, hD⟩ := hB.back ht hvm
  generalize H1 = H at hP hS ⊢
  obtain ⟨up_8, dn_8⟩ := u
  have hrt : rt 1536796800 (S0 + z.toInt * x.toInt * (nm (8 * p9 + 0)).toInt * 1536796800 + z.toInt * x.toInt * x.toInt * (nm (8 * p9 + 1)).toInt * 768398400) up_8 dn_8 := hm.2.2.2 _ hr_9
  have hSb_8 := bd_add hSb_4 (bd_c hw1.2 768398400)
  have hP : va_P D vwCl (mw cI b cod (nI cnt) pl nm od op (zi kb) kU kD kl up_8 dn_8 lg ++ fr) H := hP
  have hD : va_D A (mw cI b cod (nI cnt) pl nm od op (zi kb) kU kD kl up_8 dn_8 lg ++ fr) := hD
  refine lv_iinc (v := 2) (lv' := [(7, .int 2), (5, .long v_7), (4, .int (nI (8 * p9))), (0, .ref (b 0)), (1, .int (nI p9)), (2, .int x), (3, .int z)]) hx hb dX3_putEnd_49 hl (k := 1) rfl (by decide) (by decide) rfl (fun ls hl => ?_)
  refine lv_goto (tgt := 13) hx hb dX3_putEnd_52 (by decide) ?_
  refine lv_iload hx hb dX3_putEnd_13 (lv_at hl 0 rfl) ?_
  refine lv_iconst (v := 4) hx hb dX3_putEnd_15 (by decide) ?_
  refine lv_icmp_ge (tgt := 55) hx hb dX3_putEnd_16 (by decide) (fun c_10 => absurd c_10 (by decide)) (fun _ => ?_)
  refine lv_lload hx hb dX3_putEnd_19 (lv_at hl 1 rfl) ?_
  refine lv_iload_n hx hb dX3_putEnd_21 rfl (lv_at hl 5 rfl) ?_
  refine lv_i2l hx hb dX3_putEnd_22 rfl ?_
  refine lv_lmul hx hb dX3_putEnd_23 ?_
  refine lv_topl (fun v_11 ev_11 => ?_)
  refine lv_lstore (lv' := [(5, .long v_11), (7, .int 2), (4, .int (nI (8 * p9))), (0, .ref (b 0)), (1, .int (nI p9)), (2, .int x), (3, .int z)]) hx hb dX3_putEnd_24 hl (by decide) rfl (fun ls hl => ?_)
  refine lv_aload_n hx hb dX3_putEnd_26 rfl (lv_at hl 3 rfl) ?_
  refine lv_lload hx hb dX3_putEnd_27 (lv_at hl 0 rfl) ?_
  refine lv_aload_n hx hb dX3_putEnd_29 rfl (lv_at hl 3 rfl) ?_
  refine va_get (D := D) (ci := 3) (v := .ref (b 2)) (C := RX3) (T := TX3) (N := 13) hx hb hg inX3 hown hK hP 0 rfl rfl 3 (by decide) (hg _ fl_X3_13) (fun _ h9 => h9) rfl dX3_putEnd_30 ?_
  refine lv_iload hx hb dX3_putEnd_33 (lv_at hl 2 rfl) ?_
  refine lv_iload hx hb dX3_putEnd_35 (lv_at hl 1 rfl) ?_
  refine lv_iadd hx hb dX3_putEnd_37 ?_
  rw [show (nI (8 * p9)) + (2 : Int32) = nI ((8 * p9) + 2) from nI_add (8 * p9) 2]
  refine va_iald (D := D) (n := 32) (f := nm) hx hb hK hP 2 0 rfl rfl (vp_in_nI (show ((8 * p9) + 2) < 32 by omega) (by decide)) dX3_putEnd_38 ?_
  rw [nI_clamp (show ((8 * p9) + 2) < 2 ^ 31 by omega)]
  refine lv_i2l hx hb dX3_putEnd_39 rfl ?_
  refine lv_lmul hx hb dX3_putEnd_40 ?_
  refine lv_iload hx hb dX3_putEnd_41 (lv_at hl 1 rfl) ?_
  refine lv_i2l hx hb dX3_putEnd_43 rfl ?_
  rw [show (2 : Int32).toInt64 = 2 from by decide]
  refine lv_lconst (v := 1) hx hb dX3_putEnd_44 (by decide) ?_
  refine lv_ladd hx hb dX3_putEnd_45 ?_
  rw [show (2 : Int64) + 1 = 3 from by decide]
  have hv2 : v_11.toInt = z.toInt * x.toInt * x.toInt * x.toInt ∧ (z.toInt * x.toInt * x.toInt * x.toInt).natAbs ≤ 216 := by rw [ev_11]; exact pe_mul hv1.1 hv1.2 (by decide) hx6
  have hw2 := pe_mul (y := (nm (8 * p9 + 2))) hv2.1 hv2.2 (by decide) (hn6 2 (by decide))
  have hm := rt_more (C := 1536796800) (S := S0 + z.toInt * x.toInt * (nm (8 * p9 + 0)).toInt * 1536796800 + z.toInt * x.toInt * x.toInt * (nm (8 * p9 + 1)).toInt * 768398400) (T := z.toInt * x.toInt * x.toInt * x.toInt * (nm (8 * p9 + 2)).toInt * 512265600) (x9 := (v_11 * (nm ((8 * p9) + 2)).toInt64)) (y9 := 3) (by decide) (by decide) hrt (by rw [hw2.1, show (3 : Int64).toInt = 3 from rfl]; exact pe_t2 _) (by decide) (by decide) (by rw [hw2.1]; exact Nat.le_trans hw2.2 (by decide)) (bd_le hSb_8 (by decide))
  refine va_callv (va_runV (As := [.long (v_11 * (nm ((8 * p9) + 2)).toInt64), .long 3]) (rest := []) ⟨hx, hb, hml, hown, hg⟩ (c_X3_more l A D cI cL cQ fr b cod cnt hc pl nm od op kb kU kD kl up_8 dn_8 lg (v_11 * (nm ((8 * p9) + 2)).toInt64) 3 hm.1 hm.2.1 hm.2.2.1) (cwV 2 hg (gw_V ml_X3_68 im_X3_more se_X3_more ini_X3 co_X3_more) rfl rfl rfl (by decide +kernel) ⟨Nat.le_of_ble_eq_true rfl, Nat.le_of_ble_eq_true rfl⟩) ⟨wd_B.blind, va_recv hK hP (ci := 3) (q0 := 0) rfl rfl, (fun U hU hW => ⟨rfl, wd_B.at hG hK hP hD hS hA hU hW⟩)⟩ rfl rfl hl.1 rfl (lv_room (Nat.le_of_ble_eq_true rfl)) dX3_putEnd_46 ⟨Nat.le_of_ble_eq_true rfl, Nat.le_of_ble_eq_true rfl⟩) hS (fun q _ h => h) (fun q h => h) (fun u t H1 locs ht hvm hr_13 hB hz1 hk1 hS => ?_)
  obtain ⟨hK, hP, hD⟩ := hB.back ht hvm
  generalize H1 = H at hP hS ⊢
  obtain ⟨up_12, dn_12⟩ := u
  have hrt : rt 1536796800 (S0 + z.toInt * x.toInt * (nm (8 * p9 + 0)).toInt * 1536796800 + z.toInt * x.toInt * x.toInt * (nm (8 * p9 + 1)).toInt * 768398400 + z.toInt * x.toInt * x.toInt * x.toInt * (nm (8 * p9 + 2)).toInt * 512265600) up_12 dn_12 := hm.2.2.2 _ hr_13
  have hSb_12 := bd_add hSb_8 (bd_c hw2.2 512265600)
  have hP : va_P D vwCl (mw cI b cod (nI cnt) pl nm od op (zi kb) kU kD kl up_12 dn_12 lg ++ fr) H := hP
  have hD : va_D A (mw cI b cod (nI cnt) pl nm od op (zi kb) kU kD kl up_12 dn_12 lg ++ fr) := hD
  refine lv_iinc (v := 3) (lv' := [(7, .int 3), (5, .long v_11), (4, .int (nI (8 * p9))), (0, .ref (b 0)), (1, .int (nI p9)), (2, .int x), (3, .int z)]) hx hb dX3_putEnd_49 hl (k := 1) rfl (by decide) (by decide) rfl (fun ls hl => ?_)
  refine lv_goto (tgt := 13) hx hb dX3_putEnd_52 (by decide) ?_
  refine lv_iload hx hb dX3_putEnd_13 (lv_at hl 0 rfl) ?_
  refine lv_iconst (v := 4) hx hb dX3_putEnd_15 (by decide) ?_
  refine lv_icmp_ge (tgt := 55) hx hb dX3_putEnd_16 (by decide) (fun c_14 => absurd c_14 (by decide)) (fun _ => ?_)
  refine lv_lload hx hb dX3_putEnd_19 (lv_at hl 1 rfl) ?_
  refine lv_iload_n hx hb dX3_putEnd_21 rfl (lv_at hl 5 rfl) ?_
  refine lv_i2l hx hb dX3_putEnd_22 rfl ?_
  refine lv_lmul hx hb dX3_putEnd_23 ?_
  refine lv_topl (fun v_15 ev_15 => ?_)
  refine lv_lstore (lv' := [(5, .long v_15), (7, .int 3), (4, .int (nI (8 * p9))), (0, .ref (b 0)), (1, .int (nI p9)), (2, .int x), (3, .int z)]) hx hb dX3_putEnd_24 hl (by decide) rfl (fun ls hl => ?_)
  refine lv_aload_n hx hb dX3_putEnd_26 rfl (lv_at hl 3 rfl) ?_
  refine lv_lload hx hb dX3_putEnd_27 (lv_at hl 0 rfl) ?_
  refine lv_aload_n hx hb dX3_putEnd_29 rfl (lv_at hl 3 rfl) ?_
  refine va_get (D := D) (ci := 3) (v := .ref (b 2)) (C := RX3) (T := TX3) (N := 13) hx hb hg inX3 hown hK hP 0 rfl rfl 3 (by decide) (hg _ fl_X3_13) (fun _ h9 => h9) rfl dX3_putEnd_30 ?_
  refine lv_iload hx hb dX3_putEnd_33 (lv_at hl 2 rfl) ?_
  refine lv_iload hx hb dX3_putEnd_35 (lv_at hl 1 rfl) ?_
  refine lv_iadd hx hb dX3_putEnd_37 ?_
  rw [show (nI (8 * p9)) + (3 : Int32) = nI ((8 * p9) + 3) from nI_add (8 * p9) 3]
  refine va_iald (D := D) (n := 32) (f := nm) hx hb hK hP 2 0 rfl rfl (vp_in_nI (show ((8 * p9) + 3) < 32 by omega) (by decide)) dX3_putEnd_38 ?_
  rw [nI_clamp (show ((8 * p9) + 3) < 2 ^ 31 by omega)]
  refine lv_i2l hx hb dX3_putEnd_39 rfl ?_
  refine lv_lmul hx hb dX3_putEnd_40 ?_
  refine lv_iload hx hb dX3_putEnd_41 (lv_at hl 1 rfl) ?_
  refine lv_i2l hx hb dX3_putEnd_43 rfl ?_
  rw [show (3 : Int32).toInt64 = 3 from by decide]
  refine lv_lconst (v := 1) hx hb dX3_putEnd_44 (by decide) ?_
  refine lv_ladd hx hb dX3_putEnd_45 ?_
  rw [show (3 : Int64) + 1 = 4 from by decide]
  have hv3 : v_15.toInt = z.toInt * x.toInt * x.toInt * x.toInt * x.toInt ∧ (z.toInt * x.toInt * x.toInt * x.toInt * x.toInt).natAbs ≤ 1296 := by rw [ev_15]; exact pe_mul hv2.1 hv2.2 (by decide) hx6
  have hw3 := pe_mul (y := (nm (8 * p9 + 3))) hv3.1 hv3.2 (by decide) (hn6 3 (by decide))
  have hm := rt_more (C := 1536796800) (S := S0 + z.toInt * x.toInt * (nm (8 * p9 + 0)).toInt * 1536796800 + z.toInt * x.toInt * x.toInt * (nm (8 * p9 + 1)).toInt * 768398400 + z.toInt * x.toInt * x.toInt * x.toInt * (nm (8 * p9 + 2)).toInt * 512265600) (T := z.toInt * x.toInt * x.toInt * x.toInt * x.toInt * (nm (8 * p9 + 3)).toInt * 384199200) (x9 := (v_15 * (nm ((8 * p9) + 3)).toInt64)) (y9 := 4) (by decide) (by decide) hrt (by rw [hw3.1, show (4 : Int64).toInt = 4 from rfl]; exact pe_t3 _) (by decide) (by decide) (by rw [hw3.1]; exact Nat.le_trans hw3.2 (by decide)) (bd_le hSb_12 (by decide))
  refine va_callv (va_runV (As := [.long (v_15 * (nm ((8 * p9) + 3)).toInt64), .long 4]) (rest := []) ⟨hx, hb, hml, hown, hg⟩ (c_X3_more l A D cI cL cQ fr b cod cnt hc pl nm od op kb kU kD kl up_12 dn_12 lg (v_15 * (nm ((8 * p9) + 3)).toInt64) 4 hm.1 hm.2.1 hm.2.2.1) (cwV 2 hg (gw_V ml_X3_68 im_X3_more se_X3_more ini_X3 co_X3_more) rfl rfl rfl (by decide +kernel) ⟨Nat.le_of_ble_eq_true rfl, Nat.le_of_ble_eq_true rfl⟩) ⟨wd_B.blind, va_recv hK hP (ci := 3) (q0 := 0) rfl rfl, (fun U hU hW => ⟨rfl, wd_B.at hG hK hP hD hS hA hU hW⟩)⟩ rfl rfl hl.1 rfl (lv_room (Nat.le_of_ble_eq_true rfl)) dX3_putEnd_46 ⟨Nat.le_of_ble_eq_true rfl, Nat.le_of_ble_eq_true rfl⟩) hS (fun q _ h => h) (fun q h => h) (fun u t H1 locs ht hvm hr_17 hB hz1 hk1 hS => ?_)
  obtain ⟨hK, hP, hD⟩ := hB.back ht hvm
  generalize H1 = H at hP hS ⊢
  obtain ⟨up_16, dn_16⟩ := u
  have hrt : rt 1536796800 (S0 + z.toInt * x.toInt * (nm (8 * p9 + 0)).toInt * 1536796800 + z.toInt * x.toInt * x.toInt * (nm (8 * p9 + 1)).toInt * 768398400 + z.toInt * x.toInt * x.toInt * x.toInt * (nm (8 * p9 + 2)).toInt * 512265600 + z.toInt * x.toInt * x.toInt * x.toInt * x.toInt * (nm (8 * p9 + 3)).toInt * 384199200) up_16 dn_16 := hm.2.2.2 _ hr_17
  have hSb_16 := bd_add hSb_12 (bd_c hw3.2 384199200)
  have hP : va_P D vwCl (mw cI b cod (nI cnt) pl nm od op (zi kb) kU kD kl up_16 dn_16 lg ++ fr) H := hP
  have hD : va_D A (mw cI b cod (nI cnt) pl nm od op (zi kb) kU kD kl up_16 dn_16 lg ++ fr) := hD
  refine lv_iinc (v := 4) (lv' := [(7, .int 4), (5, .long v_15), (4, .int (nI (8 * p9))), (0, .ref (b 0)), (1, .int (nI p9)), (2, .int x), (3, .int z)]) hx hb dX3_putEnd_49 hl (k := 1) rfl (by decide) (by decide) rfl (fun ls hl => ?_)
  refine lv_goto (tgt := 13) hx hb dX3_putEnd_52 (by decide) ?_
  refine lv_iload hx hb dX3_putEnd_13 (lv_at hl 0 rfl) ?_
  refine lv_iconst (v := 4) hx hb dX3_putEnd_15 (by decide) ?_
  refine lv_icmp_ge (tgt := 55) hx hb dX3_putEnd_16 (by decide) (fun _ => ?_) (fun c_18 => absurd c_18 (by decide))
  refine lv_aload_n hx hb dX3_putEnd_55 rfl (lv_at hl 3 rfl) ?_
  refine lv_iload_n hx hb dX3_putEnd_56 rfl (lv_at hl 4 rfl) ?_
  refine vp_callSi (W.runV (As := [.int (nI p9)]) (rest := []) ⟨hx, hb, hml, hown, hg⟩ (c_X3_hasPole l D cI cL cQ (b 0) (b 2) [.int cod, .int (nI cnt), .ref (b 1), .ref (b 2), .ref (b 3), .ref (b 4), .int (zi kb), .long kU, .long kD, .ref (b 5), .long up_16, .long dn_16, .ref (b 6)] rfl nm p9 (by omega)) (cwV 1 hg (gw_V ml_X3_58 im_X3_hasPole se_X3_hasPole ini_X3 co_X3_hasPole) rfl rfl rfl (by decide +kernel) ⟨Nat.le_of_ble_eq_true rfl, Nat.le_of_ble_eq_true rfl⟩) ⟨pu_B.blind, va_recv hK hP (ci := 3) (q0 := 0) rfl rfl, (fun U hU hW => ⟨rfl, pu_B.at hK (hP.sub [0, 2] rfl) hU hW⟩)⟩ rfl rfl hl.1 rfl (lv_room (Nat.le_of_ble_eq_true rfl)) dX3_putEnd_57 ⟨Nat.le_of_ble_eq_true rfl, Nat.le_of_ble_eq_true rfl⟩) (fun r_19 hr_19 => ?_)
  subst hr_19
  refine lv_if_ne (tgt := 64) hx hb dX3_putEnd_60 (by decide) (fun c_20 => ?_) (fun c_20 => ?_)
  · replace c_20 := zi_n0 c_20
    have hpo := c_20
    have hdz := hd9 hpo
    have hdi := sub6 hx6 (hn6 7 (by decide))
    have hd0 : x.toInt - (nm (8 * p9 + 7)).toInt ≠ 0 := fun h => hdz (Int32.toInt_inj.mp (by rw [hdi, h]; rfl))
    have hf7 := hn6 7 (by decide)
    have hdl : -12 ≤ x.toInt - (nm (8 * p9 + 7)).toInt ∧ x.toInt - (nm (8 * p9 + 7)).toInt ≤ 12 := dl_6 hx6 hf7
    have hc1 := cb_d hdl.1 hdl.2 hd0
    have hc2 := cb_dd hdl.1 hdl.2 hd0
    refine lv_iload_n hx hb dX3_putEnd_64 rfl (lv_at hl 5 rfl) ?_
    refine lv_aload_n hx hb dX3_putEnd_65 rfl (lv_at hl 3 rfl) ?_
    refine va_get (D := D) (ci := 3) (v := .ref (b 2)) (C := RX3) (T := TX3) (N := 13) hx hb hg inX3 hown hK hP 0 rfl rfl 3 (by decide) (hg _ fl_X3_13) (fun _ h9 => h9) rfl dX3_putEnd_66 ?_
    refine lv_iload hx hb dX3_putEnd_69 (lv_at hl 2 rfl) ?_
    refine lv_bipush (v := 7) hx hb dX3_putEnd_71 (by decide) ?_
    refine lv_iadd hx hb dX3_putEnd_73 ?_
    rw [show (nI (8 * p9)) + (7 : Int32) = nI ((8 * p9) + 7) from nI_add (8 * p9) 7]
    refine va_iald (D := D) (n := 32) (f := nm) hx hb hK hP 2 0 rfl rfl (vp_in_nI (show ((8 * p9) + 7) < 32 by omega) (by decide)) dX3_putEnd_74 ?_
    rw [nI_clamp (show ((8 * p9) + 7) < 2 ^ 31 by omega)]
    refine lv_isub hx hb dX3_putEnd_75 ?_
    refine lv_topi (fun v_21 ev_21 => ?_)
    refine lv_istore (lv' := [(7, .int v_21), (5, .long v_15), (4, .int (nI (8 * p9))), (0, .ref (b 0)), (1, .int (nI p9)), (2, .int x), (3, .int z)]) hx hb dX3_putEnd_76 hl (by decide) rfl (fun ls hl => ?_)
    refine lv_aload_n hx hb dX3_putEnd_78 rfl (lv_at hl 3 rfl) ?_
    refine lv_iload hx hb dX3_putEnd_79 (lv_at hl 0 rfl) ?_
    refine lv_iload_n hx hb dX3_putEnd_81 rfl (lv_at hl 6 rfl) ?_
    refine lv_aload_n hx hb dX3_putEnd_82 rfl (lv_at hl 3 rfl) ?_
    refine va_get (D := D) (ci := 3) (v := .ref (b 2)) (C := RX3) (T := TX3) (N := 13) hx hb hg inX3 hown hK hP 0 rfl rfl 3 (by decide) (hg _ fl_X3_13) (fun _ h9 => h9) rfl dX3_putEnd_83 ?_
    refine lv_iload hx hb dX3_putEnd_86 (lv_at hl 2 rfl) ?_
    refine lv_iconst (v := 4) hx hb dX3_putEnd_88 (by decide) ?_
    refine lv_iadd hx hb dX3_putEnd_89 ?_
    rw [show (nI (8 * p9)) + (4 : Int32) = nI ((8 * p9) + 4) from nI_add (8 * p9) 4]
    refine va_iald (D := D) (n := 32) (f := nm) hx hb hK hP 2 0 rfl rfl (vp_in_nI (show ((8 * p9) + 4) < 32 by omega) (by decide)) dX3_putEnd_90 ?_
    rw [nI_clamp (show ((8 * p9) + 4) < 2 ^ 31 by omega)]
    refine lv_imul hx hb dX3_putEnd_91 ?_
    have hdt : v_21.toInt = x.toInt - (nm (8 * p9 + 7)).toInt := by rw [ev_21, hdi]
    have hab : m_abs v_21 = nI (x.toInt - (nm (8 * p9 + 7)).toInt).natAbs := ab_n hdt hdl.1 hdl.2
    refine va_callv (va_runV (As := [.int v_21, .int (z * (nm ((8 * p9) + 4)))]) (rest := []) ⟨hx, hb, hml, hown, hg⟩ (c_X3_putLogs l A D cI cL cQ fr b cod cnt hc pl nm od op kb kU kD kl up_16 dn_16 lg v_21 (z * (nm (8 * p9 + 4))) (x.toInt - (nm (8 * p9 + 7)).toInt).natAbs (dl_1 hd0) (dl_12 hdl.1 hdl.2) hab) (cwV 2 hg (gw_V ml_X3_72 im_X3_putLogs se_X3_putLogs ini_X3 co_X3_putLogs) rfl rfl rfl (by decide +kernel) ⟨Nat.le_of_ble_eq_true rfl, Nat.le_of_ble_eq_true rfl⟩) ⟨wd_B.blind, va_recv hK hP (ci := 3) (q0 := 0) rfl rfl, (fun U hU hW => ⟨rfl, wd_B.at hG hK hP hD hS hA hU hW⟩)⟩ rfl rfl hl.1 rfl (lv_room (Nat.le_of_ble_eq_true rfl)) dX3_putEnd_92 ⟨Nat.le_of_ble_eq_true rfl, Nat.le_of_ble_eq_true rfl⟩) hS (fun q _ h => h) (fun q h => h) (fun u t H1 locs ht hvm hr_22 hB hz1 hk1 hS => ?_)
    obtain ⟨hK, hP, hD⟩ := hB.back ht hvm
    generalize H1 = H at hP hS ⊢
    rw [ev_21] at hP hD
    have hP : va_P D vwCl (mw cI b cod (nI cnt) pl nm od op (zi kb) kU kD kl up_16 dn_16 (fun j => lg j + z * (nm (8 * p9 + 4)) * nI (x_ti (gl_prime j) 3 (m_abs (x - (nm (8 * p9 + 7)))))) ++ fr) H := hP
    have hD : va_D A (mw cI b cod (nI cnt) pl nm od op (zi kb) kU kD kl up_16 dn_16 (fun j => lg j + z * (nm (8 * p9 + 4)) * nI (x_ti (gl_prime j) 3 (m_abs (x - (nm (8 * p9 + 7)))))) ++ fr) := hD
    refine lv_aload_n hx hb dX3_putEnd_95 rfl (lv_at hl 3 rfl) ?_
    refine lv_iload_n hx hb dX3_putEnd_96 rfl (lv_at hl 6 rfl) ?_
    refine lv_ineg hx hb dX3_putEnd_97 ?_
    refine lv_i2l hx hb dX3_putEnd_98 rfl ?_
    refine lv_aload_n hx hb dX3_putEnd_99 rfl (lv_at hl 3 rfl) ?_
    refine va_get (D := D) (ci := 3) (v := .ref (b 2)) (C := RX3) (T := TX3) (N := 13) hx hb hg inX3 hown hK hP 0 rfl rfl 3 (by decide) (hg _ fl_X3_13) (fun _ h9 => h9) rfl dX3_putEnd_100 ?_
    refine lv_iload hx hb dX3_putEnd_103 (lv_at hl 2 rfl) ?_
    refine lv_iconst (v := 5) hx hb dX3_putEnd_105 (by decide) ?_
    refine lv_iadd hx hb dX3_putEnd_106 ?_
    rw [show (nI (8 * p9)) + (5 : Int32) = nI ((8 * p9) + 5) from nI_add (8 * p9) 5]
    refine va_iald (D := D) (n := 32) (f := nm) hx hb hK hP 2 0 rfl rfl (vp_in_nI (show ((8 * p9) + 5) < 32 by omega) (by decide)) dX3_putEnd_107 ?_
    rw [nI_clamp (show ((8 * p9) + 5) < 2 ^ 31 by omega)]
    refine lv_i2l hx hb dX3_putEnd_108 rfl ?_
    refine lv_lmul hx hb dX3_putEnd_109 ?_
    refine lv_iload hx hb dX3_putEnd_110 (lv_at hl 0 rfl) ?_
    refine lv_i2l hx hb dX3_putEnd_112 rfl ?_
    have hw5 : ((-z).toInt64 * (nm (8 * p9 + 5)).toInt64).toInt = -(z.toInt * (nm (8 * p9 + 5)).toInt) ∧ (z.toInt * (nm (8 * p9 + 5)).toInt).natAbs ≤ 6 := pe_ng hz (hn6 5 (by decide))
    have hb5 := na_mul hw5.2 hc1.2
    have hyt : v_21.toInt64.toInt = x.toInt - (nm (8 * p9 + 7)).toInt := by rw [Int32.toInt_toInt64, hdt]
    have hm := rt_more (C := 1536796800) (S := S0 + z.toInt * x.toInt * (nm (8 * p9 + 0)).toInt * 1536796800 + z.toInt * x.toInt * x.toInt * (nm (8 * p9 + 1)).toInt * 768398400 + z.toInt * x.toInt * x.toInt * x.toInt * (nm (8 * p9 + 2)).toInt * 512265600 + z.toInt * x.toInt * x.toInt * x.toInt * x.toInt * (nm (8 * p9 + 3)).toInt * 384199200) (T := -(z.toInt * (nm (8 * p9 + 5)).toInt * Int.tdiv 1536796800 (x.toInt - (nm (8 * p9 + 7)).toInt))) (x9 := ((-z).toInt64 * (nm ((8 * p9) + 5)).toInt64)) (y9 := v_21.toInt64) (by decide) (by decide) hrt (by rw [hw5.1, hyt]; exact pe_q hc1.1) (by rw [hyt]; exact hd0) (by rw [hyt]; exact pe_12 hdl.1 hdl.2) (by rw [hw5.1]; exact pe_15 hw5.2) (bd_le hSb_16 (by decide))
    refine va_callv (va_runV (As := [.long ((-z).toInt64 * (nm ((8 * p9) + 5)).toInt64), .long v_21.toInt64]) (rest := []) ⟨hx, hb, hml, hown, hg⟩ (c_X3_more l A D cI cL cQ fr b cod cnt hc pl nm od op kb kU kD kl up_16 dn_16 (fun j => lg j + z * (nm (8 * p9 + 4)) * nI (x_ti (gl_prime j) 3 (m_abs (x - (nm (8 * p9 + 7)))))) ((-z).toInt64 * (nm ((8 * p9) + 5)).toInt64) v_21.toInt64 hm.1 hm.2.1 hm.2.2.1) (cwV 2 hg (gw_V ml_X3_68 im_X3_more se_X3_more ini_X3 co_X3_more) rfl rfl rfl (by decide +kernel) ⟨Nat.le_of_ble_eq_true rfl, Nat.le_of_ble_eq_true rfl⟩) ⟨wd_B.blind, va_recv hK hP (ci := 3) (q0 := 0) rfl rfl, (fun U hU hW => ⟨rfl, wd_B.at hG hK hP hD hS hA hU hW⟩)⟩ rfl rfl hl.1 rfl (lv_room (Nat.le_of_ble_eq_true rfl)) dX3_putEnd_113 ⟨Nat.le_of_ble_eq_true rfl, Nat.le_of_ble_eq_true rfl⟩) hS (fun q _ h => h) (fun q h => h) (fun u t H1 locs ht hvm hr_24 hB hz1 hk1 hS => ?_)
    obtain ⟨hK, hP, hD⟩ := hB.back ht hvm
    generalize H1 = H at hP hS ⊢
    obtain ⟨up_23, dn_23⟩ := u
    have hrt : rt 1536796800 (S0 + z.toInt * x.toInt * (nm (8 * p9 + 0)).toInt * 1536796800 + z.toInt * x.toInt * x.toInt * (nm (8 * p9 + 1)).toInt * 768398400 + z.toInt * x.toInt * x.toInt * x.toInt * (nm (8 * p9 + 2)).toInt * 512265600 + z.toInt * x.toInt * x.toInt * x.toInt * x.toInt * (nm (8 * p9 + 3)).toInt * 384199200 + -(z.toInt * (nm (8 * p9 + 5)).toInt * Int.tdiv 1536796800 (x.toInt - (nm (8 * p9 + 7)).toInt))) up_23 dn_23 := hm.2.2.2 _ hr_24
    have hSb_23 := bd_add hSb_16 (bd_ng (bd_na hb5))
    have hP : va_P D vwCl (mw cI b cod (nI cnt) pl nm od op (zi kb) kU kD kl up_23 dn_23 (fun j => lg j + z * (nm (8 * p9 + 4)) * nI (x_ti (gl_prime j) 3 (m_abs (x - (nm (8 * p9 + 7)))))) ++ fr) H := hP
    have hD : va_D A (mw cI b cod (nI cnt) pl nm od op (zi kb) kU kD kl up_23 dn_23 (fun j => lg j + z * (nm (8 * p9 + 4)) * nI (x_ti (gl_prime j) 3 (m_abs (x - (nm (8 * p9 + 7)))))) ++ fr) := hD
    refine lv_aload_n hx hb dX3_putEnd_116 rfl (lv_at hl 3 rfl) ?_
    refine lv_iload_n hx hb dX3_putEnd_117 rfl (lv_at hl 6 rfl) ?_
    refine lv_ineg hx hb dX3_putEnd_118 ?_
    refine lv_i2l hx hb dX3_putEnd_119 rfl ?_
    refine lv_aload_n hx hb dX3_putEnd_120 rfl (lv_at hl 3 rfl) ?_
    refine va_get (D := D) (ci := 3) (v := .ref (b 2)) (C := RX3) (T := TX3) (N := 13) hx hb hg inX3 hown hK hP 0 rfl rfl 3 (by decide) (hg _ fl_X3_13) (fun _ h9 => h9) rfl dX3_putEnd_121 ?_
    refine lv_iload hx hb dX3_putEnd_124 (lv_at hl 2 rfl) ?_
    refine lv_bipush (v := 6) hx hb dX3_putEnd_126 (by decide) ?_
    refine lv_iadd hx hb dX3_putEnd_128 ?_
    rw [show (nI (8 * p9)) + (6 : Int32) = nI ((8 * p9) + 6) from nI_add (8 * p9) 6]
    refine va_iald (D := D) (n := 32) (f := nm) hx hb hK hP 2 0 rfl rfl (vp_in_nI (show ((8 * p9) + 6) < 32 by omega) (by decide)) dX3_putEnd_129 ?_
    rw [nI_clamp (show ((8 * p9) + 6) < 2 ^ 31 by omega)]
    refine lv_i2l hx hb dX3_putEnd_130 rfl ?_
    refine lv_lmul hx hb dX3_putEnd_131 ?_
    refine lv_ldc2 (v := 2) hx hb hown (hg _ kl_X3_76) dX3_putEnd_132 ?_
    refine lv_iload hx hb dX3_putEnd_135 (lv_at hl 0 rfl) ?_
    refine lv_i2l hx hb dX3_putEnd_137 rfl ?_
    refine lv_lmul hx hb dX3_putEnd_138 ?_
    refine lv_iload hx hb dX3_putEnd_139 (lv_at hl 0 rfl) ?_
    refine lv_i2l hx hb dX3_putEnd_141 rfl ?_
    refine lv_lmul hx hb dX3_putEnd_142 ?_
    have hw6 : ((-z).toInt64 * (nm (8 * p9 + 6)).toInt64).toInt = -(z.toInt * (nm (8 * p9 + 6)).toInt) ∧ (z.toInt * (nm (8 * p9 + 6)).toInt).natAbs ≤ 6 := pe_ng hz (hn6 6 (by decide))
    have hb6 := na_mul hw6.2 hc2.2.1
    have hyt2 : (2 * v_21.toInt64 * v_21.toInt64).toInt = 2 * (x.toInt - (nm (8 * p9 + 7)).toInt) * (x.toInt - (nm (8 * p9 + 7)).toInt) := pe_dd (by rw [Int32.toInt_toInt64, hdt]) hdl.1 hdl.2
    have hm := rt_more (C := 1536796800) (S := S0 + z.toInt * x.toInt * (nm (8 * p9 + 0)).toInt * 1536796800 + z.toInt * x.toInt * x.toInt * (nm (8 * p9 + 1)).toInt * 768398400 + z.toInt * x.toInt * x.toInt * x.toInt * (nm (8 * p9 + 2)).toInt * 512265600 + z.toInt * x.toInt * x.toInt * x.toInt * x.toInt * (nm (8 * p9 + 3)).toInt * 384199200 + -(z.toInt * (nm (8 * p9 + 5)).toInt * Int.tdiv 1536796800 (x.toInt - (nm (8 * p9 + 7)).toInt))) (T := -(z.toInt * (nm (8 * p9 + 6)).toInt * Int.tdiv 1536796800 (2 * (x.toInt - (nm (8 * p9 + 7)).toInt) * (x.toInt - (nm (8 * p9 + 7)).toInt)))) (x9 := ((-z).toInt64 * (nm ((8 * p9) + 6)).toInt64)) (y9 := ((2 * v_21.toInt64) * v_21.toInt64)) (by decide) (by decide) hrt (by rw [hw6.1, hyt2]; exact pe_q hc2.1) (by rw [hyt2]; exact pe_288 hc2.2.2.1 hc2.2.2.2) (by rw [hyt2]; exact pe_288b hc2.2.2.1 hc2.2.2.2) (by rw [hw6.1]; exact pe_15 hw6.2) (bd_le hSb_23 (by decide))
    refine va_callv (va_runV (As := [.long ((-z).toInt64 * (nm ((8 * p9) + 6)).toInt64), .long ((2 * v_21.toInt64) * v_21.toInt64)]) (rest := []) ⟨hx, hb, hml, hown, hg⟩ (c_X3_more l A D cI cL cQ fr b cod cnt hc pl nm od op kb kU kD kl up_23 dn_23 (fun j => lg j + z * (nm (8 * p9 + 4)) * nI (x_ti (gl_prime j) 3 (m_abs (x - (nm (8 * p9 + 7)))))) ((-z).toInt64 * (nm ((8 * p9) + 6)).toInt64) ((2 * v_21.toInt64) * v_21.toInt64) hm.1 hm.2.1 hm.2.2.1) (cwV 2 hg (gw_V ml_X3_68 im_X3_more se_X3_more ini_X3 co_X3_more) rfl rfl rfl (by decide +kernel) ⟨Nat.le_of_ble_eq_true rfl, Nat.le_of_ble_eq_true rfl⟩) ⟨wd_B.blind, va_recv hK hP (ci := 3) (q0 := 0) rfl rfl, (fun U hU hW => ⟨rfl, wd_B.at hG hK hP hD hS hA hU hW⟩)⟩ rfl rfl hl.1 rfl (lv_room (Nat.le_of_ble_eq_true rfl)) dX3_putEnd_143 ⟨Nat.le_of_ble_eq_true rfl, Nat.le_of_ble_eq_true rfl⟩) hS (fun q _ h => h) (fun q h => h) (fun u t H1 locs ht hvm hr_26 hB hz1 hk1 hS => ?_)
    obtain ⟨hK, hP, hD⟩ := hB.back ht hvm
    generalize H1 = H at hP hS ⊢
    obtain ⟨up_25, dn_25⟩ := u
    have hrt : rt 1536796800 (S0 + z.toInt * x.toInt * (nm (8 * p9 + 0)).toInt * 1536796800 + z.toInt * x.toInt * x.toInt * (nm (8 * p9 + 1)).toInt * 768398400 + z.toInt * x.toInt * x.toInt * x.toInt * (nm (8 * p9 + 2)).toInt * 512265600 + z.toInt * x.toInt * x.toInt * x.toInt * x.toInt * (nm (8 * p9 + 3)).toInt * 384199200 + -(z.toInt * (nm (8 * p9 + 5)).toInt * Int.tdiv 1536796800 (x.toInt - (nm (8 * p9 + 7)).toInt)) + -(z.toInt * (nm (8 * p9 + 6)).toInt * Int.tdiv 1536796800 (2 * (x.toInt - (nm (8 * p9 + 7)).toInt) * (x.toInt - (nm (8 * p9 + 7)).toInt)))) up_25 dn_25 := hm.2.2.2 _ hr_26
    have hSb_25 := bd_add hSb_23 (bd_ng (bd_na hb6))
    have hP : va_P D vwCl (mw cI b cod (nI cnt) pl nm od op (zi kb) kU kD kl up_25 dn_25 (fun j => lg j + z * (nm (8 * p9 + 4)) * nI (x_ti (gl_prime j) 3 (m_abs (x - (nm (8 * p9 + 7)))))) ++ fr) H := hP
    have hD : va_D A (mw cI b cod (nI cnt) pl nm od op (zi kb) kU kD kl up_25 dn_25 (fun j => lg j + z * (nm (8 * p9 + 4)) * nI (x_ti (gl_prime j) 3 (m_abs (x - (nm (8 * p9 + 7)))))) ++ fr) := hD
    exact W.vret hx hb hr (fun t ht hW => ⟨⟨(up_25, dn_25, (fun j => lg j + z * (nm (8 * p9 + 4)) * nI (x_ti (gl_prime j) 3 (m_abs (x - (nm (8 * p9 + 7))))))), rfl, ⟨by rw [show S0 + e_all (fun j => nm (8 * p9 + j)) x z = S0 + z.toInt * x.toInt * (nm (8 * p9 + 0)).toInt * 1536796800 + z.toInt * x.toInt * x.toInt * (nm (8 * p9 + 1)).toInt * 768398400 + z.toInt * x.toInt * x.toInt * x.toInt * (nm (8 * p9 + 2)).toInt * 512265600 + z.toInt * x.toInt * x.toInt * x.toInt * x.toInt * (nm (8 * p9 + 3)).toInt * 384199200 + -(z.toInt * (nm (8 * p9 + 5)).toInt * Int.tdiv 1536796800 (x.toInt - (nm (8 * p9 + 7)).toInt)) + -(z.toInt * (nm (8 * p9 + 6)).toInt * Int.tdiv 1536796800 (2 * (x.toInt - (nm (8 * p9 + 7)).toInt) * (x.toInt - (nm (8 * p9 + 7)).toInt))) from by rw [e_all, if_pos hpo, e_pw, e_po]; simp only [Int.add_assoc]]; exact hrt, by rw [if_pos hpo]⟩, wd_E.at hK hP hD ht hW⟩, hS.F ht⟩) hS.2.2 dX3_putEnd_146
  · replace c_20 := zi_0 c_20
    exact W.vret hx hb hr (fun t ht hW => ⟨⟨(up_16, dn_16, lg), rfl, ⟨by rw [show S0 + e_all (fun j => nm (8 * p9 + j)) x z = S0 + z.toInt * x.toInt * (nm (8 * p9 + 0)).toInt * 1536796800 + z.toInt * x.toInt * x.toInt * (nm (8 * p9 + 1)).toInt * 768398400 + z.toInt * x.toInt * x.toInt * x.toInt * (nm (8 * p9 + 2)).toInt * 512265600 + z.toInt * x.toInt * x.toInt * x.toInt * x.toInt * (nm (8 * p9 + 3)).toInt * 384199200 from by rw [e_all, if_neg (by rw [c_20]; decide), e_pw]; simp only [Int.add_assoc]]; exact hrt, by rw [if_neg (by rw [c_20]; decide)]⟩, wd_E.at hK hP hD ht hW⟩, hS.F ht⟩) hS.2.2 dX3_putEnd_63
