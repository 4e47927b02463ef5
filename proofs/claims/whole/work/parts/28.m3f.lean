def m_end (v : Int32) : Bool := m_in v (-6) 6 || decide (v = -9) || decide (v = 9)
theorem m_end_x (v : Int32) : m_end v = x_end v := by
  rw [m_end, x_end, x_less, show m_in v (-6) 6 = x_in v 6 from rfl]
  cases x_in v 6 <;> cases decide (v = -9) <;> cases decide (v = 9) <;> rfl
theorem q_r_le {x y : Int32} (h : x ≤ y) : q_r x y = y := by
  unfold q_r
  split
  · rfl
  · rename_i h2
    rw [Int32.lt_iff_toInt_lt] at h2
    rw [Int32.le_iff_toInt_le] at h
    exact Int32.toInt_inj.mp (by omega)
theorem q_r_gt {x y : Int32} (h : ¬ x ≤ y) : q_r x y = x := by
  unfold q_r
  rw [if_neg]
  intro h2
  rw [Int32.lt_iff_toInt_lt] at h2
  rw [Int32.le_iff_toInt_le] at h
  omega
theorem q_l9 {x y : Int32} (hx : in9 x) (hy : in9 y) : in9 (q_l x y) := by unfold q_l; split <;> assumption
theorem q_r9 {x y : Int32} (hx : in9 x) (hy : in9 y) : in9 (q_r x y) := by unfold q_r; split <;> assumption
theorem q_z1 (x y : Int32) : q_z x y = 1 ∨ q_z x y = -1 := by unfold q_z; split <;> simp
/-- an end that isn't endless is near -/
def nr (v : Int32) : Prop := in6 v ∨ v = 9 ∨ v = -9
theorem nr_of {x : Int32} (h : x_end x = true) : nr x := by
  simp only [x_end, x_less, Bool.or_eq_true, decide_eq_true_eq] at h
  rcases h with h | h | h
  · exact Or.inl (in6_of h)
  · exact Or.inr (Or.inl h)
  · exact Or.inr (Or.inr h)
theorem nr9 {x : Int32} (h : nr x) : in9 x := by
  rcases h with h | h | h
  · unfold in6 at h; exact ⟨by omega, by omega⟩
  · rw [h]; exact ⟨by decide, by decide⟩
  · rw [h]; exact ⟨by decide, by decide⟩
theorem nr6 {x : Int32} (h : nr x) (h1 : ¬ x = 9) (h2 : ¬ x = -9) : in6 x ∧ x_less x = false := by
  rcases h with h | h | h
  · exact ⟨h, by simp [x_less, h1, h2]⟩
  · exact absurd h h1
  · exact absurd h h2
theorem a_stn {l : Int32} {pl : Nat → Int32} {cnt i : Nat} (hl : nr l) (hp : ∀ j, j < cnt → in6 (pl j)) (hi : i ≤ cnt) : nr (a_st l pl i) := by
  unfold a_st x_left
  split <;> split <;> first | exact hl | exact Or.inl (hp _ (by omega)) | exact Or.inr (Or.inr rfl)
theorem a_enn {r : Int32} {pl : Nat → Int32} {cnt i : Nat} (hr : nr r) (hp : ∀ j, j < cnt → in6 (pl j)) : nr (a_en r pl cnt i) := by
  unfold a_en x_right
  split <;> split <;> first | exact hr | exact Or.inl (hp _ (by omega)) | exact Or.inr (Or.inl rfl)
theorem a_st0 {l : Int32} {pl : Nat → Int32} (hl : in9 l) : a_st l pl 0 = l := by
  rw [a_st, x_left, if_pos rfl, if_neg]
  rw [Int32.lt_iff_toInt_lt, show (-9 : Int32).toInt = -9 from by decide]
  unfold in9 at hl; omega
theorem a_enl {r : Int32} {pl : Nat → Int32} {cnt i : Nat} (hr : in9 r) (hi : ¬ i < cnt) : a_en r pl cnt i = r := by
  rw [a_en, x_right, if_neg hi, if_neg]
  rw [Int32.lt_iff_toInt_lt, show (9 : Int32).toInt = 9 from by decide]
  unfold in9 at hr; omega
/-- where a part doesn't diverge, a pole isn't at its ends -/
theorem nd_l {f : Nat → Int32} {a b : Int32} (h : p_div f a b = false) (hab : a < b) : p_pole f = true → (¬ a - f 7 = 0) ∧ (¬ b - f 7 = 0) := by
  intro hp
  simp only [p_div, Bool.or_eq_false_iff, hp, Bool.true_and, Bool.and_eq_false_iff, Bool.not_eq_false', decide_eq_true_eq] at h
  have e : ∀ x y : Int32, x - y = 0 → x = y := fun x y h => by
    have h2 : x - y + y = 0 + y := by rw [h]
    rwa [Int32.sub_add_cancel, Int32.zero_add] at h2
  have h1 := h.1
  constructor
  · intro h9
    rw [← e _ _ h9] at h1
    rw [Int32.lt_iff_toInt_lt] at hab
    rcases h1 with h1 | h1 <;> (rw [Int32.lt_iff_toInt_lt] at h1; omega)
  · intro h9
    rw [← e _ _ h9] at h1
    rw [Int32.lt_iff_toInt_lt] at hab
    rcases h1 with h1 | h1 <;> (rw [Int32.lt_iff_toInt_lt] at h1; omega)
theorem sless {f : Nat → Int32} {x z : Int32} {ab : Int64} {lg : Nat → Int32} (h : x_less x = true) : s_ab f x z ab = ab ∧ s_lg f x z lg = lg := by
  refine ⟨by rw [s_ab, if_pos h], ?_⟩
  funext j
  simp [s_lg, h]
theorem ab_n9 {a b : Int32} (h : a < b) (ha : in9 a) (hb : in9 b) : (¬ a = 9) ∧ (¬ b = -9) := by
  rw [Int32.lt_iff_toInt_lt] at h
  have n9 : (9 : Int32).toInt = 9 := by decide
  have m9 : (-9 : Int32).toInt = -9 := by decide
  unfold in9 at *
  exact ⟨fun e => by rw [e, n9] at h; omega, fun e => by rw [e, m9] at h; omega⟩
set_option maxHeartbeats 4000000 in
set_option maxRecDepth 100000 in
theorem c_X3_integral (l : Launch) (A : Nat → Prop) (D : va_G) (cI cL cQ : ClassId) (fr : va_W) (b : Nat → Nat) (cod : Int32) (cnt : Nat) (hc : cnt ≤ 3) (pl nm od op : Nat → Int32) (kb : Bool) (kU kD : Int64) (kl : Nat → Int32) (up dn : Int64) (lg : Nat → Int32) (x y : Int32) (hp6 : ∀ j, j < cnt → in6 (pl j)) (hn6 : ∀ q, q ≤ cnt → ∀ j, j < 8 → in6 (nm (8 * q + j))) : Met l yX3_integral wsX3_integral { frames := 3, cells := 0, slots := 0, locals := 73 } (va_Pc [.ref (b 0), .int x, .int y] (wd_B D (ty3 cI cL cQ) A (mw cI b cod (nI cnt) pl nm od op (zi kb) kU kD kl up dn lg ++ fr))) (va_Qi (fun r (u : Int32 × Bool × Int64 × Int64 × (Nat → Int32) × Int64 × Int64 × (Nat → Int32)) => ((m_end x && m_end y) = false ∧ u = (1, kb, kU, kD, kl, up, dn, lg)) ∨ ((m_end x && m_end y) = true ∧ u.1 = 0 ∧ ((a_fold (q_l x y) (q_r x y) (q_z x y) pl (fun i j => nm (8 * i + j)) cnt (cnt + 1) = none ∧ u.2.1 = false ∧ r = 0) ∨ ∃ ab lg9, a_fold (q_l x y) (q_r x y) (q_z x y) pl (fun i j => nm (8 * i + j)) cnt (cnt + 1) = some (ab, lg9) ∧ u.2.1 = true ∧ r = 1 ∧ rt 1536796800 ab.toInt u.2.2.1 u.2.2.2.1 ∧ bd (2^48) ab.toInt ∧ ∀ j, j < 5 → u.2.2.2.2.1 j = lg9 j))) (fun u t => wd_E D (ty3 cI cL cQ) A (mw cI b u.1 (nI cnt) pl nm od op (zi u.2.1) u.2.2.1 u.2.2.2.1 u.2.2.2.2.1 u.2.2.2.2.2.1 u.2.2.2.2.2.2.1 u.2.2.2.2.2.2.2 ++ fr) t) A) 0 0 A := by
  refine Met.ofW (cc := cX3_integral) (maxL := 10) (ret := (some .boolean)) (by decide) rfl ?_
  intro p e s m args below meth c s₁ B hml hv
  obtain ⟨rfl, hG, hK, hP, hD, hA⟩ := hv
  have hx := B.exec
  have hb := B.bytes
  have hr := B.returns
  have hts := atoms_spec (ws := wsX3_integral) B.pre
  have hg : ∀ w ∈ gw, w.before ([.ref (b 0), .int x, .int y] : List Value).toArray s = true := fun w h => hts w (List.mem_cons_of_mem _ h)
  have hown : s.vm.findClass RX3 = some m.cls := findClass_of_methodNamed B.named
  have hlocks := B.notSynchronized
  have hS : va_S A s.heap s.heap [] := va_S.rf
  have hl := lv_entry ([.ref (b 0), .int x, .int y]) (n := 10) (Nat.le_of_ble_eq_true rfl)
  rw [lg_entry_eq]
  generalize (lg_sl ([.ref (b 0), .int x, .int y]) ++ List.replicate (10 - (lg_sl ([.ref (b 0), .int x, .int y])).length) Slot.unset).toArray = ls at hl ⊢
  have hl : lv_has ls 10 [(0, .ref (b 0)), (1, .int x), (2, .int y)] := hl
  have K51 : W p l e (headSpec wsX3_integral { frames := 3, cells := 0, slots := 0, locals := 73 }).room s m ([.ref (b 0), .int x, .int y] : List Value).toArray below meth c s.heap [] 0 0 (MQ below (va_Qi (fun r (u : Int32 × Bool × Int64 × Int64 × (Nat → Int32) × Int64 × Int64 × (Nat → Int32)) => ((m_end x && m_end y) = false ∧ u = (1, kb, kU, kD, kl, up, dn, lg)) ∨ ((m_end x && m_end y) = true ∧ u.1 = 0 ∧ ((a_fold (q_l x y) (q_r x y) (q_z x y) pl (fun i j => nm (8 * i + j)) cnt (cnt + 1) = none ∧ u.2.1 = false ∧ r = 0) ∨ ∃ ab lg9, a_fold (q_l x y) (q_r x y) (q_z x y) pl (fun i j => nm (8 * i + j)) cnt (cnt + 1) = some (ab, lg9) ∧ u.2.1 = true ∧ r = 1 ∧ rt 1536796800 ab.toInt u.2.2.1 u.2.2.2.1 ∧ bd (2^48) ab.toInt ∧ ∀ j, j < 5 → u.2.2.2.2.1 j = lg9 j))) (fun u t => wd_E D (ty3 cI cL cQ) A (mw cI b u.1 (nI cnt) pl nm od op (zi u.2.1) u.2.2.1 u.2.2.2.1 u.2.2.2.2.1 u.2.2.2.2.2.1 u.2.2.2.2.2.2.1 u.2.2.2.2.2.2.2 ++ fr) t) A) ([.ref (b 0), .int x, .int y] : List Value).toArray s 0 0 A) (F0 m 51 ls [.int (zi (m_end x && m_end y))]) := by
    refine lv_istore_n (lv' := [(3, .int (zi (m_end x && m_end y))), (0, .ref (b 0)), (1, .int x), (2, .int y)]) hx hb dX3_integral_51 rfl hl (by decide) rfl (fun ls hl => ?_)
    refine lv_aload_n hx hb dX3_integral_52 rfl (lv_at hl 1 rfl) ?_
    refine lv_iload_n hx hb dX3_integral_53 rfl (lv_at hl 0 rfl) ?_
    refine lv_if_eq (tgt := 61) hx hb dX3_integral_54 (by decide) (fun c_1 => ?_) (fun c_1 => ?_)
    · replace c_1 := zi_0 c_1
      refine lv_iconst (v := 1) hx hb dX3_integral_61 (by decide) ?_
      have hok := c_1
      refine va_put (D := D) (ci := 3) (v := .int 1) (ty := .int) (C := RX3) (T := TX3) (N := 13) hx hb hg inX3 tyX3 tyX3_ok nmX3 hown hK hP hD hS 0 rfl rfl 0 (by decide) (hg _ fl_X3_28) (fun _ h9 => h9) rfl (by decide +kernel) rfl rfl (Nat.le_of_ble_eq_true rfl) dX3_integral_62 (fun H locs hP hD hS => ?_)
      have hP : va_P D vwCl (mw cI b 1 (nI cnt) pl nm od op (zi kb) kU kD kl up dn lg ++ fr) H := hP
      have hD : va_D A (mw cI b 1 (nI cnt) pl nm od op (zi kb) kU kD kl up dn lg ++ fr) := hD
      refine lv_aload_n hx hb dX3_integral_65 rfl (lv_at hl 1 rfl) ?_
      refine va_get (D := D) (ci := 3) (v := .int 1) (C := RX3) (T := TX3) (N := 13) hx hb hg inX3 hown hK hP 0 rfl rfl 0 (by decide) (hg _ fl_X3_28) (fun _ h9 => h9) rfl dX3_integral_66 ?_
      refine lv_if_le (tgt := 74) hx hb dX3_integral_69 (by decide) (fun c_2 => absurd c_2 (by decide)) (fun _ => ?_)
      refine lv_iconst (v := 0) hx hb dX3_integral_72 (by decide) ?_
      exact W.zret (v := 0) hx hb hr rfl (fun t ht hW => ⟨⟨0, (1, kb, kU, kD, kl, up, dn, lg), rfl, Or.inl ⟨hok, rfl⟩, wd_E.at hK hP hD ht hW⟩, hS.F ht⟩) hS.2.2 dX3_integral_73
    · replace c_1 := zi_n0 c_1
      refine lv_iconst (v := 0) hx hb dX3_integral_57 (by decide) ?_
      refine lv_goto (tgt := 62) hx hb dX3_integral_58 (by decide) ?_
      have hok := c_1
      refine va_put (D := D) (ci := 3) (v := .int 0) (ty := .int) (C := RX3) (T := TX3) (N := 13) hx hb hg inX3 tyX3 tyX3_ok nmX3 hown hK hP hD hS 0 rfl rfl 0 (by decide) (hg _ fl_X3_28) (fun _ h9 => h9) rfl (by decide +kernel) rfl rfl (Nat.le_of_ble_eq_true rfl) dX3_integral_62 (fun H locs hP hD hS => ?_)
      have hP : va_P D vwCl (mw cI b 0 (nI cnt) pl nm od op (zi kb) kU kD kl up dn lg ++ fr) H := hP
      have hD : va_D A (mw cI b 0 (nI cnt) pl nm od op (zi kb) kU kD kl up dn lg ++ fr) := hD
      refine lv_aload_n hx hb dX3_integral_65 rfl (lv_at hl 1 rfl) ?_
      refine va_get (D := D) (ci := 3) (v := .int 0) (C := RX3) (T := TX3) (N := 13) hx hb hg inX3 hown hK hP 0 rfl rfl 0 (by decide) (hg _ fl_X3_28) (fun _ h9 => h9) rfl dX3_integral_66 ?_
      refine lv_if_le (tgt := 74) hx hb dX3_integral_69 (by decide) (fun _ => ?_) (fun c_3 => absurd c_3 (by decide))
      refine lv_aload_n hx hb dX3_integral_74 rfl (lv_at hl 1 rfl) ?_
      refine lv_iconst (v := 0) hx hb dX3_integral_75 (by decide) ?_
      refine va_put (D := D) (ci := 3) (v := .int 0) (ty := .boolean) (C := RX3) (T := TX3) (N := 13) hx hb hg inX3 tyX3 tyX3_ok nmX3 hown hK hP hD hS 0 rfl rfl 6 (by decide) (hg _ fl_X3_43) (fun _ h9 => h9) rfl (by decide +kernel) rfl rfl (Nat.le_of_ble_eq_true rfl) dX3_integral_76 (fun H locs hP hD hS => ?_)
      have hP : va_P D vwCl (mw cI b 0 (nI cnt) pl nm od op 0 kU kD kl up dn lg ++ fr) H := hP
      have hD : va_D A (mw cI b 0 (nI cnt) pl nm od op 0 kU kD kl up dn lg ++ fr) := hD
      have V89 : W p l e (headSpec wsX3_integral { frames := 3, cells := 0, slots := 0, locals := 73 }).room s m ([.ref (b 0), .int x, .int y] : List Value).toArray below meth c H locs 0 0 (MQ below (va_Qi (fun r (u : Int32 × Bool × Int64 × Int64 × (Nat → Int32) × Int64 × Int64 × (Nat → Int32)) => ((m_end x && m_end y) = false ∧ u = (1, kb, kU, kD, kl, up, dn, lg)) ∨ ((m_end x && m_end y) = true ∧ u.1 = 0 ∧ ((a_fold (q_l x y) (q_r x y) (q_z x y) pl (fun i j => nm (8 * i + j)) cnt (cnt + 1) = none ∧ u.2.1 = false ∧ r = 0) ∨ ∃ ab lg9, a_fold (q_l x y) (q_r x y) (q_z x y) pl (fun i j => nm (8 * i + j)) cnt (cnt + 1) = some (ab, lg9) ∧ u.2.1 = true ∧ r = 1 ∧ rt 1536796800 ab.toInt u.2.2.1 u.2.2.2.1 ∧ bd (2^48) ab.toInt ∧ ∀ j, j < 5 → u.2.2.2.2.1 j = lg9 j))) (fun u t => wd_E D (ty3 cI cL cQ) A (mw cI b u.1 (nI cnt) pl nm od op (zi u.2.1) u.2.2.1 u.2.2.2.1 u.2.2.2.2.1 u.2.2.2.2.2.1 u.2.2.2.2.2.2.1 u.2.2.2.2.2.2.2 ++ fr) t) A) ([.ref (b 0), .int x, .int y] : List Value).toArray s 0 0 A) (F0 m 89 ls [.int (q_z x y)]) := by
        refine lv_istore (lv' := [(4, .int (q_z x y)), (3, .int (zi (m_end x && m_end y))), (0, .ref (b 0)), (1, .int x), (2, .int y)]) hx hb dX3_integral_89 hl (by decide) rfl (fun ls hl => ?_)
        have V101 : W p l e (headSpec wsX3_integral { frames := 3, cells := 0, slots := 0, locals := 73 }).room s m ([.ref (b 0), .int x, .int y] : List Value).toArray below meth c H locs 0 0 (MQ below (va_Qi (fun r (u : Int32 × Bool × Int64 × Int64 × (Nat → Int32) × Int64 × Int64 × (Nat → Int32)) => ((m_end x && m_end y) = false ∧ u = (1, kb, kU, kD, kl, up, dn, lg)) ∨ ((m_end x && m_end y) = true ∧ u.1 = 0 ∧ ((a_fold (q_l x y) (q_r x y) (q_z x y) pl (fun i j => nm (8 * i + j)) cnt (cnt + 1) = none ∧ u.2.1 = false ∧ r = 0) ∨ ∃ ab lg9, a_fold (q_l x y) (q_r x y) (q_z x y) pl (fun i j => nm (8 * i + j)) cnt (cnt + 1) = some (ab, lg9) ∧ u.2.1 = true ∧ r = 1 ∧ rt 1536796800 ab.toInt u.2.2.1 u.2.2.2.1 ∧ bd (2^48) ab.toInt ∧ ∀ j, j < 5 → u.2.2.2.2.1 j = lg9 j))) (fun u t => wd_E D (ty3 cI cL cQ) A (mw cI b u.1 (nI cnt) pl nm od op (zi u.2.1) u.2.2.1 u.2.2.2.1 u.2.2.2.2.1 u.2.2.2.2.2.1 u.2.2.2.2.2.2.1 u.2.2.2.2.2.2.2 ++ fr) t) A) ([.ref (b 0), .int x, .int y] : List Value).toArray s 0 0 A) (F0 m 101 ls [.int (q_l x y)]) := by
          refine lv_istore (lv' := [(5, .int (q_l x y)), (4, .int (q_z x y)), (3, .int (zi (m_end x && m_end y))), (0, .ref (b 0)), (1, .int x), (2, .int y)]) hx hb dX3_integral_101 hl (by decide) rfl (fun ls hl => ?_)
          have V113 : W p l e (headSpec wsX3_integral { frames := 3, cells := 0, slots := 0, locals := 73 }).room s m ([.ref (b 0), .int x, .int y] : List Value).toArray below meth c H locs 0 0 (MQ below (va_Qi (fun r (u : Int32 × Bool × Int64 × Int64 × (Nat → Int32) × Int64 × Int64 × (Nat → Int32)) => ((m_end x && m_end y) = false ∧ u = (1, kb, kU, kD, kl, up, dn, lg)) ∨ ((m_end x && m_end y) = true ∧ u.1 = 0 ∧ ((a_fold (q_l x y) (q_r x y) (q_z x y) pl (fun i j => nm (8 * i + j)) cnt (cnt + 1) = none ∧ u.2.1 = false ∧ r = 0) ∨ ∃ ab lg9, a_fold (q_l x y) (q_r x y) (q_z x y) pl (fun i j => nm (8 * i + j)) cnt (cnt + 1) = some (ab, lg9) ∧ u.2.1 = true ∧ r = 1 ∧ rt 1536796800 ab.toInt u.2.2.1 u.2.2.2.1 ∧ bd (2^48) ab.toInt ∧ ∀ j, j < 5 → u.2.2.2.2.1 j = lg9 j))) (fun u t => wd_E D (ty3 cI cL cQ) A (mw cI b u.1 (nI cnt) pl nm od op (zi u.2.1) u.2.2.1 u.2.2.2.1 u.2.2.2.2.1 u.2.2.2.2.2.1 u.2.2.2.2.2.2.1 u.2.2.2.2.2.2.2 ++ fr) t) A) ([.ref (b 0), .int x, .int y] : List Value).toArray s 0 0 A) (F0 m 113 ls [.int (q_r x y)]) := by
            refine lv_istore (lv' := [(6, .int (q_r x y)), (5, .int (q_l x y)), (4, .int (q_z x y)), (3, .int (zi (m_end x && m_end y))), (0, .ref (b 0)), (1, .int x), (2, .int y)]) hx hb dX3_integral_113 hl (by decide) rfl (fun ls hl => ?_)
            refine lv_aload_n hx hb dX3_integral_115 rfl (lv_at hl 4 rfl) ?_
            refine va_callv (va_runV (As := []) (rest := []) ⟨hx, hb, hml, hown, hg⟩ (c_X3_start l A D cI cL cQ fr b 0 cnt hc pl nm od op false kU kD kl up dn lg) (cwV 0 hg (gw_V ml_X3_65 im_X3_start se_X3_start ini_X3 co_X3_start) rfl rfl rfl (by decide +kernel) ⟨Nat.le_of_ble_eq_true rfl, Nat.le_of_ble_eq_true rfl⟩) ⟨wd_B.blind, va_recv hK hP (ci := 3) (q0 := 0) rfl rfl, (fun U hU hW => ⟨rfl, wd_B.at hG hK hP hD hS hA hU hW⟩)⟩ rfl rfl hl.1 rfl (lv_room (Nat.le_of_ble_eq_true rfl)) dX3_integral_116 ⟨Nat.le_of_ble_eq_true rfl, Nat.le_of_ble_eq_true rfl⟩) hS (fun q _ h => h) (fun q h => h) (fun u t H1 locs ht hvm hr_4 hB hz1 hk1 hS => ?_)
            obtain ⟨hK, hP, hD⟩ := hB.back ht hvm
            generalize H1 = H at hP hS ⊢
            have hP : va_P D vwCl (mw cI b 0 (nI cnt) pl nm od op 0 kU kD kl 0 1 (fun _ => 0) ++ fr) H := hP
            have hD : va_D A (mw cI b 0 (nI cnt) pl nm od op 0 kU kD kl 0 1 (fun _ => 0) ++ fr) := hD
            refine lv_iconst (v := 0) hx hb dX3_integral_119 (by decide) ?_
            refine lv_istore (lv' := [(7, .int 0), (6, .int (q_r x y)), (5, .int (q_l x y)), (4, .int (q_z x y)), (3, .int (zi (m_end x && m_end y))), (0, .ref (b 0)), (1, .int x), (2, .int y)]) hx hb dX3_integral_120 hl (by decide) rfl (fun ls hl => ?_)
            have hends : x_end x = true ∧ x_end y = true := by have h9 := hok; rw [Bool.and_eq_true, m_end_x, m_end_x] at h9; exact h9
            have hnl : nr (q_l x y) := by unfold q_l; split; exact nr_of hends.2; exact nr_of hends.1
            have hnr : nr (q_r x y) := by unfold q_r; split; exact nr_of hends.2; exact nr_of hends.1
            have hz := q_z1 x y
            have L122 : ∀ (n9 : Nat) (p9 : Nat) (up2 : Int64) (dn2 : Int64) (lg2 : Nat → Int32) (ab : Int64) (H : Heap) (locs : List Loc), (p9 ≤ cnt + 1) → (a_fold (q_l x y) (q_r x y) (q_z x y) pl (fun i j => nm (8 * i + j)) cnt p9 = some (ab, lg2)) → (rt 1536796800 ab.toInt up2 dn2) → (bd (2^45 * (p9 : Int)) ab.toInt) → va_P D vwCl (mw cI b 0 (nI cnt) pl nm od op 0 kU kD kl up2 dn2 lg2 ++ fr) H → va_D A (mw cI b 0 (nI cnt) pl nm od op 0 kU kD kl up2 dn2 lg2 ++ fr) → va_S A s.heap H locs → (cnt + 1 - p9 < n9) → ∀ (ls : Array Slot), lv_has ls 10 [(7, .int (nI p9)), (4, .int (q_z x y)), (5, .int (q_l x y)), (6, .int (q_r x y)), (0, .ref (b 0)), (1, .int x), (2, .int y)] → W p l e (headSpec wsX3_integral { frames := 3, cells := 0, slots := 0, locals := 73 }).room s m ([.ref (b 0), .int x, .int y] : List Value).toArray below meth c H locs 0 0 (MQ below (va_Qi (fun r (u : Int32 × Bool × Int64 × Int64 × (Nat → Int32) × Int64 × Int64 × (Nat → Int32)) => ((m_end x && m_end y) = false ∧ u = (1, kb, kU, kD, kl, up, dn, lg)) ∨ ((m_end x && m_end y) = true ∧ u.1 = 0 ∧ ((a_fold (q_l x y) (q_r x y) (q_z x y) pl (fun i j => nm (8 * i + j)) cnt (cnt + 1) = none ∧ u.2.1 = false ∧ r = 0) ∨ ∃ ab lg9, a_fold (q_l x y) (q_r x y) (q_z x y) pl (fun i j => nm (8 * i + j)) cnt (cnt + 1) = some (ab, lg9) ∧ u.2.1 = true ∧ r = 1 ∧ rt 1536796800 ab.toInt u.2.2.1 u.2.2.2.1 ∧ bd (2^48) ab.toInt ∧ ∀ j, j < 5 → u.2.2.2.2.1 j = lg9 j))) (fun u t => wd_E D (ty3 cI cL cQ) A (mw cI b u.1 (nI cnt) pl nm od op (zi u.2.1) u.2.2.1 u.2.2.2.1 u.2.2.2.2.1 u.2.2.2.2.2.1 u.2.2.2.2.2.2.1 u.2.2.2.2.2.2.2 ++ fr) t) A) ([.ref (b 0), .int x, .int y] : List Value).toArray s 0 0 A) (F0 m 122 ls []) := by
              clear hP hD hS
              intro n122
              induction n122 with
              | zero => intro p9 up2 dn2 lg2 ab H locs hp hk hrt hbd hP hD hS h9; exact absurd h9 (by omega)
              | succ n122 ih122 =>
                intro p9 up2 dn2 lg2 ab H locs hp hk hrt hbd hP hD hS h9 ls hl
                refine lv_iload hx hb dX3_integral_122 (lv_at hl 0 rfl) ?_
                refine lv_aload_n hx hb dX3_integral_124 rfl (lv_at hl 4 rfl) ?_
                refine va_get (D := D) (ci := 3) (v := .int (nI cnt)) (C := RX3) (T := TX3) (N := 13) hx hb hg inX3 hown hK hP 0 rfl rfl 1 (by decide) (hg _ fl_X3_32) (fun _ h9 => h9) rfl dX3_integral_125 ?_
                refine lv_icmp_gt (tgt := 267) hx hb dX3_integral_128 (by decide) (fun c_5 => ?_) (fun c_5 => ?_)
                · replace c_5 : cnt < p9 := (nI_ltI (a := cnt) (b := p9) (by omega) (by omega)).mp c_5
                  refine lv_aload_n hx hb dX3_integral_267 rfl (lv_at hl 4 rfl) ?_
                  refine lv_iconst (v := 1) hx hb dX3_integral_268 (by decide) ?_
                  refine va_put (D := D) (ci := 3) (v := .int 1) (ty := .boolean) (C := RX3) (T := TX3) (N := 13) hx hb hg inX3 tyX3 tyX3_ok nmX3 hown hK hP hD hS 0 rfl rfl 6 (by decide) (hg _ fl_X3_43) (fun _ h9 => h9) rfl (by decide +kernel) rfl rfl (Nat.le_of_ble_eq_true rfl) dX3_integral_269 (fun H locs hP hD hS => ?_)
                  have hP : va_P D vwCl (mw cI b 0 (nI cnt) pl nm od op 1 kU kD kl up2 dn2 lg2 ++ fr) H := hP
                  have hD : va_D A (mw cI b 0 (nI cnt) pl nm od op 1 kU kD kl up2 dn2 lg2 ++ fr) := hD
                  refine lv_aload_n hx hb dX3_integral_272 rfl (lv_at hl 4 rfl) ?_
                  refine lv_aload_n hx hb dX3_integral_273 rfl (lv_at hl 4 rfl) ?_
                  refine va_get (D := D) (ci := 3) (v := .long up2) (C := RX3) (T := TX3) (N := 13) hx hb hg inX3 hown hK hP 0 rfl rfl 10 (by decide) (hg _ fl_X3_47) (fun _ h9 => h9) rfl dX3_integral_274 ?_
                  refine va_put (D := D) (ci := 3) (v := .long up2) (ty := .long) (C := RX3) (T := TX3) (N := 13) hx hb hg inX3 tyX3 tyX3_ok nmX3 hown hK hP hD hS 0 rfl rfl 7 (by decide) (hg _ fl_X3_85) (fun _ h9 => h9) rfl (by decide +kernel) rfl rfl (Nat.le_of_ble_eq_true rfl) dX3_integral_277 (fun H locs hP hD hS => ?_)
                  have hP : va_P D vwCl (mw cI b 0 (nI cnt) pl nm od op 1 up2 kD kl up2 dn2 lg2 ++ fr) H := hP
                  have hD : va_D A (mw cI b 0 (nI cnt) pl nm od op 1 up2 kD kl up2 dn2 lg2 ++ fr) := hD
                  refine lv_aload_n hx hb dX3_integral_280 rfl (lv_at hl 4 rfl) ?_
                  refine lv_aload_n hx hb dX3_integral_281 rfl (lv_at hl 4 rfl) ?_
                  refine va_get (D := D) (ci := 3) (v := .long dn2) (C := RX3) (T := TX3) (N := 13) hx hb hg inX3 hown hK hP 0 rfl rfl 11 (by decide) (hg _ fl_X3_51) (fun _ h9 => h9) rfl dX3_integral_282 ?_
                  refine va_put (D := D) (ci := 3) (v := .long dn2) (ty := .long) (C := RX3) (T := TX3) (N := 13) hx hb hg inX3 tyX3 tyX3_ok nmX3 hown hK hP hD hS 0 rfl rfl 8 (by decide) (hg _ fl_X3_88) (fun _ h9 => h9) rfl (by decide +kernel) rfl rfl (Nat.le_of_ble_eq_true rfl) dX3_integral_285 (fun H locs hP hD hS => ?_)
                  have hP : va_P D vwCl (mw cI b 0 (nI cnt) pl nm od op 1 up2 dn2 kl up2 dn2 lg2 ++ fr) H := hP
                  have hD : va_D A (mw cI b 0 (nI cnt) pl nm od op 1 up2 dn2 kl up2 dn2 lg2 ++ fr) := hD
                  refine lv_iconst (v := 0) hx hb dX3_integral_288 (by decide) ?_
                  refine lv_istore (lv' := [(7, .int 0), (4, .int (q_z x y)), (5, .int (q_l x y)), (6, .int (q_r x y)), (0, .ref (b 0)), (1, .int x), (2, .int y)]) hx hb dX3_integral_289 hl (by decide) rfl (fun ls hl => ?_)
                  have hpc : cnt + 1 = p9 := by omega
                  have L291 : ∀ (n9 : Nat) (i : Nat) (g : Nat → Int32) (H : Heap) (locs : List Loc), (i ≤ 5) → (∀ j, j < i → g j = lg2 j) → va_P D vwCl (mw cI b 0 (nI cnt) pl nm od op 1 up2 dn2 g up2 dn2 lg2 ++ fr) H → va_D A (mw cI b 0 (nI cnt) pl nm od op 1 up2 dn2 g up2 dn2 lg2 ++ fr) → va_S A s.heap H locs → (5 - i < n9) → ∀ (ls : Array Slot), lv_has ls 10 [(7, .int (nI i)), (0, .ref (b 0))] → W p l e (headSpec wsX3_integral { frames := 3, cells := 0, slots := 0, locals := 73 }).room s m ([.ref (b 0), .int x, .int y] : List Value).toArray below meth c H locs 0 0 (MQ below (va_Qi (fun r (u : Int32 × Bool × Int64 × Int64 × (Nat → Int32) × Int64 × Int64 × (Nat → Int32)) => ((m_end x && m_end y) = false ∧ u = (1, kb, kU, kD, kl, up, dn, lg)) ∨ ((m_end x && m_end y) = true ∧ u.1 = 0 ∧ ((a_fold (q_l x y) (q_r x y) (q_z x y) pl (fun i j => nm (8 * i + j)) cnt (cnt + 1) = none ∧ u.2.1 = false ∧ r = 0) ∨ ∃ ab lg9, a_fold (q_l x y) (q_r x y) (q_z x y) pl (fun i j => nm (8 * i + j)) cnt (cnt + 1) = some (ab, lg9) ∧ u.2.1 = true ∧ r = 1 ∧ rt 1536796800 ab.toInt u.2.2.1 u.2.2.2.1 ∧ bd (2^48) ab.toInt ∧ ∀ j, j < 5 → u.2.2.2.2.1 j = lg9 j))) (fun u t => wd_E D (ty3 cI cL cQ) A (mw cI b u.1 (nI cnt) pl nm od op (zi u.2.1) u.2.2.1 u.2.2.2.1 u.2.2.2.2.1 u.2.2.2.2.2.1 u.2.2.2.2.2.2.1 u.2.2.2.2.2.2.2 ++ fr) t) A) ([.ref (b 0), .int x, .int y] : List Value).toArray s 0 0 A) (F0 m 291 ls []) := by
                    clear hP hD hS
                    intro n291
                    induction n291 with
                    | zero => intro i g H locs hi hgv hP hD hS h9; exact absurd h9 (by omega)
                    | succ n291 ih291 =>
                      intro i g H locs hi hgv hP hD hS h9 ls hl
                      refine lv_iload hx hb dX3_integral_291 (lv_at hl 0 rfl) ?_
                      refine lv_iconst (v := 5) hx hb dX3_integral_293 (by decide) ?_
                      refine lv_icmp_ge (tgt := 317) hx hb dX3_integral_294 (by decide) (fun c_6 => ?_) (fun c_6 => ?_)
                      · replace c_6 : 5 ≤ i := (nI_leI (a := 5) (b := i) (by omega) (by omega)).mp c_6
                        refine lv_iconst (v := 1) hx hb dX3_integral_317 (by decide) ?_
                        exact W.zret (v := 1) hx hb hr rfl (fun t ht hW => ⟨⟨1, (0, true, up2, dn2, g, up2, dn2, lg2), rfl, Or.inr ⟨hok, rfl, Or.inr ⟨ab, lg2, by rw [hpc]; exact hk, rfl, rfl, hrt, bd_le hbd (by omega), fun j hj => hgv j (by omega)⟩⟩, wd_E.at hK hP hD ht hW⟩, hS.F ht⟩) hS.2.2 dX3_integral_318
                      · replace c_6 : ¬ 5 ≤ i := fun h => c_6 ((nI_leI (a := 5) (b := i) (by omega) (by omega)).mpr h)
                        refine lv_aload_n hx hb dX3_integral_297 rfl (lv_at hl 1 rfl) ?_
                        refine va_get (D := D) (ci := 3) (v := .ref (b 5)) (C := RX3) (T := TX3) (N := 13) hx hb hg inX3 hown hK hP 0 rfl rfl 9 (by decide) (hg _ fl_X3_22) (fun _ h9 => h9) rfl dX3_integral_298 ?_
                        refine lv_iload hx hb dX3_integral_301 (lv_at hl 0 rfl) ?_
                        refine lv_aload_n hx hb dX3_integral_303 rfl (lv_at hl 1 rfl) ?_
                        refine va_get (D := D) (ci := 3) (v := .ref (b 6)) (C := RX3) (T := TX3) (N := 13) hx hb hg inX3 hown hK hP 0 rfl rfl 12 (by decide) (hg _ fl_X3_25) (fun _ h9 => h9) rfl dX3_integral_304 ?_
                        refine lv_iload hx hb dX3_integral_307 (lv_at hl 0 rfl) ?_
                        refine va_iald (D := D) (n := 5) (f := lg2) hx hb hK hP 6 0 rfl rfl (vp_in_nI (show i < 5 by omega) (by decide)) dX3_integral_309 ?_
                        rw [nI_clamp (show i < 2 ^ 31 by omega)]
                        refine lv_topi (fun v_7 ev_7 => ?_)
                        refine va_iast (D := D) (n := 5) (f := g) (x := v_7) hx hb hK hP hD hS 5 0 rfl rfl (vp_in_nI (show i < 5 by omega) (by decide)) dX3_integral_310 (fun H locs hP hD hS => ?_)
                        rw [nI_clamp (show i < 2 ^ 31 by omega)] at hP hD
                        have hP : va_P D vwCl (mw cI b 0 (nI cnt) pl nm od op 1 up2 dn2 (upd g i v_7) up2 dn2 lg2 ++ fr) H := hP
                        have hD : va_D A (mw cI b 0 (nI cnt) pl nm od op 1 up2 dn2 (upd g i v_7) up2 dn2 lg2 ++ fr) := hD
                        refine lv_iinc (v := nI (i + 1)) (lv' := [(7, .int (nI (i + 1))), (0, .ref (b 0))]) hx hb dX3_integral_311 hl (k := 0) rfl (nI_1 i) (by decide) rfl (fun ls hl => ?_)
                        refine lv_goto (tgt := 291) hx hb dX3_integral_314 (by decide) ?_
                        exact ih291 (i + 1) (upd g i v_7) _ _ (by omega) (fun j hj => by unfold upd; by_cases e : j = i; (rw [if_pos e, ev_7, e]); (rw [if_neg e]; exact hgv j (by omega))) hP hD hS (by omega) ls (lv_sub hl [0, 1] rfl)
                  exact L291 (5 + 1) 0 kl _ _ (Nat.zero_le _) (fun j hj => absurd hj (Nat.not_lt_zero j)) hP hD hS (Nat.lt_succ_self _) ls (lv_sub hl [0, 4] rfl)
                · replace c_5 : ¬ cnt < p9 := fun h => c_5 ((nI_ltI (a := cnt) (b := p9) (by omega) (by omega)).mpr h)
                  have V164 : W p l e (headSpec wsX3_integral { frames := 3, cells := 0, slots := 0, locals := 73 }).room s m ([.ref (b 0), .int x, .int y] : List Value).toArray below meth c H locs 0 0 (MQ below (va_Qi (fun r (u : Int32 × Bool × Int64 × Int64 × (Nat → Int32) × Int64 × Int64 × (Nat → Int32)) => ((m_end x && m_end y) = false ∧ u = (1, kb, kU, kD, kl, up, dn, lg)) ∨ ((m_end x && m_end y) = true ∧ u.1 = 0 ∧ ((a_fold (q_l x y) (q_r x y) (q_z x y) pl (fun i j => nm (8 * i + j)) cnt (cnt + 1) = none ∧ u.2.1 = false ∧ r = 0) ∨ ∃ ab lg9, a_fold (q_l x y) (q_r x y) (q_z x y) pl (fun i j => nm (8 * i + j)) cnt (cnt + 1) = some (ab, lg9) ∧ u.2.1 = true ∧ r = 1 ∧ rt 1536796800 ab.toInt u.2.2.1 u.2.2.2.1 ∧ bd (2^48) ab.toInt ∧ ∀ j, j < 5 → u.2.2.2.2.1 j = lg9 j))) (fun u t => wd_E D (ty3 cI cL cQ) A (mw cI b u.1 (nI cnt) pl nm od op (zi u.2.1) u.2.2.1 u.2.2.2.1 u.2.2.2.2.1 u.2.2.2.2.2.1 u.2.2.2.2.2.2.1 u.2.2.2.2.2.2.2 ++ fr) t) A) ([.ref (b 0), .int x, .int y] : List Value).toArray s 0 0 A) (F0 m 164 ls [.int (a_st (q_l x y) pl p9)]) := by
                    refine lv_istore (lv' := [(8, .int (a_st (q_l x y) pl p9)), (7, .int (nI p9)), (4, .int (q_z x y)), (5, .int (q_l x y)), (6, .int (q_r x y)), (0, .ref (b 0)), (1, .int x), (2, .int y)]) hx hb dX3_integral_164 hl (by decide) rfl (fun ls hl => ?_)
                    have V199 : W p l e (headSpec wsX3_integral { frames := 3, cells := 0, slots := 0, locals := 73 }).room s m ([.ref (b 0), .int x, .int y] : List Value).toArray below meth c H locs 0 0 (MQ below (va_Qi (fun r (u : Int32 × Bool × Int64 × Int64 × (Nat → Int32) × Int64 × Int64 × (Nat → Int32)) => ((m_end x && m_end y) = false ∧ u = (1, kb, kU, kD, kl, up, dn, lg)) ∨ ((m_end x && m_end y) = true ∧ u.1 = 0 ∧ ((a_fold (q_l x y) (q_r x y) (q_z x y) pl (fun i j => nm (8 * i + j)) cnt (cnt + 1) = none ∧ u.2.1 = false ∧ r = 0) ∨ ∃ ab lg9, a_fold (q_l x y) (q_r x y) (q_z x y) pl (fun i j => nm (8 * i + j)) cnt (cnt + 1) = some (ab, lg9) ∧ u.2.1 = true ∧ r = 1 ∧ rt 1536796800 ab.toInt u.2.2.1 u.2.2.2.1 ∧ bd (2^48) ab.toInt ∧ ∀ j, j < 5 → u.2.2.2.2.1 j = lg9 j))) (fun u t => wd_E D (ty3 cI cL cQ) A (mw cI b u.1 (nI cnt) pl nm od op (zi u.2.1) u.2.2.1 u.2.2.2.1 u.2.2.2.2.1 u.2.2.2.2.2.1 u.2.2.2.2.2.2.1 u.2.2.2.2.2.2.2 ++ fr) t) A) ([.ref (b 0), .int x, .int y] : List Value).toArray s 0 0 A) (F0 m 199 ls [.int (a_en (q_r x y) pl cnt p9)]) := by
                      refine lv_istore (lv' := [(9, .int (a_en (q_r x y) pl cnt p9)), (8, .int (a_st (q_l x y) pl p9)), (7, .int (nI p9)), (4, .int (q_z x y)), (5, .int (q_l x y)), (6, .int (q_r x y)), (0, .ref (b 0)), (1, .int x), (2, .int y)]) hx hb dX3_integral_199 hl (by decide) rfl (fun ls hl => ?_)
                      refine lv_iload hx hb dX3_integral_201 (lv_at hl 1 rfl) ?_
                      refine lv_iload hx hb dX3_integral_203 (lv_at hl 0 rfl) ?_
                      refine lv_icmp_lt (tgt := 211) hx hb dX3_integral_205 (by decide) (fun c_8 => ?_) (fun c_8 => ?_)
                      · have hab := c_8
                        have hfn := hn6 p9 (by omega)
                        have hna : nr (a_st (q_l x y) pl p9) := a_stn hnl hp6 (by omega)
                        have hnb : nr (a_en (q_r x y) pl cnt p9) := a_enn hnr hp6
                        have htd := there_div (f := (fun j => nm (8 * p9 + j))) (hfn 7 (by decide)) (nr9 hna) (nr9 hnb) hab
                        refine lv_aload_n hx hb dX3_integral_211 rfl (lv_at hl 6 rfl) ?_
                        refine lv_iload hx hb dX3_integral_212 (lv_at hl 2 rfl) ?_
                        refine lv_iload hx hb dX3_integral_214 (lv_at hl 1 rfl) ?_
                        refine lv_iload hx hb dX3_integral_216 (lv_at hl 0 rfl) ?_
                        refine vp_callSi (W.runV (As := [.int (nI p9), .int (a_st (q_l x y) pl p9), .int (a_en (q_r x y) pl cnt p9)]) (rest := []) ⟨hx, hb, hml, hown, hg⟩ (c_X3_isThere l D cI cL cQ (b 0) (b 2) [.int 0, .int (nI cnt), .ref (b 1), .ref (b 2), .ref (b 3), .ref (b 4), .int 0, .long kU, .long kD, .ref (b 5), .long up2, .long dn2, .ref (b 6)] rfl nm p9 (by omega) (a_st (q_l x y) pl p9) (a_en (q_r x y) pl cnt p9)) (cwV 3 hg (gw_V ml_X3_78 im_X3_isThere se_X3_isThere ini_X3 co_X3_isThere) rfl rfl rfl (by decide +kernel) ⟨Nat.le_of_ble_eq_true rfl, Nat.le_of_ble_eq_true rfl⟩) ⟨pu_B.blind, va_recv hK hP (ci := 3) (q0 := 0) rfl rfl, (fun U hU hW => ⟨rfl, pu_B.at hK (hP.sub [0, 2] rfl) hU hW⟩)⟩ rfl rfl hl.1 rfl (lv_room (Nat.le_of_ble_eq_true rfl)) dX3_integral_218 ⟨Nat.le_of_ble_eq_true rfl, Nat.le_of_ble_eq_true rfl⟩) (fun r_9 hr_9 => ?_)
                        subst hr_9
                        refine lv_if_ne (tgt := 226) hx hb dX3_integral_221 (by decide) (fun c_10 => ?_) (fun c_10 => ?_)
                        · replace c_10 := zi_n0 c_10
                          have hdv : p_div (fun j => nm (8 * p9 + j)) (a_st (q_l x y) pl p9) (a_en (q_r x y) pl cnt p9) = false := by have h9 := c_10; rw [htd] at h9; simpa using h9
                          have hnd := nd_l hdv hab
                          have hn9 := ab_n9 hab (nr9 hna) (nr9 hnb)
                          have J243 : ∀ (up3 : Int64) (dn3 : Int64) (lg3 : Nat → Int32) (ab3 : Int64) (H : Heap) (locs : List Loc), (ab3 = s_ab (fun j => nm (8 * p9 + j)) (a_en (q_r x y) pl cnt p9) (q_z x y) ab) → (lg3 = s_lg (fun j => nm (8 * p9 + j)) (a_en (q_r x y) pl cnt p9) (q_z x y) lg2) → (rt 1536796800 ab3.toInt up3 dn3) → (bd (2^45 * (p9 : Int) + 2^44) ab3.toInt) → va_P D vwCl (mw cI b 0 (nI cnt) pl nm od op 0 kU kD kl up3 dn3 lg3 ++ fr) H → va_D A (mw cI b 0 (nI cnt) pl nm od op 0 kU kD kl up3 dn3 lg3 ++ fr) → va_S A s.heap H locs → ∀ (ls : Array Slot), lv_has ls 10 [(8, .int (a_st (q_l x y) pl p9)), (9, .int (a_en (q_r x y) pl cnt p9)), (7, .int (nI p9)), (4, .int (q_z x y)), (5, .int (q_l x y)), (6, .int (q_r x y)), (0, .ref (b 0)), (1, .int x), (2, .int y)] → W p l e (headSpec wsX3_integral { frames := 3, cells := 0, slots := 0, locals := 73 }).room s m ([.ref (b 0), .int x, .int y] : List Value).toArray below meth c H locs 0 0 (MQ below (va_Qi (fun r (u : Int32 × Bool × Int64 × Int64 × (Nat → Int32) × Int64 × Int64 × (Nat → Int32)) => ((m_end x && m_end y) = false ∧ u = (1, kb, kU, kD, kl, up, dn, lg)) ∨ ((m_end x && m_end y) = true ∧ u.1 = 0 ∧ ((a_fold (q_l x y) (q_r x y) (q_z x y) pl (fun i j => nm (8 * i + j)) cnt (cnt + 1) = none ∧ u.2.1 = false ∧ r = 0) ∨ ∃ ab lg9, a_fold (q_l x y) (q_r x y) (q_z x y) pl (fun i j => nm (8 * i + j)) cnt (cnt + 1) = some (ab, lg9) ∧ u.2.1 = true ∧ r = 1 ∧ rt 1536796800 ab.toInt u.2.2.1 u.2.2.2.1 ∧ bd (2^48) ab.toInt ∧ ∀ j, j < 5 → u.2.2.2.2.1 j = lg9 j))) (fun u t => wd_E D (ty3 cI cL cQ) A (mw cI b u.1 (nI cnt) pl nm od op (zi u.2.1) u.2.2.1 u.2.2.2.1 u.2.2.2.2.1 u.2.2.2.2.2.1 u.2.2.2.2.2.2.1 u.2.2.2.2.2.2.2 ++ fr) t) A) ([.ref (b 0), .int x, .int y] : List Value).toArray s 0 0 A) (F0 m 243 ls []) := by
                            clear hP hD hS
                            intro up3 dn3 lg3 ab3 H locs hab3 hlg3 hrt3 hbd3 hP hD hS ls hl
                            refine lv_iload hx hb dX3_integral_243 (lv_at hl 0 rfl) ?_
                            refine lv_bipush (v := (-9)) hx hb dX3_integral_245 (by decide) ?_
                            refine lv_icmp_eq (tgt := 261) hx hb dX3_integral_247 (by decide) (fun c_11 => ?_) (fun c_11 => ?_)
                            · refine lv_iinc (v := nI (p9 + 1)) (lv' := [(7, .int (nI (p9 + 1))), (8, .int (a_st (q_l x y) pl p9)), (9, .int (a_en (q_r x y) pl cnt p9)), (4, .int (q_z x y)), (5, .int (q_l x y)), (6, .int (q_r x y)), (0, .ref (b 0)), (1, .int x), (2, .int y)]) hx hb dX3_integral_261 hl (k := 2) rfl (nI_1 p9) (by decide) rfl (fun ls hl => ?_)
                              refine lv_goto (tgt := 122) hx hb dX3_integral_264 (by decide) ?_
                              exact ih122 (p9 + 1) up3 dn3 lg3 ab3 _ _ (by omega) (by rw [a_fold, hk]; refine ((if_pos hab).trans (if_neg (by rw [hdv]; decide))).trans ?_; rw [← hab3, ← hlg3]; show some (s_ab (fun j => nm (8 * p9 + j)) (a_st (q_l x y) pl p9) (-q_z x y) ab3, s_lg (fun j => nm (8 * p9 + j)) (a_st (q_l x y) pl p9) (-q_z x y) lg3) = _; rw [(sless (ab := ab3) (lg := lg3) (by rw [x_less, c_11]; rfl)).1, (sless (ab := ab3) (lg := lg3) (by rw [x_less, c_11]; rfl)).2]) (hrt3) (bd_le hbd3 (by omega)) hP hD hS (by omega) ls (lv_sub hl [0, 3, 4, 5, 6, 7, 8] rfl)
                            · refine lv_aload_n hx hb dX3_integral_250 rfl (lv_at hl 6 rfl) ?_
                              refine lv_iload hx hb dX3_integral_251 (lv_at hl 2 rfl) ?_
                              refine lv_iload hx hb dX3_integral_253 (lv_at hl 0 rfl) ?_
                              refine lv_iload hx hb dX3_integral_255 (lv_at hl 3 rfl) ?_
                              refine lv_ineg hx hb dX3_integral_257 ?_
                              refine va_callv (va_runV (As := [.int (nI p9), .int (a_st (q_l x y) pl p9), .int (-(q_z x y))]) (rest := []) ⟨hx, hb, hml, hown, hg⟩ (c_X3_putEnd l A D cI cL cQ fr b 0 cnt hc pl nm od op false kU kD kl up3 dn3 lg3 p9 (by omega) (a_st (q_l x y) pl p9) (-q_z x y) ab3.toInt (nr6 hna hn9.1 c_11).1 (in6_z hz).2.2 hfn (fun h => (hnd h).1) hrt3 (bd_le hbd3 (by omega))) (cwV 3 hg (gw_V ml_X3_81 im_X3_putEnd se_X3_putEnd ini_X3 co_X3_putEnd) rfl rfl rfl (by decide +kernel) ⟨Nat.le_of_ble_eq_true rfl, Nat.le_of_ble_eq_true rfl⟩) ⟨wd_B.blind, va_recv hK hP (ci := 3) (q0 := 0) rfl rfl, (fun U hU hW => ⟨rfl, wd_B.at hG hK hP hD hS hA hU hW⟩)⟩ rfl rfl hl.1 rfl (lv_room (Nat.le_of_ble_eq_true rfl)) dX3_integral_258 ⟨Nat.le_of_ble_eq_true rfl, Nat.le_of_ble_eq_true rfl⟩) hS (fun q _ h => h) (fun q h => h) (fun u t H1 locs ht hvm hr_13 hB hz1 hk1 hS => ?_)
                              obtain ⟨hK, hP, hD⟩ := hB.back ht hvm
                              generalize H1 = H at hP hS ⊢
                              obtain ⟨up_12, dn_12, lg_12⟩ := u
                              dsimp only at hr_13
                              have hP : va_P D vwCl (mw cI b 0 (nI cnt) pl nm od op 0 kU kD kl up_12 dn_12 lg_12 ++ fr) H := hP
                              have hD : va_D A (mw cI b 0 (nI cnt) pl nm od op 0 kU kD kl up_12 dn_12 lg_12 ++ fr) := hD
                              refine lv_iinc (v := nI (p9 + 1)) (lv' := [(7, .int (nI (p9 + 1))), (8, .int (a_st (q_l x y) pl p9)), (9, .int (a_en (q_r x y) pl cnt p9)), (4, .int (q_z x y)), (5, .int (q_l x y)), (6, .int (q_r x y)), (0, .ref (b 0)), (1, .int x), (2, .int y)]) hx hb dX3_integral_261 hl (k := 2) rfl (nI_1 p9) (by decide) rfl (fun ls hl => ?_)
                              refine lv_goto (tgt := 122) hx hb dX3_integral_264 (by decide) ?_
                              exact ih122 (p9 + 1) up_12 dn_12 lg_12 (s_ab (fun j => nm (8 * p9 + j)) (a_st (q_l x y) pl p9) (-q_z x y) ab3) _ _ (by omega) (by rw [hr_13.2, ← slg_eq (f := (fun j => nm (8 * p9 + j))) (nr6 hna hn9.1 c_11).2 (fun h => (hnd h).1), hab3, hlg3, a_fold, hk]; exact (if_pos hab).trans (if_neg (by rw [hdv]; decide))) (by rw [(sab_int (f := (fun j => nm (8 * p9 + j))) (ab := ab3) hfn (nr6 hna hn9.1 c_11).1 (in6_z hz).2.2 (bd_le hbd3 (by omega)) (nr6 hna hn9.1 c_11).2 (fun h => (hnd h).1)).1]; exact hr_13.1) (by rw [(sab_int (f := (fun j => nm (8 * p9 + j))) (ab := ab3) hfn (nr6 hna hn9.1 c_11).1 (in6_z hz).2.2 (bd_le hbd3 (by omega)) (nr6 hna hn9.1 c_11).2 (fun h => (hnd h).1)).1]; exact bd_le (bd_add hbd3 (sab_int (f := (fun j => nm (8 * p9 + j))) (ab := ab3) hfn (nr6 hna hn9.1 c_11).1 (in6_z hz).2.2 (bd_le hbd3 (by omega)) (nr6 hna hn9.1 c_11).2 (fun h => (hnd h).1)).2) (by omega)) hP hD hS (by omega) ls (lv_sub hl [0, 3, 4, 5, 6, 7, 8] rfl)
                          refine lv_iload hx hb dX3_integral_226 (lv_at hl 0 rfl) ?_
                          refine lv_bipush (v := 9) hx hb dX3_integral_228 (by decide) ?_
                          refine lv_icmp_eq (tgt := 243) hx hb dX3_integral_230 (by decide) (fun c_14 => ?_) (fun c_14 => ?_)
                          · exact J243 up2 dn2 lg2 ab _ _ ((sless (ab := ab) (lg := lg2) (by rw [x_less, c_14]; rfl)).1.symm) ((sless (ab := ab) (lg := lg2) (by rw [x_less, c_14]; rfl)).2.symm) (hrt) (bd_le hbd (by omega)) hP hD hS ls (lv_sub hl [1, 0, 2, 3, 4, 5, 6, 7, 8] rfl)
                          · refine lv_aload_n hx hb dX3_integral_233 rfl (lv_at hl 6 rfl) ?_
                            refine lv_iload hx hb dX3_integral_234 (lv_at hl 2 rfl) ?_
                            refine lv_iload hx hb dX3_integral_236 (lv_at hl 0 rfl) ?_
                            refine lv_iload hx hb dX3_integral_238 (lv_at hl 3 rfl) ?_
                            refine va_callv (va_runV (As := [.int (nI p9), .int (a_en (q_r x y) pl cnt p9), .int (q_z x y)]) (rest := []) ⟨hx, hb, hml, hown, hg⟩ (c_X3_putEnd l A D cI cL cQ fr b 0 cnt hc pl nm od op false kU kD kl up2 dn2 lg2 p9 (by omega) (a_en (q_r x y) pl cnt p9) (q_z x y) ab.toInt (nr6 hnb c_14 hn9.2).1 hz hfn (fun h => (hnd h).2) hrt (bd_le hbd (by omega))) (cwV 3 hg (gw_V ml_X3_81 im_X3_putEnd se_X3_putEnd ini_X3 co_X3_putEnd) rfl rfl rfl (by decide +kernel) ⟨Nat.le_of_ble_eq_true rfl, Nat.le_of_ble_eq_true rfl⟩) ⟨wd_B.blind, va_recv hK hP (ci := 3) (q0 := 0) rfl rfl, (fun U hU hW => ⟨rfl, wd_B.at hG hK hP hD hS hA hU hW⟩)⟩ rfl rfl hl.1 rfl (lv_room (Nat.le_of_ble_eq_true rfl)) dX3_integral_240 ⟨Nat.le_of_ble_eq_true rfl, Nat.le_of_ble_eq_true rfl⟩) hS (fun q _ h => h) (fun q h => h) (fun u t H1 locs ht hvm hr_16 hB hz1 hk1 hS => ?_)
                            obtain ⟨hK, hP, hD⟩ := hB.back ht hvm
                            generalize H1 = H at hP hS ⊢
                            obtain ⟨up_15, dn_15, lg_15⟩ := u
                            dsimp only at hr_16
                            have hP : va_P D vwCl (mw cI b 0 (nI cnt) pl nm od op 0 kU kD kl up_15 dn_15 lg_15 ++ fr) H := hP
                            have hD : va_D A (mw cI b 0 (nI cnt) pl nm od op 0 kU kD kl up_15 dn_15 lg_15 ++ fr) := hD
                            exact J243 up_15 dn_15 lg_15 (s_ab (fun j => nm (8 * p9 + j)) (a_en (q_r x y) pl cnt p9) (q_z x y) ab) _ _ (rfl) (hr_16.2.trans (slg_eq (f := (fun j => nm (8 * p9 + j))) (nr6 hnb c_14 hn9.2).2 (fun h => (hnd h).2)).symm) (by rw [(sab_int (f := (fun j => nm (8 * p9 + j))) hfn (nr6 hnb c_14 hn9.2).1 hz (bd_le hbd (by omega)) (nr6 hnb c_14 hn9.2).2 (fun h => (hnd h).2)).1]; exact hr_16.1) (by rw [(sab_int (f := (fun j => nm (8 * p9 + j))) hfn (nr6 hnb c_14 hn9.2).1 hz (bd_le hbd (by omega)) (nr6 hnb c_14 hn9.2).2 (fun h => (hnd h).2)).1]; exact bd_add hbd (sab_int (f := (fun j => nm (8 * p9 + j))) hfn (nr6 hnb c_14 hn9.2).1 hz (bd_le hbd (by omega)) (nr6 hnb c_14 hn9.2).2 (fun h => (hnd h).2)).2) hP hD hS ls (lv_sub hl [1, 0, 2, 3, 4, 5, 6, 7, 8] rfl)
                        · replace c_10 := zi_0 c_10
                          refine lv_iconst (v := 0) hx hb dX3_integral_224 (by decide) ?_
                          exact W.zret (v := 0) hx hb hr rfl (fun t ht hW => ⟨⟨0, (0, false, kU, kD, kl, up2, dn2, lg2), rfl, Or.inr ⟨hok, rfl, Or.inl ⟨a_none (i := p9 + 1) (by rw [a_fold, hk]; exact (if_pos hab).trans (if_pos (by have h9 := c_10; rw [htd] at h9; simpa using h9))) _ (by omega), rfl, rfl⟩⟩, wd_E.at hK hP hD ht hW⟩, hS.F ht⟩) hS.2.2 dX3_integral_225
                      · refine lv_goto (tgt := 261) hx hb dX3_integral_208 (by decide) ?_
                        refine lv_iinc (v := nI (p9 + 1)) (lv' := [(7, .int (nI (p9 + 1))), (9, .int (a_en (q_r x y) pl cnt p9)), (8, .int (a_st (q_l x y) pl p9)), (4, .int (q_z x y)), (5, .int (q_l x y)), (6, .int (q_r x y)), (0, .ref (b 0)), (1, .int x), (2, .int y)]) hx hb dX3_integral_261 hl (k := 2) rfl (nI_1 p9) (by decide) rfl (fun ls hl => ?_)
                        refine lv_goto (tgt := 122) hx hb dX3_integral_264 (by decide) ?_
                        exact ih122 (p9 + 1) up2 dn2 lg2 ab _ _ (by omega) (by rw [a_fold, hk]; exact if_neg c_8) (hrt) (bd_le hbd (by omega)) hP hD hS (by omega) ls (lv_sub hl [0, 3, 4, 5, 6, 7, 8] rfl)
                    refine lv_iload hx hb dX3_integral_166 (lv_at hl 1 rfl) ?_
                    refine lv_aload_n hx hb dX3_integral_168 rfl (lv_at hl 5 rfl) ?_
                    refine va_get (D := D) (ci := 3) (v := .int (nI cnt)) (C := RX3) (T := TX3) (N := 13) hx hb hg inX3 hown hK hP 0 rfl rfl 1 (by decide) (hg _ fl_X3_32) (fun _ h9 => h9) rfl dX3_integral_169 ?_
                    refine lv_icmp_ge (tgt := 197) hx hb dX3_integral_172 (by decide) (fun c_17 => ?_) (fun c_17 => ?_)
                    · replace c_17 : cnt ≤ p9 := (nI_leI (a := cnt) (b := p9) (by omega) (by omega)).mp c_17
                      refine lv_iload hx hb dX3_integral_197 (lv_at hl 4 rfl) ?_
                      have e9 : (a_en (q_r x y) pl cnt p9) = (q_r x y) := by exact a_enl (nr9 hnr) (by omega)
                      exact W.eq (by rw [e9]) V199
                    · replace c_17 : ¬ cnt ≤ p9 := fun h => c_17 ((nI_leI (a := cnt) (b := p9) (by omega) (by omega)).mpr h)
                      refine lv_aload_n hx hb dX3_integral_175 rfl (lv_at hl 5 rfl) ?_
                      refine va_get (D := D) (ci := 3) (v := .ref (b 1)) (C := RX3) (T := TX3) (N := 13) hx hb hg inX3 hown hK hP 0 rfl rfl 2 (by decide) (hg _ fl_X3_7) (fun _ h9 => h9) rfl dX3_integral_176 ?_
                      refine lv_iload hx hb dX3_integral_179 (lv_at hl 1 rfl) ?_
                      refine va_iald (D := D) (n := 3) (f := pl) hx hb hK hP 1 0 rfl rfl (vp_in_nI (show p9 < 3 by omega) (by decide)) dX3_integral_181 ?_
                      rw [nI_clamp (show p9 < 2 ^ 31 by omega)]
                      refine lv_iload hx hb dX3_integral_182 (lv_at hl 4 rfl) ?_
                      refine lv_icmp_ge (tgt := 197) hx hb dX3_integral_184 (by decide) (fun c_18 => ?_) (fun c_18 => ?_)
                      · refine lv_iload hx hb dX3_integral_197 (lv_at hl 4 rfl) ?_
                        have e9 : (a_en (q_r x y) pl cnt p9) = (q_r x y) := by rw [a_en, x_right, if_pos (show p9 < cnt by omega), if_neg (Int32.not_lt.mpr c_18)]
                        exact W.eq (by rw [e9]) V199
                      · refine lv_aload_n hx hb dX3_integral_187 rfl (lv_at hl 5 rfl) ?_
                        refine va_get (D := D) (ci := 3) (v := .ref (b 1)) (C := RX3) (T := TX3) (N := 13) hx hb hg inX3 hown hK hP 0 rfl rfl 2 (by decide) (hg _ fl_X3_7) (fun _ h9 => h9) rfl dX3_integral_188 ?_
                        refine lv_iload hx hb dX3_integral_191 (lv_at hl 1 rfl) ?_
                        refine va_iald (D := D) (n := 3) (f := pl) hx hb hK hP 1 0 rfl rfl (vp_in_nI (show p9 < 3 by omega) (by decide)) dX3_integral_193 ?_
                        rw [nI_clamp (show p9 < 2 ^ 31 by omega)]
                        refine lv_goto (tgt := 199) hx hb dX3_integral_194 (by decide) ?_
                        have e9 : (a_en (q_r x y) pl cnt p9) = (pl p9) := by rw [a_en, x_right, if_pos (show p9 < cnt by omega), if_pos (Int32.not_le.mp c_18)]
                        exact W.eq (by rw [e9]) V199
                  refine lv_iload hx hb dX3_integral_131 (lv_at hl 0 rfl) ?_
                  refine lv_if_le (tgt := 162) hx hb dX3_integral_133 (by decide) (fun c_19 => ?_) (fun c_19 => ?_)
                  · replace c_19 : p9 ≤ 0 := (nI_leI (a := p9) (b := 0) (by omega) (by omega)).mp c_19
                    refine lv_iload hx hb dX3_integral_162 (lv_at hl 2 rfl) ?_
                    have e9 : (a_st (q_l x y) pl p9) = (q_l x y) := by rw [show p9 = 0 by omega]; exact a_st0 (nr9 hnl)
                    exact W.eq (by rw [e9]) V164
                  · replace c_19 : ¬ p9 ≤ 0 := fun h => c_19 ((nI_leI (a := p9) (b := 0) (by omega) (by omega)).mpr h)
                    refine lv_aload_n hx hb dX3_integral_136 rfl (lv_at hl 4 rfl) ?_
                    refine va_get (D := D) (ci := 3) (v := .ref (b 1)) (C := RX3) (T := TX3) (N := 13) hx hb hg inX3 hown hK hP 0 rfl rfl 2 (by decide) (hg _ fl_X3_7) (fun _ h9 => h9) rfl dX3_integral_137 ?_
                    refine lv_iload hx hb dX3_integral_140 (lv_at hl 0 rfl) ?_
                    refine lv_iconst (v := 1) hx hb dX3_integral_142 (by decide) ?_
                    refine lv_isub hx hb dX3_integral_143 ?_
                    rw [show (nI p9) - (1 : Int32) = nI (p9 - 1) from pk_sub (a := p9) (b := 1) (by omega)]
                    refine va_iald (D := D) (n := 3) (f := pl) hx hb hK hP 1 0 rfl rfl (vp_in_nI (show (p9 - 1) < 3 by omega) (by decide)) dX3_integral_144 ?_
                    rw [nI_clamp (show (p9 - 1) < 2 ^ 31 by omega)]
                    refine lv_iload hx hb dX3_integral_145 (lv_at hl 2 rfl) ?_
                    refine lv_icmp_le (tgt := 162) hx hb dX3_integral_147 (by decide) (fun c_20 => ?_) (fun c_20 => ?_)
                    · refine lv_iload hx hb dX3_integral_162 (lv_at hl 2 rfl) ?_
                      have e9 : (a_st (q_l x y) pl p9) = (q_l x y) := by rw [a_st, x_left, if_neg (show ¬ p9 = 0 by omega), if_neg (Int32.not_lt.mpr c_20)]
                      exact W.eq (by rw [e9]) V164
                    · refine lv_aload_n hx hb dX3_integral_150 rfl (lv_at hl 4 rfl) ?_
                      refine va_get (D := D) (ci := 3) (v := .ref (b 1)) (C := RX3) (T := TX3) (N := 13) hx hb hg inX3 hown hK hP 0 rfl rfl 2 (by decide) (hg _ fl_X3_7) (fun _ h9 => h9) rfl dX3_integral_151 ?_
                      refine lv_iload hx hb dX3_integral_154 (lv_at hl 0 rfl) ?_
                      refine lv_iconst (v := 1) hx hb dX3_integral_156 (by decide) ?_
                      refine lv_isub hx hb dX3_integral_157 ?_
                      rw [show (nI p9) - (1 : Int32) = nI (p9 - 1) from pk_sub (a := p9) (b := 1) (by omega)]
                      refine va_iald (D := D) (n := 3) (f := pl) hx hb hK hP 1 0 rfl rfl (vp_in_nI (show (p9 - 1) < 3 by omega) (by decide)) dX3_integral_158 ?_
                      rw [nI_clamp (show (p9 - 1) < 2 ^ 31 by omega)]
                      refine lv_goto (tgt := 164) hx hb dX3_integral_159 (by decide) ?_
                      have e9 : (a_st (q_l x y) pl p9) = (pl (p9 - 1)) := by rw [a_st, x_left, if_neg (show ¬ p9 = 0 by omega), if_pos (Int32.not_le.mp c_20)]
                      exact W.eq (by rw [e9]) V164
            exact L122 ((cnt + 1) + 1) 0 0 1 (fun _ => 0) 0 _ _ (Nat.zero_le _) (rfl) (rt_0 _) (⟨by decide, by decide⟩) hP hD hS (Nat.lt_succ_self _) ls (lv_sub hl [0, 3, 2, 1, 5, 6, 7] rfl)
          refine lv_iload_n hx hb dX3_integral_103 rfl (lv_at hl 4 rfl) ?_
          refine lv_iload_n hx hb dX3_integral_104 rfl (lv_at hl 5 rfl) ?_
          refine lv_icmp_le (tgt := 112) hx hb dX3_integral_105 (by decide) (fun c_21 => ?_) (fun c_21 => ?_)
          · refine lv_iload_n hx hb dX3_integral_112 rfl (lv_at hl 5 rfl) ?_
            have e9 : (q_r x y) = y := by exact q_r_le c_21
            exact W.eq (by rw [e9]) V113
          · refine lv_iload_n hx hb dX3_integral_108 rfl (lv_at hl 4 rfl) ?_
            refine lv_goto (tgt := 113) hx hb dX3_integral_109 (by decide) ?_
            have e9 : (q_r x y) = x := by exact q_r_gt c_21
            exact W.eq (by rw [e9]) V113
        refine lv_iload_n hx hb dX3_integral_91 rfl (lv_at hl 3 rfl) ?_
        refine lv_iload_n hx hb dX3_integral_92 rfl (lv_at hl 4 rfl) ?_
        refine lv_icmp_le (tgt := 100) hx hb dX3_integral_93 (by decide) (fun c_22 => ?_) (fun c_22 => ?_)
        · refine lv_iload_n hx hb dX3_integral_100 rfl (lv_at hl 3 rfl) ?_
          have e9 : (q_l x y) = x := by rw [q_l, if_neg (Int32.not_lt.mpr c_22)]
          exact W.eq (by rw [e9]) V101
        · refine lv_iload_n hx hb dX3_integral_96 rfl (lv_at hl 4 rfl) ?_
          refine lv_goto (tgt := 101) hx hb dX3_integral_97 (by decide) ?_
          have e9 : (q_l x y) = y := by rw [q_l, if_pos (Int32.not_le.mp c_22)]
          exact W.eq (by rw [e9]) V101
      refine lv_iload_n hx hb dX3_integral_79 rfl (lv_at hl 2 rfl) ?_
      refine lv_iload_n hx hb dX3_integral_80 rfl (lv_at hl 3 rfl) ?_
      refine lv_icmp_le (tgt := 88) hx hb dX3_integral_81 (by decide) (fun c_23 => ?_) (fun c_23 => ?_)
      · refine lv_iconst (v := 1) hx hb dX3_integral_88 (by decide) ?_
        have e9 : (q_z x y) = 1 := by rw [q_z, if_neg (Int32.not_lt.mpr c_23)]
        exact W.eq (by rw [e9]) V89
      · refine lv_iconst (v := (-1)) hx hb dX3_integral_84 (by decide) ?_
        refine lv_goto (tgt := 89) hx hb dX3_integral_85 (by decide) ?_
        have e9 : (q_z x y) = (-1) := by rw [q_z, if_pos (Int32.not_le.mp c_23)]
        exact W.eq (by rw [e9]) V89
  refine lv_iload_n hx hb dX3_integral_0 rfl (lv_at hl 1 rfl) ?_
  refine lv_bipush (v := (-6)) hx hb dX3_integral_1 (by decide) ?_
  refine lv_bipush (v := 6) hx hb dX3_integral_3 (by decide) ?_
  refine vp_callSi (W.runS (As := [.int x, .int (-6), .int 6]) (rest := []) ⟨hx, hb, hml, hown, hg⟩ (c_X3_in l x (-6) 6) (va_cwS 3 hg (gw_S ml_X3_35 sm_X3_in ini_X3 co_X3_in) rfl rfl rfl (by decide +kernel) ⟨Nat.le_of_ble_eq_true rfl, Nat.le_of_ble_eq_true rfl⟩) ⟨tt_blind, (fun U hU hW => ⟨rfl, trivial⟩)⟩ rfl rfl hl.1 rfl (lv_room (Nat.le_of_ble_eq_true rfl)) dX3_integral_5 ⟨Nat.le_of_ble_eq_true rfl, Nat.le_of_ble_eq_true rfl⟩) (fun r_24 hr_24 => ?_)
  subst hr_24
  refine lv_if_ne (tgt := 23) hx hb dX3_integral_8 (by decide) (fun c_25 => ?_) (fun c_25 => ?_)
  · replace c_25 := zi_n0 c_25
    refine lv_iload_n hx hb dX3_integral_23 rfl (lv_at hl 2 rfl) ?_
    refine lv_bipush (v := (-6)) hx hb dX3_integral_24 (by decide) ?_
    refine lv_bipush (v := 6) hx hb dX3_integral_26 (by decide) ?_
    refine vp_callSi (W.runS (As := [.int y, .int (-6), .int 6]) (rest := []) ⟨hx, hb, hml, hown, hg⟩ (c_X3_in l y (-6) 6) (va_cwS 3 hg (gw_S ml_X3_35 sm_X3_in ini_X3 co_X3_in) rfl rfl rfl (by decide +kernel) ⟨Nat.le_of_ble_eq_true rfl, Nat.le_of_ble_eq_true rfl⟩) ⟨tt_blind, (fun U hU hW => ⟨rfl, trivial⟩)⟩ rfl rfl hl.1 rfl (lv_room (Nat.le_of_ble_eq_true rfl)) dX3_integral_28 ⟨Nat.le_of_ble_eq_true rfl, Nat.le_of_ble_eq_true rfl⟩) (fun r_26 hr_26 => ?_)
    subst hr_26
    refine lv_if_ne (tgt := 46) hx hb dX3_integral_31 (by decide) (fun c_27 => ?_) (fun c_27 => ?_)
    · replace c_27 := zi_n0 c_27
      refine lv_iconst (v := 1) hx hb dX3_integral_46 (by decide) ?_
      refine lv_goto (tgt := 51) hx hb dX3_integral_47 (by decide) ?_
      have e9 : zi (m_end x && m_end y) = 1 := by simp [zi, m_end, c_25, c_27]
      rw [e9] at K51
      exact K51
    · replace c_27 := zi_0 c_27
      refine lv_iload_n hx hb dX3_integral_34 rfl (lv_at hl 2 rfl) ?_
      refine lv_bipush (v := (-9)) hx hb dX3_integral_35 (by decide) ?_
      refine lv_icmp_eq (tgt := 46) hx hb dX3_integral_37 (by decide) (fun c_28 => ?_) (fun c_28 => ?_)
      · refine lv_iconst (v := 1) hx hb dX3_integral_46 (by decide) ?_
        refine lv_goto (tgt := 51) hx hb dX3_integral_47 (by decide) ?_
        have e9 : zi (m_end x && m_end y) = 1 := by simp [zi, m_end, c_25, c_27, c_28]
        rw [e9] at K51
        exact K51
      · refine lv_iload_n hx hb dX3_integral_40 rfl (lv_at hl 2 rfl) ?_
        refine lv_bipush (v := 9) hx hb dX3_integral_41 (by decide) ?_
        refine lv_icmp_ne (tgt := 50) hx hb dX3_integral_43 (by decide) (fun c_29 => ?_) (fun c_29 => ?_)
        · refine lv_iconst (v := 0) hx hb dX3_integral_50 (by decide) ?_
          have e9 : zi (m_end x && m_end y) = 0 := by simp [zi, m_end, c_25, c_27, c_28, c_29]
          rw [e9] at K51
          exact K51
        · refine lv_iconst (v := 1) hx hb dX3_integral_46 (by decide) ?_
          refine lv_goto (tgt := 51) hx hb dX3_integral_47 (by decide) ?_
          have e9 : zi (m_end x && m_end y) = 1 := by simp [zi, m_end, c_25, c_27, c_28, c_29]
          rw [e9] at K51
          exact K51
  · replace c_25 := zi_0 c_25
    refine lv_iload_n hx hb dX3_integral_11 rfl (lv_at hl 1 rfl) ?_
    refine lv_bipush (v := (-9)) hx hb dX3_integral_12 (by decide) ?_
    refine lv_icmp_eq (tgt := 23) hx hb dX3_integral_14 (by decide) (fun c_30 => ?_) (fun c_30 => ?_)
    · refine lv_iload_n hx hb dX3_integral_23 rfl (lv_at hl 2 rfl) ?_
      refine lv_bipush (v := (-6)) hx hb dX3_integral_24 (by decide) ?_
      refine lv_bipush (v := 6) hx hb dX3_integral_26 (by decide) ?_
      refine vp_callSi (W.runS (As := [.int y, .int (-6), .int 6]) (rest := []) ⟨hx, hb, hml, hown, hg⟩ (c_X3_in l y (-6) 6) (va_cwS 3 hg (gw_S ml_X3_35 sm_X3_in ini_X3 co_X3_in) rfl rfl rfl (by decide +kernel) ⟨Nat.le_of_ble_eq_true rfl, Nat.le_of_ble_eq_true rfl⟩) ⟨tt_blind, (fun U hU hW => ⟨rfl, trivial⟩)⟩ rfl rfl hl.1 rfl (lv_room (Nat.le_of_ble_eq_true rfl)) dX3_integral_28 ⟨Nat.le_of_ble_eq_true rfl, Nat.le_of_ble_eq_true rfl⟩) (fun r_31 hr_31 => ?_)
      subst hr_31
      refine lv_if_ne (tgt := 46) hx hb dX3_integral_31 (by decide) (fun c_32 => ?_) (fun c_32 => ?_)
      · replace c_32 := zi_n0 c_32
        refine lv_iconst (v := 1) hx hb dX3_integral_46 (by decide) ?_
        refine lv_goto (tgt := 51) hx hb dX3_integral_47 (by decide) ?_
        have e9 : zi (m_end x && m_end y) = 1 := by simp [zi, m_end, c_25, c_30, c_32]
        rw [e9] at K51
        exact K51
      · replace c_32 := zi_0 c_32
        refine lv_iload_n hx hb dX3_integral_34 rfl (lv_at hl 2 rfl) ?_
        refine lv_bipush (v := (-9)) hx hb dX3_integral_35 (by decide) ?_
        refine lv_icmp_eq (tgt := 46) hx hb dX3_integral_37 (by decide) (fun c_33 => ?_) (fun c_33 => ?_)
        · refine lv_iconst (v := 1) hx hb dX3_integral_46 (by decide) ?_
          refine lv_goto (tgt := 51) hx hb dX3_integral_47 (by decide) ?_
          have e9 : zi (m_end x && m_end y) = 1 := by simp [zi, m_end, c_25, c_30, c_32, c_33]
          rw [e9] at K51
          exact K51
        · refine lv_iload_n hx hb dX3_integral_40 rfl (lv_at hl 2 rfl) ?_
          refine lv_bipush (v := 9) hx hb dX3_integral_41 (by decide) ?_
          refine lv_icmp_ne (tgt := 50) hx hb dX3_integral_43 (by decide) (fun c_34 => ?_) (fun c_34 => ?_)
          · refine lv_iconst (v := 0) hx hb dX3_integral_50 (by decide) ?_
            have e9 : zi (m_end x && m_end y) = 0 := by simp [zi, m_end, c_25, c_30, c_32, c_33, c_34]
            rw [e9] at K51
            exact K51
          · refine lv_iconst (v := 1) hx hb dX3_integral_46 (by decide) ?_
            refine lv_goto (tgt := 51) hx hb dX3_integral_47 (by decide) ?_
            have e9 : zi (m_end x && m_end y) = 1 := by simp [zi, m_end, c_25, c_30, c_32, c_33, c_34]
            rw [e9] at K51
            exact K51
    · refine lv_iload_n hx hb dX3_integral_17 rfl (lv_at hl 1 rfl) ?_
      refine lv_bipush (v := 9) hx hb dX3_integral_18 (by decide) ?_
      refine lv_icmp_ne (tgt := 50) hx hb dX3_integral_20 (by decide) (fun c_35 => ?_) (fun c_35 => ?_)
      · refine lv_iconst (v := 0) hx hb dX3_integral_50 (by decide) ?_
        have e9 : zi (m_end x && m_end y) = 0 := by simp [zi, m_end, c_25, c_30, c_35]
        rw [e9] at K51
        exact K51
      · refine lv_iload_n hx hb dX3_integral_23 rfl (lv_at hl 2 rfl) ?_
        refine lv_bipush (v := (-6)) hx hb dX3_integral_24 (by decide) ?_
        refine lv_bipush (v := 6) hx hb dX3_integral_26 (by decide) ?_
        refine vp_callSi (W.runS (As := [.int y, .int (-6), .int 6]) (rest := []) ⟨hx, hb, hml, hown, hg⟩ (c_X3_in l y (-6) 6) (va_cwS 3 hg (gw_S ml_X3_35 sm_X3_in ini_X3 co_X3_in) rfl rfl rfl (by decide +kernel) ⟨Nat.le_of_ble_eq_true rfl, Nat.le_of_ble_eq_true rfl⟩) ⟨tt_blind, (fun U hU hW => ⟨rfl, trivial⟩)⟩ rfl rfl hl.1 rfl (lv_room (Nat.le_of_ble_eq_true rfl)) dX3_integral_28 ⟨Nat.le_of_ble_eq_true rfl, Nat.le_of_ble_eq_true rfl⟩) (fun r_36 hr_36 => ?_)
        subst hr_36
        refine lv_if_ne (tgt := 46) hx hb dX3_integral_31 (by decide) (fun c_37 => ?_) (fun c_37 => ?_)
        · replace c_37 := zi_n0 c_37
          refine lv_iconst (v := 1) hx hb dX3_integral_46 (by decide) ?_
          refine lv_goto (tgt := 51) hx hb dX3_integral_47 (by decide) ?_
          have e9 : zi (m_end x && m_end y) = 1 := by simp [zi, m_end, c_25, c_30, c_35, c_37]
          rw [e9] at K51
          exact K51
        · replace c_37 := zi_0 c_37
          refine lv_iload_n hx hb dX3_integral_34 rfl (lv_at hl 2 rfl) ?_
          refine lv_bipush (v := (-9)) hx hb dX3_integral_35 (by decide) ?_
          refine lv_icmp_eq (tgt := 46) hx hb dX3_integral_37 (by decide) (fun c_38 => ?_) (fun c_38 => ?_)
          · refine lv_iconst (v := 1) hx hb dX3_integral_46 (by decide) ?_
            refine lv_goto (tgt := 51) hx hb dX3_integral_47 (by decide) ?_
            have e9 : zi (m_end x && m_end y) = 1 := by simp [zi, m_end, c_25, c_30, c_35, c_37, c_38]
            rw [e9] at K51
            exact K51
          · refine lv_iload_n hx hb dX3_integral_40 rfl (lv_at hl 2 rfl) ?_
            refine lv_bipush (v := 9) hx hb dX3_integral_41 (by decide) ?_
            refine lv_icmp_ne (tgt := 50) hx hb dX3_integral_43 (by decide) (fun c_39 => ?_) (fun c_39 => ?_)
            · refine lv_iconst (v := 0) hx hb dX3_integral_50 (by decide) ?_
              have e9 : zi (m_end x && m_end y) = 0 := by simp [zi, m_end, c_25, c_30, c_35, c_37, c_38, c_39]
              rw [e9] at K51
              exact K51
            · refine lv_iconst (v := 1) hx hb dX3_integral_46 (by decide) ?_
              refine lv_goto (tgt := 51) hx hb dX3_integral_47 (by decide) ?_
              have e9 : zi (m_end x && m_end y) = 1 := by simp [zi, m_end, c_25, c_30, c_35, c_37, c_38, c_39]
              rw [e9] at K51
              exact K51
def m_h (t : Nat) : Int32 := nI (2 * t) - 13
theorem m_h_i {t : Nat} (h : t ≤ 20) : (m_h t).toInt = 2 * (t : Int) - 13 := by
  have h13 : (13 : Int32).toInt = 13 := rfl
  rw [m_h, Int32.toInt_sub, nI_toInt (by omega), h13, ma_I] <;> omega
theorem m_h_s (t : Nat) : m_h t + 2 = m_h (t + 1) := by
  rw [m_h, m_h, show 2 * (t + 1) = 2 * t + 2 by omega, ← nI_add, show nI 2 = 2 from rfl]
  simp only [Int32.sub_eq_add_neg, Int32.add_assoc]
  rw [Int32.add_comm (-13) 2]
theorem m_cnt_le {pl : Nat → Int32} {x : Int32} {cu : Nat} : ∀ n k, k ≤ cu → m_cnt pl x cu n k ≤ cu
  | 0, k, h => h
  | n + 1, k, h => by
    rw [m_cnt]
    split
    · exact m_cnt_le n (k + 1) (by omega)
    · exact h
def m_sy (pl nm : Nat → Int32) (cnt : Nat) (z : Int32) : Nat → Bool
  | 0 => true
  | t + 1 => m_sy pl nm cnt z t && p_mir (fun j => nm (8 * m_cnt pl (m_h t) cnt 4 0 + j)) (fun j => nm (8 * m_cnt pl (-m_h t) cnt 4 0 + j)) z
def m_sym (pl nm : Nat → Int32) (cnt : Nat) : Int32 := if m_sy pl nm cnt 1 14 && m_sy pl nm cnt (-1) 14 then 2 else if m_sy pl nm cnt 1 14 then 1 else if m_sy pl nm cnt (-1) 14 then -1 else 0
set_option maxHeartbeats 4000000 in
set_option maxRecDepth 100000 in
theorem c_X3_symmetry (l : Launch) (A : Nat → Prop) (D : va_G) (cI cL cQ : ClassId) (fr : va_W) (b : Nat → Nat) (cod : Int32) (cnt : Nat) (hc : cnt ≤ 3) (pl nm od op : Nat → Int32) (kb : Bool) (kU kD : Int64) (kl : Nat → Int32) (up dn : Int64) (lg : Nat → Int32) : Met l yX3_symmetry wsX3_symmetry { frames := 2, cells := 0, slots := 0, locals := 48 } (va_Pc [.ref (b 0)] (wd_B D (ty3 cI cL cQ) A (mw cI b cod (nI cnt) pl nm od op (zi kb) kU kD kl up dn lg ++ fr))) (va_Qi (fun r (u : Unit) => r = m_sym pl nm cnt) (fun u t => wd_E D (ty3 cI cL cQ) A (mw cI b 0 (nI cnt) pl nm od op (zi kb) kU kD kl up dn lg ++ fr) t) A) 0 0 A := by
  refine Met.ofW (cc := cX3_symmetry) (maxL := 4) (ret := (some .int)) (by decide) rfl ?_
  intro p e s m args below meth c s₁ B hml hv
  obtain ⟨rfl, hG, hK, hP, hD, hA⟩ := hv
  have hx := B.exec
  have hb := B.bytes
  have hr := B.returns
  have hts := atoms_spec (ws := wsX3_symmetry) B.pre
  have hg : ∀ w ∈ gw, w.before ([.ref (b 0)] : List Value).toArray s = true := fun w h => hts w (List.mem_cons_of_mem _ h)
  have hown : s.vm.findClass RX3 = some m.cls := findClass_of_methodNamed B.named
  have hlocks := B.notSynchronized
  have hS : va_S A s.heap s.heap [] := va_S.rf
  have hl := lv_entry ([.ref (b 0)]) (n := 4) (Nat.le_of_ble_eq_true rfl)
  rw [lg_entry_eq]
  generalize (lg_sl ([.ref (b 0)]) ++ List.replicate (4 - (lg_sl ([.ref (b 0)])).length) Slot.unset).toArray = ls at hl ⊢
  have hl : lv_has ls 4 [(0, .ref (b 0))] := hl
  refine lv_aload_n hx hb dX3_symmetry_0 rfl (lv_at hl 0 rfl) ?_
  refine lv_iconst (v := 0) hx hb dX3_symmetry_1 (by decide) ?_
  refine va_put (D := D) (ci := 3) (v := .int 0) (ty := .int) (C := RX3) (T := TX3) (N := 13) hx hb hg inX3 tyX3 tyX3_ok nmX3 hown hK hP hD hS 0 rfl rfl 0 (by decide) (hg _ fl_X3_28) (fun _ h9 => h9) rfl (by decide +kernel) rfl rfl (Nat.le_of_ble_eq_true rfl) dX3_symmetry_2 (fun H locs hP hD hS => ?_)
  have hP : va_P D vwCl (mw cI b 0 (nI cnt) pl nm od op (zi kb) kU kD kl up dn lg ++ fr) H := hP
  have hD : va_D A (mw cI b 0 (nI cnt) pl nm od op (zi kb) kU kD kl up dn lg ++ fr) := hD
  refine lv_iconst (v := 1) hx hb dX3_symmetry_5 (by decide) ?_
  refine lv_istore_n (lv' := [(1, .int 1), (0, .ref (b 0))]) hx hb dX3_symmetry_6 rfl hl (by decide) rfl (fun ls hl => ?_)
  refine lv_iconst (v := 1) hx hb dX3_symmetry_7 (by decide) ?_
  refine lv_istore_n (lv' := [(2, .int 1), (1, .int 1), (0, .ref (b 0))]) hx hb dX3_symmetry_8 rfl hl (by decide) rfl (fun ls hl => ?_)
  refine lv_bipush (v := (-13)) hx hb dX3_symmetry_9 (by decide) ?_
  refine lv_istore_n (lv' := [(3, .int (-13)), (2, .int 1), (1, .int 1), (0, .ref (b 0))]) hx hb dX3_symmetry_11 rfl hl (by decide) rfl (fun ls hl => ?_)
  have hl : lv_has ls 4 [(3, .int (m_h 0)), (2, .int (zi (m_sy pl nm cnt (-1) 0))), (1, .int (zi (m_sy pl nm cnt 1 0))), (0, .ref (b 0))] := hl
  have hq1 := fun x => m_cnt_le (pl := pl) (x := x) (cu := cnt) 4 0 (Nat.zero_le _)
  have L12 : ∀ (n9 : Nat) (w9 : Nat), (w9 ≤ 14) → (14 - w9 < n9) → ∀ (ls : Array Slot), lv_has ls 4 [(3, .int (m_h w9)), (1, .int (zi (m_sy pl nm cnt 1 w9))), (2, .int (zi (m_sy pl nm cnt (-1) w9))), (0, .ref (b 0))] → W p l e (headSpec wsX3_symmetry { frames := 2, cells := 0, slots := 0, locals := 48 }).room s m ([.ref (b 0)] : List Value).toArray below meth c H locs 0 0 (MQ below (va_Qi (fun r (u : Unit) => r = m_sym pl nm cnt) (fun u t => wd_E D (ty3 cI cL cQ) A (mw cI b 0 (nI cnt) pl nm od op (zi kb) kU kD kl up dn lg ++ fr) t) A) ([.ref (b 0)] : List Value).toArray s 0 0 A) (F0 m 12 ls []) := by
    intro n12
    induction n12 with
    | zero => intro w9 ht h9; exact absurd h9 (by omega)
    | succ n12 ih12 =>
      intro w9 ht h9 ls hl
      refine lv_iload_n hx hb dX3_symmetry_12 rfl (lv_at hl 0 rfl) ?_
      have hhi := m_h_i (t := w9) (by omega)
      refine lv_bipush (v := 14) hx hb dX3_symmetry_13 (by decide) ?_
      refine lv_icmp_ge (tgt := 82) hx hb dX3_symmetry_15 (by decide) (fun hc14 => ?_) (fun hc14 => ?_)
      · replace hc14 : 14 ≤ w9 := by rw [Int32.le_iff_toInt_le, hhi, show (14 : Int32).toInt = 14 from rfl] at hc14; omega
        refine lv_iload_n hx hb dX3_symmetry_82 rfl (lv_at hl 1 rfl) ?_
        refine lv_if_eq (tgt := 94) hx hb dX3_symmetry_83 (by decide) (fun c_1 => ?_) (fun c_1 => ?_)
        · replace c_1 := zi_0 c_1
          refine lv_iload_n hx hb dX3_symmetry_94 rfl (lv_at hl 1 rfl) ?_
          refine lv_if_eq (tgt := 102) hx hb dX3_symmetry_95 (by decide) (fun c_2 => ?_) (fun c_2 => ?_)
          · replace c_2 := zi_0 c_2
            refine lv_iload_n hx hb dX3_symmetry_102 rfl (lv_at hl 2 rfl) ?_
            refine lv_if_eq (tgt := 110) hx hb dX3_symmetry_103 (by decide) (fun c_3 => ?_) (fun c_3 => ?_)
            · replace c_3 := zi_0 c_3
              refine lv_iconst (v := 0) hx hb dX3_symmetry_110 (by decide) ?_
              exact W.iret (v := 0) hx hb hr (fun t ht hW => ⟨⟨0, (), rfl, by show 0 = m_sym pl nm cnt; rw [m_sym, show (14 : Nat) = w9 by omega]; first | (simp [c_1, c_2, c_3]; done) | exact absurd (c_1.symm.trans c_2) (by decide) | exact absurd (c_1.symm.trans c_3) (by decide) | exact absurd (c_2.symm.trans c_3) (by decide), wd_E.at hK hP hD ht hW⟩, hS.F ht⟩) hS.2.2 dX3_symmetry_111
            · replace c_3 := zi_n0 c_3
              refine lv_iconst (v := (-1)) hx hb dX3_symmetry_106 (by decide) ?_
              refine lv_goto (tgt := 111) hx hb dX3_symmetry_107 (by decide) ?_
              exact W.iret (v := (-1)) hx hb hr (fun t ht hW => ⟨⟨(-1), (), rfl, by show (-1) = m_sym pl nm cnt; rw [m_sym, show (14 : Nat) = w9 by omega]; first | (simp [c_1, c_2, c_3]; done) | exact absurd (c_1.symm.trans c_2) (by decide) | exact absurd (c_1.symm.trans c_3) (by decide) | exact absurd (c_2.symm.trans c_3) (by decide), wd_E.at hK hP hD ht hW⟩, hS.F ht⟩) hS.2.2 dX3_symmetry_111
          · replace c_2 := zi_n0 c_2
            refine lv_iconst (v := 1) hx hb dX3_symmetry_98 (by decide) ?_
            refine lv_goto (tgt := 111) hx hb dX3_symmetry_99 (by decide) ?_
            exact W.iret (v := 1) hx hb hr (fun t ht hW => ⟨⟨1, (), rfl, by show 1 = m_sym pl nm cnt; rw [m_sym, show (14 : Nat) = w9 by omega]; first | (simp [c_1, c_2]; done) | exact absurd (c_1.symm.trans c_2) (by decide), wd_E.at hK hP hD ht hW⟩, hS.F ht⟩) hS.2.2 dX3_symmetry_111
        · replace c_1 := zi_n0 c_1
          refine lv_iload_n hx hb dX3_symmetry_86 rfl (lv_at hl 2 rfl) ?_
          refine lv_if_eq (tgt := 94) hx hb dX3_symmetry_87 (by decide) (fun c_4 => ?_) (fun c_4 => ?_)
          · replace c_4 := zi_0 c_4
            refine lv_iload_n hx hb dX3_symmetry_94 rfl (lv_at hl 1 rfl) ?_
            refine lv_if_eq (tgt := 102) hx hb dX3_symmetry_95 (by decide) (fun c_5 => ?_) (fun c_5 => ?_)
            · replace c_5 := zi_0 c_5
              refine lv_iload_n hx hb dX3_symmetry_102 rfl (lv_at hl 2 rfl) ?_
              refine lv_if_eq (tgt := 110) hx hb dX3_symmetry_103 (by decide) (fun c_6 => ?_) (fun c_6 => ?_)
              · replace c_6 := zi_0 c_6
                refine lv_iconst (v := 0) hx hb dX3_symmetry_110 (by decide) ?_
                exact W.iret (v := 0) hx hb hr (fun t ht hW => ⟨⟨0, (), rfl, by show 0 = m_sym pl nm cnt; rw [m_sym, show (14 : Nat) = w9 by omega]; first | (simp [c_1, c_4, c_5, c_6]; done) | exact absurd (c_1.symm.trans c_4) (by decide) | exact absurd (c_1.symm.trans c_5) (by decide) | exact absurd (c_1.symm.trans c_6) (by decide) | exact absurd (c_4.symm.trans c_5) (by decide) | exact absurd (c_4.symm.trans c_6) (by decide) | exact absurd (c_5.symm.trans c_6) (by decide), wd_E.at hK hP hD ht hW⟩, hS.F ht⟩) hS.2.2 dX3_symmetry_111
              · replace c_6 := zi_n0 c_6
                refine lv_iconst (v := (-1)) hx hb dX3_symmetry_106 (by decide) ?_
                refine lv_goto (tgt := 111) hx hb dX3_symmetry_107 (by decide) ?_
                exact W.iret (v := (-1)) hx hb hr (fun t ht hW => ⟨⟨(-1), (), rfl, by show (-1) = m_sym pl nm cnt; rw [m_sym, show (14 : Nat) = w9 by omega]; first | (simp [c_1, c_4, c_5, c_6]; done) | exact absurd (c_1.symm.trans c_4) (by decide) | exact absurd (c_1.symm.trans c_5) (by decide) | exact absurd (c_1.symm.trans c_6) (by decide) | exact absurd (c_4.symm.trans c_5) (by decide) | exact absurd (c_4.symm.trans c_6) (by decide) | exact absurd (c_5.symm.trans c_6) (by decide), wd_E.at hK hP hD ht hW⟩, hS.F ht⟩) hS.2.2 dX3_symmetry_111
            · replace c_5 := zi_n0 c_5
              refine lv_iconst (v := 1) hx hb dX3_symmetry_98 (by decide) ?_
              refine lv_goto (tgt := 111) hx hb dX3_symmetry_99 (by decide) ?_
              exact W.iret (v := 1) hx hb hr (fun t ht hW => ⟨⟨1, (), rfl, by show 1 = m_sym pl nm cnt; rw [m_sym, show (14 : Nat) = w9 by omega]; first | (simp [c_1, c_4, c_5]; done) | exact absurd (c_1.symm.trans c_4) (by decide) | exact absurd (c_1.symm.trans c_5) (by decide) | exact absurd (c_4.symm.trans c_5) (by decide), wd_E.at hK hP hD ht hW⟩, hS.F ht⟩) hS.2.2 dX3_symmetry_111
          · replace c_4 := zi_n0 c_4
            refine lv_iconst (v := 2) hx hb dX3_symmetry_90 (by decide) ?_
            refine lv_goto (tgt := 111) hx hb dX3_symmetry_91 (by decide) ?_
            exact W.iret (v := 2) hx hb hr (fun t ht hW => ⟨⟨2, (), rfl, by show 2 = m_sym pl nm cnt; rw [m_sym, show (14 : Nat) = w9 by omega]; first | (simp [c_1, c_4]; done) | exact absurd (c_1.symm.trans c_4) (by decide), wd_E.at hK hP hD ht hW⟩, hS.F ht⟩) hS.2.2 dX3_symmetry_111
      · replace hc14 : ¬ 14 ≤ w9 := by rw [Int32.le_iff_toInt_le, hhi, show (14 : Int32).toInt = 14 from rfl] at hc14; omega
        have hb1 := hq1 (m_h w9)
        have hb2 := hq1 (-(m_h w9))
        have K46 : W p l e (headSpec wsX3_symmetry { frames := 2, cells := 0, slots := 0, locals := 48 }).room s m ([.ref (b 0)] : List Value).toArray below meth c H locs 0 0 (MQ below (va_Qi (fun r (u : Unit) => r = m_sym pl nm cnt) (fun u t => wd_E D (ty3 cI cL cQ) A (mw cI b 0 (nI cnt) pl nm od op (zi kb) kU kD kl up dn lg ++ fr) t) A) ([.ref (b 0)] : List Value).toArray s 0 0 A) (F0 m 46 ls [.int (zi (m_sy pl nm cnt 1 (w9 + 1)))]) := by
          refine lv_istore_n (lv' := [(1, .int (zi (m_sy pl nm cnt 1 (w9 + 1)))), (3, .int (m_h w9)), (2, .int (zi (m_sy pl nm cnt (-1) w9))), (0, .ref (b 0))]) hx hb dX3_symmetry_46 rfl hl (by decide) rfl (fun ls hl => ?_)
          have K75 : W p l e (headSpec wsX3_symmetry { frames := 2, cells := 0, slots := 0, locals := 48 }).room s m ([.ref (b 0)] : List Value).toArray below meth c H locs 0 0 (MQ below (va_Qi (fun r (u : Unit) => r = m_sym pl nm cnt) (fun u t => wd_E D (ty3 cI cL cQ) A (mw cI b 0 (nI cnt) pl nm od op (zi kb) kU kD kl up dn lg ++ fr) t) A) ([.ref (b 0)] : List Value).toArray s 0 0 A) (F0 m 75 ls [.int (zi (m_sy pl nm cnt (-1) (w9 + 1)))]) := by
            refine lv_istore_n (lv' := [(2, .int (zi (m_sy pl nm cnt (-1) (w9 + 1)))), (1, .int (zi (m_sy pl nm cnt 1 (w9 + 1)))), (3, .int (m_h w9)), (0, .ref (b 0))]) hx hb dX3_symmetry_75 rfl hl (by decide) rfl (fun ls hl => ?_)
            refine lv_iinc (v := m_h (w9 + 1)) (lv' := [(3, .int (m_h (w9 + 1))), (2, .int (zi (m_sy pl nm cnt (-1) (w9 + 1)))), (1, .int (zi (m_sy pl nm cnt 1 (w9 + 1)))), (0, .ref (b 0))]) hx hb dX3_symmetry_76 hl (k := 2) rfl (m_h_s w9) (by decide) rfl (fun ls hl => ?_)
            refine lv_goto (tgt := 12) hx hb dX3_symmetry_79 (by decide) ?_
            exact ih12 (w9 + 1) (by omega)  (by omega) ls (lv_sub hl [0, 2, 1, 3] rfl)
          refine lv_iload_n hx hb dX3_symmetry_47 rfl (lv_at hl 2 rfl) ?_
          refine lv_if_eq (tgt := 74) hx hb dX3_symmetry_48 (by decide) (fun c_7 => ?_) (fun c_7 => ?_)
          · replace c_7 := zi_0 c_7
            refine lv_iconst (v := 0) hx hb dX3_symmetry_74 (by decide) ?_
            have e9 : zi (m_sy pl nm cnt (-1) (w9 + 1)) = 0 := by simp [zi, m_sy, c_7]
            rw [e9] at K75
            exact K75
          · replace c_7 := zi_n0 c_7
            refine lv_aload_n hx hb dX3_symmetry_51 rfl (lv_at hl 3 rfl) ?_
            refine lv_aload_n hx hb dX3_symmetry_52 rfl (lv_at hl 3 rfl) ?_
            refine lv_iload_n hx hb dX3_symmetry_53 rfl (lv_at hl 1 rfl) ?_
            refine vp_callSi (W.runV (As := [.int (m_h w9)]) (rest := [.ref (b 0)]) ⟨hx, hb, hml, hown, hg⟩ (c_X3_pieceAt l D cI cL cQ (b 0) (b 1) [.int 0, .int (nI cnt), .ref (b 1), .ref (b 2), .ref (b 3), .ref (b 4), .int (zi kb), .long kU, .long kD, .ref (b 5), .long up, .long dn, .ref (b 6)] rfl cnt rfl hc pl (m_h w9)) (cwV 1 hg (gw_V ml_X3_91 im_X3_pieceAt se_X3_pieceAt ini_X3 co_X3_pieceAt) rfl rfl rfl (by decide +kernel) ⟨Nat.le_of_ble_eq_true rfl, Nat.le_of_ble_eq_true rfl⟩) ⟨pu_B.blind, va_recv hK hP (ci := 3) (q0 := 0) rfl rfl, (fun U hU hW => ⟨rfl, pu_B.at hK (hP.sub [0, 1] rfl) hU hW⟩)⟩ rfl rfl hl.1 rfl (lv_room (Nat.le_of_ble_eq_true rfl)) dX3_symmetry_54 ⟨Nat.le_of_ble_eq_true rfl, Nat.le_of_ble_eq_true rfl⟩) (fun r_8 hr_8 => ?_)
            subst hr_8
            refine lv_aload_n hx hb dX3_symmetry_57 rfl (lv_at hl 3 rfl) ?_
            refine lv_iload_n hx hb dX3_symmetry_58 rfl (lv_at hl 1 rfl) ?_
            refine lv_ineg hx hb dX3_symmetry_59 ?_
            refine vp_callSi (W.runV (As := [.int (-(m_h w9))]) (rest := [.int (nI (m_cnt pl (m_h w9) cnt 4 0)), .ref (b 0)]) ⟨hx, hb, hml, hown, hg⟩ (c_X3_pieceAt l D cI cL cQ (b 0) (b 1) [.int 0, .int (nI cnt), .ref (b 1), .ref (b 2), .ref (b 3), .ref (b 4), .int (zi kb), .long kU, .long kD, .ref (b 5), .long up, .long dn, .ref (b 6)] rfl cnt rfl hc pl (-(m_h w9))) (cwV 1 hg (gw_V ml_X3_91 im_X3_pieceAt se_X3_pieceAt ini_X3 co_X3_pieceAt) rfl rfl rfl (by decide +kernel) ⟨Nat.le_of_ble_eq_true rfl, Nat.le_of_ble_eq_true rfl⟩) ⟨pu_B.blind, va_recv hK hP (ci := 3) (q0 := 0) rfl rfl, (fun U hU hW => ⟨rfl, pu_B.at hK (hP.sub [0, 1] rfl) hU hW⟩)⟩ rfl rfl hl.1 rfl (lv_room (Nat.le_of_ble_eq_true rfl)) dX3_symmetry_60 ⟨Nat.le_of_ble_eq_true rfl, Nat.le_of_ble_eq_true rfl⟩) (fun r_9 hr_9 => ?_)
            subst hr_9
            refine lv_iconst (v := (-1)) hx hb dX3_symmetry_63 (by decide) ?_
            refine vp_callSi (W.runV (As := [.int (nI (m_cnt pl (m_h w9) cnt 4 0)), .int (nI (m_cnt pl (-(m_h w9)) cnt 4 0)), .int (-1)]) (rest := []) ⟨hx, hb, hml, hown, hg⟩ (c_X3_isTurned l D cI cL cQ (b 0) (b 2) [.int 0, .int (nI cnt), .ref (b 1), .ref (b 2), .ref (b 3), .ref (b 4), .int (zi kb), .long kU, .long kD, .ref (b 5), .long up, .long dn, .ref (b 6)] rfl nm (m_cnt pl (m_h w9) cnt 4 0) (m_cnt pl (-(m_h w9)) cnt 4 0) (by omega) (by omega) (-1)) (cwV 3 hg (gw_V ml_X3_94 im_X3_isTurned se_X3_isTurned ini_X3 co_X3_isTurned) rfl rfl rfl (by decide +kernel) ⟨Nat.le_of_ble_eq_true rfl, Nat.le_of_ble_eq_true rfl⟩) ⟨pu_B.blind, va_recv hK hP (ci := 3) (q0 := 0) rfl rfl, (fun U hU hW => ⟨rfl, pu_B.at hK (hP.sub [0, 2] rfl) hU hW⟩)⟩ rfl rfl hl.1 rfl (lv_room (Nat.le_of_ble_eq_true rfl)) dX3_symmetry_64 ⟨Nat.le_of_ble_eq_true rfl, Nat.le_of_ble_eq_true rfl⟩) (fun r_10 hr_10 => ?_)
            subst hr_10
            refine lv_if_eq (tgt := 74) hx hb dX3_symmetry_67 (by decide) (fun c_11 => ?_) (fun c_11 => ?_)
            · replace c_11 := zi_0 c_11
              refine lv_iconst (v := 0) hx hb dX3_symmetry_74 (by decide) ?_
              have e9 : zi (m_sy pl nm cnt (-1) (w9 + 1)) = 0 := by simp [zi, m_sy, c_7, c_11]
              rw [e9] at K75
              exact K75
            · replace c_11 := zi_n0 c_11
              refine lv_iconst (v := 1) hx hb dX3_symmetry_70 (by decide) ?_
              refine lv_goto (tgt := 75) hx hb dX3_symmetry_71 (by decide) ?_
              have e9 : zi (m_sy pl nm cnt (-1) (w9 + 1)) = 1 := by simp [zi, m_sy, c_7, c_11]
              rw [e9] at K75
              exact K75
        refine lv_iload_n hx hb dX3_symmetry_18 rfl (lv_at hl 1 rfl) ?_
        refine lv_if_eq (tgt := 45) hx hb dX3_symmetry_19 (by decide) (fun c_12 => ?_) (fun c_12 => ?_)
        · replace c_12 := zi_0 c_12
          refine lv_iconst (v := 0) hx hb dX3_symmetry_45 (by decide) ?_
          have e9 : zi (m_sy pl nm cnt 1 (w9 + 1)) = 0 := by simp [zi, m_sy, c_12]
          rw [e9] at K46
          exact K46
        · replace c_12 := zi_n0 c_12
          refine lv_aload_n hx hb dX3_symmetry_22 rfl (lv_at hl 3 rfl) ?_
          refine lv_aload_n hx hb dX3_symmetry_23 rfl (lv_at hl 3 rfl) ?_
          refine lv_iload_n hx hb dX3_symmetry_24 rfl (lv_at hl 0 rfl) ?_
          refine vp_callSi (W.runV (As := [.int (m_h w9)]) (rest := [.ref (b 0)]) ⟨hx, hb, hml, hown, hg⟩ (c_X3_pieceAt l D cI cL cQ (b 0) (b 1) [.int 0, .int (nI cnt), .ref (b 1), .ref (b 2), .ref (b 3), .ref (b 4), .int (zi kb), .long kU, .long kD, .ref (b 5), .long up, .long dn, .ref (b 6)] rfl cnt rfl hc pl (m_h w9)) (cwV 1 hg (gw_V ml_X3_91 im_X3_pieceAt se_X3_pieceAt ini_X3 co_X3_pieceAt) rfl rfl rfl (by decide +kernel) ⟨Nat.le_of_ble_eq_true rfl, Nat.le_of_ble_eq_true rfl⟩) ⟨pu_B.blind, va_recv hK hP (ci := 3) (q0 := 0) rfl rfl, (fun U hU hW => ⟨rfl, pu_B.at hK (hP.sub [0, 1] rfl) hU hW⟩)⟩ rfl rfl hl.1 rfl (lv_room (Nat.le_of_ble_eq_true rfl)) dX3_symmetry_25 ⟨Nat.le_of_ble_eq_true rfl, Nat.le_of_ble_eq_true rfl⟩) (fun r_13 hr_13 => ?_)
          subst hr_13
          refine lv_aload_n hx hb dX3_symmetry_28 rfl (lv_at hl 3 rfl) ?_
          refine lv_iload_n hx hb dX3_symmetry_29 rfl (lv_at hl 0 rfl) ?_
          refine lv_ineg hx hb dX3_symmetry_30 ?_
          refine vp_callSi (W.runV (As := [.int (-(m_h w9))]) (rest := [.int (nI (m_cnt pl (m_h w9) cnt 4 0)), .ref (b 0)]) ⟨hx, hb, hml, hown, hg⟩ (c_X3_pieceAt l D cI cL cQ (b 0) (b 1) [.int 0, .int (nI cnt), .ref (b 1), .ref (b 2), .ref (b 3), .ref (b 4), .int (zi kb), .long kU, .long kD, .ref (b 5), .long up, .long dn, .ref (b 6)] rfl cnt rfl hc pl (-(m_h w9))) (cwV 1 hg (gw_V ml_X3_91 im_X3_pieceAt se_X3_pieceAt ini_X3 co_X3_pieceAt) rfl rfl rfl (by decide +kernel) ⟨Nat.le_of_ble_eq_true rfl, Nat.le_of_ble_eq_true rfl⟩) ⟨pu_B.blind, va_recv hK hP (ci := 3) (q0 := 0) rfl rfl, (fun U hU hW => ⟨rfl, pu_B.at hK (hP.sub [0, 1] rfl) hU hW⟩)⟩ rfl rfl hl.1 rfl (lv_room (Nat.le_of_ble_eq_true rfl)) dX3_symmetry_31 ⟨Nat.le_of_ble_eq_true rfl, Nat.le_of_ble_eq_true rfl⟩) (fun r_14 hr_14 => ?_)
          subst hr_14
          refine lv_iconst (v := 1) hx hb dX3_symmetry_34 (by decide) ?_
          refine vp_callSi (W.runV (As := [.int (nI (m_cnt pl (m_h w9) cnt 4 0)), .int (nI (m_cnt pl (-(m_h w9)) cnt 4 0)), .int 1]) (rest := []) ⟨hx, hb, hml, hown, hg⟩ (c_X3_isTurned l D cI cL cQ (b 0) (b 2) [.int 0, .int (nI cnt), .ref (b 1), .ref (b 2), .ref (b 3), .ref (b 4), .int (zi kb), .long kU, .long kD, .ref (b 5), .long up, .long dn, .ref (b 6)] rfl nm (m_cnt pl (m_h w9) cnt 4 0) (m_cnt pl (-(m_h w9)) cnt 4 0) (by omega) (by omega) 1) (cwV 3 hg (gw_V ml_X3_94 im_X3_isTurned se_X3_isTurned ini_X3 co_X3_isTurned) rfl rfl rfl (by decide +kernel) ⟨Nat.le_of_ble_eq_true rfl, Nat.le_of_ble_eq_true rfl⟩) ⟨pu_B.blind, va_recv hK hP (ci := 3) (q0 := 0) rfl rfl, (fun U hU hW => ⟨rfl, pu_B.at hK (hP.sub [0, 2] rfl) hU hW⟩)⟩ rfl rfl hl.1 rfl (lv_room (Nat.le_of_ble_eq_true rfl)) dX3_symmetry_35 ⟨Nat.le_of_ble_eq_true rfl, Nat.le_of_ble_eq_true rfl⟩) (fun r_15 hr_15 => ?_)
          subst hr_15
          refine lv_if_eq (tgt := 45) hx hb dX3_symmetry_38 (by decide) (fun c_16 => ?_) (fun c_16 => ?_)
          · replace c_16 := zi_0 c_16
            refine lv_iconst (v := 0) hx hb dX3_symmetry_45 (by decide) ?_
            have e9 : zi (m_sy pl nm cnt 1 (w9 + 1)) = 0 := by simp [zi, m_sy, c_12, c_16]
            rw [e9] at K46
            exact K46
          · replace c_16 := zi_n0 c_16
            refine lv_iconst (v := 1) hx hb dX3_symmetry_41 (by decide) ?_
            refine lv_goto (tgt := 46) hx hb dX3_symmetry_42 (by decide) ?_
            have e9 : zi (m_sy pl nm cnt 1 (w9 + 1)) = 1 := by simp [zi, m_sy, c_12, c_16]
            rw [e9] at K46
            exact K46
  exact L12 (14 + 1) 0 (Nat.zero_le _)  (Nat.lt_succ_self _) ls (lv_sub hl [0, 2, 1, 3] rfl)
