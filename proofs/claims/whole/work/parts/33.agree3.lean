section CG
variable {f g : Nat → Int32}
theorem cg_pole (h : ∀ j, j < 8 → f j = g j) : p_pole f = p_pole g := by simp only [p_pole, h 4 (by decide), h 5 (by decide), h 6 (by decide)]
theorem cg_tail (h : ∀ j, j < 8 → f j = g j) : p_tail f = p_tail g := by simp only [p_tail, h 0 (by decide), h 1 (by decide), h 2 (by decide), h 3 (by decide), h 4 (by decide)]
theorem cg_div (h : ∀ j, j < 8 → f j = g j) (a b : Int32) : p_div f a b = p_div g a b := by simp only [p_div, cg_pole h, cg_tail h, h 7 (by decide)]
theorem cg_pow (h : ∀ j, j < 8 → f j = g j) (x : Int64) : p_powers f x = p_powers g x := by simp only [p_powers, h 0 (by decide), h 1 (by decide), h 2 (by decide), h 3 (by decide)]
theorem cg_12 (h : ∀ j, j < 8 → f j = g j) (x : Int64) : p_12 f x = p_12 g x := by simp only [p_12, h 0 (by decide), h 1 (by decide), h 2 (by decide), h 3 (by decide)]
theorem cg_abv (h : ∀ j, j < 8 → f j = g j) (x : Int64) : p_above f x = p_above g x := by simp only [p_above, h 4 (by decide), h 5 (by decide), h 6 (by decide)]
theorem cg_vd (h : ∀ j, j < 8 → f j = g j) (x : Int32) : x_vd x f = x_vd x g := by simp only [x_vd, h 7 (by decide)]
theorem cg_val (h : ∀ j, j < 8 → f j = g j) (x k : Int32) : x_val x k f = x_val x k g := by simp only [x_val, cg_pole h, cg_pow h, cg_abv h, cg_vd h]
theorem cg_ab (h : ∀ j, j < 8 → f j = g j) (x z : Int32) (ab : Int64) : s_ab f x z ab = s_ab g x z ab := by simp only [s_ab, cg_pole h, cg_12 h, h 5 (by decide), h 6 (by decide), h 7 (by decide)]
theorem cg_lg (h : ∀ j, j < 8 → f j = g j) (x z : Int32) (lg : Nat → Int32) : s_lg f x z lg = s_lg g x z lg := by funext j; simp only [s_lg, cg_pole h, h 4 (by decide), h 7 (by decide)]
theorem cg_mir {f' g' : Nat → Int32} (h : ∀ j, j < 8 → f j = g j) (h' : ∀ j, j < 8 → f' j = g' j) (z : Int32) : p_mir f f' z = p_mir g g' z := by
  simp only [p_mir, cg_pole h, h 0 (by decide), h 1 (by decide), h 2 (by decide), h 3 (by decide), h 4 (by decide), h 5 (by decide), h 6 (by decide), h 7 (by decide), h' 0 (by decide), h' 1 (by decide), h' 2 (by decide), h' 3 (by decide), h' 4 (by decide), h' 5 (by decide), h' 6 (by decide), h' 7 (by decide)]
theorem cg_fold {l r z : Int32} {pl pl' : Nat → Int32} {nm nm' : Nat → Nat → Int32} {cnt : Nat} (h1 : ∀ j, j < cnt → pl' j = pl j) (h2 : ∀ i, i ≤ cnt → ∀ j, j < 8 → nm' i j = nm i j) : ∀ n, n ≤ cnt + 1 → a_fold l r z pl' nm' cnt n = a_fold l r z pl nm cnt n
  | 0, _ => rfl
  | i + 1, hn => by
    have ih := cg_fold (l := l) (r := r) (z := z) h1 h2 i (by omega)
    have e1 : a_st l pl' i = a_st l pl i := by
      by_cases c : i = 0
      · simp only [a_st, x_left, c, if_true]
      · simp only [a_st, x_left, if_neg c, h1 (i - 1) (by omega)]
    have e2 : a_en r pl' cnt i = a_en r pl cnt i := by
      by_cases c : i < cnt
      · simp only [a_en, x_right, if_pos c, h1 i c]
      · simp only [a_en, x_right, if_neg c]
    have hi := h2 i (by omega)
    rw [a_fold, a_fold, ih, e1, e2]
    simp only [cg_div hi, cg_ab hi, cg_lg hi]
end CG
section AG
variable {pl : Nat → Int32} {nm : Nat → Nat → Int32} {ab : Int64} {lg : Nat → Int32} {cnt : Nat} {kb : Bool} {pl' nm' : Nat → Int32} {kU kD : Int64} {kl : Nat → Int32}
theorem v_low {f : Nat → Int32} {x k : Int32} {up dn : Int64} (hf : ∀ j, j < 8 → in6 (f j)) (hx : in6 x) (hd : p_pole f = true → ¬ x_vd x f = 0) (h : rt (v_C f x) (v_S f x) up dn) (hk : k = 0 ∨ k = 1) : x_val x k f = if k = 0 then up else dn := by
  have hp := vl_pw hf hx
  by_cases c : p_pole f = true
  · have hdl := vl_d hx (hf 7 (by decide))
    have hd' : (x_vd x f).toInt.natAbs ≤ 12 := hdl
    have hq := vl_q hd' (hd c)
    have ha := vl_ab hf hd'
    have m1 := sm_mul hp hq.1 (by decide)
    have m2 := sm_add m1.2 ha (by decide)
    rw [v_C, v_S, if_pos c, if_pos c] at h
    rw [x_val, if_pos c]
    generalize x_vd x f * x_vd x f * x_vd x f = q at *
    generalize p_above f (x_vd x f) = a at *
    generalize p_powers f x.toInt64 = w at *
    have hS : (w.toInt * (q.toInt.natAbs : Int) + (if 0 < q.toInt then a.toInt else -a.toInt)).natAbs < 2^62 := by
      have h9 := na_mul hp (show ((q.toInt.natAbs : Nat) : Int).natAbs ≤ 2^11 by omega)
      split <;> omega
    have hl := rt_low (a := w * q + a) (b := q) (by omega) (by omega) h hS (by
      rw [m2.1, m1.1]
      rcases (show 0 < q.toInt ∨ q.toInt < 0 by omega) with hs | hs
      · left
        rw [if_pos hs, show (q.toInt.natAbs : Int) = q.toInt by omega]
        exact ⟨hs, rfl, rfl⟩
      · right
        rw [if_neg (by omega), show (q.toInt.natAbs : Int) = -q.toInt by omega]
        refine ⟨hs, rfl, ?_⟩
        rw [Int.mul_neg, Int.neg_add])
    rcases hk with rfl | rfl
    · rw [if_pos rfl]; exact hl.1
    · rw [if_neg (by decide)]; exact hl.2
  · rw [v_C, v_S, if_neg c, if_neg c] at h
    rw [x_val, if_neg c]
    have hl := rt_low (a := p_powers f x.toInt64) (b := 1) (by decide) (by decide) h (by omega) (Or.inl ⟨by decide, by decide, rfl⟩)
    rcases hk with rfl | rfl
    · rw [if_pos rfl]; exact hl.1
    · rw [if_neg (by decide)]; exact hl.2
theorem ag_value {x k r : Int32} {b : Int64} {f : Nat → Int64} {u : Unit × (Nat → Int64)} {w : Int32 × Int64 × Int64 × (Nat → Int32)} (hi : iv pl nm ab lg cnt kb pl' nm' kU kD kl)
    (h1 : (r = 0 ∧ ∃ v : Int64, (x_in x 6 = true ∧ x_part k = true ∧ (p_pole (nm (x_cnt pl x cnt)) = true → ¬ x_vd x (nm (x_cnt pl x cnt)) = 0) ∧ v = x_val x k (nm (x_cnt pl x cnt))) ∧ u.2 0 = v) ∨ (r = 1 ∧ (x_in x 6 = false ∨ x_part k = false) ∧ u = ((), f)) ∨ (r = 2 ∧ (x_in x 6 = true ∧ x_part k = true ∧ p_pole (nm (x_cnt pl x cnt)) = true ∧ x_vd x (nm (x_cnt pl x cnt)) = 0) ∧ u = ((), f)))
    (h2 : ((m_in x (-6) 6 && m_in k 0 1) = false ∧ w.1 = 1) ∨ ((m_in x (-6) 6 && m_in k 0 1) = true ∧ ∃ p9, (p9 ≤ cnt ∧ (∀ j, j < p9 → ¬ x < pl' j) ∧ (p9 < cnt → x < pl' p9)) ∧ ((p_pole (fun j => nm' (8 * p9 + j)) = true ∧ (x - nm' (8 * p9 + 7)).toInt64 = 0 ∧ w.1 = 2) ∨ ((p_pole (fun j => nm' (8 * p9 + j)) = true → ¬ (x - nm' (8 * p9 + 7)).toInt64 = 0) ∧ w.1 = 0 ∧ b = (if k = 0 then w.2.1 else w.2.2.1) ∧ rt (v_C (fun j => nm' (8 * p9 + j)) x) (v_S (fun j => nm' (8 * p9 + j)) x) w.2.1 w.2.2.1)))) : w.1 = r ∧ (r = 0 → u.2 0 = b) := by
  obtain ⟨i0, i1, i2, i3, i4, i5, i6⟩ := hi
  rw [m_1, show m_in x (-6) 6 = x_in x 6 from rfl] at h2
  rcases h2 with ⟨e2, hw⟩ | ⟨e2, p9, ⟨hp, hp1, hp2⟩, h2⟩
  · rw [Bool.and_eq_false_iff] at e2
    rcases h1 with ⟨rfl, v, ⟨e1, d1, -⟩, -⟩ | ⟨rfl, -, -⟩ | ⟨rfl, ⟨e1, d1, -⟩, -⟩
    · rcases e2 with e2 | e2
      · exact absurd (e1.symm.trans e2) (by decide)
      · exact absurd (d1.symm.trans e2) (by decide)
    · exact ⟨hw, fun h => absurd h (by decide)⟩
    · rcases e2 with e2 | e2
      · exact absurd (e1.symm.trans e2) (by decide)
      · exact absurd (d1.symm.trans e2) (by decide)
  · rw [Bool.and_eq_true] at e2
    have ek : x_cnt pl x cnt = p9 := x_cnt_eq i4 hp (fun j hj => by rw [← i1 j (by omega)]; exact hp1 j hj) (fun h => by rw [← i1 p9 h]; exact hp2 h)
    rw [ek] at h1
    have hcg : ∀ j, j < 8 → nm p9 j = (fun j => nm' (8 * p9 + j)) j := fun j hj => (i2 p9 hp j hj).symm
    rw [cg_pole hcg, cg_vd hcg, cg_val hcg] at h1
    have hf6 : ∀ j, j < 8 → in6 ((fun j => nm' (8 * p9 + j)) j) := fun j hj => by rw [← hcg j hj]; exact i5 p9 hp j hj
    rcases h1 with ⟨rfl, v, ⟨e1, d1, g1, rfl⟩, ho⟩ | ⟨rfl, e1, -⟩ | ⟨rfl, ⟨e1, d1, g1, z1⟩, -⟩
    · rcases h2 with ⟨g2, z2, -⟩ | ⟨g2, hw, rfl, hr⟩
      · exact absurd z2 (g1 g2)
      · refine ⟨hw, fun _ => ?_⟩
        rw [ho]
        exact v_low hf6 (x_in66 e1) g1 hr (pt_01 d1)
    · rcases e1 with e1 | e1
      · exact absurd (e1.symm.trans e2.1) (by decide)
      · exact absurd (e1.symm.trans e2.2) (by decide)
    · rcases h2 with ⟨-, -, hw⟩ | ⟨g2, -⟩
      · exact ⟨hw, fun h => absurd h (by decide)⟩
      · exact absurd z1 (g2 g1)
theorem ag_integral {x y r b : Int32} {f : Nat → Int64} {up dn : Int64} {ml : Nat → Int32} {u : (Int64 × (Nat → Int32) × Bool) × (Nat → Int64)} {w : Int32 × Bool × Int64 × Int64 × (Nat → Int32) × Int64 × Int64 × (Nat → Int32)} (hi : iv pl nm ab lg cnt kb pl' nm' kU kD kl)
    (h1 : (r = 0 ∧ ∃ v : Int32, ((x_end x && x_end y) = true ∧ v = zi u.1.2.2 ∧ ((a_fold (q_l x y) (q_r x y) (q_z x y) pl nm cnt (cnt + 1) = some (u.1.1, u.1.2.1) ∧ u.1.2.2 = true) ∨ (a_fold (q_l x y) (q_r x y) (q_z x y) pl nm cnt (cnt + 1) = none ∧ u.1.2.2 = false))) ∧ u.2 0 = (if v = 0 then 0 else 1)) ∨ (r = 1 ∧ ((x_end x && x_end y) = false) ∧ u = ((ab, lg, kb), f)))
    (h2 : ((m_end x && m_end y) = false ∧ w = (1, kb, kU, kD, kl, up, dn, ml)) ∨ ((m_end x && m_end y) = true ∧ w.1 = 0 ∧ ((a_fold (q_l x y) (q_r x y) (q_z x y) pl' (fun i j => nm' (8 * i + j)) cnt (cnt + 1) = none ∧ w.2.1 = false ∧ b = 0) ∨ ∃ ab lg9, a_fold (q_l x y) (q_r x y) (q_z x y) pl' (fun i j => nm' (8 * i + j)) cnt (cnt + 1) = some (ab, lg9) ∧ w.2.1 = true ∧ b = 1 ∧ rt 1536796800 ab.toInt w.2.2.1 w.2.2.2.1 ∧ bd (2^48) ab.toInt ∧ ∀ j, j < 5 → w.2.2.2.2.1 j = lg9 j))) :
    w.1 = r ∧ (r = 0 → u.2 0 = if b = 0 then 0 else 1) ∧ w.2.1 = u.1.2.2 ∧ iv pl nm u.1.1 u.1.2.1 cnt u.1.2.2 pl' nm' w.2.2.1 w.2.2.2.1 w.2.2.2.2.1 := by
  have hi0 := hi
  obtain ⟨i0, i1, i2, i3, i4, i5, i6⟩ := hi
  rw [m_end_x, m_end_x, cg_fold (nm := nm) i1 (fun i hi j hj => i2 i hi j hj) (cnt + 1) (Nat.le_refl _)] at h2
  rcases h1 with ⟨rfl, v, ⟨e1, rfl, h1⟩, ho⟩ | ⟨rfl, e1, rfl⟩ <;> rcases h2 with ⟨e2, hw⟩ | ⟨e2, hw, h2⟩ <;> first | (exact absurd (e1.symm.trans e2) (by decide)) | skip
  · rcases h1 with ⟨f1, k1⟩ | ⟨f1, k1⟩ <;> rcases h2 with ⟨f2, k2, rfl⟩ | ⟨a9, l9, f2, k2, rfl, hr, hb, hl⟩
    · exact nomatch (f1.symm.trans f2)
    · have e := f1.symm.trans f2
      rw [Option.some.injEq, Prod.mk.injEq] at e
      rw [k1] at ho ⊢
      refine ⟨hw, fun _ => ho, k2, i0, i1, i2, i3, i4, i5, fun _ => ?_⟩
      rw [e.1, e.2]
      exact ⟨hr, hb, fun j hj => (hl j hj).symm⟩
    · rw [k1] at ho ⊢
      exact ⟨hw, fun _ => ho, k2, i0, i1, i2, i3, i4, i5, fun h => absurd h (by decide)⟩
    · exact nomatch (f1.symm.trans f2)
  · subst hw
    exact ⟨rfl, fun h => absurd h (by decide), rfl, hi0⟩
theorem m_cnt_sp {pl : Nat → Int32} {x : Int32} {cu : Nat} : ∀ (n k : Nat), k ≤ cu → cu < n + k → k ≤ m_cnt pl x cu n k ∧ m_cnt pl x cu n k ≤ cu ∧ (∀ j, k ≤ j → j < m_cnt pl x cu n k → 2 * pl j < x) ∧ (m_cnt pl x cu n k < cu → ¬ 2 * pl (m_cnt pl x cu n k) < x)
  | 0, k, h1, h2 => by omega
  | n + 1, k, h1, h2 => by
    rw [m_cnt]
    by_cases c : k < cu ∧ 2 * pl k < x
    · rw [if_pos c]
      have ih := m_cnt_sp (pl := pl) (x := x) (cu := cu) n (k + 1) (by omega) (by omega)
      refine ⟨by omega, ih.2.1, fun j h3 h4 => ?_, ih.2.2.2⟩
      rcases Nat.lt_or_ge k j with h | h
      · exact ih.2.2.1 j (by omega) h4
      · rw [show j = k by omega]; exact c.2
    · rw [if_neg c]
      exact ⟨Nat.le_refl _, h1, fun j h3 h4 => absurd h4 (by omega), fun h h9 => c ⟨h, h9⟩⟩
theorem tw6 {v : Int32} (h : in6 v) : (2 * v).toInt = 2 * v.toInt := by
  have t : (2 : Int32).toInt = 2 := rfl
  unfold in6 at h
  rw [Int32.toInt_mul, t, ma_I] <;> omega
/-- the reference's count at a half is the class's at the number under it -/
theorem xm_cnt {h y : Int32} (hi : iv pl nm ab lg cnt kb pl' nm' kU kD kl) (hh : h.toInt = 2 * y.toInt + 1) : m_cnt pl' h cnt 4 0 = x_cnt pl y cnt := by
  obtain ⟨i0, i1, i2, i3, i4, i5, i6⟩ := hi
  have hs := m_cnt_sp (pl := pl') (x := h) (cu := cnt) 4 0 (Nat.zero_le _) (by omega)
  refine (x_cnt_eq i4 hs.2.1 (fun j hj => ?_) (fun hlt => ?_)).symm
  · have h2 := hs.2.2.1 j (Nat.zero_le _) hj
    rw [Int32.lt_iff_toInt_lt, i1 j (by omega), tw6 (i3 j (by omega))] at h2
    rw [Int32.lt_iff_toInt_lt]
    omega
  · have h2 := hs.2.2.2 hlt
    rw [Int32.lt_iff_toInt_lt, i1 _ hlt, tw6 (i3 _ hlt)] at h2
    rw [Int32.lt_iff_toInt_lt]
    omega
theorem sg_cc {z v : Int32} {k : Nat} (hz : z = 1 ∨ z = -1) : z * gl_sign k * (z * gl_sign k * v) = v := by
  have h1 : ∀ q : Int32, q = 1 ∨ q = -1 → q * (q * v) = v := by
    intro q hq
    rcases hq with rfl | rfl
    · rw [Int32.one_mul, Int32.one_mul]
    · rw [Int32.neg_mul, Int32.neg_mul, Int32.mul_neg, Int32.one_mul, Int32.one_mul, Int32.neg_neg]
  apply h1
  have h2 : gl_sign k = 1 ∨ gl_sign k = -1 := by unfold gl_sign; split <;> first | exact Or.inl rfl | exact Or.inr rfl
  rcases hz with rfl | rfl <;> rcases h2 with e | e <;> rw [e] <;> first | exact Or.inl (by decide) | exact Or.inr (by decide)
theorem sg_sw {z a b : Int32} {k : Nat} (hz : z = 1 ∨ z = -1) (h : a = z * gl_sign k * b) : b = z * gl_sign k * a := by rw [h, sg_cc hz]
theorem sg_0 {z a b : Int32} {k : Nat} (hz : z = 1 ∨ z = -1) (h : a = z * gl_sign k * b) : (a = 0) = (b = 0) := by
  apply propext
  constructor
  · intro e; rw [sg_sw hz h, e, Int32.mul_zero]
  · intro e; rw [h, e, Int32.mul_zero]
theorem mir_sw1 {f g : Nat → Int32} {z : Int32} (hz : z = 1 ∨ z = -1) (h : p_mir f g z = true) : p_mir g f z = true := by
  simp only [p_mir, Bool.and_eq_true, decide_eq_true_eq] at h ⊢
  obtain ⟨⟨⟨⟨⟨⟨⟨h0, h1⟩, h2⟩, h3⟩, h4⟩, h5⟩, h6⟩, h7⟩ := h
  refine ⟨⟨⟨⟨⟨⟨⟨sg_sw hz h0, sg_sw hz h1⟩, sg_sw hz h2⟩, sg_sw hz h3⟩, sg_sw hz h4⟩, sg_sw hz h5⟩, sg_sw hz h6⟩, ?_⟩
  have hp : p_pole g = p_pole f := by simp only [p_pole, sg_0 hz h4, sg_0 hz h5, sg_0 hz h6]
  rw [hp]
  rw [Bool.or_eq_true, decide_eq_true_eq] at h7 ⊢
  rcases h7 with h7 | h7
  · exact Or.inl h7
  · right; rw [h7, Int32.neg_neg]
theorem mir_sw {f g : Nat → Int32} {z : Int32} (hz : z = 1 ∨ z = -1) : p_mir f g z = p_mir g f z := by
  cases e : p_mir g f z
  · cases e2 : p_mir f g z
    · rfl
    · exact absurd (e.symm.trans (mir_sw1 hz e2)) (by decide)
  · exact mir_sw1 hz e
theorem x_mir_all {pl : Nat → Int32} {nm : Nat → Nat → Int32} {cnt : Nat} {z : Int32} : ∀ n, x_mir pl nm cnt z n = true ↔ ∀ i, i < n → p_mir (nm (x_cnt pl (nI i) cnt)) (nm (x_cnt pl (-nI i - 1) cnt)) z = true
  | 0 => ⟨fun _ i h => absurd h (Nat.not_lt_zero i), fun _ => rfl⟩
  | n + 1 => by
    rw [x_mir, Bool.and_eq_true, x_mir_all n]
    constructor
    · intro h i hi
      rcases Nat.lt_or_ge i n with h9 | h9
      · exact h.1 i h9
      · rw [show i = n by omega]; exact h.2
    · intro h
      exact ⟨fun i hi => h i (by omega), h n (by omega)⟩
theorem m_sy_all {pl nm : Nat → Int32} {cnt : Nat} {z : Int32} : ∀ n, m_sy pl nm cnt z n = true ↔ ∀ t, t < n → p_mir (fun j => nm (8 * m_cnt pl (m_h t) cnt 4 0 + j)) (fun j => nm (8 * m_cnt pl (-m_h t) cnt 4 0 + j)) z = true
  | 0 => ⟨fun _ i h => absurd h (Nat.not_lt_zero i), fun _ => rfl⟩
  | n + 1 => by
    rw [m_sy, Bool.and_eq_true, m_sy_all n]
    constructor
    · intro h i hi
      rcases Nat.lt_or_ge i n with h9 | h9
      · exact h.1 i h9
      · rw [show i = n by omega]; exact h.2
    · intro h
      exact ⟨fun i hi => h i (by omega), h n (by omega)⟩
theorem m_h_n {t : Nat} (h : t ≤ 20) : (-m_h t).toInt = 13 - 2 * (t : Int) := by
  have := m_h_i h
  rw [Int32.toInt_neg, ma_I] <;> omega
theorem ni_m {i : Nat} (h : i ≤ 20) : (-nI i - 1).toInt = -(i : Int) - 1 := by
  have e := nI_toInt (n := i) (by omega)
  have o : (1 : Int32).toInt = 1 := rfl
  have e2 : (-nI i).toInt = -(i : Int) := by rw [Int32.toInt_neg, ma_I] <;> omega
  rw [Int32.toInt_sub, e2, o, ma_I] <;> omega
theorem sy_eq {z : Int32} (hz : z = 1 ∨ z = -1) (hi : iv pl nm ab lg cnt kb pl' nm' kU kD kl) : m_sy pl' nm' cnt z 14 = x_mir pl nm cnt z 7 := by
  have key : ∀ (h y h2 y2 : Int32), h.toInt = 2 * y.toInt + 1 → h2.toInt = 2 * y2.toInt + 1 → p_mir (fun j => nm' (8 * m_cnt pl' h cnt 4 0 + j)) (fun j => nm' (8 * m_cnt pl' h2 cnt 4 0 + j)) z = p_mir (nm (x_cnt pl y cnt)) (nm (x_cnt pl y2 cnt)) z := by
    intro h y h2 y2 e1 e2
    rw [xm_cnt hi e1, xm_cnt hi e2]
    exact cg_mir (fun j hj => hi.2.2.1 _ (x_cnt_le pl y cnt) j hj) (fun j hj => hi.2.2.1 _ (x_cnt_le pl y2 cnt) j hj) z
  have hiff : m_sy pl' nm' cnt z 14 = true ↔ x_mir pl nm cnt z 7 = true := by
    rw [m_sy_all, x_mir_all]
    constructor
    · intro h i hi9
      have h9 := h (i + 7) (by omega)
      rw [key _ (nI i) _ (-nI i - 1) (by rw [m_h_i (by omega), nI_toInt (by omega)]; omega) (by rw [m_h_n (by omega), ni_m (by omega)]; omega)] at h9
      exact h9
    · intro h t ht
      rcases Nat.lt_or_ge t 7 with h7 | h7
      · rw [key _ (-nI (6 - t) - 1) _ (nI (6 - t)) (by rw [m_h_i (by omega), ni_m (by omega)]; omega) (by rw [m_h_n (by omega), nI_toInt (by omega)]; omega), mir_sw hz]
        exact h (6 - t) (by omega)
      · rw [key _ (nI (t - 7)) _ (-nI (t - 7) - 1) (by rw [m_h_i (by omega), nI_toInt (by omega)]; omega) (by rw [m_h_n (by omega), ni_m (by omega)]; omega)]
        exact h (t - 7) (by omega)
  cases e : x_mir pl nm cnt z 7
  · cases e2 : m_sy pl' nm' cnt z 14
    · rfl
    · exact absurd (e.symm.trans (hiff.mp e2)) (by decide)
  · exact hiff.mpr e
theorem ag_symmetry (hi : iv pl nm ab lg cnt kb pl' nm' kU kD kl) : m_sym pl' nm' cnt = x_sym pl nm cnt := by
  rw [m_sym, x_sym, sy_eq (Or.inl rfl) hi, sy_eq (Or.inr rfl) hi]
end AG
