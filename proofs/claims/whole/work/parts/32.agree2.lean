section AG
variable {pl : Nat → Int32} {nm : Nat → Nat → Int32} {ab : Int64} {lg : Nat → Int32} {cnt : Nat} {kb : Bool} {pl' nm' : Nat → Int32} {kU kD : Int64} {kl : Nat → Int32}
theorem x_in66 {x : Int32} (h : x_in x 6 = true) : in6 x := x_in6 (w := true) h
/-- the reference's search finds a cut just where the class finds one -/
theorem cut_is {x : Int32} {k : Nat} (i1 : ∀ j, j < cnt → pl' j = pl j) (i4 : ∀ i j, i < j → j < cnt → (pl i).toInt < (pl j).toInt) (hk : k ≤ cnt) (h1 : ∀ j, j < k → pl' j < x) (h2 : k < cnt → ¬ pl' k < x) : (decide (k < cnt) && decide (pl' k = x)) = x_cut pl x cnt := by
  by_cases c : x_cut pl x cnt = true
  · rw [c]
    obtain ⟨j, hj, rfl⟩ := x_cut_iff.mp c
    have e : j = k := by
      rcases Nat.lt_trichotomy j k with h | h | h
      · have := h1 j h
        rw [i1 j hj, Int32.lt_iff_toInt_lt] at this
        omega
      · exact h
      · have h3 := h2 (by omega)
        rw [i1 k (by omega), Int32.lt_iff_toInt_lt] at h3
        exact absurd (i4 k j h hj) h3
    subst e
    rw [i1 j hj]
    simp [hj]
  · rw [Bool.not_eq_true] at c
    rw [c, Bool.and_eq_false_iff, decide_eq_false_iff_not, decide_eq_false_iff_not]
    by_cases c1 : k < cnt
    · right
      intro e
      have : x_cut pl x cnt = true := x_cut_iff.mpr ⟨k, c1, by rw [← i1 k c1]; exact e⟩
      rw [this] at c
      exact absurd c (by decide)
    · left; exact c1
theorem cut_k {x : Int32} {k : Nat} (i1 : ∀ j, j < cnt → pl' j = pl j) (i4 : ∀ i j, i < j → j < cnt → (pl i).toInt < (pl j).toInt) (hk : k ≤ cnt) (h1 : ∀ j, j < k → pl' j < x) (h2 : k < cnt → ¬ pl' k < x) (hc : x_cut pl x cnt = false) : x_cnt pl x cnt = k := by
  refine x_cnt_eq i4 hk (fun j hj => ?_) (fun h => ?_)
  · have := h1 j hj
    rw [i1 j (by omega), Int32.lt_iff_toInt_lt] at this
    rw [Int32.lt_iff_toInt_lt]
    omega
  · have h3 := h2 h
    have hne : pl k ≠ x := fun e => by
      have : x_cut pl x cnt = true := x_cut_iff.mpr ⟨k, h, e⟩
      rw [this] at hc
      exact absurd hc (by decide)
    rw [i1 k h, Int32.lt_iff_toInt_lt] at h3
    have hne2 : (pl k).toInt ≠ x.toInt := fun e => hne (Int32.toInt_inj.mp e)
    rw [Int32.lt_iff_toInt_lt]
    omega
theorem ag_cut {x r b : Int32} {f : Nat → Int64} {u : ((Nat → Int32) × (Nat → Nat → Int32) × Nat) × (Nat → Int64)} {w : Int32 × (Nat → Int32) × (Nat → Int32) × Nat} (hi : iv pl nm ab lg cnt kb pl' nm' kU kD kl)
    (h1 : (r = 0 ∧ ∃ v : Int32, (u.1.2.2 = cnt + 1 ∧ x_in x 6 = true ∧ x_cut pl x cnt = false ∧ cnt < 3 ∧ v = nI (x_cnt pl x cnt) ∧ (∀ j, j < cnt + 1 → u.1.1 j = if j < x_cnt pl x cnt then pl j else if j = x_cnt pl x cnt then x else pl (j - 1)) ∧ (∀ j, j < cnt + 2 → u.1.2.1 j = if j ≤ x_cnt pl x cnt then nm j else nm (j - 1))) ∧ u.2 0 = v.toInt64) ∨ (r = 1 ∧ ((x_in x 6 && !x_cut pl x cnt) = false) ∧ u = ((pl, nm, cnt), f)) ∨ (r = 2 ∧ ((x_in x 6 && !x_cut pl x cnt) = true ∧ cnt = 3) ∧ u = ((pl, nm, cnt), f)))
    (h2 : ∃ k, (k ≤ cnt ∧ (∀ j, j < k → pl' j < x) ∧ (k < cnt → ¬ pl' k < x)) ∧ (((m_in x (-6) 6 && !(decide (k < cnt) && decide (pl' k = x))) = false ∧ w = (1, pl', nm', cnt)) ∨ ((m_in x (-6) 6 && !(decide (k < cnt) && decide (pl' k = x))) = true ∧ cnt = 3 ∧ w = (2, pl', nm', cnt)) ∨ ((m_in x (-6) 6 && !(decide (k < cnt) && decide (pl' k = x))) = true ∧ cnt < 3 ∧ w.1 = 0 ∧ w.2.2.2 = cnt + 1 ∧ b = nI k ∧ (∀ j, j < cnt + 1 → w.2.1 j = if j < k then pl' j else if j = k then x else pl' (j - 1)) ∧ (∀ j, j < 8 * (cnt + 2) → w.2.2.1 j = if j < 8 * k + 8 then nm' j else nm' (j - 8))))) :
    w.1 = r ∧ (r = 0 → u.2 0 = b.toInt64) ∧ w.2.2.2 = u.1.2.2 ∧ iv u.1.1 u.1.2.1 ab lg u.1.2.2 kb w.2.1 w.2.2.1 kU kD kl := by
  have hi0 := hi
  obtain ⟨i0, i1, i2, i3, i4, i5, i6⟩ := hi
  obtain ⟨k, ⟨hk, hk1, hk2⟩, h2⟩ := h2
  rw [cut_is i1 i4 hk hk1 hk2, show m_in x (-6) 6 = x_in x 6 from rfl] at h2
  rcases h1 with ⟨rfl, v, ⟨hc1, ha, hb, h3, rfl, hu1, hu2⟩, ho⟩ | ⟨rfl, e1, rfl⟩ | ⟨rfl, ⟨e1, d1⟩, rfl⟩
  · have e1 : (x_in x 6 && !x_cut pl x cnt) = true := by rw [ha, hb]; rfl
    rcases h2 with ⟨e2, -⟩ | ⟨e2, d2, -⟩ | ⟨-, -, hw0, hw3, rfl, hw1, hw2⟩
    · exact absurd (e1.symm.trans e2) (by decide)
    · omega
    · have ek := cut_k i1 i4 hk hk1 hk2 hb
      rw [ek] at ho hu1 hu2
      have hx6 := x_in66 ha
      refine ⟨hw0, fun _ => ho, by rw [hw3, hc1], ?_⟩
      rw [hc1]
      have hlo : ∀ j, j < k → (pl j).toInt < x.toInt := fun j hj => by
        have := hk1 j hj
        rw [i1 j (by omega), Int32.lt_iff_toInt_lt] at this
        exact this
      have hup : ∀ j, k ≤ j → j < cnt → x.toInt < (pl j).toInt := fun j h4 h5 => by
        have := (x_cnt_sp (x := x) cnt i4).2 j (by rw [ek]; exact h4) h5
        rw [Int32.lt_iff_toInt_lt] at this
        exact this
      refine ⟨by omega, fun j hj => ?_, fun i hi j hj => ?_, fun j hj => ?_, fun i j hij hj => ?_, fun i hi j hj => ?_, i6⟩
      · rw [hu1 j hj, hw1 j hj]
        by_cases c1 : j < k
        · rw [if_pos c1, if_pos c1, i1 j (by omega)]
        · rw [if_neg c1, if_neg c1]
          by_cases c2 : j = k
          · rw [if_pos c2, if_pos c2]
          · rw [if_neg c2, if_neg c2, i1 (j - 1) (by omega)]
      · rw [hw2 (8 * i + j) (by omega), hu2 i (by omega)]
        by_cases c1 : i ≤ k
        · rw [if_pos c1, if_pos (by omega)]; exact i2 i (by omega) j hj
        · rw [if_neg c1, if_neg (by omega), show 8 * i + j - 8 = 8 * (i - 1) + j by omega]; exact i2 (i - 1) (by omega) j hj
      · rw [hu1 j hj]
        by_cases c1 : j < k
        · rw [if_pos c1]; exact i3 j (by omega)
        · rw [if_neg c1]
          by_cases c2 : j = k
          · rw [if_pos c2]; exact hx6
          · rw [if_neg c2]; exact i3 (j - 1) (by omega)
      · rw [hu1 i (by omega), hu1 j hj]
        by_cases c1 : i < k
        · rw [if_pos c1]
          by_cases c2 : j < k
          · rw [if_pos c2]; exact i4 i j hij (by omega)
          · rw [if_neg c2]
            by_cases c3 : j = k
            · rw [if_pos c3]; exact hlo i c1
            · rw [if_neg c3]; exact i4 i (j - 1) (by omega) (by omega)
        · rw [if_neg c1]
          rw [if_neg (show ¬ j < k by omega), if_neg (show ¬ j = k by omega)]
          by_cases c3 : i = k
          · rw [if_pos c3]; exact hup (j - 1) (by omega) (by omega)
          · rw [if_neg c3]; exact i4 (i - 1) (j - 1) (by omega) (by omega)
      · rw [hu2 i (by omega)]
        by_cases c1 : i ≤ k
        · rw [if_pos c1]; exact i5 i (by omega) j hj
        · rw [if_neg c1]; exact i5 (i - 1) (by omega) j hj
  · rcases h2 with ⟨e2, rfl⟩ | ⟨e2, d2, -⟩ | ⟨e2, -⟩
    · exact ⟨rfl, fun h => absurd h (by decide), rfl, hi0⟩
    · exact absurd (e1.symm.trans e2) (by decide)
    · exact absurd (e1.symm.trans e2) (by decide)
  · rcases h2 with ⟨e2, -⟩ | ⟨e2, d2, rfl⟩ | ⟨e2, h3, -⟩
    · exact absurd (e1.symm.trans e2) (by decide)
    · exact ⟨rfl, fun h => absurd h (by decide), rfl, hi0⟩
    · omega
theorem ag_join {k r : Int32} {f : Nat → Int64} {u : ((Nat → Int32) × (Nat → Nat → Int32) × Nat) × (Nat → Int64)} {w : Int32 × (Nat → Int32) × (Nat → Int32) × Nat} (hi : iv pl nm ab lg cnt kb pl' nm' kU kD kl)
    (h1 : (r = 0 ∧ (u.1.2.2 = cnt - 1 ∧ x_kc k cnt = false ∧ ∃ i, i < cnt ∧ k = nI i ∧ (∀ j, j < cnt - 1 → u.1.1 j = if j < i then pl j else pl (j + 1)) ∧ (∀ j, j < cnt → u.1.2.1 j = if j ≤ i then nm j else nm (j + 1))) ∧ u.2 = f) ∨ (r = 1 ∧ (x_kc k cnt = true) ∧ u = ((pl, nm, cnt), f)))
    (h2 : (x_kc k cnt = true ∧ w = (1, pl', nm', cnt)) ∨ (x_kc k cnt = false ∧ w.1 = 0 ∧ w.2.2.2 = cnt - 1 ∧ ∃ k2, k2 < cnt ∧ k = nI k2 ∧ (∀ j, j < cnt - 1 → w.2.1 j = if j < k2 then pl' j else pl' (j + 1)) ∧ (∀ j, j < 8 * cnt → w.2.2.1 j = if j < 8 * k2 + 8 then nm' j else nm' (j + 8)))) :
    w.1 = r ∧ w.2.2.2 = u.1.2.2 ∧ iv u.1.1 u.1.2.1 ab lg u.1.2.2 kb w.2.1 w.2.2.1 kU kD kl := by
  have hi0 := hi
  obtain ⟨i0, i1, i2, i3, i4, i5, i6⟩ := hi
  rcases h1 with ⟨rfl, ⟨hc1, e1, i, hi, rfl, hu1, hu2⟩, ho⟩ | ⟨rfl, e1, rfl⟩ <;> rcases h2 with ⟨e2, hw⟩ | ⟨e2, hw0, hw3, k2, hk2, hk3, hw1, hw2⟩ <;> first | (exact absurd (e1.symm.trans e2) (by decide)) | skip
  · have ek := ni_in (by omega) (by omega) hk3
    subst ek
    refine ⟨hw0, by rw [hw3, hc1], ?_⟩
    rw [hc1]
    refine ⟨by omega, fun j hj => ?_, fun p hp j hj => ?_, fun j hj => ?_, fun p j hpj hj => ?_, fun p hp j hj => ?_, i6⟩
    · rw [hu1 j hj, hw1 j hj]
      by_cases c1 : j < i
      · rw [if_pos c1, if_pos c1, i1 j (by omega)]
      · rw [if_neg c1, if_neg c1, i1 (j + 1) (by omega)]
    · rw [hw2 (8 * p + j) (by omega), hu2 p (by omega)]
      by_cases c1 : p ≤ i
      · rw [if_pos c1, if_pos (by omega)]; exact i2 p (by omega) j hj
      · rw [if_neg c1, if_neg (by omega), show 8 * p + j + 8 = 8 * (p + 1) + j by omega]; exact i2 (p + 1) (by omega) j hj
    · rw [hu1 j hj]
      by_cases c1 : j < i
      · rw [if_pos c1]; exact i3 j (by omega)
      · rw [if_neg c1]; exact i3 (j + 1) (by omega)
    · rw [hu1 p (by omega), hu1 j hj]
      by_cases c1 : p < i
      · rw [if_pos c1]
        by_cases c2 : j < i
        · rw [if_pos c2]; exact i4 p j hpj (by omega)
        · rw [if_neg c2]; exact i4 p (j + 1) (by omega) (by omega)
      · rw [if_neg c1, if_neg (show ¬ j < i by omega)]; exact i4 (p + 1) (j + 1) (by omega) (by omega)
    · rw [hu2 p (by omega)]
      by_cases c1 : p ≤ i
      · rw [if_pos c1]; exact i5 p (by omega) j hj
      · rw [if_neg c1]; exact i5 (p + 1) (by omega) j hj
  · subst hw
    exact ⟨rfl, rfl, hi0⟩
theorem ag_mirror {u : (Nat → Int32) × (Nat → Nat) × (Nat → Nat) × (Nat → Nat → Int32)} {w : (Nat → Int32) × (Nat → Int32) × (Nat → Int32) × (Nat → Int32)} (hi : iv pl nm ab lg cnt kb pl' nm' kU kD kl)
    (h1 : (∀ j, j < cnt → u.1 j = -(pl (cnt - 1 - j))) ∧ (∀ i, i ≤ cnt → ∀ j, u.2.2.2 i j = nm (cnt - i) j * gl_sign j))
    (h2 : (∀ j, j < cnt → w.1 j = -(pl' (cnt - 1 - j))) ∧ (∀ p9 j, p9 ≤ cnt → j < 8 → w.2.1 (8 * p9 + j) = gl_sign j * nm' (8 * (cnt - p9) + j))) : iv u.1 u.2.2.2 ab lg cnt kb w.1 w.2.1 kU kD kl := by
  obtain ⟨i0, i1, i2, i3, i4, i5, i6⟩ := hi
  refine ⟨i0, fun j hj => ?_, fun i hi j hj => ?_, fun j hj => ?_, fun i j hij hj => ?_, fun i hi j hj => ?_, i6⟩
  · rw [h1.1 j hj, h2.1 j hj, i1 _ (by omega)]
  · rw [h1.2 i hi j, h2.2 i j hi hj, i2 (cnt - i) (by omega) j hj, Int32.mul_comm]
  · rw [h1.1 j hj]; exact (ng6 (i3 _ (by omega))).2
  · rw [h1.1 i (by omega), h1.1 j hj, (ng6 (i3 _ (by omega))).1, (ng6 (i3 _ (by omega))).1]
    have := i4 (cnt - 1 - j) (cnt - 1 - i) (by omega) (by omega)
    omega
  · rw [h1.2 i hi j]; exact sg6 (i5 _ (by omega) j hj) j
theorem ag_clear (hi : iv pl nm ab lg cnt kb pl' nm' kU kD kl) : iv pl (va_up nm 0 (fun _ => 0)) ab lg 0 false pl' (fun _ => 0) kU kD kl := by
  refine ⟨by omega, fun j hj => absurd hj (Nat.not_lt_zero j), fun i hi j hj => ?_, fun j hj => absurd hj (Nat.not_lt_zero j), fun i j _ hj => absurd hj (Nat.not_lt_zero j), fun i hi j hj => ?_, fun h => absurd h (by decide)⟩
  · rw [show i = 0 by omega]; rfl
  · rw [show i = 0 by omega]; show in6 0; exact ⟨by decide, by decide⟩
theorem ag_start {kU kD : Int64} {kl : Nat → Int32} : iv (fun _ => 0) (fun _ _ => 0) ab lg 0 false (fun _ => 0) (fun _ => 0) kU kD kl := by
  refine ⟨by omega, fun j hj => absurd hj (Nat.not_lt_zero j), fun i hi j hj => rfl, fun j hj => absurd hj (Nat.not_lt_zero j), fun i j _ hj => absurd hj (Nat.not_lt_zero j), fun i hi j hj => ?_, fun h => absurd h (by decide)⟩
  show in6 0; exact ⟨by decide, by decide⟩
theorem pt_01 {k : Int32} (h : x_part k = true) : k = 0 ∨ k = 1 := by
  simp only [x_part, Bool.or_eq_true, decide_eq_true_eq] at h
  exact h
theorem ag_fraction {k r c : Int32} {b : Int64} {f : Nat → Int64} {u : Unit × (Nat → Int64)} (hi : iv pl nm ab lg cnt kb pl' nm' kU kD kl)
    (h1 : (r = 0 ∧ ∃ v : Int64, (kb = true ∧ x_part k = true ∧ v = x_low ab 1536796800 k) ∧ u.2 0 = v) ∨ (r = 1 ∧ (kb = false) ∧ u = ((), f)) ∨ (r = 2 ∧ (kb = true ∧ x_part k = false) ∧ u = ((), f)))
    (h2 : (kb = false ∧ c = 1) ∨ (kb = true ∧ x_part k = false ∧ c = 2) ∨ (kb = true ∧ x_part k = true ∧ c = 0 ∧ b = if k = 0 then kU else kD)) : c = r ∧ (r = 0 → u.2 0 = b) := by
  obtain ⟨i0, i1, i2, i3, i4, i5, i6⟩ := hi
  rcases h1 with ⟨rfl, v, ⟨e1, d1, rfl⟩, ho⟩ | ⟨rfl, e1, -⟩ | ⟨rfl, ⟨e1, d1⟩, -⟩ <;> rcases h2 with ⟨e2, rfl⟩ | ⟨e2, d2, rfl⟩ | ⟨e2, d2, rfl, rfl⟩ <;> first | (exact absurd (e1.symm.trans e2) (by decide)) | (exact absurd (d1.symm.trans d2) (by decide)) | skip
  · refine ⟨rfl, fun _ => ?_⟩
    obtain ⟨h3, h4, -⟩ := i6 e1
    have hl := rt_low (a := ab) (b := 1536796800) (by decide) (by decide) h3 (by unfold bd at h4; omega) (Or.inl ⟨by decide, by decide, rfl⟩)
    rw [ho]
    rcases pt_01 d1 with rfl | rfl
    · rw [if_pos rfl]; exact hl.1
    · rw [if_neg (by decide)]; exact hl.2
  · exact ⟨rfl, fun h => absurd h (by decide)⟩
  · exact ⟨rfl, fun h => absurd h (by decide)⟩
theorem gp_in {i j : Nat} (hi : i < 5) (hj : j < 5) (h : gl_prime i = gl_prime j) : i = j := by
  rcases (show i = 0 ∨ i = 1 ∨ i = 2 ∨ i = 3 ∨ i = 4 by omega) with rfl | rfl | rfl | rfl | rfl <;> rcases (show j = 0 ∨ j = 1 ∨ j = 2 ∨ j = 3 ∨ j = 4 by omega) with rfl | rfl | rfl | rfl | rfl <;> first | rfl | exact absurd h (by decide)
theorem ag_logarithm {k r c b : Int32} {f : Nat → Int64} {u : Unit × (Nat → Int64)} (hi : iv pl nm ab lg cnt kb pl' nm' kU kD kl)
    (h1 : (r = 0 ∧ ∃ v : Int32, (kb = true ∧ ∃ i, i < 5 ∧ gl_prime i = k ∧ v = lg i) ∧ u.2 0 = v.toInt64) ∨ (r = 1 ∧ (kb = false) ∧ u = ((), f)) ∨ (r = 2 ∧ (kb = true ∧ ∀ i, i < 5 → ¬ gl_prime i = k) ∧ u = ((), f)))
    (h2 : (kb = false ∧ c = 1) ∨ (kb = true ∧ (∀ i, i < 5 → ¬ gl_prime i = k) ∧ c = 2) ∨ (kb = true ∧ c = 0 ∧ ∃ i, i < 5 ∧ gl_prime i = k ∧ (∀ j, j < i → ¬ gl_prime j = k) ∧ b = kl i)) : c = r ∧ (r = 0 → u.2 0 = b.toInt64) := by
  obtain ⟨i0, i1, i2, i3, i4, i5, i6⟩ := hi
  rcases h1 with ⟨rfl, v, ⟨e1, i, hi, hp, rfl⟩, ho⟩ | ⟨rfl, e1, -⟩ | ⟨rfl, ⟨e1, d1⟩, -⟩ <;> rcases h2 with ⟨e2, rfl⟩ | ⟨e2, d2, rfl⟩ | ⟨e2, rfl, i2', hi2, hp2, -, rfl⟩ <;> first | (exact absurd (e1.symm.trans e2) (by decide)) | skip
  · exact absurd hp (d2 i hi)
  · refine ⟨rfl, fun _ => ?_⟩
    rw [ho, gp_in hi hi2 (hp.trans hp2.symm), (i6 e1).2.2 _ hi2]
  · exact ⟨rfl, fun h => absurd h (by decide)⟩
  · exact ⟨rfl, fun h => absurd h (by decide)⟩
  · exact absurd hp2 (d1 _ hi2)
end AG
