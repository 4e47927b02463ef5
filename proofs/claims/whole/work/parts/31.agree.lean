/-! class and reference answer alike: what ties their values, and that each call keeps it -/
def iv (pl : Nat → Int32) (nm : Nat → Nat → Int32) (ab : Int64) (lg : Nat → Int32) (cnt : Nat) (kb : Bool) (pl' nm' : Nat → Int32) (kU kD : Int64) (kl : Nat → Int32) : Prop :=
  cnt ≤ 3 ∧ (∀ j, j < cnt → pl' j = pl j) ∧ (∀ i, i ≤ cnt → ∀ j, j < 8 → nm' (8 * i + j) = nm i j) ∧ (∀ j, j < cnt → in6 (pl j)) ∧ (∀ i j, i < j → j < cnt → (pl i).toInt < (pl j).toInt) ∧ (∀ i, i ≤ cnt → ∀ j, j < 8 → in6 (nm i j)) ∧ (kb = true → rt 1536796800 ab.toInt kU kD ∧ bd (2^48) ab.toInt ∧ ∀ j, j < 5 → lg j = kl j)
theorem ni_in {a b : Nat} (ha : a < 2 ^ 31) (hb : b < 2 ^ 31) (h : nI a = nI b) : a = b := (nI_eq ha hb).mp h
/-- the piece of a point: the places that aren't above it -/
theorem x_cnt_sp {pl : Nat → Int32} {x : Int32} : ∀ (n : Nat), (∀ i j, i < j → j < n → (pl i).toInt < (pl j).toInt) → (∀ j, j < x_cnt pl x n → ¬ x < pl j) ∧ (∀ j, x_cnt pl x n ≤ j → j < n → x < pl j)
  | 0, _ => ⟨fun j h => absurd h (Nat.not_lt_zero j), fun j _ h => absurd h (Nat.not_lt_zero j)⟩
  | n + 1, hs => by
    have ih := x_cnt_sp (x := x) n (fun i j h1 h2 => hs i j h1 (by omega))
    have hle := x_cnt_le pl x n
    by_cases c : x < pl n
    · rw [x_cnt, if_pos c]
      refine ⟨ih.1, fun j h1 h2 => ?_⟩
      rcases Nat.lt_or_ge j n with h | h
      · exact ih.2 j h1 h
      · rw [show j = n by omega]; exact c
    · rw [x_cnt, if_neg c]
      have e : x_cnt pl x n = n := by
        rcases Nat.lt_or_ge (x_cnt pl x n) n with h | h
        · exfalso
          have h1 := ih.2 _ (Nat.le_refl _) h
          have h2 := hs _ n h (by omega)
          rw [Int32.lt_iff_toInt_lt] at h1 c
          omega
        · omega
      rw [e] at ih ⊢
      refine ⟨fun j hj => ?_, fun j h1 h2 => by omega⟩
      rcases Nat.lt_or_ge j n with h | h
      · exact ih.1 j h
      · rw [show j = n by omega]; exact c
theorem x_cnt_eq {pl : Nat → Int32} {x : Int32} {n k : Nat} (hs : ∀ i j, i < j → j < n → (pl i).toInt < (pl j).toInt) (hk : k ≤ n) (h1 : ∀ j, j < k → ¬ x < pl j) (h2 : k < n → x < pl k) : x_cnt pl x n = k := by
  have hsp := x_cnt_sp (x := x) n hs
  have hle := x_cnt_le pl x n
  rcases Nat.lt_trichotomy (x_cnt pl x n) k with h | h | h
  · exact absurd (hsp.2 _ (Nat.le_refl _) (by omega)) (h1 _ h)
  · exact h
  · exact absurd (h2 (by omega)) (hsp.1 _ h)
theorem ng6 {v : Int32} (h : in6 v) : (-v).toInt = -v.toInt ∧ in6 (-v) := by
  have e : (-v).toInt = -v.toInt := by unfold in6 at h; rw [Int32.toInt_neg, ma_I] <;> omega
  exact ⟨e, by unfold in6 at *; omega⟩
theorem sg6 {v : Int32} (h : in6 v) (j : Nat) : in6 (v * gl_sign j) := by
  have hp : in6 (v * 1) := by rw [Int32.mul_one]; exact h
  have hm : in6 (v * (-1)) := by rw [Int32.mul_neg, Int32.mul_one]; exact (ng6 h).2
  unfold gl_sign
  split <;> first | exact hp | exact hm
section AG
variable {pl : Nat → Int32} {nm : Nat → Nat → Int32} {ab : Int64} {lg : Nat → Int32} {cnt : Nat} {kb : Bool} {pl' nm' : Nat → Int32} {kU kD : Int64} {kl : Nat → Int32}
theorem ag_place {k r c b : Int32} {f : Nat → Int64} {u : Unit × (Nat → Int64)} (hi : iv pl nm ab lg cnt kb pl' nm' kU kD kl)
    (h1 : (r = 0 ∧ ∃ v : Int32, (x_kc k cnt = false ∧ ∃ j, j < cnt ∧ k = nI j ∧ v = pl j) ∧ u.2 0 = v.toInt64) ∨ (r = 1 ∧ (x_kc k cnt = true) ∧ u = ((), f)))
    (h2 : (x_kc k cnt = true ∧ c = 1) ∨ (x_kc k cnt = false ∧ c = 0 ∧ ∃ j, j < cnt ∧ k = nI j ∧ b = pl' j)) : c = r ∧ (r = 0 → u.2 0 = b.toInt64) := by
  obtain ⟨i0, i1, i2, i3, i4, i5, i6⟩ := hi
  rcases h1 with ⟨rfl, v, ⟨e1, j, hj, rfl, rfl⟩, ho⟩ | ⟨rfl, e1, -⟩ <;> rcases h2 with ⟨e2, rfl⟩ | ⟨e2, rfl, j2, hj2, hk2, rfl⟩ <;> first | (exact absurd (e1.symm.trans e2) (by decide)) | skip
  · refine ⟨rfl, fun _ => ?_⟩
    rw [ho, i1 j2 hj2, ni_in (by omega) (by omega) hk2]
  · exact ⟨rfl, fun h => absurd h (by decide)⟩
theorem ag_at {k n r c b : Int32} {f : Nat → Int64} {u : Unit × (Nat → Int64)} (hi : iv pl nm ab lg cnt kb pl' nm' kU kD kl)
    (h1 : (r = 0 ∧ ∃ v : Int32, (x_pc k cnt = false ∧ x_nc n = false ∧ ∃ i j, i ≤ cnt ∧ j < 8 ∧ k = nI i ∧ n = nI j ∧ v = nm i j) ∧ u.2 0 = v.toInt64) ∨ (r = 1 ∧ (x_pc k cnt = true) ∧ u = ((), f)) ∨ (r = 2 ∧ (x_pc k cnt = false ∧ x_nc n = true) ∧ u = ((), f)))
    (h2 : (x_pc k cnt = true ∧ c = 1) ∨ (x_pc k cnt = false ∧ x_nc n = true ∧ c = 2) ∨ (x_pc k cnt = false ∧ x_nc n = false ∧ c = 0 ∧ ∃ i j, i ≤ cnt ∧ j < 8 ∧ k = nI i ∧ n = nI j ∧ b = nm' (8 * i + j))) : c = r ∧ (r = 0 → u.2 0 = b.toInt64) := by
  obtain ⟨i0, i1, i2, i3, i4, i5, i6⟩ := hi
  rcases h1 with ⟨rfl, v, ⟨e1, d1, i, j, hi, hj, rfl, rfl, rfl⟩, ho⟩ | ⟨rfl, e1, -⟩ | ⟨rfl, ⟨e1, d1⟩, -⟩ <;> rcases h2 with ⟨e2, rfl⟩ | ⟨e2, d2, rfl⟩ | ⟨e2, d2, rfl, i2', j2, hi2, hj2, hk2, hn2, rfl⟩ <;> first | (exact absurd (e1.symm.trans e2) (by decide)) | (exact absurd (d1.symm.trans d2) (by decide)) | skip
  · refine ⟨rfl, fun _ => ?_⟩
    rw [ho, i2 i2' hi2 j2 hj2, ni_in (by omega) (by omega) hk2, ni_in (by omega) (by omega) hn2]
  · exact ⟨rfl, fun h => absurd h (by decide)⟩
  · exact ⟨rfl, fun h => absurd h (by decide)⟩
theorem x_in6 {z : Int32} {w : Bool} (h : x_in z (if w then 6 else 5) = true) : in6 z := by
  cases w
  · simp only [x_in, Bool.and_eq_true, Bool.not_eq_true', decide_eq_false_iff_not, Int32.lt_iff_toInt_lt] at h
    have e1 : (-(5 : Int32)).toInt = -5 := by decide
    have e2 : (5 : Int32).toInt = 5 := by decide
    simp only [Bool.false_eq_true, if_false, e1, e2] at h
    exact ⟨by omega, by omega⟩
  · simp only [x_in, Bool.and_eq_true, Bool.not_eq_true', decide_eq_false_iff_not, Int32.lt_iff_toInt_lt] at h
    have e1 : (-(6 : Int32)).toInt = -6 := by decide
    have e2 : (6 : Int32).toInt = 6 := by decide
    simp only [if_true, e1, e2] at h
    exact ⟨by omega, by omega⟩
theorem ag_put {k n z r c b : Int32} {f : Nat → Int64} {u : (Nat → Nat → Int32) × (Nat → Int64)} {w : Int32 × (Nat → Int32)} (hi : iv pl nm ab lg cnt kb pl' nm' kU kD kl)
    (h1 : (r = 0 ∧ ∃ v : Int32, (x_pc k cnt = false ∧ x_nc n = false ∧ x_in z (if n = 7 then 6 else 5) = true ∧ ∃ i j, i ≤ cnt ∧ j < 8 ∧ k = nI i ∧ n = nI j ∧ u.1 = va_up nm i (upd (nm i) j z) ∧ v = zi (!decide (nm i j = z))) ∧ u.2 0 = (if v = 0 then 0 else 1)) ∨ (r = 1 ∧ (x_pc k cnt = true) ∧ u = (nm, f)) ∨ (r = 2 ∧ (x_pc k cnt = false ∧ (x_nc n = true ∨ x_in z (if n = 7 then 6 else 5) = false)) ∧ u = (nm, f)))
    (h2 : (x_pc k cnt = true ∧ w.1 = 1 ∧ w.2 = nm') ∨ (x_pc k cnt = false ∧ (x_nc n = true ∨ x_in z (if n = 7 then 6 else 5) = false) ∧ w.1 = 2 ∧ w.2 = nm') ∨ (x_pc k cnt = false ∧ x_nc n = false ∧ x_in z (if n = 7 then 6 else 5) = true ∧ w.1 = 0 ∧ ∃ i j, i ≤ cnt ∧ j < 8 ∧ k = nI i ∧ n = nI j ∧ w.2 = upd nm' (8 * i + j) z ∧ b = zi (!decide (nm' (8 * i + j) = z)))) : w.1 = r ∧ (r = 0 → u.2 0 = if b = 0 then 0 else 1) ∧ iv pl u.1 ab lg cnt kb pl' w.2 kU kD kl := by
  have hi0 := hi
  obtain ⟨i0, i1, i2, i3, i4, i5, i6⟩ := hi
  rcases h1 with ⟨rfl, v, ⟨e1, d1, g1, i, j, hi, hj, rfl, rfl, hu, rfl⟩, ho⟩ | ⟨rfl, e1, rfl⟩ | ⟨rfl, ⟨e1, d1⟩, rfl⟩ <;> rcases h2 with ⟨e2, hw, hw2⟩ | ⟨e2, d2, hw, hw2⟩ | ⟨e2, d2, g2, hw, i2', j2, hi2, hj2, hk2, hn2, hw2, rfl⟩ <;> first | (exact absurd (e1.symm.trans e2) (by decide)) | skip
  · rcases d2 with d2 | d2
    · exact absurd (d1.symm.trans d2) (by decide)
    · exact absurd (g1.symm.trans d2) (by decide)
  · have ei := ni_in (by omega) (by omega) hk2
    have ej := ni_in (by omega) (by omega) hn2
    subst ei; subst ej
    refine ⟨hw, fun _ => by rw [ho, i2 i hi j hj], i0, i1, fun p hp q hq => ?_, i3, i4, fun p hp q hq => ?_, i6⟩
    · rw [hw2, hu]
      unfold upd va_up
      by_cases c1 : p = i
      · subst c1
        by_cases c2 : q = j
        · subst c2; simp
        · rw [if_neg (show ¬ 8 * p + q = 8 * p + j by omega), if_pos rfl, if_neg c2]; exact i2 p hp q hq
      · rw [if_neg (show ¬ 8 * p + q = 8 * i + j by omega), if_neg c1]; exact i2 p hp q hq
    · rw [hu]
      unfold upd va_up
      have hz : in6 z := x_in6 (w := decide (nI j = 7)) (by simpa using g1)
      by_cases c1 : p = i
      · subst c1
        by_cases c2 : q = j
        · subst c2; simpa using hz
        · rw [if_pos rfl, if_neg c2]; exact i5 p hp q hq
      · rw [if_neg c1]; exact i5 p hp q hq
  · exact ⟨hw, fun h => absurd h (by decide), by rw [hw2]; exact hi0⟩
  · exact ⟨hw, fun h => absurd h (by decide), by rw [hw2]; exact hi0⟩
  · rcases d1 with d1 | d1
    · exact absurd (d1.symm.trans d2) (by decide)
    · exact absurd (d1.symm.trans g2) (by decide)
end AG
