set_option maxHeartbeats 4000000 in
set_option maxRecDepth 100000 in
theorem c_X3_cut (l : Launch) (A : Nat → Prop) (D : va_G) (cI cL cQ : ClassId) (fr : va_W) (b : Nat → Nat) (cod : Int32) (cnt : Nat) (hc : cnt ≤ 3) (pl nm od op : Nat → Int32) (kb : Bool) (kU kD : Int64) (kl : Nat → Int32) (up dn : Int64) (lg : Nat → Int32) (x : Int32) : Met l yX3_cut wsX3_cut { frames := 1, cells := 0, slots := 0, locals := 22 } (va_Pc [.ref (b 0), .int x] (wd_B D (ty3 cI cL cQ) A (mw cI b cod (nI cnt) pl nm od op (zi kb) kU kD kl up dn lg ++ fr))) (va_Qi (fun r (u : Int32 × (Nat → Int32) × (Nat → Int32) × Nat) => ∃ k, (k ≤ cnt ∧ (∀ j, j < k → pl j < x) ∧ (k < cnt → ¬ pl k < x)) ∧ (((m_in x (-6) 6 && !(decide (k < cnt) && decide (pl k = x))) = false ∧ u = (1, pl, nm, cnt)) ∨ ((m_in x (-6) 6 && !(decide (k < cnt) && decide (pl k = x))) = true ∧ cnt = 3 ∧ u = (2, pl, nm, cnt)) ∨ ((m_in x (-6) 6 && !(decide (k < cnt) && decide (pl k = x))) = true ∧ cnt < 3 ∧ u.1 = 0 ∧ u.2.2.2 = cnt + 1 ∧ r = nI k ∧ (∀ j, j < cnt + 1 → u.2.1 j = if j < k then pl j else if j = k then x else pl (j - 1)) ∧ (∀ j, j < 8 * (cnt + 2) → u.2.2.1 j = if j < 8 * k + 8 then nm j else nm (j - 8))))) (fun u t => wd_E D (ty3 cI cL cQ) A (mw cI b u.1 (nI u.2.2.2) u.2.1 u.2.2.1 od op (zi kb) kU kD kl up dn lg ++ fr) t) A) 0 0 A := by
  refine Met.ofW (cc := cX3_cut) (maxL := 5) (ret := (some .int)) (by decide) rfl ?_
  intro p e s m args below meth c s₁ B hml hv
  obtain ⟨rfl, hG, hK, hP, hD, hA⟩ := hv
  have hx := B.exec
  have hb := B.bytes
  have hr := B.returns
  have hts := atoms_spec (ws := wsX3_cut) B.pre
  have hg : ∀ w ∈ gw, w.before ([.ref (b 0), .int x] : List Value).toArray s = true := fun w h => hts w (List.mem_cons_of_mem _ h)
  have hown : s.vm.findClass RX3 = some m.cls := findClass_of_methodNamed B.named
  have hlocks := B.notSynchronized
  have hS : va_S A s.heap s.heap [] := va_S.rf
  have hl := lv_entry ([.ref (b 0), .int x]) (n := 5) (Nat.le_of_ble_eq_true rfl)
  rw [lg_entry_eq]
  generalize (lg_sl ([.ref (b 0), .int x]) ++ List.replicate (5 - (lg_sl ([.ref (b 0), .int x])).length) Slot.unset).toArray = ls at hl ⊢
  have hl : lv_has ls 5 [(0, .ref (b 0)), (1, .int x)] := hl
  refine lv_iconst (v := 0) hx hb dX3_cut_0 (by decide) ?_
  refine lv_istore_n (lv' := [(2, .int 0), (0, .ref (b 0)), (1, .int x)]) hx hb dX3_cut_1 rfl hl (by decide) rfl (fun ls hl => ?_)
  have J26 : ∀ (k : Nat), (k ≤ cnt) → (∀ j, j < k → pl j < x) → (k < cnt → ¬ pl k < x) → ∀ (ls : Array Slot), lv_has ls 5 [(2, .int (nI k)), (0, .ref (b 0)), (1, .int x)] → W p l e (headSpec wsX3_cut { frames := 1, cells := 0, slots := 0, locals := 22 }).room s m ([.ref (b 0), .int x] : List Value).toArray below meth c s.heap [] 0 0 (MQ below (va_Qi (fun r (u : Int32 × (Nat → Int32) × (Nat → Int32) × Nat) => ∃ k, (k ≤ cnt ∧ (∀ j, j < k → pl j < x) ∧ (k < cnt → ¬ pl k < x)) ∧ (((m_in x (-6) 6 && !(decide (k < cnt) && decide (pl k = x))) = false ∧ u = (1, pl, nm, cnt)) ∨ ((m_in x (-6) 6 && !(decide (k < cnt) && decide (pl k = x))) = true ∧ cnt = 3 ∧ u = (2, pl, nm, cnt)) ∨ ((m_in x (-6) 6 && !(decide (k < cnt) && decide (pl k = x))) = true ∧ cnt < 3 ∧ u.1 = 0 ∧ u.2.2.2 = cnt + 1 ∧ r = nI k ∧ (∀ j, j < cnt + 1 → u.2.1 j = if j < k then pl j else if j = k then x else pl (j - 1)) ∧ (∀ j, j < 8 * (cnt + 2) → u.2.2.1 j = if j < 8 * k + 8 then nm j else nm (j - 8))))) (fun u t => wd_E D (ty3 cI cL cQ) A (mw cI b u.1 (nI u.2.2.2) u.2.1 u.2.2.1 od op (zi kb) kU kD kl up dn lg ++ fr) t) A) ([.ref (b 0), .int x] : List Value).toArray s 0 0 A) (F0 m 26 ls []) := by
    intro k hk hlt hge ls hl
    have K49 : W p l e (headSpec wsX3_cut { frames := 1, cells := 0, slots := 0, locals := 22 }).room s m ([.ref (b 0), .int x] : List Value).toArray below meth c s.heap [] 0 0 (MQ below (va_Qi (fun r (u : Int32 × (Nat → Int32) × (Nat → Int32) × Nat) => ∃ k, (k ≤ cnt ∧ (∀ j, j < k → pl j < x) ∧ (k < cnt → ¬ pl k < x)) ∧ (((m_in x (-6) 6 && !(decide (k < cnt) && decide (pl k = x))) = false ∧ u = (1, pl, nm, cnt)) ∨ ((m_in x (-6) 6 && !(decide (k < cnt) && decide (pl k = x))) = true ∧ cnt = 3 ∧ u = (2, pl, nm, cnt)) ∨ ((m_in x (-6) 6 && !(decide (k < cnt) && decide (pl k = x))) = true ∧ cnt < 3 ∧ u.1 = 0 ∧ u.2.2.2 = cnt + 1 ∧ r = nI k ∧ (∀ j, j < cnt + 1 → u.2.1 j = if j < k then pl j else if j = k then x else pl (j - 1)) ∧ (∀ j, j < 8 * (cnt + 2) → u.2.2.1 j = if j < 8 * k + 8 then nm j else nm (j - 8))))) (fun u t => wd_E D (ty3 cI cL cQ) A (mw cI b u.1 (nI u.2.2.2) u.2.1 u.2.2.1 od op (zi kb) kU kD kl up dn lg ++ fr) t) A) ([.ref (b 0), .int x] : List Value).toArray s 0 0 A) (F0 m 49 ls [.int (zi (decide (k < cnt) && decide (pl k = x)))]) := by
      refine lv_istore_n (lv' := [(3, .int (zi (decide (k < cnt) && decide (pl k = x)))), (2, .int (nI k)), (0, .ref (b 0)), (1, .int x)]) hx hb dX3_cut_49 rfl hl (by decide) rfl (fun ls hl => ?_)
      refine lv_aload_n hx hb dX3_cut_50 rfl (lv_at hl 2 rfl) ?_
      refine lv_iload_n hx hb dX3_cut_51 rfl (lv_at hl 3 rfl) ?_
      refine lv_bipush (v := (-6)) hx hb dX3_cut_52 (by decide) ?_
      refine lv_bipush (v := 6) hx hb dX3_cut_54 (by decide) ?_
      refine vp_callSi (W.runS (As := [.int x, .int (-6), .int 6]) (rest := [.ref (b 0)]) ⟨hx, hb, hml, hown, hg⟩ (c_X3_in l x (-6) 6) (va_cwS 3 hg (gw_S ml_X3_35 sm_X3_in ini_X3 co_X3_in) rfl rfl rfl (by decide +kernel) ⟨Nat.le_of_ble_eq_true rfl, Nat.le_of_ble_eq_true rfl⟩) ⟨tt_blind, (fun U hU hW => ⟨rfl, trivial⟩)⟩ rfl rfl hl.1 rfl (lv_room (Nat.le_of_ble_eq_true rfl)) dX3_cut_56 ⟨Nat.le_of_ble_eq_true rfl, Nat.le_of_ble_eq_true rfl⟩) (fun r_1 hr_1 => ?_)
      subst hr_1
      refine lv_if_eq (tgt := 66) hx hb dX3_cut_59 (by decide) (fun c_2 => ?_) (fun c_2 => ?_)
      · replace c_2 := zi_0 c_2
        refine lv_iconst (v := 1) hx hb dX3_cut_66 (by decide) ?_
        refine lv_goto (tgt := 83) hx hb dX3_cut_67 (by decide) ?_
        have hok : (m_in x (-6) 6 && !(decide (k < cnt) && decide (pl k = x))) = false := by simp only [c_2]; rfl
        refine va_put (D := D) (ci := 3) (v := .int 1) (ty := .int) (C := RX3) (T := TX3) (N := 13) hx hb hg inX3 tyX3 tyX3_ok nmX3 hown hK hP hD hS 0 rfl rfl 0 (by decide) (hg _ fl_X3_28) (fun _ h9 => h9) rfl (by decide +kernel) rfl rfl (Nat.le_of_ble_eq_true rfl) dX3_cut_83 (fun H locs hP hD hS => ?_)
        have hP : va_P D vwCl (mw cI b 1 (nI cnt) pl nm od op (zi kb) kU kD kl up dn lg ++ fr) H := hP
        have hD : va_D A (mw cI b 1 (nI cnt) pl nm od op (zi kb) kU kD kl up dn lg ++ fr) := hD
        refine lv_aload_n hx hb dX3_cut_86 rfl (lv_at hl 2 rfl) ?_
        refine va_get (D := D) (ci := 3) (v := .int 1) (C := RX3) (T := TX3) (N := 13) hx hb hg inX3 hown hK hP 0 rfl rfl 0 (by decide) (hg _ fl_X3_28) (fun _ h9 => h9) rfl dX3_cut_87 ?_
        refine lv_if_le (tgt := 95) hx hb dX3_cut_90 (by decide) (fun c_3 => absurd c_3 (by decide)) (fun _ => ?_)
        refine lv_iconst (v := 0) hx hb dX3_cut_93 (by decide) ?_
        exact W.iret (v := 0) hx hb hr (fun t ht hW => ⟨⟨0, (1, pl, nm, cnt), rfl, ⟨k, ⟨hk, hlt, hge⟩, Or.inl ⟨hok, rfl⟩⟩, wd_E.at hK hP hD ht hW⟩, hS.F ht⟩) hS.2.2 dX3_cut_94
      · replace c_2 := zi_n0 c_2
        refine lv_iload_n hx hb dX3_cut_62 rfl (lv_at hl 0 rfl) ?_
        refine lv_if_eq (tgt := 70) hx hb dX3_cut_63 (by decide) (fun c_4 => ?_) (fun c_4 => ?_)
        · replace c_4 := zi_0 c_4
          refine lv_aload_n hx hb dX3_cut_70 rfl (lv_at hl 2 rfl) ?_
          refine va_get (D := D) (ci := 3) (v := .int (nI cnt)) (C := RX3) (T := TX3) (N := 13) hx hb hg inX3 hown hK hP 0 rfl rfl 1 (by decide) (hg _ fl_X3_32) (fun _ h9 => h9) rfl dX3_cut_71 ?_
          refine lv_iconst (v := 3) hx hb dX3_cut_74 (by decide) ?_
          refine lv_icmp_ne (tgt := 82) hx hb dX3_cut_75 (by decide) (fun c_5 => ?_) (fun c_5 => ?_)
          · replace c_5 : ¬ cnt = 3 := fun h => c_5 ((nI_eq (a := cnt) (b := 3) (by omega) (by omega)).mpr h)
            refine lv_iconst (v := 0) hx hb dX3_cut_82 (by decide) ?_
            have hok : (m_in x (-6) 6 && !(decide (k < cnt) && decide (pl k = x))) = true := by simp only [c_2, c_4]; rfl
            refine va_put (D := D) (ci := 3) (v := .int 0) (ty := .int) (C := RX3) (T := TX3) (N := 13) hx hb hg inX3 tyX3 tyX3_ok nmX3 hown hK hP hD hS 0 rfl rfl 0 (by decide) (hg _ fl_X3_28) (fun _ h9 => h9) rfl (by decide +kernel) rfl rfl (Nat.le_of_ble_eq_true rfl) dX3_cut_83 (fun H locs hP hD hS => ?_)
            have hP : va_P D vwCl (mw cI b 0 (nI cnt) pl nm od op (zi kb) kU kD kl up dn lg ++ fr) H := hP
            have hD : va_D A (mw cI b 0 (nI cnt) pl nm od op (zi kb) kU kD kl up dn lg ++ fr) := hD
            refine lv_aload_n hx hb dX3_cut_86 rfl (lv_at hl 2 rfl) ?_
            refine va_get (D := D) (ci := 3) (v := .int 0) (C := RX3) (T := TX3) (N := 13) hx hb hg inX3 hown hK hP 0 rfl rfl 0 (by decide) (hg _ fl_X3_28) (fun _ h9 => h9) rfl dX3_cut_87 ?_
            refine lv_if_le (tgt := 95) hx hb dX3_cut_90 (by decide) (fun _ => ?_) (fun c_6 => absurd c_6 (by decide))
            refine lv_aload_n hx hb dX3_cut_95 rfl (lv_at hl 2 rfl) ?_
            refine va_get (D := D) (ci := 3) (v := .int (nI cnt)) (C := RX3) (T := TX3) (N := 13) hx hb hg inX3 hown hK hP 0 rfl rfl 1 (by decide) (hg _ fl_X3_32) (fun _ h9 => h9) rfl dX3_cut_96 ?_
            refine lv_istore (lv' := [(4, .int (nI cnt)), (3, .int (zi (decide (k < cnt) && decide (pl k = x)))), (2, .int (nI k)), (0, .ref (b 0)), (1, .int x)]) hx hb dX3_cut_99 hl (by decide) rfl (fun ls hl => ?_)
            have hc3 : cnt < 3 := by omega
            have L101 : ∀ (n9 : Nat) (i : Nat) (g : Nat → Int32) (H : Heap) (locs : List Loc), (k ≤ i) → (i ≤ cnt) → (∀ j, j < 3 → g j = if i < j ∧ j ≤ cnt then pl (j - 1) else pl j) → va_P D vwCl (mw cI b 0 (nI cnt) g nm od op (zi kb) kU kD kl up dn lg ++ fr) H → va_D A (mw cI b 0 (nI cnt) g nm od op (zi kb) kU kD kl up dn lg ++ fr) → va_S A s.heap H locs → (i - k < n9) → ∀ (ls : Array Slot), lv_has ls 5 [(4, .int (nI i)), (2, .int (nI k)), (0, .ref (b 0)), (1, .int x)] → W p l e (headSpec wsX3_cut { frames := 1, cells := 0, slots := 0, locals := 22 }).room s m ([.ref (b 0), .int x] : List Value).toArray below meth c H locs 0 0 (MQ below (va_Qi (fun r (u : Int32 × (Nat → Int32) × (Nat → Int32) × Nat) => ∃ k, (k ≤ cnt ∧ (∀ j, j < k → pl j < x) ∧ (k < cnt → ¬ pl k < x)) ∧ (((m_in x (-6) 6 && !(decide (k < cnt) && decide (pl k = x))) = false ∧ u = (1, pl, nm, cnt)) ∨ ((m_in x (-6) 6 && !(decide (k < cnt) && decide (pl k = x))) = true ∧ cnt = 3 ∧ u = (2, pl, nm, cnt)) ∨ ((m_in x (-6) 6 && !(decide (k < cnt) && decide (pl k = x))) = true ∧ cnt < 3 ∧ u.1 = 0 ∧ u.2.2.2 = cnt + 1 ∧ r = nI k ∧ (∀ j, j < cnt + 1 → u.2.1 j = if j < k then pl j else if j = k then x else pl (j - 1)) ∧ (∀ j, j < 8 * (cnt + 2) → u.2.2.1 j = if j < 8 * k + 8 then nm j else nm (j - 8))))) (fun u t => wd_E D (ty3 cI cL cQ) A (mw cI b u.1 (nI u.2.2.2) u.2.1 u.2.2.1 od op (zi kb) kU kD kl up dn lg ++ fr) t) A) ([.ref (b 0), .int x] : List Value).toArray s 0 0 A) (F0 m 101 ls []) := by
              clear hP hD hS
              intro n101
              induction n101 with
              | zero => intro i g H locs hki hic hgv hP hD hS h9; exact absurd h9 (by omega)
              | succ n101 ih101 =>
                intro i g H locs hki hic hgv hP hD hS h9 ls hl
                refine lv_iload hx hb dX3_cut_101 (lv_at hl 0 rfl) ?_
                refine lv_iload_n hx hb dX3_cut_103 rfl (lv_at hl 1 rfl) ?_
                refine lv_icmp_le (tgt := 129) hx hb dX3_cut_104 (by decide) (fun c_7 => ?_) (fun c_7 => ?_)
                · replace c_7 : i ≤ k := (nI_leI (a := i) (b := k) (by omega) (by omega)).mp c_7
                  have hik : i = k := by omega
                  refine lv_aload_n hx hb dX3_cut_129 rfl (lv_at hl 2 rfl) ?_
                  refine va_get (D := D) (ci := 3) (v := .ref (b 1)) (C := RX3) (T := TX3) (N := 13) hx hb hg inX3 hown hK hP 0 rfl rfl 2 (by decide) (hg _ fl_X3_7) (fun _ h9 => h9) rfl dX3_cut_130 ?_
                  refine lv_iload_n hx hb dX3_cut_133 rfl (lv_at hl 1 rfl) ?_
                  refine lv_iload_n hx hb dX3_cut_134 rfl (lv_at hl 3 rfl) ?_
                  refine va_iast (D := D) (n := 3) (f := g) (x := x) hx hb hK hP hD hS 1 0 rfl rfl (vp_in_nI (show k < 3 by omega) (by decide)) dX3_cut_135 (fun H locs hP hD hS => ?_)
                  rw [nI_clamp (show k < 2 ^ 31 by omega)] at hP hD
                  have hP : va_P D vwCl (mw cI b 0 (nI cnt) (upd g k x) nm od op (zi kb) kU kD kl up dn lg ++ fr) H := hP
                  have hD : va_D A (mw cI b 0 (nI cnt) (upd g k x) nm od op (zi kb) kU kD kl up dn lg ++ fr) := hD
                  refine lv_aload_n hx hb dX3_cut_136 rfl (lv_at hl 2 rfl) ?_
                  refine lv_dup hx hb dX3_cut_137 rfl ?_
                  refine va_get (D := D) (ci := 3) (v := .int (nI cnt)) (C := RX3) (T := TX3) (N := 13) hx hb hg inX3 hown hK hP 0 rfl rfl 1 (by decide) (hg _ fl_X3_32) (fun _ h9 => h9) rfl dX3_cut_138 ?_
                  refine lv_iconst (v := 1) hx hb dX3_cut_141 (by decide) ?_
                  refine lv_iadd hx hb dX3_cut_142 ?_
                  rw [show (nI cnt) + (1 : Int32) = nI (cnt + 1) from nI_add cnt 1]
                  refine va_put (D := D) (ci := 3) (v := .int (nI (cnt + 1))) (ty := .int) (C := RX3) (T := TX3) (N := 13) hx hb hg inX3 tyX3 tyX3_ok nmX3 hown hK hP hD hS 0 rfl rfl 1 (by decide) (hg _ fl_X3_32) (fun _ h9 => h9) rfl (by decide +kernel) rfl rfl (Nat.le_of_ble_eq_true rfl) dX3_cut_143 (fun H locs hP hD hS => ?_)
                  have hP : va_P D vwCl (mw cI b 0 (nI (cnt + 1)) (upd g k x) nm od op (zi kb) kU kD kl up dn lg ++ fr) H := hP
                  have hD : va_D A (mw cI b 0 (nI (cnt + 1)) (upd g k x) nm od op (zi kb) kU kD kl up dn lg ++ fr) := hD
                  refine lv_bipush (v := 8) hx hb dX3_cut_146 (by decide) ?_
                  refine lv_aload_n hx hb dX3_cut_148 rfl (lv_at hl 2 rfl) ?_
                  refine va_get (D := D) (ci := 3) (v := .int (nI (cnt + 1))) (C := RX3) (T := TX3) (N := 13) hx hb hg inX3 hown hK hP 0 rfl rfl 1 (by decide) (hg _ fl_X3_32) (fun _ h9 => h9) rfl dX3_cut_149 ?_
                  refine lv_imul hx hb dX3_cut_152 ?_
                  rw [show (8 : Int32) * (nI (cnt + 1)) = nI (8 * (cnt + 1)) from pk_mul 8 (cnt + 1)]
                  refine lv_bipush (v := 7) hx hb dX3_cut_153 (by decide) ?_
                  refine lv_iadd hx hb dX3_cut_155 ?_
                  rw [show (nI (8 * (cnt + 1))) + (7 : Int32) = nI ((8 * (cnt + 1)) + 7) from nI_add (8 * (cnt + 1)) 7]
                  refine lv_istore (lv' := [(4, .int (nI ((8 * (cnt + 1)) + 7))), (2, .int (nI k)), (0, .ref (b 0)), (1, .int x)]) hx hb dX3_cut_156 hl (by decide) rfl (fun ls hl => ?_)
                  have L158 : ∀ (n9 : Nat) (i2 : Nat) (g2 : Nat → Int32) (H : Heap) (locs : List Loc), (8 * k + 7 ≤ i2) → (i2 ≤ 8 * cnt + 15) → (∀ j, j < 32 → g2 j = if i2 < j ∧ j < 8 * cnt + 16 then nm (j - 8) else nm j) → va_P D vwCl (mw cI b 0 (nI (cnt + 1)) (upd g k x) g2 od op (zi kb) kU kD kl up dn lg ++ fr) H → va_D A (mw cI b 0 (nI (cnt + 1)) (upd g k x) g2 od op (zi kb) kU kD kl up dn lg ++ fr) → va_S A s.heap H locs → (i2 - (8 * k + 7) < n9) → ∀ (ls : Array Slot), lv_has ls 5 [(4, .int (nI i2)), (2, .int (nI k)), (0, .ref (b 0)), (1, .int x)] → W p l e (headSpec wsX3_cut { frames := 1, cells := 0, slots := 0, locals := 22 }).room s m ([.ref (b 0), .int x] : List Value).toArray below meth c H locs 0 0 (MQ below (va_Qi (fun r (u : Int32 × (Nat → Int32) × (Nat → Int32) × Nat) => ∃ k, (k ≤ cnt ∧ (∀ j, j < k → pl j < x) ∧ (k < cnt → ¬ pl k < x)) ∧ (((m_in x (-6) 6 && !(decide (k < cnt) && decide (pl k = x))) = false ∧ u = (1, pl, nm, cnt)) ∨ ((m_in x (-6) 6 && !(decide (k < cnt) && decide (pl k = x))) = true ∧ cnt = 3 ∧ u = (2, pl, nm, cnt)) ∨ ((m_in x (-6) 6 && !(decide (k < cnt) && decide (pl k = x))) = true ∧ cnt < 3 ∧ u.1 = 0 ∧ u.2.2.2 = cnt + 1 ∧ r = nI k ∧ (∀ j, j < cnt + 1 → u.2.1 j = if j < k then pl j else if j = k then x else pl (j - 1)) ∧ (∀ j, j < 8 * (cnt + 2) → u.2.2.1 j = if j < 8 * k + 8 then nm j else nm (j - 8))))) (fun u t => wd_E D (ty3 cI cL cQ) A (mw cI b u.1 (nI u.2.2.2) u.2.1 u.2.2.1 od op (zi kb) kU kD kl up dn lg ++ fr) t) A) ([.ref (b 0), .int x] : List Value).toArray s 0 0 A) (F0 m 158 ls []) := by
                    clear hP hD hS
                    intro n158
                    induction n158 with
                    | zero => intro i2 g2 H locs hlo hhi hgv2 hP hD hS h9; exact absurd h9 (by omega)
                    | succ n158 ih158 =>
                      intro i2 g2 H locs hlo hhi hgv2 hP hD hS h9 ls hl
                      refine lv_iload hx hb dX3_cut_158 (lv_at hl 0 rfl) ?_
                      refine lv_bipush (v := 8) hx hb dX3_cut_160 (by decide) ?_
                      refine lv_iload_n hx hb dX3_cut_162 rfl (lv_at hl 1 rfl) ?_
                      refine lv_imul hx hb dX3_cut_163 ?_
                      rw [show (8 : Int32) * nI k = nI (8 * k) from pk_mul 8 k]
                      refine lv_bipush (v := 8) hx hb dX3_cut_164 (by decide) ?_
                      refine lv_iadd hx hb dX3_cut_166 ?_
                      rw [show (nI (8 * k)) + (8 : Int32) = nI ((8 * k) + 8) from nI_add (8 * k) 8]
                      refine lv_icmp_lt (tgt := 193) hx hb dX3_cut_167 (by decide) (fun c_8 => ?_) (fun c_8 => ?_)
                      · replace c_8 : i2 < ((8 * k) + 8) := (nI_ltI (a := i2) (b := ((8 * k) + 8)) (by omega) (by omega)).mp c_8
                        refine lv_iload_n hx hb dX3_cut_193 rfl (lv_at hl 1 rfl) ?_
                        exact W.iret (v := nI k) hx hb hr (fun t ht hW => ⟨⟨(nI k), (0, (upd g k x), g2, cnt + 1), rfl, ⟨k, ⟨hk, hlt, hge⟩, Or.inr (Or.inr ⟨hok, hc3, rfl, rfl, rfl, fun j hj => by show upd g k x j = _; unfold upd; by_cases e : j = k; (subst e; rw [if_pos rfl, if_neg (by omega), if_pos rfl]); (rw [if_neg e, hgv j (by omega)]; by_cases e2 : j < k; (rw [if_pos e2, if_neg (by omega)]); (rw [if_neg e2, if_neg e, if_pos (by omega)])), fun j hj => by show g2 j = _; rw [hgv2 j (by omega)]; by_cases e2 : j < 8 * k + 8; (rw [if_pos e2, if_neg (by omega)]); (rw [if_neg e2, if_pos (by omega)])⟩)⟩, wd_E.at hK hP hD ht hW⟩, hS.F ht⟩) hS.2.2 dX3_cut_194
                      · replace c_8 : ¬ i2 < ((8 * k) + 8) := fun h => c_8 ((nI_ltI (a := i2) (b := ((8 * k) + 8)) (by omega) (by omega)).mpr h)
                        refine lv_aload_n hx hb dX3_cut_170 rfl (lv_at hl 2 rfl) ?_
                        refine va_get (D := D) (ci := 3) (v := .ref (b 2)) (C := RX3) (T := TX3) (N := 13) hx hb hg inX3 hown hK hP 0 rfl rfl 3 (by decide) (hg _ fl_X3_13) (fun _ h9 => h9) rfl dX3_cut_171 ?_
                        refine lv_iload hx hb dX3_cut_174 (lv_at hl 0 rfl) ?_
                        refine lv_aload_n hx hb dX3_cut_176 rfl (lv_at hl 2 rfl) ?_
                        refine va_get (D := D) (ci := 3) (v := .ref (b 2)) (C := RX3) (T := TX3) (N := 13) hx hb hg inX3 hown hK hP 0 rfl rfl 3 (by decide) (hg _ fl_X3_13) (fun _ h9 => h9) rfl dX3_cut_177 ?_
                        refine lv_iload hx hb dX3_cut_180 (lv_at hl 0 rfl) ?_
                        refine lv_bipush (v := 8) hx hb dX3_cut_182 (by decide) ?_
                        refine lv_isub hx hb dX3_cut_184 ?_
                        rw [show (nI i2) - (8 : Int32) = nI (i2 - 8) from pk_sub (a := i2) (b := 8) (by omega)]
                        refine va_iald (D := D) (n := 32) (f := g2) hx hb hK hP 2 0 rfl rfl (vp_in_nI (show (i2 - 8) < 32 by omega) (by decide)) dX3_cut_185 ?_
                        rw [nI_clamp (show (i2 - 8) < 2 ^ 31 by omega)]
                        refine lv_topi (fun v_9 ev_9 => ?_)
                        refine va_iast (D := D) (n := 32) (f := g2) (x := v_9) hx hb hK hP hD hS 2 0 rfl rfl (vp_in_nI (show i2 < 32 by omega) (by decide)) dX3_cut_186 (fun H locs hP hD hS => ?_)
                        rw [nI_clamp (show i2 < 2 ^ 31 by omega)] at hP hD
                        have hP : va_P D vwCl (mw cI b 0 (nI (cnt + 1)) (upd g k x) (upd g2 i2 v_9) od op (zi kb) kU kD kl up dn lg ++ fr) H := hP
                        have hD : va_D A (mw cI b 0 (nI (cnt + 1)) (upd g k x) (upd g2 i2 v_9) od op (zi kb) kU kD kl up dn lg ++ fr) := hD
                        refine lv_iinc (v := nI (i2 - 1)) (lv' := [(4, .int (nI (i2 - 1))), (2, .int (nI k)), (0, .ref (b 0)), (1, .int x)]) hx hb dX3_cut_187 hl (k := 0) rfl (by rw [show Int32.ofInt (-1) = (-1 : Int32) from by decide]; exact sb_m1 (by omega)) (by decide) rfl (fun ls hl => ?_)
                        refine lv_goto (tgt := 158) hx hb dX3_cut_190 (by decide) ?_
                        exact ih158 (i2 - 1) (upd g2 i2 v_9) _ _ (by omega) (by omega) (fun j hj => by unfold upd; by_cases e : j = i2; (subst e; rw [if_pos rfl, ev_9, hgv2 (j - 8) (by omega), if_neg (by omega), if_pos (by omega)]); (rw [if_neg e, hgv2 j hj]; by_cases e2 : i2 < j ∧ j < 8 * cnt + 16; (rw [if_pos e2, if_pos (by omega)]); (rw [if_neg e2, if_neg (by omega)]))) hP hD hS (by omega) ls (lv_sub hl [0, 1, 2, 3] rfl)
                  exact L158 ((8 * (cnt + 1) + 7 - (8 * k + 7)) + 1) (8 * (cnt + 1) + 7) nm _ _ (by omega) (by omega) (fun j hj => by rw [if_neg (by omega)]) hP hD hS (Nat.lt_succ_self _) ls (lv_sub hl [0, 1, 2, 3] rfl)
                · replace c_7 : ¬ i ≤ k := fun h => c_7 ((nI_leI (a := i) (b := k) (by omega) (by omega)).mpr h)
                  refine lv_aload_n hx hb dX3_cut_107 rfl (lv_at hl 2 rfl) ?_
                  refine va_get (D := D) (ci := 3) (v := .ref (b 1)) (C := RX3) (T := TX3) (N := 13) hx hb hg inX3 hown hK hP 0 rfl rfl 2 (by decide) (hg _ fl_X3_7) (fun _ h9 => h9) rfl dX3_cut_108 ?_
                  refine lv_iload hx hb dX3_cut_111 (lv_at hl 0 rfl) ?_
                  refine lv_aload_n hx hb dX3_cut_113 rfl (lv_at hl 2 rfl) ?_
                  refine va_get (D := D) (ci := 3) (v := .ref (b 1)) (C := RX3) (T := TX3) (N := 13) hx hb hg inX3 hown hK hP 0 rfl rfl 2 (by decide) (hg _ fl_X3_7) (fun _ h9 => h9) rfl dX3_cut_114 ?_
                  refine lv_iload hx hb dX3_cut_117 (lv_at hl 0 rfl) ?_
                  refine lv_iconst (v := 1) hx hb dX3_cut_119 (by decide) ?_
                  refine lv_isub hx hb dX3_cut_120 ?_
                  rw [show (nI i) - (1 : Int32) = nI (i - 1) from pk_sub (a := i) (b := 1) (by omega)]
                  refine va_iald (D := D) (n := 3) (f := g) hx hb hK hP 1 0 rfl rfl (vp_in_nI (show (i - 1) < 3 by omega) (by decide)) dX3_cut_121 ?_
                  rw [nI_clamp (show (i - 1) < 2 ^ 31 by omega)]
                  refine lv_topi (fun v_10 ev_10 => ?_)
                  refine va_iast (D := D) (n := 3) (f := g) (x := v_10) hx hb hK hP hD hS 1 0 rfl rfl (vp_in_nI (show i < 3 by omega) (by decide)) dX3_cut_122 (fun H locs hP hD hS => ?_)
                  rw [nI_clamp (show i < 2 ^ 31 by omega)] at hP hD
                  have hP : va_P D vwCl (mw cI b 0 (nI cnt) (upd g i v_10) nm od op (zi kb) kU kD kl up dn lg ++ fr) H := hP
                  have hD : va_D A (mw cI b 0 (nI cnt) (upd g i v_10) nm od op (zi kb) kU kD kl up dn lg ++ fr) := hD
                  refine lv_iinc (v := nI (i - 1)) (lv' := [(4, .int (nI (i - 1))), (2, .int (nI k)), (0, .ref (b 0)), (1, .int x)]) hx hb dX3_cut_123 hl (k := 0) rfl (by rw [show Int32.ofInt (-1) = (-1 : Int32) from by decide]; exact sb_m1 (by omega)) (by decide) rfl (fun ls hl => ?_)
                  refine lv_goto (tgt := 101) hx hb dX3_cut_126 (by decide) ?_
                  exact ih101 (i - 1) (upd g i v_10) _ _ (by omega) (by omega) (fun j hj => by unfold upd; by_cases e : j = i; (subst e; rw [if_pos rfl, ev_10, hgv (j - 1) (by omega), if_neg (by omega), if_pos (by omega)]); (rw [if_neg e, hgv j hj]; by_cases e2 : i < j ∧ j ≤ cnt; (rw [if_pos e2, if_pos (by omega)]); (rw [if_neg e2, if_neg (by omega)]))) hP hD hS (by omega) ls (lv_sub hl [0, 1, 2, 3] rfl)
            exact L101 ((cnt - k) + 1) cnt pl _ _ (hk) (Nat.le_refl _) (fun j hj => by rw [if_neg (by omega)]) hP hD hS (Nat.lt_succ_self _) ls (lv_sub hl [0, 2, 3, 4] rfl)
          · replace c_5 : cnt = 3 := (nI_eq (a := cnt) (b := 3) (by omega) (by omega)).mp c_5
            refine lv_iconst (v := 2) hx hb dX3_cut_78 (by decide) ?_
            refine lv_goto (tgt := 83) hx hb dX3_cut_79 (by decide) ?_
            have hok : (m_in x (-6) 6 && !(decide (k < cnt) && decide (pl k = x))) = true := by simp only [c_2, c_4]; rfl
            refine va_put (D := D) (ci := 3) (v := .int 2) (ty := .int) (C := RX3) (T := TX3) (N := 13) hx hb hg inX3 tyX3 tyX3_ok nmX3 hown hK hP hD hS 0 rfl rfl 0 (by decide) (hg _ fl_X3_28) (fun _ h9 => h9) rfl (by decide +kernel) rfl rfl (Nat.le_of_ble_eq_true rfl) dX3_cut_83 (fun H locs hP hD hS => ?_)
            have hP : va_P D vwCl (mw cI b 2 (nI cnt) pl nm od op (zi kb) kU kD kl up dn lg ++ fr) H := hP
            have hD : va_D A (mw cI b 2 (nI cnt) pl nm od op (zi kb) kU kD kl up dn lg ++ fr) := hD
            refine lv_aload_n hx hb dX3_cut_86 rfl (lv_at hl 2 rfl) ?_
            refine va_get (D := D) (ci := 3) (v := .int 2) (C := RX3) (T := TX3) (N := 13) hx hb hg inX3 hown hK hP 0 rfl rfl 0 (by decide) (hg _ fl_X3_28) (fun _ h9 => h9) rfl dX3_cut_87 ?_
            refine lv_if_le (tgt := 95) hx hb dX3_cut_90 (by decide) (fun c_11 => absurd c_11 (by decide)) (fun _ => ?_)
            refine lv_iconst (v := 0) hx hb dX3_cut_93 (by decide) ?_
            exact W.iret (v := 0) hx hb hr (fun t ht hW => ⟨⟨0, (2, pl, nm, cnt), rfl, ⟨k, ⟨hk, hlt, hge⟩, Or.inr (Or.inl ⟨hok, by omega, rfl⟩)⟩, wd_E.at hK hP hD ht hW⟩, hS.F ht⟩) hS.2.2 dX3_cut_94
        · replace c_4 := zi_n0 c_4
          refine lv_iconst (v := 1) hx hb dX3_cut_66 (by decide) ?_
          refine lv_goto (tgt := 83) hx hb dX3_cut_67 (by decide) ?_
          have hok : (m_in x (-6) 6 && !(decide (k < cnt) && decide (pl k = x))) = false := by simp only [c_2, c_4]; rfl
          refine va_put (D := D) (ci := 3) (v := .int 1) (ty := .int) (C := RX3) (T := TX3) (N := 13) hx hb hg inX3 tyX3 tyX3_ok nmX3 hown hK hP hD hS 0 rfl rfl 0 (by decide) (hg _ fl_X3_28) (fun _ h9 => h9) rfl (by decide +kernel) rfl rfl (Nat.le_of_ble_eq_true rfl) dX3_cut_83 (fun H locs hP hD hS => ?_)
          have hP : va_P D vwCl (mw cI b 1 (nI cnt) pl nm od op (zi kb) kU kD kl up dn lg ++ fr) H := hP
          have hD : va_D A (mw cI b 1 (nI cnt) pl nm od op (zi kb) kU kD kl up dn lg ++ fr) := hD
          refine lv_aload_n hx hb dX3_cut_86 rfl (lv_at hl 2 rfl) ?_
          refine va_get (D := D) (ci := 3) (v := .int 1) (C := RX3) (T := TX3) (N := 13) hx hb hg inX3 hown hK hP 0 rfl rfl 0 (by decide) (hg _ fl_X3_28) (fun _ h9 => h9) rfl dX3_cut_87 ?_
          refine lv_if_le (tgt := 95) hx hb dX3_cut_90 (by decide) (fun c_12 => absurd c_12 (by decide)) (fun _ => ?_)
          refine lv_iconst (v := 0) hx hb dX3_cut_93 (by decide) ?_
          exact W.iret (v := 0) hx hb hr (fun t ht hW => ⟨⟨0, (1, pl, nm, cnt), rfl, ⟨k, ⟨hk, hlt, hge⟩, Or.inl ⟨hok, rfl⟩⟩, wd_E.at hK hP hD ht hW⟩, hS.F ht⟩) hS.2.2 dX3_cut_94
    refine lv_iload_n hx hb dX3_cut_26 rfl (lv_at hl 0 rfl) ?_
    refine lv_aload_n hx hb dX3_cut_27 rfl (lv_at hl 1 rfl) ?_
    refine va_get (D := D) (ci := 3) (v := .int (nI cnt)) (C := RX3) (T := TX3) (N := 13) hx hb hg inX3 hown hK hP 0 rfl rfl 1 (by decide) (hg _ fl_X3_32) (fun _ h9 => h9) rfl dX3_cut_28 ?_
    refine lv_icmp_ge (tgt := 48) hx hb dX3_cut_31 (by decide) (fun c_13 => ?_) (fun c_13 => ?_)
    · replace c_13 : cnt ≤ k := (nI_leI (a := cnt) (b := k) (by omega) (by omega)).mp c_13
      refine lv_iconst (v := 0) hx hb dX3_cut_48 (by decide) ?_
      have e9 : zi (decide (k < cnt) && decide (pl k = x)) = 0 := by simp [zi, c_13] <;> (intro h9; omega)
      rw [e9] at K49
      exact K49
    · replace c_13 : ¬ cnt ≤ k := fun h => c_13 ((nI_leI (a := cnt) (b := k) (by omega) (by omega)).mpr h)
      refine lv_aload_n hx hb dX3_cut_34 rfl (lv_at hl 1 rfl) ?_
      refine va_get (D := D) (ci := 3) (v := .ref (b 1)) (C := RX3) (T := TX3) (N := 13) hx hb hg inX3 hown hK hP 0 rfl rfl 2 (by decide) (hg _ fl_X3_7) (fun _ h9 => h9) rfl dX3_cut_35 ?_
      refine lv_iload_n hx hb dX3_cut_38 rfl (lv_at hl 0 rfl) ?_
      refine va_iald (D := D) (n := 3) (f := pl) hx hb hK hP 1 0 rfl rfl (vp_in_nI (show k < 3 by omega) (by decide)) dX3_cut_39 ?_
      rw [nI_clamp (show k < 2 ^ 31 by omega)]
      refine lv_iload_n hx hb dX3_cut_40 rfl (lv_at hl 2 rfl) ?_
      refine lv_icmp_ne (tgt := 48) hx hb dX3_cut_41 (by decide) (fun c_14 => ?_) (fun c_14 => ?_)
      · refine lv_iconst (v := 0) hx hb dX3_cut_48 (by decide) ?_
        have e9 : zi (decide (k < cnt) && decide (pl k = x)) = 0 := by simp [zi, c_13, c_14] <;> (intro h9; omega)
        rw [e9] at K49
        exact K49
      · refine lv_iconst (v := 1) hx hb dX3_cut_44 (by decide) ?_
        refine lv_goto (tgt := 49) hx hb dX3_cut_45 (by decide) ?_
        have e9 : zi (decide (k < cnt) && decide (pl k = x)) = 1 := by simp [zi, c_13, c_14] <;> (intro h9; omega)
        rw [e9] at K49
        exact K49
  have L2 : ∀ (n9 : Nat) (k : Nat), (k ≤ cnt) → (∀ j, j < k → pl j < x) → (cnt - k < n9) → ∀ (ls : Array Slot), lv_has ls 5 [(2, .int (nI k)), (0, .ref (b 0)), (1, .int x)] → W p l e (headSpec wsX3_cut { frames := 1, cells := 0, slots := 0, locals := 22 }).room s m ([.ref (b 0), .int x] : List Value).toArray below meth c s.heap [] 0 0 (MQ below (va_Qi (fun r (u : Int32 × (Nat → Int32) × (Nat → Int32) × Nat) => ∃ k, (k ≤ cnt ∧ (∀ j, j < k → pl j < x) ∧ (k < cnt → ¬ pl k < x)) ∧ (((m_in x (-6) 6 && !(decide (k < cnt) && decide (pl k = x))) = false ∧ u = (1, pl, nm, cnt)) ∨ ((m_in x (-6) 6 && !(decide (k < cnt) && decide (pl k = x))) = true ∧ cnt = 3 ∧ u = (2, pl, nm, cnt)) ∨ ((m_in x (-6) 6 && !(decide (k < cnt) && decide (pl k = x))) = true ∧ cnt < 3 ∧ u.1 = 0 ∧ u.2.2.2 = cnt + 1 ∧ r = nI k ∧ (∀ j, j < cnt + 1 → u.2.1 j = if j < k then pl j else if j = k then x else pl (j - 1)) ∧ (∀ j, j < 8 * (cnt + 2) → u.2.2.1 j = if j < 8 * k + 8 then nm j else nm (j - 8))))) (fun u t => wd_E D (ty3 cI cL cQ) A (mw cI b u.1 (nI u.2.2.2) u.2.1 u.2.2.1 od op (zi kb) kU kD kl up dn lg ++ fr) t) A) ([.ref (b 0), .int x] : List Value).toArray s 0 0 A) (F0 m 2 ls []) := by
    intro n2
    induction n2 with
    | zero => intro k hk hlt h9; exact absurd h9 (by omega)
    | succ n2 ih2 =>
      intro k hk hlt h9 ls hl
      refine lv_iload_n hx hb dX3_cut_2 rfl (lv_at hl 0 rfl) ?_
      refine lv_aload_n hx hb dX3_cut_3 rfl (lv_at hl 1 rfl) ?_
      refine va_get (D := D) (ci := 3) (v := .int (nI cnt)) (C := RX3) (T := TX3) (N := 13) hx hb hg inX3 hown hK hP 0 rfl rfl 1 (by decide) (hg _ fl_X3_32) (fun _ h9 => h9) rfl dX3_cut_4 ?_
      refine lv_icmp_ge (tgt := 26) hx hb dX3_cut_7 (by decide) (fun c_15 => ?_) (fun c_15 => ?_)
      · replace c_15 : cnt ≤ k := (nI_leI (a := cnt) (b := k) (by omega) (by omega)).mp c_15
        exact J26 k (by omega) (hlt) (fun h9 => absurd h9 (by omega))  ls (lv_sub hl [0, 1, 2] rfl)
      · replace c_15 : ¬ cnt ≤ k := fun h => c_15 ((nI_leI (a := cnt) (b := k) (by omega) (by omega)).mpr h)
        refine lv_aload_n hx hb dX3_cut_10 rfl (lv_at hl 1 rfl) ?_
        refine va_get (D := D) (ci := 3) (v := .ref (b 1)) (C := RX3) (T := TX3) (N := 13) hx hb hg inX3 hown hK hP 0 rfl rfl 2 (by decide) (hg _ fl_X3_7) (fun _ h9 => h9) rfl dX3_cut_11 ?_
        refine lv_iload_n hx hb dX3_cut_14 rfl (lv_at hl 0 rfl) ?_
        refine va_iald (D := D) (n := 3) (f := pl) hx hb hK hP 1 0 rfl rfl (vp_in_nI (show k < 3 by omega) (by decide)) dX3_cut_15 ?_
        rw [nI_clamp (show k < 2 ^ 31 by omega)]
        refine lv_iload_n hx hb dX3_cut_16 rfl (lv_at hl 2 rfl) ?_
        refine lv_icmp_ge (tgt := 26) hx hb dX3_cut_17 (by decide) (fun c_16 => ?_) (fun c_16 => ?_)
        · exact J26 k (by omega) (hlt) (fun _ => Int32.not_lt.mpr c_16)  ls (lv_sub hl [0, 1, 2] rfl)
        · refine lv_iinc (v := nI (k + 1)) (lv' := [(2, .int (nI (k + 1))), (0, .ref (b 0)), (1, .int x)]) hx hb dX3_cut_20 hl (k := 0) rfl (nI_1 k) (by decide) rfl (fun ls hl => ?_)
          refine lv_goto (tgt := 2) hx hb dX3_cut_23 (by decide) ?_
          exact ih2 (k + 1) (by omega) (fun j hj => by rcases Nat.lt_or_ge j k with h | h; exact hlt j h; rw [show j = k by omega]; exact Int32.not_le.mp c_16)  (by omega) ls (lv_sub hl [0, 1, 2] rfl)
  exact L2 ((cnt - 0) + 1) 0 (Nat.zero_le _) (fun j hj => absurd hj (Nat.not_lt_zero j))  (Nat.lt_succ_self _) ls (lv_sub hl [0, 1, 2] rfl)
set_option maxHeartbeats 4000000 in
set_option maxRecDepth 100000 in
theorem c_X3_join (l : Launch) (A : Nat → Prop) (D : va_G) (cI cL cQ : ClassId) (fr : va_W) (b : Nat → Nat) (cod : Int32) (cnt : Nat) (hc : cnt ≤ 3) (pl nm od op : Nat → Int32) (kb : Bool) (kU kD : Int64) (kl : Nat → Int32) (up dn : Int64) (lg : Nat → Int32) (k9 : Int32) : Met l yX3_join wsX3_join { frames := 1, cells := 0, slots := 0, locals := 22 } (va_Pc [.ref (b 0), .int k9] (wd_B D (ty3 cI cL cQ) A (mw cI b cod (nI cnt) pl nm od op (zi kb) kU kD kl up dn lg ++ fr))) (va_Qv (fun (u : Int32 × (Nat → Int32) × (Nat → Int32) × Nat) => (x_kc k9 cnt = true ∧ u = (1, pl, nm, cnt)) ∨ (x_kc k9 cnt = false ∧ u.1 = 0 ∧ u.2.2.2 = cnt - 1 ∧ ∃ k2, k2 < cnt ∧ k9 = nI k2 ∧ (∀ j, j < cnt - 1 → u.2.1 j = if j < k2 then pl j else pl (j + 1)) ∧ (∀ j, j < 8 * cnt → u.2.2.1 j = if j < 8 * k2 + 8 then nm j else nm (j + 8)))) (fun u t => wd_E D (ty3 cI cL cQ) A (mw cI b u.1 (nI u.2.2.2) u.2.1 u.2.2.1 od op (zi kb) kU kD kl up dn lg ++ fr) t) A) 0 0 A := by
  refine Met.ofW (cc := cX3_join) (maxL := 3) (ret := none) (by decide) rfl ?_
  intro p e s m args below meth c s₁ B hml hv
  obtain ⟨rfl, hG, hK, hP, hD, hA⟩ := hv
  have hx := B.exec
  have hb := B.bytes
  have hr := B.returns
  have hts := atoms_spec (ws := wsX3_join) B.pre
  have hg : ∀ w ∈ gw, w.before ([.ref (b 0), .int k9] : List Value).toArray s = true := fun w h => hts w (List.mem_cons_of_mem _ h)
  have hown : s.vm.findClass RX3 = some m.cls := findClass_of_methodNamed B.named
  have hlocks := B.notSynchronized
  have hS : va_S A s.heap s.heap [] := va_S.rf
  have hl := lv_entry ([.ref (b 0), .int k9]) (n := 3) (Nat.le_of_ble_eq_true rfl)
  rw [lg_entry_eq]
  generalize (lg_sl ([.ref (b 0), .int k9]) ++ List.replicate (3 - (lg_sl ([.ref (b 0), .int k9])).length) Slot.unset).toArray = ls at hl ⊢
  have hl : lv_has ls 3 [(0, .ref (b 0)), (1, .int k9)] := hl
  refine lv_aload_n hx hb dX3_join_0 rfl (lv_at hl 0 rfl) ?_
  refine lv_iload_n hx hb dX3_join_1 rfl (lv_at hl 1 rfl) ?_
  refine lv_iconst (v := 0) hx hb dX3_join_2 (by decide) ?_
  refine lv_aload_n hx hb dX3_join_3 rfl (lv_at hl 0 rfl) ?_
  refine va_get (D := D) (ci := 3) (v := .int (nI cnt)) (C := RX3) (T := TX3) (N := 13) hx hb hg inX3 hown hK hP 0 rfl rfl 1 (by decide) (hg _ fl_X3_32) (fun _ h9 => h9) rfl dX3_join_4 ?_
  refine lv_iconst (v := 1) hx hb dX3_join_7 (by decide) ?_
  refine lv_isub hx hb dX3_join_8 ?_
  refine vp_callSi (W.runS (As := [.int k9, .int 0, .int (nI cnt - 1)]) (rest := [.ref (b 0)]) ⟨hx, hb, hml, hown, hg⟩ (c_X3_in l k9 0 (nI cnt - 1)) (va_cwS 3 hg (gw_S ml_X3_35 sm_X3_in ini_X3 co_X3_in) rfl rfl rfl (by decide +kernel) ⟨Nat.le_of_ble_eq_true rfl, Nat.le_of_ble_eq_true rfl⟩) ⟨tt_blind, (fun U hU hW => ⟨rfl, trivial⟩)⟩ rfl rfl hl.1 rfl (lv_room (Nat.le_of_ble_eq_true rfl)) dX3_join_9 ⟨Nat.le_of_ble_eq_true rfl, Nat.le_of_ble_eq_true rfl⟩) (fun r_1 hr_1 => ?_)
  subst hr_1
  refine lv_if_eq (tgt := 19) hx hb dX3_join_12 (by decide) (fun c_2 => ?_) (fun c_2 => ?_)
  · replace c_2 := zi_0 c_2
    refine lv_iconst (v := 1) hx hb dX3_join_19 (by decide) ?_
    have hkc : x_kc k9 cnt = true := by rw [m_k hc] at c_2; simpa using c_2
    refine va_put (D := D) (ci := 3) (v := .int 1) (ty := .int) (C := RX3) (T := TX3) (N := 13) hx hb hg inX3 tyX3 tyX3_ok nmX3 hown hK hP hD hS 0 rfl rfl 0 (by decide) (hg _ fl_X3_28) (fun _ h9 => h9) rfl (by decide +kernel) rfl rfl (Nat.le_of_ble_eq_true rfl) dX3_join_20 (fun H locs hP hD hS => ?_)
    have hP : va_P D vwCl (mw cI b 1 (nI cnt) pl nm od op (zi kb) kU kD kl up dn lg ++ fr) H := hP
    have hD : va_D A (mw cI b 1 (nI cnt) pl nm od op (zi kb) kU kD kl up dn lg ++ fr) := hD
    refine lv_aload_n hx hb dX3_join_23 rfl (lv_at hl 0 rfl) ?_
    refine va_get (D := D) (ci := 3) (v := .int 1) (C := RX3) (T := TX3) (N := 13) hx hb hg inX3 hown hK hP 0 rfl rfl 0 (by decide) (hg _ fl_X3_28) (fun _ h9 => h9) rfl dX3_join_24 ?_
    refine lv_if_le (tgt := 31) hx hb dX3_join_27 (by decide) (fun c_3 => absurd c_3 (by decide)) (fun _ => ?_)
    exact W.vret hx hb hr (fun t ht hW => ⟨⟨(1, pl, nm, cnt), rfl, Or.inl ⟨hkc, rfl⟩, wd_E.at hK hP hD ht hW⟩, hS.F ht⟩) hS.2.2 dX3_join_30
  · replace c_2 := zi_n0 c_2
    refine lv_iconst (v := 0) hx hb dX3_join_15 (by decide) ?_
    refine lv_goto (tgt := 20) hx hb dX3_join_16 (by decide) ?_
    have hkc : x_kc k9 cnt = false := by rw [m_k hc] at c_2; simpa using c_2
    refine va_put (D := D) (ci := 3) (v := .int 0) (ty := .int) (C := RX3) (T := TX3) (N := 13) hx hb hg inX3 tyX3 tyX3_ok nmX3 hown hK hP hD hS 0 rfl rfl 0 (by decide) (hg _ fl_X3_28) (fun _ h9 => h9) rfl (by decide +kernel) rfl rfl (Nat.le_of_ble_eq_true rfl) dX3_join_20 (fun H locs hP hD hS => ?_)
    have hP : va_P D vwCl (mw cI b 0 (nI cnt) pl nm od op (zi kb) kU kD kl up dn lg ++ fr) H := hP
    have hD : va_D A (mw cI b 0 (nI cnt) pl nm od op (zi kb) kU kD kl up dn lg ++ fr) := hD
    refine lv_aload_n hx hb dX3_join_23 rfl (lv_at hl 0 rfl) ?_
    refine va_get (D := D) (ci := 3) (v := .int 0) (C := RX3) (T := TX3) (N := 13) hx hb hg inX3 hown hK hP 0 rfl rfl 0 (by decide) (hg _ fl_X3_28) (fun _ h9 => h9) rfl dX3_join_24 ?_
    refine lv_if_le (tgt := 31) hx hb dX3_join_27 (by decide) (fun _ => ?_) (fun c_4 => absurd c_4 (by decide))
    obtain ⟨k, hk, rfl⟩ := kc_n hc hkc
    refine lv_aload_n hx hb dX3_join_31 rfl (lv_at hl 0 rfl) ?_
    refine lv_dup hx hb dX3_join_32 rfl ?_
    refine va_get (D := D) (ci := 3) (v := .int (nI cnt)) (C := RX3) (T := TX3) (N := 13) hx hb hg inX3 hown hK hP 0 rfl rfl 1 (by decide) (hg _ fl_X3_32) (fun _ h9 => h9) rfl dX3_join_33 ?_
    refine lv_iconst (v := 1) hx hb dX3_join_36 (by decide) ?_
    refine lv_isub hx hb dX3_join_37 ?_
    rw [show (nI cnt) - (1 : Int32) = nI (cnt - 1) from pk_sub (a := cnt) (b := 1) (by omega)]
    refine va_put (D := D) (ci := 3) (v := .int (nI (cnt - 1))) (ty := .int) (C := RX3) (T := TX3) (N := 13) hx hb hg inX3 tyX3 tyX3_ok nmX3 hown hK hP hD hS 0 rfl rfl 1 (by decide) (hg _ fl_X3_32) (fun _ h9 => h9) rfl (by decide +kernel) rfl rfl (Nat.le_of_ble_eq_true rfl) dX3_join_38 (fun H locs hP hD hS => ?_)
    have hP : va_P D vwCl (mw cI b 0 (nI (cnt - 1)) pl nm od op (zi kb) kU kD kl up dn lg ++ fr) H := hP
    have hD : va_D A (mw cI b 0 (nI (cnt - 1)) pl nm od op (zi kb) kU kD kl up dn lg ++ fr) := hD
    refine lv_iload_n hx hb dX3_join_41 rfl (lv_at hl 1 rfl) ?_
    refine lv_istore_n (lv' := [(2, .int (nI k)), (0, .ref (b 0)), (1, .int (nI k))]) hx hb dX3_join_42 rfl hl (by decide) rfl (fun ls hl => ?_)
    have L43 : ∀ (n9 : Nat) (i : Nat) (g : Nat → Int32) (H : Heap) (locs : List Loc), (k ≤ i) → (i ≤ cnt - 1) → (∀ j, j < 3 → g j = if k ≤ j ∧ j < i then pl (j + 1) else pl j) → va_P D vwCl (mw cI b 0 (nI (cnt - 1)) g nm od op (zi kb) kU kD kl up dn lg ++ fr) H → va_D A (mw cI b 0 (nI (cnt - 1)) g nm od op (zi kb) kU kD kl up dn lg ++ fr) → va_S A s.heap H locs → (cnt - i < n9) → ∀ (ls : Array Slot), lv_has ls 3 [(2, .int (nI i)), (0, .ref (b 0)), (1, .int (nI k))] → W p l e (headSpec wsX3_join { frames := 1, cells := 0, slots := 0, locals := 22 }).room s m ([.ref (b 0), .int (nI k)] : List Value).toArray below meth c H locs 0 0 (MQ below (va_Qv (fun (u : Int32 × (Nat → Int32) × (Nat → Int32) × Nat) => (x_kc (nI k) cnt = true ∧ u = (1, pl, nm, cnt)) ∨ (x_kc (nI k) cnt = false ∧ u.1 = 0 ∧ u.2.2.2 = cnt - 1 ∧ ∃ k2, k2 < cnt ∧ (nI k) = nI k2 ∧ (∀ j, j < cnt - 1 → u.2.1 j = if j < k2 then pl j else pl (j + 1)) ∧ (∀ j, j < 8 * cnt → u.2.2.1 j = if j < 8 * k2 + 8 then nm j else nm (j + 8)))) (fun u t => wd_E D (ty3 cI cL cQ) A (mw cI b u.1 (nI u.2.2.2) u.2.1 u.2.2.1 od op (zi kb) kU kD kl up dn lg ++ fr) t) A) ([.ref (b 0), .int (nI k)] : List Value).toArray s 0 0 A) (F0 m 43 ls []) := by
      clear hP hD hS
      intro n43
      induction n43 with
      | zero => intro i g H locs hki hic hgv hP hD hS h9; exact absurd h9 (by omega)
      | succ n43 ih43 =>
        intro i g H locs hki hic hgv hP hD hS h9 ls hl
        refine lv_iload_n hx hb dX3_join_43 rfl (lv_at hl 0 rfl) ?_
        refine lv_aload_n hx hb dX3_join_44 rfl (lv_at hl 1 rfl) ?_
        refine va_get (D := D) (ci := 3) (v := .int (nI (cnt - 1))) (C := RX3) (T := TX3) (N := 13) hx hb hg inX3 hown hK hP 0 rfl rfl 1 (by decide) (hg _ fl_X3_32) (fun _ h9 => h9) rfl dX3_join_45 ?_
        refine lv_icmp_ge (tgt := 71) hx hb dX3_join_48 (by decide) (fun c_5 => ?_) (fun c_5 => ?_)
        · replace c_5 : (cnt - 1) ≤ i := (nI_leI (a := (cnt - 1)) (b := i) (by omega) (by omega)).mp c_5
          refine lv_bipush (v := 8) hx hb dX3_join_71 (by decide) ?_
          refine lv_iload_n hx hb dX3_join_73 rfl (lv_at hl 2 rfl) ?_
          refine lv_imul hx hb dX3_join_74 ?_
          rw [show (8 : Int32) * nI k = nI (8 * k) from pk_mul 8 k]
          refine lv_bipush (v := 8) hx hb dX3_join_75 (by decide) ?_
          refine lv_iadd hx hb dX3_join_77 ?_
          rw [show (nI (8 * k)) + (8 : Int32) = nI ((8 * k) + 8) from nI_add (8 * k) 8]
          refine lv_istore_n (lv' := [(2, .int (nI ((8 * k) + 8))), (0, .ref (b 0)), (1, .int (nI k))]) hx hb dX3_join_78 rfl hl (by decide) rfl (fun ls hl => ?_)
          have hik : i = cnt - 1 := by omega
          have L79 : ∀ (n9 : Nat) (i2 : Nat) (g2 : Nat → Int32) (H : Heap) (locs : List Loc), (8 * k + 8 ≤ i2) → (i2 ≤ 8 * cnt) → (∀ j, j < 32 → g2 j = if 8 * k + 8 ≤ j ∧ j < i2 then nm (j + 8) else nm j) → va_P D vwCl (mw cI b 0 (nI (cnt - 1)) g g2 od op (zi kb) kU kD kl up dn lg ++ fr) H → va_D A (mw cI b 0 (nI (cnt - 1)) g g2 od op (zi kb) kU kD kl up dn lg ++ fr) → va_S A s.heap H locs → (8 * cnt + 8 - i2 < n9) → ∀ (ls : Array Slot), lv_has ls 3 [(2, .int (nI i2)), (0, .ref (b 0)), (1, .int (nI k))] → W p l e (headSpec wsX3_join { frames := 1, cells := 0, slots := 0, locals := 22 }).room s m ([.ref (b 0), .int (nI k)] : List Value).toArray below meth c H locs 0 0 (MQ below (va_Qv (fun (u : Int32 × (Nat → Int32) × (Nat → Int32) × Nat) => (x_kc (nI k) cnt = true ∧ u = (1, pl, nm, cnt)) ∨ (x_kc (nI k) cnt = false ∧ u.1 = 0 ∧ u.2.2.2 = cnt - 1 ∧ ∃ k2, k2 < cnt ∧ (nI k) = nI k2 ∧ (∀ j, j < cnt - 1 → u.2.1 j = if j < k2 then pl j else pl (j + 1)) ∧ (∀ j, j < 8 * cnt → u.2.2.1 j = if j < 8 * k2 + 8 then nm j else nm (j + 8)))) (fun u t => wd_E D (ty3 cI cL cQ) A (mw cI b u.1 (nI u.2.2.2) u.2.1 u.2.2.1 od op (zi kb) kU kD kl up dn lg ++ fr) t) A) ([.ref (b 0), .int (nI k)] : List Value).toArray s 0 0 A) (F0 m 79 ls []) := by
            clear hP hD hS
            intro n79
            induction n79 with
            | zero => intro i2 g2 H locs hlo hhi hgv2 hP hD hS h9; exact absurd h9 (by omega)
            | succ n79 ih79 =>
              intro i2 g2 H locs hlo hhi hgv2 hP hD hS h9 ls hl
              refine lv_iload_n hx hb dX3_join_79 rfl (lv_at hl 0 rfl) ?_
              refine lv_bipush (v := 8) hx hb dX3_join_80 (by decide) ?_
              refine lv_aload_n hx hb dX3_join_82 rfl (lv_at hl 1 rfl) ?_
              refine va_get (D := D) (ci := 3) (v := .int (nI (cnt - 1))) (C := RX3) (T := TX3) (N := 13) hx hb hg inX3 hown hK hP 0 rfl rfl 1 (by decide) (hg _ fl_X3_32) (fun _ h9 => h9) rfl dX3_join_83 ?_
              refine lv_imul hx hb dX3_join_86 ?_
              rw [show (8 : Int32) * (nI (cnt - 1)) = nI (8 * (cnt - 1)) from pk_mul 8 (cnt - 1)]
              refine lv_bipush (v := 8) hx hb dX3_join_87 (by decide) ?_
              refine lv_iadd hx hb dX3_join_89 ?_
              rw [show (nI (8 * (cnt - 1))) + (8 : Int32) = nI ((8 * (cnt - 1)) + 8) from nI_add (8 * (cnt - 1)) 8]
              refine lv_icmp_ge (tgt := 114) hx hb dX3_join_90 (by decide) (fun c_6 => ?_) (fun c_6 => ?_)
              · replace c_6 : ((8 * (cnt - 1)) + 8) ≤ i2 := (nI_leI (a := ((8 * (cnt - 1)) + 8)) (b := i2) (by omega) (by omega)).mp c_6
                exact W.vret hx hb hr (fun t ht hW => ⟨⟨(0, g, g2, cnt - 1), rfl, Or.inr ⟨hkc, rfl, rfl, k, hk, rfl, fun j hj => by show g j = _; rw [hgv j (by omega)]; by_cases e2 : j < k; (rw [if_pos e2, if_neg (by omega)]); (rw [if_neg e2, if_pos (by omega)]), fun j hj => by show g2 j = _; rw [hgv2 j (by omega)]; by_cases e2 : j < 8 * k + 8; (rw [if_pos e2, if_neg (by omega)]); (rw [if_neg e2, if_pos (by omega)])⟩, wd_E.at hK hP hD ht hW⟩, hS.F ht⟩) hS.2.2 dX3_join_114
              · replace c_6 : ¬ ((8 * (cnt - 1)) + 8) ≤ i2 := fun h => c_6 ((nI_leI (a := ((8 * (cnt - 1)) + 8)) (b := i2) (by omega) (by omega)).mpr h)
                refine lv_aload_n hx hb dX3_join_93 rfl (lv_at hl 1 rfl) ?_
                refine va_get (D := D) (ci := 3) (v := .ref (b 2)) (C := RX3) (T := TX3) (N := 13) hx hb hg inX3 hown hK hP 0 rfl rfl 3 (by decide) (hg _ fl_X3_13) (fun _ h9 => h9) rfl dX3_join_94 ?_
                refine lv_iload_n hx hb dX3_join_97 rfl (lv_at hl 0 rfl) ?_
                refine lv_aload_n hx hb dX3_join_98 rfl (lv_at hl 1 rfl) ?_
                refine va_get (D := D) (ci := 3) (v := .ref (b 2)) (C := RX3) (T := TX3) (N := 13) hx hb hg inX3 hown hK hP 0 rfl rfl 3 (by decide) (hg _ fl_X3_13) (fun _ h9 => h9) rfl dX3_join_99 ?_
                refine lv_iload_n hx hb dX3_join_102 rfl (lv_at hl 0 rfl) ?_
                refine lv_bipush (v := 8) hx hb dX3_join_103 (by decide) ?_
                refine lv_iadd hx hb dX3_join_105 ?_
                rw [show (nI i2) + (8 : Int32) = nI (i2 + 8) from nI_add i2 8]
                refine va_iald (D := D) (n := 32) (f := g2) hx hb hK hP 2 0 rfl rfl (vp_in_nI (show (i2 + 8) < 32 by omega) (by decide)) dX3_join_106 ?_
                rw [nI_clamp (show (i2 + 8) < 2 ^ 31 by omega)]
                refine lv_topi (fun v_7 ev_7 => ?_)
                refine va_iast (D := D) (n := 32) (f := g2) (x := v_7) hx hb hK hP hD hS 2 0 rfl rfl (vp_in_nI (show i2 < 32 by omega) (by decide)) dX3_join_107 (fun H locs hP hD hS => ?_)
                rw [nI_clamp (show i2 < 2 ^ 31 by omega)] at hP hD
                have hP : va_P D vwCl (mw cI b 0 (nI (cnt - 1)) g (upd g2 i2 v_7) od op (zi kb) kU kD kl up dn lg ++ fr) H := hP
                have hD : va_D A (mw cI b 0 (nI (cnt - 1)) g (upd g2 i2 v_7) od op (zi kb) kU kD kl up dn lg ++ fr) := hD
                refine lv_iinc (v := nI (i2 + 1)) (lv' := [(2, .int (nI (i2 + 1))), (0, .ref (b 0)), (1, .int (nI k))]) hx hb dX3_join_108 hl (k := 0) rfl (nI_1 i2) (by decide) rfl (fun ls hl => ?_)
                refine lv_goto (tgt := 79) hx hb dX3_join_111 (by decide) ?_
                exact ih79 (i2 + 1) (upd g2 i2 v_7) _ _ (by omega) (by omega) (fun j hj => by unfold upd; by_cases e : j = i2; (subst e; rw [if_pos rfl, ev_7, hgv2 (j + 8) (by omega), if_neg (by omega), if_pos (by omega)]); (rw [if_neg e, hgv2 j hj]; by_cases e2 : 8 * k + 8 ≤ j ∧ j < i2; (rw [if_pos e2, if_pos (by omega)]); (rw [if_neg e2, if_neg (by omega)]))) hP hD hS (by omega) ls (lv_sub hl [0, 1, 2] rfl)
          exact L79 ((8 * cnt + 8 - (8 * k + 8)) + 1) (8 * k + 8) nm _ _ (by omega) (by omega) (fun j hj => by rw [if_neg (by omega)]) hP hD hS (Nat.lt_succ_self _) ls (lv_sub hl [0, 1, 2] rfl)
        · replace c_5 : ¬ (cnt - 1) ≤ i := fun h => c_5 ((nI_leI (a := (cnt - 1)) (b := i) (by omega) (by omega)).mpr h)
          refine lv_aload_n hx hb dX3_join_51 rfl (lv_at hl 1 rfl) ?_
          refine va_get (D := D) (ci := 3) (v := .ref (b 1)) (C := RX3) (T := TX3) (N := 13) hx hb hg inX3 hown hK hP 0 rfl rfl 2 (by decide) (hg _ fl_X3_7) (fun _ h9 => h9) rfl dX3_join_52 ?_
          refine lv_iload_n hx hb dX3_join_55 rfl (lv_at hl 0 rfl) ?_
          refine lv_aload_n hx hb dX3_join_56 rfl (lv_at hl 1 rfl) ?_
          refine va_get (D := D) (ci := 3) (v := .ref (b 1)) (C := RX3) (T := TX3) (N := 13) hx hb hg inX3 hown hK hP 0 rfl rfl 2 (by decide) (hg _ fl_X3_7) (fun _ h9 => h9) rfl dX3_join_57 ?_
          refine lv_iload_n hx hb dX3_join_60 rfl (lv_at hl 0 rfl) ?_
          refine lv_iconst (v := 1) hx hb dX3_join_61 (by decide) ?_
          refine lv_iadd hx hb dX3_join_62 ?_
          rw [show (nI i) + (1 : Int32) = nI (i + 1) from nI_add i 1]
          refine va_iald (D := D) (n := 3) (f := g) hx hb hK hP 1 0 rfl rfl (vp_in_nI (show (i + 1) < 3 by omega) (by decide)) dX3_join_63 ?_
          rw [nI_clamp (show (i + 1) < 2 ^ 31 by omega)]
          refine lv_topi (fun v_8 ev_8 => ?_)
          refine va_iast (D := D) (n := 3) (f := g) (x := v_8) hx hb hK hP hD hS 1 0 rfl rfl (vp_in_nI (show i < 3 by omega) (by decide)) dX3_join_64 (fun H locs hP hD hS => ?_)
          rw [nI_clamp (show i < 2 ^ 31 by omega)] at hP hD
          have hP : va_P D vwCl (mw cI b 0 (nI (cnt - 1)) (upd g i v_8) nm od op (zi kb) kU kD kl up dn lg ++ fr) H := hP
          have hD : va_D A (mw cI b 0 (nI (cnt - 1)) (upd g i v_8) nm od op (zi kb) kU kD kl up dn lg ++ fr) := hD
          refine lv_iinc (v := nI (i + 1)) (lv' := [(2, .int (nI (i + 1))), (0, .ref (b 0)), (1, .int (nI k))]) hx hb dX3_join_65 hl (k := 0) rfl (nI_1 i) (by decide) rfl (fun ls hl => ?_)
          refine lv_goto (tgt := 43) hx hb dX3_join_68 (by decide) ?_
          exact ih43 (i + 1) (upd g i v_8) _ _ (by omega) (by omega) (fun j hj => by unfold upd; by_cases e : j = i; (subst e; rw [if_pos rfl, ev_8, hgv (j + 1) (by omega), if_neg (by omega), if_pos (by omega)]); (rw [if_neg e, hgv j hj]; by_cases e2 : k ≤ j ∧ j < i; (rw [if_pos e2, if_pos (by omega)]); (rw [if_neg e2, if_neg (by omega)]))) hP hD hS (by omega) ls (lv_sub hl [0, 1, 2] rfl)
    exact L43 ((cnt - k) + 1) k pl _ _ (Nat.le_refl _) (by omega) (fun j hj => by rw [if_neg (by omega)]) hP hD hS (Nat.lt_succ_self _) ls (lv_sub hl [0, 1, 2] rfl)
set_option maxHeartbeats 4000000 in
set_option maxRecDepth 100000 in
theorem c_X3_mirror (l : Launch) (A : Nat → Prop) (D : va_G) (cI cL cQ : ClassId) (fr : va_W) (b : Nat → Nat) (cod : Int32) (cnt : Nat) (hc : cnt ≤ 3) (pl nm od op : Nat → Int32) (kb : Bool) (kU kD : Int64) (kl : Nat → Int32) (up dn : Int64) (lg : Nat → Int32) : Met l yX3_mirror wsX3_mirror { frames := 1, cells := 0, slots := 0, locals := 24 } (va_Pc [.ref (b 0)] (wd_B D (ty3 cI cL cQ) A (mw cI b cod (nI cnt) pl nm od op (zi kb) kU kD kl up dn lg ++ fr))) (va_Qv (fun (u : (Nat → Int32) × (Nat → Int32) × (Nat → Int32) × (Nat → Int32)) => (∀ j, j < cnt → u.1 j = -(pl (cnt - 1 - j))) ∧ (∀ p9 j, p9 ≤ cnt → j < 8 → u.2.1 (8 * p9 + j) = gl_sign j * nm (8 * (cnt - p9) + j))) (fun u t => wd_E D (ty3 cI cL cQ) A (mw cI b 0 (nI cnt) u.1 u.2.1 u.2.2.1 u.2.2.2 (zi kb) kU kD kl up dn lg ++ fr) t) A) 0 0 A := by
  refine Met.ofW (cc := cX3_mirror) (maxL := 3) (ret := none) (by decide) rfl ?_
  intro p e s m args below meth c s₁ B hml hv
  obtain ⟨rfl, hG, hK, hP, hD, hA⟩ := hv
  have hx := B.exec
  have hb := B.bytes
  have hr := B.returns
  have hts := atoms_spec (ws := wsX3_mirror) B.pre
  have hg : ∀ w ∈ gw, w.before ([.ref (b 0)] : List Value).toArray s = true := fun w h => hts w (List.mem_cons_of_mem _ h)
  have hown : s.vm.findClass RX3 = some m.cls := findClass_of_methodNamed B.named
  have hlocks := B.notSynchronized
  have hS : va_S A s.heap s.heap [] := va_S.rf
  have hl := lv_entry ([.ref (b 0)]) (n := 3) (Nat.le_of_ble_eq_true rfl)
  rw [lg_entry_eq]
  generalize (lg_sl ([.ref (b 0)]) ++ List.replicate (3 - (lg_sl ([.ref (b 0)])).length) Slot.unset).toArray = ls at hl ⊢
  have hl : lv_has ls 3 [(0, .ref (b 0))] := hl
  refine lv_aload_n hx hb dX3_mirror_0 rfl (lv_at hl 0 rfl) ?_
  refine lv_iconst (v := 0) hx hb dX3_mirror_1 (by decide) ?_
  refine va_put (D := D) (ci := 3) (v := .int 0) (ty := .int) (C := RX3) (T := TX3) (N := 13) hx hb hg inX3 tyX3 tyX3_ok nmX3 hown hK hP hD hS 0 rfl rfl 0 (by decide) (hg _ fl_X3_28) (fun _ h9 => h9) rfl (by decide +kernel) rfl rfl (Nat.le_of_ble_eq_true rfl) dX3_mirror_2 (fun H locs hP hD hS => ?_)
  have hP : va_P D vwCl (mw cI b 0 (nI cnt) pl nm od op (zi kb) kU kD kl up dn lg ++ fr) H := hP
  have hD : va_D A (mw cI b 0 (nI cnt) pl nm od op (zi kb) kU kD kl up dn lg ++ fr) := hD
  refine lv_iconst (v := 0) hx hb dX3_mirror_5 (by decide) ?_
  refine lv_istore_n (lv' := [(1, .int 0), (0, .ref (b 0))]) hx hb dX3_mirror_6 rfl hl (by decide) rfl (fun ls hl => ?_)
  have L7 : ∀ (n9 : Nat) (i : Nat) (g7 : Nat → Int32) (H : Heap) (locs : List Loc), (i ≤ 32) → (∀ j, j < i → g7 j = nm j) → va_P D vwCl (mw cI b 0 (nI cnt) pl nm g7 op (zi kb) kU kD kl up dn lg ++ fr) H → va_D A (mw cI b 0 (nI cnt) pl nm g7 op (zi kb) kU kD kl up dn lg ++ fr) → va_S A s.heap H locs → (32 - i < n9) → ∀ (ls : Array Slot), lv_has ls 3 [(1, .int (nI i)), (0, .ref (b 0))] → W p l e (headSpec wsX3_mirror { frames := 1, cells := 0, slots := 0, locals := 24 }).room s m ([.ref (b 0)] : List Value).toArray below meth c H locs 0 0 (MQ below (va_Qv (fun (u : (Nat → Int32) × (Nat → Int32) × (Nat → Int32) × (Nat → Int32)) => (∀ j, j < cnt → u.1 j = -(pl (cnt - 1 - j))) ∧ (∀ p9 j, p9 ≤ cnt → j < 8 → u.2.1 (8 * p9 + j) = gl_sign j * nm (8 * (cnt - p9) + j))) (fun u t => wd_E D (ty3 cI cL cQ) A (mw cI b 0 (nI cnt) u.1 u.2.1 u.2.2.1 u.2.2.2 (zi kb) kU kD kl up dn lg ++ fr) t) A) ([.ref (b 0)] : List Value).toArray s 0 0 A) (F0 m 7 ls []) := by
    clear hP hD hS
    intro n7
    induction n7 with
    | zero => intro i g7 H locs hi hg7 hP hD hS h9; exact absurd h9 (by omega)
    | succ n7 ih7 =>
      intro i g7 H locs hi hg7 hP hD hS h9 ls hl
      refine lv_iload_n hx hb dX3_mirror_7 rfl (lv_at hl 0 rfl) ?_
      refine lv_bipush (v := 32) hx hb dX3_mirror_8 (by decide) ?_
      refine lv_icmp_ge (tgt := 31) hx hb dX3_mirror_10 (by decide) (fun c_1 => ?_) (fun c_1 => ?_)
      · replace c_1 : 32 ≤ i := (nI_leI (a := 32) (b := i) (by omega) (by omega)).mp c_1
        have hod : ∀ j, j < 32 → g7 j = nm j := fun j hj => hg7 j (by omega)
        refine lv_iconst (v := 0) hx hb dX3_mirror_31 (by decide) ?_
        refine lv_istore_n (lv' := [(1, .int 0), (0, .ref (b 0))]) hx hb dX3_mirror_32 rfl hl (by decide) rfl (fun ls hl => ?_)
        have L33 : ∀ (n9 : Nat) (i : Nat) (g33 : Nat → Int32) (H : Heap) (locs : List Loc), (i ≤ 3) → (∀ j, j < i → g33 j = pl j) → va_P D vwCl (mw cI b 0 (nI cnt) pl nm g7 g33 (zi kb) kU kD kl up dn lg ++ fr) H → va_D A (mw cI b 0 (nI cnt) pl nm g7 g33 (zi kb) kU kD kl up dn lg ++ fr) → va_S A s.heap H locs → (3 - i < n9) → ∀ (ls : Array Slot), lv_has ls 3 [(1, .int (nI i)), (0, .ref (b 0))] → W p l e (headSpec wsX3_mirror { frames := 1, cells := 0, slots := 0, locals := 24 }).room s m ([.ref (b 0)] : List Value).toArray below meth c H locs 0 0 (MQ below (va_Qv (fun (u : (Nat → Int32) × (Nat → Int32) × (Nat → Int32) × (Nat → Int32)) => (∀ j, j < cnt → u.1 j = -(pl (cnt - 1 - j))) ∧ (∀ p9 j, p9 ≤ cnt → j < 8 → u.2.1 (8 * p9 + j) = gl_sign j * nm (8 * (cnt - p9) + j))) (fun u t => wd_E D (ty3 cI cL cQ) A (mw cI b 0 (nI cnt) u.1 u.2.1 u.2.2.1 u.2.2.2 (zi kb) kU kD kl up dn lg ++ fr) t) A) ([.ref (b 0)] : List Value).toArray s 0 0 A) (F0 m 33 ls []) := by
          clear hP hD hS
          intro n33
          induction n33 with
          | zero => intro i g33 H locs hi hg33 hP hD hS h9; exact absurd h9 (by omega)
          | succ n33 ih33 =>
            intro i g33 H locs hi hg33 hP hD hS h9 ls hl
            refine lv_iload_n hx hb dX3_mirror_33 rfl (lv_at hl 0 rfl) ?_
            refine lv_iconst (v := 3) hx hb dX3_mirror_34 (by decide) ?_
            refine lv_icmp_ge (tgt := 56) hx hb dX3_mirror_35 (by decide) (fun c_2 => ?_) (fun c_2 => ?_)
            · replace c_2 : 3 ≤ i := (nI_leI (a := 3) (b := i) (by omega) (by omega)).mp c_2
              have hop : ∀ j, j < 3 → g33 j = pl j := fun j hj => hg33 j (by omega)
              refine lv_iconst (v := 0) hx hb dX3_mirror_56 (by decide) ?_
              refine lv_istore_n (lv' := [(1, .int 0), (0, .ref (b 0))]) hx hb dX3_mirror_57 rfl hl (by decide) rfl (fun ls hl => ?_)
              have L58 : ∀ (n9 : Nat) (i : Nat) (g58 : Nat → Int32) (H : Heap) (locs : List Loc), (i ≤ cnt) → (∀ j, j < i → g58 j = -(pl (cnt - 1 - j))) → va_P D vwCl (mw cI b 0 (nI cnt) g58 nm g7 g33 (zi kb) kU kD kl up dn lg ++ fr) H → va_D A (mw cI b 0 (nI cnt) g58 nm g7 g33 (zi kb) kU kD kl up dn lg ++ fr) → va_S A s.heap H locs → (cnt - i < n9) → ∀ (ls : Array Slot), lv_has ls 3 [(1, .int (nI i)), (0, .ref (b 0))] → W p l e (headSpec wsX3_mirror { frames := 1, cells := 0, slots := 0, locals := 24 }).room s m ([.ref (b 0)] : List Value).toArray below meth c H locs 0 0 (MQ below (va_Qv (fun (u : (Nat → Int32) × (Nat → Int32) × (Nat → Int32) × (Nat → Int32)) => (∀ j, j < cnt → u.1 j = -(pl (cnt - 1 - j))) ∧ (∀ p9 j, p9 ≤ cnt → j < 8 → u.2.1 (8 * p9 + j) = gl_sign j * nm (8 * (cnt - p9) + j))) (fun u t => wd_E D (ty3 cI cL cQ) A (mw cI b 0 (nI cnt) u.1 u.2.1 u.2.2.1 u.2.2.2 (zi kb) kU kD kl up dn lg ++ fr) t) A) ([.ref (b 0)] : List Value).toArray s 0 0 A) (F0 m 58 ls []) := by
                clear hP hD hS
                intro n58
                induction n58 with
                | zero => intro i g58 H locs hi hg58 hP hD hS h9; exact absurd h9 (by omega)
                | succ n58 ih58 =>
                  intro i g58 H locs hi hg58 hP hD hS h9 ls hl
                  refine lv_iload_n hx hb dX3_mirror_58 rfl (lv_at hl 0 rfl) ?_
                  refine lv_aload_n hx hb dX3_mirror_59 rfl (lv_at hl 1 rfl) ?_
                  refine va_get (D := D) (ci := 3) (v := .int (nI cnt)) (C := RX3) (T := TX3) (N := 13) hx hb hg inX3 hown hK hP 0 rfl rfl 1 (by decide) (hg _ fl_X3_32) (fun _ h9 => h9) rfl dX3_mirror_60 ?_
                  refine lv_icmp_ge (tgt := 92) hx hb dX3_mirror_63 (by decide) (fun c_3 => ?_) (fun c_3 => ?_)
                  · replace c_3 : cnt ≤ i := (nI_leI (a := cnt) (b := i) (by omega) (by omega)).mp c_3
                    have hpl9 : ∀ j, j < cnt → g58 j = -(pl (cnt - 1 - j)) := fun j hj => hg58 j (by omega)
                    refine lv_iconst (v := 0) hx hb dX3_mirror_92 (by decide) ?_
                    refine lv_istore_n (lv' := [(1, .int 0), (0, .ref (b 0))]) hx hb dX3_mirror_93 rfl hl (by decide) rfl (fun ls hl => ?_)
                    have L94 : ∀ (n9 : Nat) (p9 : Nat) (g94 : Nat → Int32) (H : Heap) (locs : List Loc), (p9 ≤ cnt + 1) → (∀ q j, q < p9 → j < 8 → g94 (8 * q + j) = gl_sign j * nm (8 * (cnt - q) + j)) → va_P D vwCl (mw cI b 0 (nI cnt) g58 g94 g7 g33 (zi kb) kU kD kl up dn lg ++ fr) H → va_D A (mw cI b 0 (nI cnt) g58 g94 g7 g33 (zi kb) kU kD kl up dn lg ++ fr) → va_S A s.heap H locs → (cnt + 1 - p9 < n9) → ∀ (ls : Array Slot), lv_has ls 3 [(1, .int (nI p9)), (0, .ref (b 0))] → W p l e (headSpec wsX3_mirror { frames := 1, cells := 0, slots := 0, locals := 24 }).room s m ([.ref (b 0)] : List Value).toArray below meth c H locs 0 0 (MQ below (va_Qv (fun (u : (Nat → Int32) × (Nat → Int32) × (Nat → Int32) × (Nat → Int32)) => (∀ j, j < cnt → u.1 j = -(pl (cnt - 1 - j))) ∧ (∀ p9 j, p9 ≤ cnt → j < 8 → u.2.1 (8 * p9 + j) = gl_sign j * nm (8 * (cnt - p9) + j))) (fun u t => wd_E D (ty3 cI cL cQ) A (mw cI b 0 (nI cnt) u.1 u.2.1 u.2.2.1 u.2.2.2 (zi kb) kU kD kl up dn lg ++ fr) t) A) ([.ref (b 0)] : List Value).toArray s 0 0 A) (F0 m 94 ls []) := by
                      clear hP hD hS
                      intro n94
                      induction n94 with
                      | zero => intro p9 g94 H locs hp hg94 hP hD hS h9; exact absurd h9 (by omega)
                      | succ n94 ih94 =>
                        intro p9 g94 H locs hp hg94 hP hD hS h9 ls hl
                        refine lv_iload_n hx hb dX3_mirror_94 rfl (lv_at hl 0 rfl) ?_
                        refine lv_aload_n hx hb dX3_mirror_95 rfl (lv_at hl 1 rfl) ?_
                        refine va_get (D := D) (ci := 3) (v := .int (nI cnt)) (C := RX3) (T := TX3) (N := 13) hx hb hg inX3 hown hK hP 0 rfl rfl 1 (by decide) (hg _ fl_X3_32) (fun _ h9 => h9) rfl dX3_mirror_96 ?_
                        refine lv_icmp_gt (tgt := 148) hx hb dX3_mirror_99 (by decide) (fun c_4 => ?_) (fun c_4 => ?_)
                        · replace c_4 : cnt < p9 := (nI_ltI (a := cnt) (b := p9) (by omega) (by omega)).mp c_4
                          exact W.vret hx hb hr (fun t ht hW => ⟨⟨(g58, g94, g7, g33), rfl, ⟨hpl9, fun q j hq hj => hg94 q j (by omega) hj⟩, wd_E.at hK hP hD ht hW⟩, hS.F ht⟩) hS.2.2 dX3_mirror_148
                        · replace c_4 : ¬ cnt < p9 := fun h => c_4 ((nI_ltI (a := cnt) (b := p9) (by omega) (by omega)).mpr h)
                          refine lv_iconst (v := 0) hx hb dX3_mirror_102 (by decide) ?_
                          refine lv_istore_n (lv' := [(2, .int 0), (1, .int (nI p9)), (0, .ref (b 0))]) hx hb dX3_mirror_103 rfl hl (by decide) rfl (fun ls hl => ?_)
                          have L104 : ∀ (n9 : Nat) (n2 : Nat) (g104 : Nat → Int32) (H : Heap) (locs : List Loc), (n2 ≤ 8) → (∀ j, j < n2 → g104 (8 * p9 + j) = gl_sign j * g7 (8 * (cnt - p9) + j)) → (∀ j, j < 8 * p9 → g104 j = g94 j) → va_P D vwCl (mw cI b 0 (nI cnt) g58 g104 g7 g33 (zi kb) kU kD kl up dn lg ++ fr) H → va_D A (mw cI b 0 (nI cnt) g58 g104 g7 g33 (zi kb) kU kD kl up dn lg ++ fr) → va_S A s.heap H locs → (8 - n2 < n9) → ∀ (ls : Array Slot), lv_has ls 3 [(2, .int (nI n2)), (1, .int (nI p9)), (0, .ref (b 0))] → W p l e (headSpec wsX3_mirror { frames := 1, cells := 0, slots := 0, locals := 24 }).room s m ([.ref (b 0)] : List Value).toArray below meth c H locs 0 0 (MQ below (va_Qv (fun (u : (Nat → Int32) × (Nat → Int32) × (Nat → Int32) × (Nat → Int32)) => (∀ j, j < cnt → u.1 j = -(pl (cnt - 1 - j))) ∧ (∀ p9 j, p9 ≤ cnt → j < 8 → u.2.1 (8 * p9 + j) = gl_sign j * nm (8 * (cnt - p9) + j))) (fun u t => wd_E D (ty3 cI cL cQ) A (mw cI b 0 (nI cnt) u.1 u.2.1 u.2.2.1 u.2.2.2 (zi kb) kU kD kl up dn lg ++ fr) t) A) ([.ref (b 0)] : List Value).toArray s 0 0 A) (F0 m 104 ls []) := by
                            clear hP hD hS
                            intro n104
                            induction n104 with
                            | zero => intro n2 g104 H locs hn2 hin hkp hP hD hS h9; exact absurd h9 (by omega)
                            | succ n104 ih104 =>
                              intro n2 g104 H locs hn2 hin hkp hP hD hS h9 ls hl
                              refine lv_iload_n hx hb dX3_mirror_104 rfl (lv_at hl 0 rfl) ?_
                              refine lv_bipush (v := 8) hx hb dX3_mirror_105 (by decide) ?_
                              refine lv_icmp_ge (tgt := 142) hx hb dX3_mirror_107 (by decide) (fun c_5 => ?_) (fun c_5 => ?_)
                              · replace c_5 : 8 ≤ n2 := (nI_leI (a := 8) (b := n2) (by omega) (by omega)).mp c_5
                                refine lv_iinc (v := nI (p9 + 1)) (lv' := [(1, .int (nI (p9 + 1))), (2, .int (nI n2)), (0, .ref (b 0))]) hx hb dX3_mirror_142 hl (k := 1) rfl (nI_1 p9) (by decide) rfl (fun ls hl => ?_)
                                refine lv_goto (tgt := 94) hx hb dX3_mirror_145 (by decide) ?_
                                exact ih94 (p9 + 1) g104 _ _ (by omega) (fun q j hq hj => by by_cases e : q = p9; (subst e; rw [hin j (by omega), hod _ (by omega)]); (rw [hkp _ (by omega)]; exact hg94 q j (by omega) hj)) hP hD hS (by omega) ls (lv_sub hl [0, 2] rfl)
                              · replace c_5 : ¬ 8 ≤ n2 := fun h => c_5 ((nI_leI (a := 8) (b := n2) (by omega) (by omega)).mpr h)
                                refine lv_aload_n hx hb dX3_mirror_110 rfl (lv_at hl 2 rfl) ?_
                                refine va_get (D := D) (ci := 3) (v := .ref (b 2)) (C := RX3) (T := TX3) (N := 13) hx hb hg inX3 hown hK hP 0 rfl rfl 3 (by decide) (hg _ fl_X3_13) (fun _ h9 => h9) rfl dX3_mirror_111 ?_
                                refine lv_bipush (v := 8) hx hb dX3_mirror_114 (by decide) ?_
                                refine lv_iload_n hx hb dX3_mirror_116 rfl (lv_at hl 1 rfl) ?_
                                refine lv_imul hx hb dX3_mirror_117 ?_
                                rw [show (8 : Int32) * nI p9 = nI (8 * p9) from pk_mul 8 p9]
                                refine lv_iload_n hx hb dX3_mirror_118 rfl (lv_at hl 0 rfl) ?_
                                refine lv_iadd hx hb dX3_mirror_119 ?_
                                rw [show (nI (8 * p9)) + nI n2 = nI ((8 * p9) + n2) from nI_add (8 * p9) n2]
                                refine lv_aload_n hx hb dX3_mirror_120 rfl (lv_at hl 2 rfl) ?_
                                refine lv_aload_n hx hb dX3_mirror_121 rfl (lv_at hl 2 rfl) ?_
                                refine va_get (D := D) (ci := 3) (v := .ref (b 3)) (C := RX3) (T := TX3) (N := 13) hx hb hg inX3 hown hK hP 0 rfl rfl 4 (by decide) (hg _ fl_X3_16) (fun _ h9 => h9) rfl dX3_mirror_122 ?_
                                refine lv_aload_n hx hb dX3_mirror_125 rfl (lv_at hl 2 rfl) ?_
                                refine va_get (D := D) (ci := 3) (v := .int (nI cnt)) (C := RX3) (T := TX3) (N := 13) hx hb hg inX3 hown hK hP 0 rfl rfl 1 (by decide) (hg _ fl_X3_32) (fun _ h9 => h9) rfl dX3_mirror_126 ?_
                                refine lv_iload_n hx hb dX3_mirror_129 rfl (lv_at hl 1 rfl) ?_
                                refine lv_isub hx hb dX3_mirror_130 ?_
                                rw [show (nI cnt) - nI p9 = nI (cnt - p9) from pk_sub (a := cnt) (b := p9) (by omega)]
                                refine lv_iload_n hx hb dX3_mirror_131 rfl (lv_at hl 0 rfl) ?_
                                refine vp_callSi (W.runV (As := [.ref (b 3), .int (nI (cnt - p9)), .int (nI n2)]) (rest := [.int (nI ((8 * p9) + n2)), .ref (b 2)]) ⟨hx, hb, hml, hown, hg⟩ (c_X3_turned l D cI cL cQ (b 0) (b 3) g7 (cnt - p9) n2 (by omega) (by omega)) (cwV 3 hg (gw_V ml_X3_39 im_X3_turned se_X3_turned ini_X3 co_X3_turned) rfl rfl rfl (by decide +kernel) ⟨Nat.le_of_ble_eq_true rfl, Nat.le_of_ble_eq_true rfl⟩) ⟨pu_B.blind, va_recv hK hP (ci := 3) (q0 := 0) rfl rfl, (fun U hU hW => ⟨rfl, pu_B.at hK (hP.sub [3] rfl) hU hW⟩)⟩ rfl rfl hl.1 rfl (lv_room (Nat.le_of_ble_eq_true rfl)) dX3_mirror_132 ⟨Nat.le_of_ble_eq_true rfl, Nat.le_of_ble_eq_true rfl⟩) (fun r_6 hr_6 => ?_)
                                subst hr_6
                                refine lv_topi (fun v_7 ev_7 => ?_)
                                refine va_iast (D := D) (n := 32) (f := g104) (x := v_7) hx hb hK hP hD hS 2 0 rfl rfl (vp_in_nI (show ((8 * p9) + n2) < 32 by omega) (by decide)) dX3_mirror_135 (fun H locs hP hD hS => ?_)
                                rw [nI_clamp (show ((8 * p9) + n2) < 2 ^ 31 by omega)] at hP hD
                                have hP : va_P D vwCl (mw cI b 0 (nI cnt) g58 (upd g104 ((8 * p9) + n2) v_7) g7 g33 (zi kb) kU kD kl up dn lg ++ fr) H := hP
                                have hD : va_D A (mw cI b 0 (nI cnt) g58 (upd g104 ((8 * p9) + n2) v_7) g7 g33 (zi kb) kU kD kl up dn lg ++ fr) := hD
                                refine lv_iinc (v := nI (n2 + 1)) (lv' := [(2, .int (nI (n2 + 1))), (1, .int (nI p9)), (0, .ref (b 0))]) hx hb dX3_mirror_136 hl (k := 0) rfl (nI_1 n2) (by decide) rfl (fun ls hl => ?_)
                                refine lv_goto (tgt := 104) hx hb dX3_mirror_139 (by decide) ?_
                                exact ih104 (n2 + 1) (upd g104 ((8 * p9) + n2) v_7) _ _ (by omega) (fun j hj => by unfold upd; by_cases e : j = n2; (subst e; rw [if_pos rfl, ev_7]); (rw [if_neg (by omega)]; exact hin j (by omega))) (fun j hj => by unfold upd; rw [if_neg (by omega)]; exact hkp j hj) hP hD hS (by omega) ls (lv_sub hl [0, 1, 2] rfl)
                          exact L104 (8 + 1) 0 g94 _ _ (Nat.zero_le _) (fun j hj => absurd hj (Nat.not_lt_zero j)) (fun _ _ => rfl) hP hD hS (Nat.lt_succ_self _) ls (lv_sub hl [0, 1, 2] rfl)
                    exact L94 ((cnt + 1) + 1) 0 nm _ _ (Nat.zero_le _) (fun q j hq => absurd hq (Nat.not_lt_zero q)) hP hD hS (Nat.lt_succ_self _) ls (lv_sub hl [0, 1] rfl)
                  · replace c_3 : ¬ cnt ≤ i := fun h => c_3 ((nI_leI (a := cnt) (b := i) (by omega) (by omega)).mpr h)
                    refine lv_aload_n hx hb dX3_mirror_66 rfl (lv_at hl 1 rfl) ?_
                    refine va_get (D := D) (ci := 3) (v := .ref (b 1)) (C := RX3) (T := TX3) (N := 13) hx hb hg inX3 hown hK hP 0 rfl rfl 2 (by decide) (hg _ fl_X3_7) (fun _ h9 => h9) rfl dX3_mirror_67 ?_
                    refine lv_iload_n hx hb dX3_mirror_70 rfl (lv_at hl 0 rfl) ?_
                    refine lv_aload_n hx hb dX3_mirror_71 rfl (lv_at hl 1 rfl) ?_
                    refine va_get (D := D) (ci := 3) (v := .ref (b 4)) (C := RX3) (T := TX3) (N := 13) hx hb hg inX3 hown hK hP 0 rfl rfl 5 (by decide) (hg _ fl_X3_19) (fun _ h9 => h9) rfl dX3_mirror_72 ?_
                    refine lv_aload_n hx hb dX3_mirror_75 rfl (lv_at hl 1 rfl) ?_
                    refine va_get (D := D) (ci := 3) (v := .int (nI cnt)) (C := RX3) (T := TX3) (N := 13) hx hb hg inX3 hown hK hP 0 rfl rfl 1 (by decide) (hg _ fl_X3_32) (fun _ h9 => h9) rfl dX3_mirror_76 ?_
                    refine lv_iconst (v := 1) hx hb dX3_mirror_79 (by decide) ?_
                    refine lv_isub hx hb dX3_mirror_80 ?_
                    rw [show (nI cnt) - (1 : Int32) = nI (cnt - 1) from pk_sub (a := cnt) (b := 1) (by omega)]
                    refine lv_iload_n hx hb dX3_mirror_81 rfl (lv_at hl 0 rfl) ?_
                    refine lv_isub hx hb dX3_mirror_82 ?_
                    rw [show (nI (cnt - 1)) - nI i = nI ((cnt - 1) - i) from pk_sub (a := (cnt - 1)) (b := i) (by omega)]
                    refine va_iald (D := D) (n := 3) (f := g33) hx hb hK hP 4 0 rfl rfl (vp_in_nI (show ((cnt - 1) - i) < 3 by omega) (by decide)) dX3_mirror_83 ?_
                    rw [nI_clamp (show ((cnt - 1) - i) < 2 ^ 31 by omega)]
                    refine lv_ineg hx hb dX3_mirror_84 ?_
                    refine lv_topi (fun v_8 ev_8 => ?_)
                    refine va_iast (D := D) (n := 3) (f := g58) (x := v_8) hx hb hK hP hD hS 1 0 rfl rfl (vp_in_nI (show i < 3 by omega) (by decide)) dX3_mirror_85 (fun H locs hP hD hS => ?_)
                    rw [nI_clamp (show i < 2 ^ 31 by omega)] at hP hD
                    have hP : va_P D vwCl (mw cI b 0 (nI cnt) (upd g58 i v_8) nm g7 g33 (zi kb) kU kD kl up dn lg ++ fr) H := hP
                    have hD : va_D A (mw cI b 0 (nI cnt) (upd g58 i v_8) nm g7 g33 (zi kb) kU kD kl up dn lg ++ fr) := hD
                    refine lv_iinc (v := nI (i + 1)) (lv' := [(1, .int (nI (i + 1))), (0, .ref (b 0))]) hx hb dX3_mirror_86 hl (k := 0) rfl (nI_1 i) (by decide) rfl (fun ls hl => ?_)
                    refine lv_goto (tgt := 58) hx hb dX3_mirror_89 (by decide) ?_
                    exact ih58 (i + 1) (upd g58 i v_8) _ _ (by omega) (fun j hj => by unfold upd; by_cases e : j = i; (rw [if_pos e, ev_8, hop (cnt - 1 - i) (by omega), e]); (rw [if_neg e]; exact hg58 j (by omega))) hP hD hS (by omega) ls (lv_sub hl [0, 1] rfl)
              exact L58 ((cnt - 0) + 1) 0 pl _ _ (Nat.zero_le _) (fun j hj => absurd hj (Nat.not_lt_zero j)) hP hD hS (Nat.lt_succ_self _) ls (lv_sub hl [0, 1] rfl)
            · replace c_2 : ¬ 3 ≤ i := fun h => c_2 ((nI_leI (a := 3) (b := i) (by omega) (by omega)).mpr h)
              refine lv_aload_n hx hb dX3_mirror_38 rfl (lv_at hl 1 rfl) ?_
              refine va_get (D := D) (ci := 3) (v := .ref (b 4)) (C := RX3) (T := TX3) (N := 13) hx hb hg inX3 hown hK hP 0 rfl rfl 5 (by decide) (hg _ fl_X3_19) (fun _ h9 => h9) rfl dX3_mirror_39 ?_
              refine lv_iload_n hx hb dX3_mirror_42 rfl (lv_at hl 0 rfl) ?_
              refine lv_aload_n hx hb dX3_mirror_43 rfl (lv_at hl 1 rfl) ?_
              refine va_get (D := D) (ci := 3) (v := .ref (b 1)) (C := RX3) (T := TX3) (N := 13) hx hb hg inX3 hown hK hP 0 rfl rfl 2 (by decide) (hg _ fl_X3_7) (fun _ h9 => h9) rfl dX3_mirror_44 ?_
              refine lv_iload_n hx hb dX3_mirror_47 rfl (lv_at hl 0 rfl) ?_
              refine va_iald (D := D) (n := 3) (f := pl) hx hb hK hP 1 0 rfl rfl (vp_in_nI (show i < 3 by omega) (by decide)) dX3_mirror_48 ?_
              rw [nI_clamp (show i < 2 ^ 31 by omega)]
              refine lv_topi (fun v_9 ev_9 => ?_)
              refine va_iast (D := D) (n := 3) (f := g33) (x := v_9) hx hb hK hP hD hS 4 0 rfl rfl (vp_in_nI (show i < 3 by omega) (by decide)) dX3_mirror_49 (fun H locs hP hD hS => ?_)
              rw [nI_clamp (show i < 2 ^ 31 by omega)] at hP hD
              have hP : va_P D vwCl (mw cI b 0 (nI cnt) pl nm g7 (upd g33 i v_9) (zi kb) kU kD kl up dn lg ++ fr) H := hP
              have hD : va_D A (mw cI b 0 (nI cnt) pl nm g7 (upd g33 i v_9) (zi kb) kU kD kl up dn lg ++ fr) := hD
              refine lv_iinc (v := nI (i + 1)) (lv' := [(1, .int (nI (i + 1))), (0, .ref (b 0))]) hx hb dX3_mirror_50 hl (k := 0) rfl (nI_1 i) (by decide) rfl (fun ls hl => ?_)
              refine lv_goto (tgt := 33) hx hb dX3_mirror_53 (by decide) ?_
              exact ih33 (i + 1) (upd g33 i v_9) _ _ (by omega) (fun j hj => by unfold upd; by_cases e : j = i; (rw [if_pos e, ev_9, e]); (rw [if_neg e]; exact hg33 j (by omega))) hP hD hS (by omega) ls (lv_sub hl [0, 1] rfl)
        exact L33 (3 + 1) 0 op _ _ (Nat.zero_le _) (fun j hj => absurd hj (Nat.not_lt_zero j)) hP hD hS (Nat.lt_succ_self _) ls (lv_sub hl [0, 1] rfl)
      · replace c_1 : ¬ 32 ≤ i := fun h => c_1 ((nI_leI (a := 32) (b := i) (by omega) (by omega)).mpr h)
        refine lv_aload_n hx hb dX3_mirror_13 rfl (lv_at hl 1 rfl) ?_
        refine va_get (D := D) (ci := 3) (v := .ref (b 3)) (C := RX3) (T := TX3) (N := 13) hx hb hg inX3 hown hK hP 0 rfl rfl 4 (by decide) (hg _ fl_X3_16) (fun _ h9 => h9) rfl dX3_mirror_14 ?_
        refine lv_iload_n hx hb dX3_mirror_17 rfl (lv_at hl 0 rfl) ?_
        refine lv_aload_n hx hb dX3_mirror_18 rfl (lv_at hl 1 rfl) ?_
        refine va_get (D := D) (ci := 3) (v := .ref (b 2)) (C := RX3) (T := TX3) (N := 13) hx hb hg inX3 hown hK hP 0 rfl rfl 3 (by decide) (hg _ fl_X3_13) (fun _ h9 => h9) rfl dX3_mirror_19 ?_
        refine lv_iload_n hx hb dX3_mirror_22 rfl (lv_at hl 0 rfl) ?_
        refine va_iald (D := D) (n := 32) (f := nm) hx hb hK hP 2 0 rfl rfl (vp_in_nI (show i < 32 by omega) (by decide)) dX3_mirror_23 ?_
        rw [nI_clamp (show i < 2 ^ 31 by omega)]
        refine lv_topi (fun v_10 ev_10 => ?_)
        refine va_iast (D := D) (n := 32) (f := g7) (x := v_10) hx hb hK hP hD hS 3 0 rfl rfl (vp_in_nI (show i < 32 by omega) (by decide)) dX3_mirror_24 (fun H locs hP hD hS => ?_)
        rw [nI_clamp (show i < 2 ^ 31 by omega)] at hP hD
        have hP : va_P D vwCl (mw cI b 0 (nI cnt) pl nm (upd g7 i v_10) op (zi kb) kU kD kl up dn lg ++ fr) H := hP
        have hD : va_D A (mw cI b 0 (nI cnt) pl nm (upd g7 i v_10) op (zi kb) kU kD kl up dn lg ++ fr) := hD
        refine lv_iinc (v := nI (i + 1)) (lv' := [(1, .int (nI (i + 1))), (0, .ref (b 0))]) hx hb dX3_mirror_25 hl (k := 0) rfl (nI_1 i) (by decide) rfl (fun ls hl => ?_)
        refine lv_goto (tgt := 7) hx hb dX3_mirror_28 (by decide) ?_
        exact ih7 (i + 1) (upd g7 i v_10) _ _ (by omega) (fun j hj => by unfold upd; by_cases e : j = i; (rw [if_pos e, ev_10, e]); (rw [if_neg e]; exact hg7 j (by omega))) hP hD hS (by omega) ls (lv_sub hl [0, 1] rfl)
  exact L7 (32 + 1) 0 od _ _ (Nat.zero_le _) (fun j hj => absurd hj (Nat.not_lt_zero j)) hP hD hS (Nat.lt_succ_self _) ls (lv_sub hl [0, 1] rfl)
