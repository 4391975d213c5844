theorem c_isWithin (d : Nat) {n : Nat} {t : eT} {I : eI} {R : eR} {Q : Int32 → Nat → eT → eI → eR → Prop} {v lo hi : Int32} {a b : Int} (hl : lo.toInt = a) (hh : hi.toInt = b) (h1 : a ≤ v.toInt → v.toInt ≤ b → Q 1 n t I R) (h0 : ¬ (a ≤ v.toInt ∧ v.toInt ≤ b) → Q 0 n t I R) : MC yX7_isWithin cX7_isWithin 3 (some .boolean) d 0 0 [.int v, .int lo, .int hi] n t I R (qI Q) := by
  refine mc_intro (L0 := [.int v, .int lo, .int hi]) (by decide) rfl (Nat.le_of_ble_eq_true rfl) ?_
  refine wp_iload_n (i := 0) dX7_isWithin_0 rfl rfl ?_
  refine wp_iload_n (i := 1) dX7_isWithin_1 rfl rfl ?_
  refine wp_icmp_lt (tgt := 14) dX7_isWithin_2 (by decide) (fun zq2 => ?_) (fun zq2 => ?_) 
  · refine wp_iconst (v := 0) dX7_isWithin_14 (by decide) ?_
    exact wp_retZ dX7_isWithin_15 rfl rfl (Nat.le_refl _) (Nat.le_refl _) (h0 (by rw [i_lt] at zq2; omega))
  · refine wp_iload_n (i := 0) dX7_isWithin_5 rfl rfl ?_
    refine wp_iload_n (i := 2) dX7_isWithin_6 rfl rfl ?_
    refine wp_icmp_gt (tgt := 14) dX7_isWithin_7 (by decide) (fun zq7 => ?_) (fun zq7 => ?_) 
    · refine wp_iconst (v := 0) dX7_isWithin_14 (by decide) ?_
      exact wp_retZ dX7_isWithin_15 rfl rfl (Nat.le_refl _) (Nat.le_refl _) (h0 (by rw [i_lt] at zq7; omega))
    · refine wp_iconst (v := 1) dX7_isWithin_10 (by decide) ?_
      refine wp_goto (tgt := 15) dX7_isWithin_11 (by decide) ?_
      exact wp_retZ dX7_isWithin_15 rfl rfl (Nat.le_refl _) (Nat.le_refl _) (by rw [i_lt] at zq2 zq7; exact h1 (by omega) (by omega))

theorem c_isPlace (d : Nat) {n : Nat} {t : eT} {I : eI} {R : eR} {Q : Int32 → Nat → eT → eI → eR → Prop} {v : Int32} (h1 : 0 ≤ v.toInt → v.toInt ≤ 11 → Q 1 n t I R) (h0 : ¬ (0 ≤ v.toInt ∧ v.toInt ≤ 11) → Q 0 n t I R) : MC yX7_isPlace cX7_isPlace 1 (some .boolean) (d + 1) 0 0 [.int v] n t I R (qI Q) := by
  refine mc_intro (L0 := [.int v]) (by decide) rfl (Nat.le_of_ble_eq_true rfl) ?_
  refine wp_iload_n (i := 0) dX7_isPlace_0 rfl rfl ?_
  refine wp_iconst (v := 0) dX7_isPlace_1 (by decide) ?_
  refine wp_bipush (v := 11) dX7_isPlace_2 (by decide) ?_
  refine wp_S3i dX7_isPlace_4 mw_267 mw_268 mi_X7_isWithin (Nat.le_of_ble_eq_true rfl) (Nat.le_refl _) (Nat.le_refl _) (c_isWithin d rfl rfl (fun g1 g2 => ?_) (fun g => ?_)) 
  · skip
    exact wp_retZ dX7_isPlace_7 rfl rfl (Nat.le_refl _) (Nat.le_refl _) (by first | exact h1 g1 g2 | exact h0 g)
  · skip
    exact wp_retZ dX7_isPlace_7 rfl rfl (Nat.le_refl _) (Nat.le_refl _) (by first | exact h1 g1 g2 | exact h0 g)

theorem c_isTick (d : Nat) {n : Nat} {t : eT} {I : eI} {R : eR} {Q : Int32 → Nat → eT → eI → eR → Prop} {v : Int32} (h1 : 0 ≤ v.toInt → v.toInt ≤ 9999 → Q 1 n t I R) (h0 : ¬ (0 ≤ v.toInt ∧ v.toInt ≤ 9999) → Q 0 n t I R) : MC yX7_isTick cX7_isTick 1 (some .boolean) (d + 1) 0 0 [.int v] n t I R (qI Q) := by
  refine mc_intro (L0 := [.int v]) (by decide) rfl (Nat.le_of_ble_eq_true rfl) ?_
  refine wp_iload_n (i := 0) dX7_isTick_0 rfl rfl ?_
  refine wp_iconst (v := 0) dX7_isTick_1 (by decide) ?_
  refine wp_sipush (v := 9999) dX7_isTick_2 (by decide) ?_
  refine wp_S3i dX7_isTick_5 mw_267 mw_268 mi_X7_isWithin (Nat.le_of_ble_eq_true rfl) (Nat.le_refl _) (Nat.le_refl _) (c_isWithin d rfl rfl (fun g1 g2 => ?_) (fun g => ?_)) 
  · skip
    exact wp_retZ dX7_isTick_8 rfl rfl (Nat.le_refl _) (Nat.le_refl _) (by first | exact h1 g1 g2 | exact h0 g)
  · skip
    exact wp_retZ dX7_isTick_8 rfl rfl (Nat.le_refl _) (Nat.le_refl _) (by first | exact h1 g1 g2 | exact h0 g)

theorem c_isPerson (d : Nat) {n : Nat} {t : eT} {I : eI} {R : eR} {Q : Int32 → Nat → eT → eI → eR → Prop} (hst : ST n t R) {m : Nat} (hm : I 4 3 = nI m) (hm4 : m ≤ 4) {p : Int32} (h1 : ∀ j, j < m → p = nI j → Q 1 n t I R) (h0 : (∀ j, j < m → p ≠ nI j) → Q 0 n t I R) : MC yX7_isPerson cX7_isPerson 2 (some .boolean) (d + 1) 0 0 [.ref 4, .int p] n t I R (qI Q) := by
  refine mc_intro (L0 := [.ref 4, .int p]) (by decide) rfl (Nat.le_of_ble_eq_true rfl) ?_
  refine wp_iload_n (i := 1) dX7_isPerson_0 rfl rfl ?_
  refine wp_iconst (v := 0) dX7_isPerson_1 (by decide) ?_
  refine wp_aload_n (i := 0) dX7_isPerson_2 rfl rfl ?_
  refine wp_getI dX7_isPerson_3 fl_X7_31 rfl (st_k hst rfl) ?_
  refine wp_iconst (v := 1) dX7_isPerson_6 (by decide) ?_
  refine wp_isub dX7_isPerson_7 ?_
  refine wp_S3i dX7_isPerson_8 mw_267 mw_268 mi_X7_isWithin (Nat.le_of_ble_eq_true rfl) (Nat.le_refl _) (Nat.le_refl _) (c_isWithin d (a := 0) (b := (m : Int) - 1) rfl (by rw [hm]; exact nI_subT (by omega)) (fun g1 g2 => ?_) (fun g => ?_)) 
  · obtain ⟨j, hj, e⟩ := nat_yes (by omega) g1 g2
    exact wp_retZ dX7_isPerson_11 rfl rfl (Nat.le_refl _) (Nat.le_refl _) (by first | exact h1 j hj e | exact h0 (nat_no (by omega) g))
  · skip
    exact wp_retZ dX7_isPerson_11 rfl rfl (Nat.le_refl _) (Nat.le_refl _) (by first | exact h1 j hj e | exact h0 (nat_no (by omega) g))

theorem c_has (d : Nat) {n : Nat} {t : eT} {I : eI} {R : eR} {Q : Int32 → Nat → eT → eI → eR → Prop} (hst : ST n t R) {k : Nat} (hk : I 5 0 = nI k) (hk4 : k ≤ 10) {x : Int32} (h1 : ∀ j, j < k → x = nI j → Q 1 n t I R) (h0 : (∀ j, j < k → x ≠ nI j) → Q 0 n t I R) : MC yX2_has cX2_has 2 (some .boolean) d 0 0 [.ref 5, .int x] n t I R (qI Q) := by
  refine mc_intro (L0 := [.ref 5, .int x]) (by decide) rfl (Nat.le_of_ble_eq_true rfl) ?_
  refine wp_iload_n (i := 1) dX2_has_0 rfl rfl ?_
  refine wp_if_lt (tgt := 16) dX2_has_1 (by decide) (fun zq1 => ?_) (fun zq1 => ?_) 
  · refine wp_iconst (v := 0) dX2_has_16 (by decide) ?_
    exact wp_retZ dX2_has_17 rfl rfl (Nat.le_refl _) (Nat.le_refl _) (h0 (nat_no (by omega) (by rw [i_lt, i0] at zq1; omega)))
  · refine wp_iload_n (i := 1) dX2_has_4 rfl rfl ?_
    refine wp_aload_n (i := 0) dX2_has_5 rfl rfl ?_
    refine wp_getI dX2_has_6 fl_X2_9 rfl (st_k hst rfl) ?_
    refine wp_icmp_ge (tgt := 16) dX2_has_9 (by decide) (fun zq9 => ?_) (fun zq9 => ?_) 
    · refine wp_iconst (v := 0) dX2_has_16 (by decide) ?_
      exact wp_retZ dX2_has_17 rfl rfl (Nat.le_refl _) (Nat.le_refl _) (h0 (nat_no (by omega) (by rw [i_le, hk, nI_toInt (by omega)] at zq9; omega)))
    · refine wp_iconst (v := 1) dX2_has_12 (by decide) ?_
      refine wp_goto (tgt := 17) dX2_has_13 (by decide) ?_
      obtain ⟨j, hj, e⟩ := nat_yes (x := x) (m := k) (by omega) (by rw [i_lt, i0] at zq1; omega) (by rw [i_le, hk, nI_toInt (by omega)] at zq9; omega)
      exact wp_retZ dX2_has_17 rfl rfl (Nat.le_refl _) (Nat.le_refl _) (h1 j hj e)

theorem c_isPartOrAll (d : Nat) {n : Nat} {t : eT} {I : eI} {R : eR} {Q : Int32 → Nat → eT → eI → eR → Prop} (hst : ST n t R) {k : Nat} (hk : I 5 0 = nI k) (hk4 : k ≤ 10) {x : Int32} (h1 : ∀ j, j < k → x = nI j → Q 1 n t I R) (h2 : x = -1 → Q 1 n t I R) (h0 : (∀ j, j < k → x ≠ nI j) → x ≠ -1 → Q 0 n t I R) : MC yX7_isPartOrAll cX7_isPartOrAll 2 (some .boolean) (d + 1) 0 0 [.ref 4, .int x] n t I R (qI Q) := by
  refine mc_intro (L0 := [.ref 4, .int x]) (by decide) rfl (Nat.le_of_ble_eq_true rfl) ?_
  refine wp_iload_n (i := 1) dX7_isPartOrAll_0 rfl rfl ?_
  refine wp_iconst (v := (-1)) dX7_isPartOrAll_1 (by decide) ?_
  refine wp_icmp_eq (tgt := 16) dX7_isPartOrAll_2 (by decide) (fun zq2 => ?_) (fun zq2 => ?_) 
  · refine wp_iconst (v := 1) dX7_isPartOrAll_16 (by decide) ?_
    refine wp_goto (tgt := 21) dX7_isPartOrAll_17 (by decide) ?_
    exact wp_retZ dX7_isPartOrAll_21 rfl rfl (Nat.le_refl _) (Nat.le_refl _) (by first | exact h1 j hj e | exact h2 (by assumption) | exact h0 g (by assumption))
  · refine wp_aload_n (i := 0) dX7_isPartOrAll_5 rfl rfl ?_
    refine wp_getR dX7_isPartOrAll_6 fl_X7_12 rfl (st_k hst rfl) (st_r hst rfl) ?_
    refine wp_iload_n (i := 1) dX7_isPartOrAll_9 rfl rfl ?_
    refine wp_V1i dX7_isPartOrAll_10 mw_351 mw_352 mw_353 mi_X2_has (Nat.le_of_ble_eq_true rfl) (Nat.le_refl _) (Nat.le_refl _) (st_k hst rfl) (by decide) rfl (c_has d hst hk hk4 (fun j hj e => ?_) (fun g => ?_)) 
    · skip
      refine wp_if_eq1 (tgt := 20) dX7_isPartOrAll_13 (by decide) ?_
      refine wp_iconst (v := 1) dX7_isPartOrAll_16 (by decide) ?_
      refine wp_goto (tgt := 21) dX7_isPartOrAll_17 (by decide) ?_
      exact wp_retZ dX7_isPartOrAll_21 rfl rfl (Nat.le_refl _) (Nat.le_refl _) (by first | exact h1 j hj e | exact h2 (by assumption) | exact h0 g (by assumption))
    · skip
      refine wp_if_eq0 (tgt := 20) dX7_isPartOrAll_13 (by decide) ?_
      refine wp_iconst (v := 0) dX7_isPartOrAll_20 (by decide) ?_
      exact wp_retZ dX7_isPartOrAll_21 rfl rfl (Nat.le_refl _) (Nat.le_refl _) (by first | exact h1 j hj e | exact h2 (by assumption) | exact h0 g (by assumption))

theorem c_faulted (d : Nat) {n : Nat} {t : eT} {I : eI} {R : eR} {Q : Int32 → Nat → eT → eI → eR → Prop} (hst : ST n t R) {w r : Int32} (hr : -10 - w = r) (hq : Q r n t (eU I 4 9 w) R) : MC yX7_faulted cX7_faulted 2 (some .int) d 0 0 [.ref 4, .int w] n t I R (qI Q) := by
  refine mc_intro (L0 := [.ref 4, .int w]) (by decide) rfl (Nat.le_of_ble_eq_true rfl) ?_
  refine wp_aload_n (i := 0) dX7_faulted_0 rfl rfl ?_
  refine wp_iload_n (i := 1) dX7_faulted_1 rfl rfl ?_
  refine wp_putI dX7_faulted_2 fl_X7_62 rfl (Or.inl rfl) (st_k hst rfl) ?_
  refine wp_bipush (v := (-10)) dX7_faulted_5 (by decide) ?_
  refine wp_iload_n (i := 1) dX7_faulted_7 rfl rfl ?_
  refine wp_isub dX7_faulted_8 ?_
  exact wp_retI dX7_faulted_9 rfl (Nat.le_refl _) (Nat.le_refl _) (by rw [hr]; exact hq)

theorem c_columnOf (d : Nat) {n : Nat} {t : eT} {I : eI} {R : eR} {Q : Int32 → Nat → eT → eI → eR → Prop} {v : Int32} (hq : Q (v % 4) n t I R) : MC yX7_columnOf cX7_columnOf 1 (some .int) d 0 0 [.int v] n t I R (qI Q) := by
  refine mc_intro (L0 := [.int v]) (by decide) rfl (Nat.le_of_ble_eq_true rfl) ?_
  refine wp_iload_n (i := 0) dX7_columnOf_0 rfl rfl ?_
  refine wp_iconst (v := 4) dX7_columnOf_1 (by decide) ?_
  refine wp_irem dX7_columnOf_2 (by decide) ?_
  exact wp_retI dX7_columnOf_3 rfl (Nat.le_refl _) (Nat.le_refl _) hq

theorem c_rowOf (d : Nat) {n : Nat} {t : eT} {I : eI} {R : eR} {Q : Int32 → Nat → eT → eI → eR → Prop} {v : Int32} (hq : Q (v / 4) n t I R) : MC yX7_rowOf cX7_rowOf 1 (some .int) d 0 0 [.int v] n t I R (qI Q) := by
  refine mc_intro (L0 := [.int v]) (by decide) rfl (Nat.le_of_ble_eq_true rfl) ?_
  refine wp_iload_n (i := 0) dX7_rowOf_0 rfl rfl ?_
  refine wp_iconst (v := 4) dX7_rowOf_1 (by decide) ?_
  refine wp_idiv dX7_rowOf_2 (by decide) ?_
  exact wp_retI dX7_rowOf_3 rfl (Nat.le_refl _) (Nat.le_refl _) hq

theorem c_in (d : Nat) {n : Nat} {t : eT} {I : eI} {R : eR} {Q : Int32 → Nat → eT → eI → eR → Prop} {v : Int32} {lo hi : Int64} {a b : Int} (hl : lo.toInt = a) (hh : hi.toInt = b) (h1 : a ≤ v.toInt → v.toInt ≤ b → Q 1 n t I R) (h0 : ¬ (a ≤ v.toInt ∧ v.toInt ≤ b) → Q 0 n t I R) : MC yX8_in cX8_in 6 (some .boolean) d 0 0 [.long v.toInt64, .long lo, .long hi] n t I R (qI Q) := by
  refine mc_intro (L0 := [.long v.toInt64, vM, .long lo, vM, .long hi, vM]) (by decide) rfl (Nat.le_of_ble_eq_true rfl) ?_
  refine wp_lload_n (i := 0) dX8_in_0 rfl rfl ?_
  refine wp_lload_n (i := 2) dX8_in_1 rfl rfl ?_
  refine wp_lcmp dX8_in_2 ?_
  refine wp_if_lt (tgt := 17) dX8_in_3 (by decide) (fun zq3 => ?_) (fun zq3 => ?_) 
  · refine wp_iconst (v := 0) dX8_in_17 (by decide) ?_
    exact wp_retZ dX8_in_18 rfl rfl (Nat.le_refl _) (Nat.le_refl _) (h0 (by rw [lg_cmp_lt, l_lt, Int32.toInt_toInt64, hl] at zq3; omega))
  · refine wp_lload_n (i := 0) dX8_in_6 rfl rfl ?_
    refine wp_lload dX8_in_7 rfl ?_
    refine wp_lcmp dX8_in_9 ?_
    refine wp_if_gt (tgt := 17) dX8_in_10 (by decide) (fun zq10 => ?_) (fun zq10 => ?_) 
    · refine wp_iconst (v := 0) dX8_in_17 (by decide) ?_
      exact wp_retZ dX8_in_18 rfl rfl (Nat.le_refl _) (Nat.le_refl _) (h0 (by rw [lg_cmp_gt, l_lt, Int32.toInt_toInt64, hh] at zq10; omega))
    · refine wp_iconst (v := 1) dX8_in_13 (by decide) ?_
      refine wp_goto (tgt := 18) dX8_in_14 (by decide) ?_
      exact wp_retZ dX8_in_18 rfl rfl (Nat.le_refl _) (Nat.le_refl _) (by rw [lg_cmp_lt, l_lt, Int32.toInt_toInt64, hl] at zq3; rw [lg_cmp_gt, l_lt, Int32.toInt_toInt64, hh] at zq10; exact h1 (by omega) (by omega))

theorem c_noPart (d : Nat) {n : Nat} {t : eT} {I : eI} {R : eR} {Q : Int32 → Nat → eT → eI → eR → Prop} (hst : ST n t R) {k : Nat} (hk : I 94 1 = nI k) (hk4 : k ≤ 10) {x : Int32} (h0 : ∀ j, j < k → x = nI j → Q 0 n t I R) (h1 : (∀ j, j < k → x ≠ nI j) → Q 1 n t I R) : MC yX8_noPart cX8_noPart 2 (some .boolean) (d + 1) 0 0 [.ref 94, .int x] n t I R (qI Q) := by
  refine mc_intro (L0 := [.ref 94, .int x]) (by decide) rfl (Nat.le_of_ble_eq_true rfl) ?_
  refine wp_iload_n (i := 1) dX8_noPart_0 rfl rfl ?_
  refine wp_i2l dX8_noPart_1 ?_
  refine wp_lconst (v := 0) dX8_noPart_2 (by decide) ?_
  refine wp_aload_n (i := 0) dX8_noPart_3 rfl rfl ?_
  refine wp_getI dX8_noPart_4 fl_X8_143 rfl (st_k hst rfl) ?_
  refine wp_i2l dX8_noPart_7 ?_
  refine wp_lconst (v := 1) dX8_noPart_8 (by decide) ?_
  refine wp_lsub dX8_noPart_9 ?_
  refine wp_S3i dX8_noPart_10 mw_887 mw_888 mi_X8_in (Nat.le_of_ble_eq_true rfl) (Nat.le_refl _) (Nat.le_refl _) (c_in d (a := 0) (b := (k : Int) - 1) rfl (by rw [hk]; exact nI_subL (by omega)) (fun g1 g2 => ?_) (fun g => ?_)) 
  · obtain ⟨j, hj, e⟩ := nat_yes (by omega) g1 g2
    refine wp_if_ne1 (tgt := 20) dX8_noPart_13 (by decide) ?_
    refine wp_iconst (v := 0) dX8_noPart_20 (by decide) ?_
    exact wp_retZ dX8_noPart_21 rfl rfl (Nat.le_refl _) (Nat.le_refl _) (by first | exact h0 j hj e | exact h1 (nat_no (by omega) g))
  · skip
    refine wp_if_ne0 (tgt := 20) dX8_noPart_13 (by decide) ?_
    refine wp_iconst (v := 1) dX8_noPart_16 (by decide) ?_
    refine wp_goto (tgt := 21) dX8_noPart_17 (by decide) ?_
    exact wp_retZ dX8_noPart_21 rfl rfl (Nat.le_refl _) (Nat.le_refl _) (by first | exact h0 j hj e | exact h1 (nat_no (by omega) g))

theorem c_noPerson (d : Nat) {n : Nat} {t : eT} {I : eI} {R : eR} {Q : Int32 → Nat → eT → eI → eR → Prop} (hst : ST n t R) {m : Nat} (hk : I 94 9 = nI m) (hk4 : m ≤ 4) {x : Int32} (h0 : ∀ j, j < m → x = nI j → Q 0 n t I R) (h1 : (∀ j, j < m → x ≠ nI j) → Q 1 n t I R) : MC yX8_noPerson cX8_noPerson 2 (some .boolean) (d + 1) 0 0 [.ref 94, .int x] n t I R (qI Q) := by
  refine mc_intro (L0 := [.ref 94, .int x]) (by decide) rfl (Nat.le_of_ble_eq_true rfl) ?_
  refine wp_iload_n (i := 1) dX8_noPerson_0 rfl rfl ?_
  refine wp_i2l dX8_noPerson_1 ?_
  refine wp_lconst (v := 0) dX8_noPerson_2 (by decide) ?_
  refine wp_aload_n (i := 0) dX8_noPerson_3 rfl rfl ?_
  refine wp_getI dX8_noPerson_4 fl_X8_172 rfl (st_k hst rfl) ?_
  refine wp_i2l dX8_noPerson_7 ?_
  refine wp_lconst (v := 1) dX8_noPerson_8 (by decide) ?_
  refine wp_lsub dX8_noPerson_9 ?_
  refine wp_S3i dX8_noPerson_10 mw_887 mw_888 mi_X8_in (Nat.le_of_ble_eq_true rfl) (Nat.le_refl _) (Nat.le_refl _) (c_in d (a := 0) (b := (m : Int) - 1) rfl (by rw [hk]; exact nI_subL (by omega)) (fun g1 g2 => ?_) (fun g => ?_)) 
  · obtain ⟨j, hj, e⟩ := nat_yes (by omega) g1 g2
    refine wp_if_ne1 (tgt := 20) dX8_noPerson_13 (by decide) ?_
    refine wp_iconst (v := 0) dX8_noPerson_20 (by decide) ?_
    exact wp_retZ dX8_noPerson_21 rfl rfl (Nat.le_refl _) (Nat.le_refl _) (by first | exact h0 j hj e | exact h1 (nat_no (by omega) g))
  · skip
    refine wp_if_ne0 (tgt := 20) dX8_noPerson_13 (by decide) ?_
    refine wp_iconst (v := 1) dX8_noPerson_16 (by decide) ?_
    refine wp_goto (tgt := 21) dX8_noPerson_17 (by decide) ?_
    exact wp_retZ dX8_noPerson_21 rfl rfl (Nat.le_refl _) (Nat.le_refl _) (by first | exact h0 j hj e | exact h1 (nat_no (by omega) g))

theorem c_isPlaceM (d : Nat) {n : Nat} {t : eT} {I : eI} {R : eR} {Q : Int32 → Nat → eT → eI → eR → Prop} {v : Int32} (h1 : 0 ≤ v.toInt → v.toInt ≤ 11 → Q 1 n t I R) (h0 : ¬ (0 ≤ v.toInt ∧ v.toInt ≤ 11) → Q 0 n t I R) : MC yX8_isPlace cX8_isPlace 1 (some .boolean) (d + 1) 0 0 [.int v] n t I R (qI Q) := by
  refine mc_intro (L0 := [.int v]) (by decide) rfl (Nat.le_of_ble_eq_true rfl) ?_
  refine wp_iload_n (i := 0) dX8_isPlace_0 rfl rfl ?_
  refine wp_i2l dX8_isPlace_1 ?_
  refine wp_lconst (v := 0) dX8_isPlace_2 (by decide) ?_
  refine wp_ldc2 (v := 11) dX8_isPlace_3 mw_1027 ?_
  refine wp_S3i dX8_isPlace_6 mw_887 mw_888 mi_X8_in (Nat.le_of_ble_eq_true rfl) (Nat.le_refl _) (Nat.le_refl _) (c_in d rfl rfl (fun g1 g2 => ?_) (fun g => ?_)) 
  · skip
    exact wp_retZ dX8_isPlace_9 rfl rfl (Nat.le_refl _) (Nat.le_refl _) (by first | exact h1 g1 g2 | exact h0 g)
  · skip
    exact wp_retZ dX8_isPlace_9 rfl rfl (Nat.le_refl _) (Nat.le_refl _) (by first | exact h1 g1 g2 | exact h0 g)

theorem c_noSheet (d : Nat) {n : Nat} {t : eT} {I : eI} {R : eR} {Q : Int32 → Nat → eT → eI → eR → Prop} {v : Int32} (h0 : ∀ j, j < 4 → v = nI j → Q 0 n t I R) (h1 : (∀ j, j < 4 → v ≠ nI j) → Q 1 n t I R) : MC yX8_noSheet cX8_noSheet 1 (some .boolean) (d + 1) 0 0 [.int v] n t I R (qI Q) := by
  refine mc_intro (L0 := [.int v]) (by decide) rfl (Nat.le_of_ble_eq_true rfl) ?_
  refine wp_iload_n (i := 0) dX8_noSheet_0 rfl rfl ?_
  refine wp_i2l dX8_noSheet_1 ?_
  refine wp_lconst (v := 0) dX8_noSheet_2 (by decide) ?_
  refine wp_ldc2 (v := 3) dX8_noSheet_3 mw_886 ?_
  refine wp_S3i dX8_noSheet_6 mw_887 mw_888 mi_X8_in (Nat.le_of_ble_eq_true rfl) (Nat.le_refl _) (Nat.le_refl _) (c_in d (a := 0) (b := 3) rfl rfl (fun g1 g2 => ?_) (fun g => ?_)) 
  · obtain ⟨j, hj, e⟩ := nat_yes (m := 4) (by omega) g1 (by omega)
    refine wp_if_ne1 (tgt := 16) dX8_noSheet_9 (by decide) ?_
    refine wp_iconst (v := 0) dX8_noSheet_16 (by decide) ?_
    exact wp_retZ dX8_noSheet_17 rfl rfl (Nat.le_refl _) (Nat.le_refl _) (by first | exact h0 j hj e | exact h1 (nat_no (m := 4) (by omega) (by omega)))
  · skip
    refine wp_if_ne0 (tgt := 16) dX8_noSheet_9 (by decide) ?_
    refine wp_iconst (v := 1) dX8_noSheet_12 (by decide) ?_
    refine wp_goto (tgt := 17) dX8_noSheet_13 (by decide) ?_
    exact wp_retZ dX8_noSheet_17 rfl rfl (Nat.le_refl _) (Nat.le_refl _) (by first | exact h0 j hj e | exact h1 (nat_no (m := 4) (by omega) (by omega)))

theorem c_refused (d : Nat) {n : Nat} {t : eT} {I : eI} {R : eR} {Q : Int32 → Nat → eT → eI → eR → Prop} (hst : ST n t R) {w : Int32} (hq : Q w n t (eU I 94 0 0) R) : MC yX8_refused cX8_refused 2 (some .int) d 0 0 [.ref 94, .int w] n t I R (qI Q) := by
  refine mc_intro (L0 := [.ref 94, .int w]) (by decide) rfl (Nat.le_of_ble_eq_true rfl) ?_
  refine wp_aload_n (i := 0) dX8_refused_0 rfl rfl ?_
  refine wp_iconst (v := 0) dX8_refused_1 (by decide) ?_
  refine wp_putI dX8_refused_2 fl_X8_119 rfl (Or.inl rfl) (st_k hst rfl) ?_
  refine wp_iload_n (i := 1) dX8_refused_5 rfl rfl ?_
  exact wp_retI dX8_refused_6 rfl (Nat.le_refl _) (Nat.le_refl _) hq

theorem c_failed (d : Nat) {n : Nat} {t : eT} {I : eI} {R : eR} {Q : Int32 → Nat → eT → eI → eR → Prop} (hst : ST n t R) {w r : Int32} (hr : -10 - w = r) (hq : Q r n t (eU I 94 0 w) R) : MC yX8_failed cX8_failed 2 (some .int) d 0 0 [.ref 94, .int w] n t I R (qI Q) := by
  refine mc_intro (L0 := [.ref 94, .int w]) (by decide) rfl (Nat.le_of_ble_eq_true rfl) ?_
  refine wp_aload_n (i := 0) dX8_failed_0 rfl rfl ?_
  refine wp_iload_n (i := 1) dX8_failed_1 rfl rfl ?_
  refine wp_putI dX8_failed_2 fl_X8_119 rfl (Or.inl rfl) (st_k hst rfl) ?_
  refine wp_bipush (v := (-10)) dX8_failed_5 (by decide) ?_
  refine wp_iload_n (i := 1) dX8_failed_7 rfl rfl ?_
  refine wp_isub dX8_failed_8 ?_
  exact wp_retI dX8_failed_9 rfl (Nat.le_refl _) (Nat.le_refl _) (by rw [hr]; exact hq)

theorem c_lost (d : Nat) {n : Nat} {t : eT} {I : eI} {R : eR} {Q : Int64 → Nat → eT → eI → eR → Prop} (hq : Q (-9223372036854775808) n t I R) : MC yX8_lost cX8_lost 0 (some .long) d 0 0 [] n t I R (qL Q) := by
  refine mc_intro (L0 := []) (by decide) rfl (Nat.le_of_ble_eq_true rfl) ?_
  refine wp_ldc2 (v := (-9223372036854775808)) dX8_lost_0 mw_1110 ?_
  exact wp_retL dX8_lost_3 rfl (Nat.le_refl _) (Nat.le_refl _) hq

theorem c_failedLong (d : Nat) {n : Nat} {t : eT} {I : eI} {R : eR} {Q : Int64 → Nat → eT → eI → eR → Prop} (hst : ST n t R) {w : Int32} (hq : Q (-9223372036854775808) n t (eU I 94 0 w) R) : MC yX8_failedLong cX8_failedLong 2 (some .long) (d + 1) 0 0 [.ref 94, .int w] n t I R (qL Q) := by
  refine mc_intro (L0 := [.ref 94, .int w]) (by decide) rfl (Nat.le_of_ble_eq_true rfl) ?_
  refine wp_aload_n (i := 0) dX8_failedLong_0 rfl rfl ?_
  refine wp_iload_n (i := 1) dX8_failedLong_1 rfl rfl ?_
  refine wp_putI dX8_failedLong_2 fl_X8_119 rfl (Or.inl rfl) (st_k hst rfl) ?_
  refine wp_S0l dX8_failedLong_5 mw_1107 mw_1108 mi_X8_lost (Nat.le_of_ble_eq_true rfl) (Nat.le_refl _) (Nat.le_refl _) (c_lost d ?_) 
  exact wp_retL dX8_failedLong_8 rfl (Nat.le_refl _) (Nat.le_refl _) hq

theorem c_sizeOf (d : Nat) {n : Nat} {t : eT} {I : eI} {R : eR} {Q : Int32 → Nat → eT → eI → eR → Prop} {v : Int32} (hq : Q (if v < 0 then -v else v) n t I R) : MC yX8_sizeOf cX8_sizeOf 1 (some .int) d 0 0 [.int v] n t I R (qI Q) := by
  refine mc_intro (L0 := [.int v]) (by decide) rfl (Nat.le_of_ble_eq_true rfl) ?_
  refine wp_iload_n (i := 0) dX8_sizeOf_0 rfl rfl ?_
  refine wp_if_ge (tgt := 9) dX8_sizeOf_1 (by decide) (fun zq1 => ?_) (fun zq1 => ?_) 
  · refine wp_iload_n (i := 0) dX8_sizeOf_9 rfl rfl ?_
    exact wp_retI dX8_sizeOf_10 rfl (Nat.le_refl _) (Nat.le_refl _) (by first | (rw [if_pos (by first | assumption | exact Int32.not_le.mp (by assumption))] at hq; exact hq) | (rw [if_neg (by first | assumption | exact Int32.not_lt.mpr (by assumption))] at hq; exact hq))
  · refine wp_iload_n (i := 0) dX8_sizeOf_4 rfl rfl ?_
    refine wp_ineg dX8_sizeOf_5 ?_
    refine wp_goto (tgt := 10) dX8_sizeOf_6 (by decide) ?_
    exact wp_retI dX8_sizeOf_10 rfl (Nat.le_refl _) (Nat.le_refl _) (by first | (rw [if_pos (by first | assumption | exact Int32.not_le.mp (by assumption))] at hq; exact hq) | (rw [if_neg (by first | assumption | exact Int32.not_lt.mpr (by assumption))] at hq; exact hq))

theorem c_greater (d : Nat) {n : Nat} {t : eT} {I : eI} {R : eR} {Q : Int32 → Nat → eT → eI → eR → Prop} {v w : Int32} (hq : Q (if w < v then v else w) n t I R) : MC yX8_greater cX8_greater 2 (some .int) d 0 0 [.int v, .int w] n t I R (qI Q) := by
  refine mc_intro (L0 := [.int v, .int w]) (by decide) rfl (Nat.le_of_ble_eq_true rfl) ?_
  refine wp_iload_n (i := 0) dX8_greater_0 rfl rfl ?_
  refine wp_iload_n (i := 1) dX8_greater_1 rfl rfl ?_
  refine wp_icmp_le (tgt := 9) dX8_greater_2 (by decide) (fun zq2 => ?_) (fun zq2 => ?_) 
  · refine wp_iload_n (i := 1) dX8_greater_9 rfl rfl ?_
    exact wp_retI dX8_greater_10 rfl (Nat.le_refl _) (Nat.le_refl _) (by first | (rw [if_pos (by first | assumption | exact Int32.not_le.mp (by assumption))] at hq; exact hq) | (rw [if_neg (by first | assumption | exact Int32.not_lt.mpr (by assumption))] at hq; exact hq))
  · refine wp_iload_n (i := 0) dX8_greater_5 rfl rfl ?_
    refine wp_goto (tgt := 10) dX8_greater_6 (by decide) ?_
    exact wp_retI dX8_greater_10 rfl (Nat.le_refl _) (Nat.le_refl _) (by first | (rw [if_pos (by first | assumption | exact Int32.not_le.mp (by assumption))] at hq; exact hq) | (rw [if_neg (by first | assumption | exact Int32.not_lt.mpr (by assumption))] at hq; exact hq))

theorem c_traced (d : Nat) {n : Nat} {t : eT} {I : eI} {R : eR} {Q : Nat → eT → eI → eR → Prop} (hst : ST n t R) {w : Int32} (hq : Q n t (eU I 94 42 (31 * I 94 42 + w)) R) : MC yX8_traced cX8_traced 2 none d 0 0 [.ref 94, .int w] n t I R (qV Q) := by
  refine mc_intro (L0 := [.ref 94, .int w]) (by decide) rfl (Nat.le_of_ble_eq_true rfl) ?_
  refine wp_aload_n (i := 0) dX8_traced_0 rfl rfl ?_
  refine wp_bipush (v := 31) dX8_traced_1 (by decide) ?_
  refine wp_aload_n (i := 0) dX8_traced_3 rfl rfl ?_
  refine wp_getI dX8_traced_4 fl_X8_301 rfl (st_k hst rfl) ?_
  refine wp_imul dX8_traced_7 ?_
  refine wp_iload_n (i := 1) dX8_traced_8 rfl rfl ?_
  refine wp_iadd dX8_traced_9 ?_
  refine wp_putI dX8_traced_10 fl_X8_301 rfl (Or.inl rfl) (st_k hst rfl) ?_
  exact wp_retV dX8_traced_13 rfl (Nat.le_refl _) (Nat.le_refl _) hq

theorem c_leaveTrace (d : Nat) {n : Nat} {t : eT} {I : eI} {R : eR} {Q : Nat → eT → eI → eR → Prop} (hst : ST n t R) {w : Int32} (hq : Q n t (eU I 4 8 (31 * I 4 8 + w)) R) : MC yX7_leaveTrace cX7_leaveTrace 2 none d 0 0 [.ref 4, .int w] n t I R (qV Q) := by
  refine mc_intro (L0 := [.ref 4, .int w]) (by decide) rfl (Nat.le_of_ble_eq_true rfl) ?_
  refine wp_aload_n (i := 0) dX7_leaveTrace_0 rfl rfl ?_
  refine wp_bipush (v := 31) dX7_leaveTrace_1 (by decide) ?_
  refine wp_aload_n (i := 0) dX7_leaveTrace_3 rfl rfl ?_
  refine wp_getI dX7_leaveTrace_4 fl_X7_59 rfl (st_k hst rfl) ?_
  refine wp_imul dX7_leaveTrace_7 ?_
  refine wp_iload_n (i := 1) dX7_leaveTrace_8 rfl rfl ?_
  refine wp_iadd dX7_leaveTrace_9 ?_
  refine wp_putI dX7_leaveTrace_10 fl_X7_59 rfl (Or.inl rfl) (st_k hst rfl) ?_
  exact wp_retV dX7_leaveTrace_13 rfl (Nat.le_refl _) (Nat.le_refl _) hq

theorem c_trace (d : Nat) {n : Nat} {t : eT} {I : eI} {R : eR} {Q : Int32 → Nat → eT → eI → eR → Prop} (hst : ST n t R) (hq : Q (I 4 8) n t I R) : MC yX7_trace cX7_trace 1 (some .int) d 0 0 [.ref 4] n t I R (qI Q) := by
  refine mc_intro (L0 := [.ref 4]) (by decide) rfl (Nat.le_of_ble_eq_true rfl) ?_
  refine wp_aload_n (i := 0) dX7_trace_0 rfl rfl ?_
  refine wp_getI dX7_trace_1 fl_X7_59 rfl (st_k hst rfl) ?_
  exact wp_retI dX7_trace_4 rfl (Nat.le_refl _) (Nat.le_refl _) hq

theorem c_fault (d : Nat) {n : Nat} {t : eT} {I : eI} {R : eR} {Q : Int32 → Nat → eT → eI → eR → Prop} (hst : ST n t R) (hq : Q (I 4 9) n t I R) : MC yX7_fault cX7_fault 1 (some .int) d 0 0 [.ref 4] n t I R (qI Q) := by
  refine mc_intro (L0 := [.ref 4]) (by decide) rfl (Nat.le_of_ble_eq_true rfl) ?_
  refine wp_aload_n (i := 0) dX7_fault_0 rfl rfl ?_
  refine wp_getI dX7_fault_1 fl_X7_62 rfl (st_k hst rfl) ?_
  exact wp_retI dX7_fault_4 rfl (Nat.le_refl _) (Nat.le_refl _) hq

theorem c_traceM (d : Nat) {n : Nat} {t : eT} {I : eI} {R : eR} {Q : Int32 → Nat → eT → eI → eR → Prop} (hst : ST n t R) (hq : Q (I 94 42) n t I R) : MC yX8_trace cX8_trace 1 (some .int) d 0 0 [.ref 94] n t I R (qI Q) := by
  refine mc_intro (L0 := [.ref 94]) (by decide) rfl (Nat.le_of_ble_eq_true rfl) ?_
  refine wp_aload_n (i := 0) dX8_trace_0 rfl rfl ?_
  refine wp_getI dX8_trace_1 fl_X8_301 rfl (st_k hst rfl) ?_
  exact wp_retI dX8_trace_4 rfl (Nat.le_refl _) (Nat.le_refl _) hq

theorem c_faultM (d : Nat) {n : Nat} {t : eT} {I : eI} {R : eR} {Q : Int32 → Nat → eT → eI → eR → Prop} (hst : ST n t R) (hq : Q (I 94 0) n t I R) : MC yX8_fault cX8_fault 1 (some .int) d 0 0 [.ref 94] n t I R (qI Q) := by
  refine mc_intro (L0 := [.ref 94]) (by decide) rfl (Nat.le_of_ble_eq_true rfl) ?_
  refine wp_aload_n (i := 0) dX8_fault_0 rfl rfl ?_
  refine wp_getI dX8_fault_1 fl_X8_119 rfl (st_k hst rfl) ?_
  exact wp_retI dX8_fault_4 rfl (Nat.le_refl _) (Nat.le_refl _) hq

