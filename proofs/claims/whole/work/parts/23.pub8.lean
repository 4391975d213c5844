theorem c_cellM (d : Nat) {n : Nat} {t : eT} {I : eI} {R : eR} {Q : Int64 → Nat → eT → eI → eR → Prop} (hst : ST n t R) (hsz : ∀ j, j < 4 → I 124 j < 0 ∨ ∃ len, len ≤ 60 ∧ I 124 j = nI len) {x y l : Int32} (h1 : (∀ j, j < 4 → x ≠ nI j) → Q (-9223372036854775808) n t (eU I 94 0 0) R) (h1b : ¬ (0 ≤ l.toInt ∧ l.toInt ≤ 2) → Q (-9223372036854775808) n t (eU I 94 0 0) R) (h2 : ∀ j, j < 4 → x = nI j → (0 ≤ l.toInt ∧ l.toInt ≤ 2) → I 124 j < 0 → Q (-9223372036854775808) n t (eU (eU I 94 0 0) 94 0 1) R) (h3 : ∀ j len, j < 4 → x = nI j → (0 ≤ l.toInt ∧ l.toInt ≤ 2) → len ≤ 60 → I 124 j = nI len → ¬ I 125 j = l → Q (-9223372036854775808) n t (eU (eU I 94 0 0) 94 0 2) R) (h4 : ∀ j len, j < 4 → x = nI j → (0 ≤ l.toInt ∧ l.toInt ≤ 2) → len ≤ 60 → I 124 j = nI len → I 125 j = l → ¬ (0 ≤ y.toInt ∧ y.toInt ≤ (len : Int) - 1) → Q (-9223372036854775808) n t (eU (eU I 94 0 0) 94 0 3) R) (h5 : ∀ j len i, j < 4 → x = nI j → (0 ≤ l.toInt ∧ l.toInt ≤ 2) → len ≤ 60 → I 124 j = nI len → I 125 j = l → i < len → y = nI i → Q (I 126 (60 * j + i)).toInt64 n t (eU I 94 0 0) R) : MC yX8_cell cX8_cell 4 (some .long) (d + 3) 0 0 [.ref 94, .int x, .int y, .int l] n t I R (qL Q) := by
  refine mc_intro (L0 := [.ref 94, .int x, .int y, .int l]) (by decide) rfl (Nat.le_of_ble_eq_true rfl) ?_
  refine wp_aload_n (i := 0) dX8_cell_0 rfl rfl ?_
  refine wp_iconst (v := 0) dX8_cell_1 (by decide) ?_
  refine wp_putI dX8_cell_2 fl_X8_119 rfl (Or.inl rfl) (st_k hst rfl) ?_
  refine wp_iload_n (i := 1) dX8_cell_5 rfl rfl ?_
  refine wp_S1i dX8_cell_6 mw_883 mw_884 mi_X8_noSheet (Nat.le_of_ble_eq_true rfl) (Nat.le_refl _) (Nat.le_refl _) (c_noSheet _ (fun w hw ew => ?_) (fun no6 => ?_)) 
  · subst ew
    refine wp_if_ne0 (tgt := 24) dX8_cell_9 (by decide) ?_
    refine wp_iload_n (i := 3) dX8_cell_12 rfl rfl ?_
    refine wp_i2l dX8_cell_13 ?_
    refine wp_lconst (v := 0) dX8_cell_14 (by decide) ?_
    refine wp_ldc2 (v := 2) dX8_cell_15 mw_898 ?_
    refine wp_S3i dX8_cell_18 mw_887 mw_888 mi_X8_in (Nat.le_of_ble_eq_true rfl) (Nat.le_refl _) (Nat.le_refl _) (c_in _ (a := 0) (b := 2) rfl rfl (fun ga18 gb18 => ?_) (fun gn18 => ?_)) 
    · skip
      refine wp_if_ne1 (tgt := 28) dX8_cell_21 (by decide) ?_
      rcases hsz w hw with hneg | ⟨len, hlen, hsl⟩
      · skip
        refine wp_aload_n (i := 0) dX8_cell_28 rfl rfl ?_
        refine wp_getR dX8_cell_29 fl_X8_98 rfl (st_k hst rfl) (st_r hst rfl) ?_
        refine wp_iload_n (i := 1) dX8_cell_32 rfl rfl ?_
        refine wp_ild dX8_cell_33 (st_t hst rfl) rfl (by omega) ?_
        refine wp_if_lt (tgt := 53) dX8_cell_34 (by decide) (fun zq34 => ?_) (fun zq34 => absurd hneg zq34) 
        refine wp_aload_n (i := 0) dX8_cell_53 rfl rfl ?_
        refine wp_iload_n (i := 1) dX8_cell_54 rfl rfl ?_
        refine wp_iload_n (i := 2) dX8_cell_55 rfl rfl ?_
        refine wp_V2i dX8_cell_56 mw_1154 mw_1156 ms_52 mi_X8_noCell (Nat.le_of_ble_eq_true rfl) (Nat.le_refl _) (Nat.le_refl _) (st_k hst rfl) (by decide) rfl (c_noCellN _ hst hw (by exact hneg) ?_) 
        · skip
          refine wp_if_le (tgt := 75) dX8_cell_59 (by decide) (fun zq59 => absurd zq59 (by decide)) (fun zq59 => ?_) 
          refine wp_aload_n (i := 0) dX8_cell_62 rfl rfl ?_
          refine wp_aload_n (i := 0) dX8_cell_63 rfl rfl ?_
          refine wp_iload_n (i := 1) dX8_cell_64 rfl rfl ?_
          refine wp_iload_n (i := 2) dX8_cell_65 rfl rfl ?_
          refine wp_V2i dX8_cell_66 mw_1154 mw_1156 ms_52 mi_X8_noCell (Nat.le_of_ble_eq_true rfl) (Nat.le_refl _) (Nat.le_refl _) (st_k hst rfl) (by decide) rfl (c_noCellN _ hst hw (by exact hneg) ?_) 
          · skip
            refine wp_V1l dX8_cell_69 mw_1162 mw_1164 ms_53 mi_X8_failedLong (Nat.le_of_ble_eq_true rfl) (Nat.le_refl _) (Nat.le_refl _) (st_k hst rfl) (by decide) rfl (c_failedLong _ hst ?_) 
            refine wp_goto (tgt := 87) dX8_cell_72 (by decide) ?_
            exact wp_retL dX8_cell_87 rfl (Nat.le_refl _) (Nat.le_refl _) (h2 w hw rfl ⟨ga18, gb18⟩ hneg)
      · skip
        refine wp_aload_n (i := 0) dX8_cell_28 rfl rfl ?_
        refine wp_getR dX8_cell_29 fl_X8_98 rfl (st_k hst rfl) (st_r hst rfl) ?_
        refine wp_iload_n (i := 1) dX8_cell_32 rfl rfl ?_
        refine wp_ild dX8_cell_33 (st_t hst rfl) rfl (by omega) ?_
        refine wp_if_lt (tgt := 53) dX8_cell_34 (by decide) (fun zq34 => absurd zq34 (by show ¬ I 124 w < 0; rw [hsl]; exact nI_pos (by omega))) (fun zq34 => ?_) 
        refine wp_aload_n (i := 0) dX8_cell_37 rfl rfl ?_
        refine wp_getR dX8_cell_38 fl_X8_101 rfl (st_k hst rfl) (st_r hst rfl) ?_
        refine wp_iload_n (i := 1) dX8_cell_41 rfl rfl ?_
        refine wp_ild dX8_cell_42 (st_t hst rfl) rfl (by omega) ?_
        refine wp_iload_n (i := 3) dX8_cell_43 rfl rfl ?_
        refine wp_icmp_eq (tgt := 53) dX8_cell_44 (by decide) (fun zq44 => ?_) (fun zq44 => ?_) 
        · refine wp_aload_n (i := 0) dX8_cell_53 rfl rfl ?_
          refine wp_iload_n (i := 1) dX8_cell_54 rfl rfl ?_
          refine wp_iload_n (i := 2) dX8_cell_55 rfl rfl ?_
          refine wp_V2i dX8_cell_56 mw_1154 mw_1156 ms_52 mi_X8_noCell (Nat.le_of_ble_eq_true rfl) (Nat.le_refl _) (Nat.le_refl _) (st_k hst rfl) (by decide) rfl (c_noCell _ hst hw (by exact hsl) hlen (fun i hi ei => ?_) (fun gr => ?_)) 
          · subst ei
            refine wp_if_le (tgt := 75) dX8_cell_59 (by decide) (fun zq59 => ?_) (fun zq59 => absurd zq59 (by decide)) 
            refine wp_aload_n (i := 0) dX8_cell_75 rfl rfl ?_
            refine wp_getR dX8_cell_76 fl_X8_104 rfl (st_k hst rfl) (st_r hst rfl) ?_
            refine wp_bipush (v := 60) dX8_cell_79 (by decide) ?_
            refine wp_iload_n (i := 1) dX8_cell_81 rfl rfl ?_
            refine wp_imul dX8_cell_82 ?_
            refine wp_iload_n (i := 2) dX8_cell_83 rfl rfl ?_
            refine wp_iadd dX8_cell_84 ?_
            refine wp_ild (j := 60 * w + i) dX8_cell_85 (st_t hst rfl) (n_lin 60 w i) (by omega) ?_
            refine wp_i2l dX8_cell_86 ?_
            exact wp_retL dX8_cell_87 rfl (Nat.le_refl _) (Nat.le_refl _) (h5 w len i hw rfl ⟨ga18, gb18⟩ hlen hsl zq44 hi rfl)
          · skip
            refine wp_if_le (tgt := 75) dX8_cell_59 (by decide) (fun zq59 => absurd zq59 (by decide)) (fun zq59 => ?_) 
            refine wp_aload_n (i := 0) dX8_cell_62 rfl rfl ?_
            refine wp_aload_n (i := 0) dX8_cell_63 rfl rfl ?_
            refine wp_iload_n (i := 1) dX8_cell_64 rfl rfl ?_
            refine wp_iload_n (i := 2) dX8_cell_65 rfl rfl ?_
            refine wp_V2i dX8_cell_66 mw_1154 mw_1156 ms_52 mi_X8_noCell (Nat.le_of_ble_eq_true rfl) (Nat.le_refl _) (Nat.le_refl _) (st_k hst rfl) (by decide) rfl (c_noCell _ hst hw (by exact hsl) hlen (fun i hi ei => absurd ((nat_iff (by omega)).mpr ⟨i, hi, ei⟩) gr) (fun gr2 => ?_)) 
            · skip
              refine wp_V1l dX8_cell_69 mw_1162 mw_1164 ms_53 mi_X8_failedLong (Nat.le_of_ble_eq_true rfl) (Nat.le_refl _) (Nat.le_refl _) (st_k hst rfl) (by decide) rfl (c_failedLong _ hst ?_) 
              refine wp_goto (tgt := 87) dX8_cell_72 (by decide) ?_
              exact wp_retL dX8_cell_87 rfl (Nat.le_refl _) (Nat.le_refl _) (h4 w len hw rfl ⟨ga18, gb18⟩ hlen hsl zq44 gr)
        · refine wp_aload_n (i := 0) dX8_cell_47 rfl rfl ?_
          refine wp_iconst (v := 2) dX8_cell_48 (by decide) ?_
          refine wp_V1l dX8_cell_49 mw_1162 mw_1164 ms_53 mi_X8_failedLong (Nat.le_of_ble_eq_true rfl) (Nat.le_refl _) (Nat.le_refl _) (st_k hst rfl) (by decide) rfl (c_failedLong _ hst ?_) 
          exact wp_retL dX8_cell_52 rfl (Nat.le_refl _) (Nat.le_refl _) (h3 w len hw rfl ⟨ga18, gb18⟩ hlen hsl zq44)
    · skip
      refine wp_if_ne0 (tgt := 28) dX8_cell_21 (by decide) ?_
      refine wp_S0l dX8_cell_24 mw_1107 mw_1108 mi_X8_lost (Nat.le_of_ble_eq_true rfl) (Nat.le_refl _) (Nat.le_refl _) (c_lost _ ?_) 
      exact wp_retL dX8_cell_27 rfl (Nat.le_refl _) (Nat.le_refl _) (h1b gn18)
  · skip
    refine wp_if_ne1 (tgt := 24) dX8_cell_9 (by decide) ?_
    refine wp_S0l dX8_cell_24 mw_1107 mw_1108 mi_X8_lost (Nat.le_of_ble_eq_true rfl) (Nat.le_refl _) (Nat.le_refl _) (c_lost _ ?_) 
    exact wp_retL dX8_cell_27 rfl (Nat.le_refl _) (Nat.le_refl _) (h1 no6)

theorem c_tell (d : Nat) {n : Nat} {t : eT} {I : eI} {R : eR} {Q : Int32 → Nat → eT → eI → eR → Prop} (hst : ST n t R) {k : Nat} (hk : I 5 0 = nI k) (hk4 : k ≤ 10) (hkd : ∀ j, j < k → I 6 j = 0 ∨ I 6 j = 1 ∨ I 6 j = 2) {x : Int32} (h1 : (∀ j, j < k → x ≠ nI j) → Q (-1) n t I R) (h2 : ∀ j, j < k → x = nI j → I 6 j = 0 → Q (I 7 j) n t (eU I 4 8 (31 * (I 4 8) + 1)) R) (h3 : ∀ j, j < k → x = nI j → I 6 j = 1 → Q (I 7 j + 1000) n t (eU (eU I 4 8 (31 * (I 4 8) + 2)) 4 8 (31 * (31 * (I 4 8) + 2) + 1)) R) (h4 : ∀ j, j < k → x = nI j → I 6 j = 2 → Q (I 7 j + 1000 + I 7 j) n t (eU (eU (eU (eU I 4 8 (31 * (I 4 8) + 3)) 4 8 (31 * (31 * (I 4 8) + 3) + 2)) 4 8 (31 * (31 * (31 * (I 4 8) + 3) + 2) + 1)) 4 8 (31 * (31 * (31 * (31 * (I 4 8) + 3) + 2) + 1) + 1)) R) : MC yX7_tell cX7_tell 2 (some .int) (d + 4) 0 0 [.ref 4, .int x] n t I R (qI Q) := by
  refine mc_intro (L0 := [.ref 4, .int x]) (by decide) rfl (Nat.le_of_ble_eq_true rfl) ?_
  refine wp_aload_n (i := 0) dX7_tell_0 rfl rfl ?_
  refine wp_getR dX7_tell_1 fl_X7_12 rfl (st_k hst rfl) (st_r hst rfl) ?_
  refine wp_iload_n (i := 1) dX7_tell_4 rfl rfl ?_
  refine wp_V1i dX7_tell_5 mw_351 mw_352 mw_353 mi_X2_has (Nat.le_of_ble_eq_true rfl) (Nat.le_refl _) (Nat.le_refl _) (st_k hst rfl) (by decide) rfl (c_has _ hst (by exact hk) hk4 (fun j5 hj5 e5 => ?_) (fun no5 => ?_)) 
  · subst e5
    refine wp_if_ne1 (tgt := 13) dX7_tell_8 (by decide) ?_
    refine wp_aload_n (i := 0) dX7_tell_13 rfl rfl ?_
    refine wp_getR dX7_tell_14 fl_X7_12 rfl (st_k hst rfl) (st_r hst rfl) ?_
    refine wp_getR dX7_tell_17 fl_X7_102 rfl (st_k hst rfl) (st_r hst rfl) ?_
    refine wp_iload_n (i := 1) dX7_tell_20 rfl rfl ?_
    refine wp_ild dX7_tell_21 (st_t hst rfl) rfl (by omega) ?_
    rcases hkd j5 hj5 with hk0 | hk0 | hk0
    · rw [hk0]
      refine wp_lookup (tgt := 60) dX7_tell_22 (by decide) (off := 38) (by decide) (by decide) ?_
      refine wp_aload_n (i := 0) dX7_tell_60 rfl rfl ?_
      refine wp_iload_n (i := 1) dX7_tell_61 rfl rfl ?_
      refine wp_V1i dX7_tell_62 mw_710 mw_712 ms_24 mi_X7_partBody (Nat.le_of_ble_eq_true rfl) (Nat.le_refl _) (Nat.le_refl _) (st_k hst rfl) (by decide) rfl (c_partBody _ hst (j := j5) (by omega) ?_) 
      exact wp_retI dX7_tell_65 rfl (Nat.le_refl _) (Nat.le_refl _) (h2 j5 hj5 rfl hk0)
    · rw [hk0]
      refine wp_lookup (tgt := 54) dX7_tell_22 (by decide) (off := 32) (by decide) (by decide) ?_
      refine wp_aload_n (i := 0) dX7_tell_54 rfl rfl ?_
      refine wp_iload_n (i := 1) dX7_tell_55 rfl rfl ?_
      refine wp_V1i dX7_tell_56 mw_706 mw_708 ms_23 mi_X7_deedBody (Nat.le_of_ble_eq_true rfl) (Nat.le_refl _) (Nat.le_refl _) (st_k hst rfl) (by decide) rfl (c_deedBody _ hst (j := j5) (by omega) ?_) 
      exact wp_retI dX7_tell_59 rfl (Nat.le_refl _) (Nat.le_refl _) (h3 j5 hj5 rfl hk0)
    · rw [hk0]
      refine wp_lookup (tgt := 48) dX7_tell_22 (by decide) (off := 26) (by decide) (by decide) ?_
      refine wp_aload_n (i := 0) dX7_tell_48 rfl rfl ?_
      refine wp_iload_n (i := 1) dX7_tell_49 rfl rfl ?_
      refine wp_V1i dX7_tell_50 mw_698 mw_700 ms_21 mi_X7_dangerBody (Nat.le_of_ble_eq_true rfl) (Nat.le_refl _) (Nat.le_refl _) (st_k hst rfl) (by decide) rfl (c_dangerBody _ hst (j := j5) (by omega) ?_) 
      exact wp_retI dX7_tell_53 rfl (Nat.le_refl _) (Nat.le_refl _) (h4 j5 hj5 rfl hk0)
  · skip
    refine wp_if_ne0 (tgt := 13) dX7_tell_8 (by decide) ?_
    refine wp_iconst (v := (-1)) dX7_tell_11 (by decide) ?_
    exact wp_retI dX7_tell_12 rfl (Nat.le_refl _) (Nat.le_refl _) (by first | assumption | solve_by_elim [rfl])

theorem c_tellM (d : Nat) {n : Nat} {t : eT} {I : eI} {R : eR} {Q : Int32 → Nat → eT → eI → eR → Prop} (hst : ST n t R) {k : Nat} (hkM : I 94 1 = nI k) (hk4 : k ≤ 10) (hkd : ∀ j, j < k → I 95 j = 0 ∨ I 95 j = 1 ∨ I 95 j = 2) {x : Int32} (h1 : (∀ j, j < k → x ≠ nI j) → Q (-1) n t I R) (h2 : ∀ j, j < k → x = nI j → I 95 j = 0 → Q (I 96 j) n t (eU I 94 42 (31 * (I 94 42) + 1)) R) (h3 : ∀ j, j < k → x = nI j → I 95 j = 1 → Q (I 96 j + 1000) n t (eU (eU I 94 42 (31 * (I 94 42) + 2)) 94 42 (31 * (31 * (I 94 42) + 2) + 1)) R) (h4 : ∀ j, j < k → x = nI j → I 95 j = 2 → Q (2 * I 96 j + 1000) n t (eU (eU (eU (eU I 94 42 (31 * (I 94 42) + 3)) 94 42 (31 * (31 * (I 94 42) + 3) + 2)) 94 42 (31 * (31 * (31 * (I 94 42) + 3) + 2) + 1)) 94 42 (31 * (31 * (31 * (31 * (I 94 42) + 3) + 2) + 1) + 1)) R) : MC yX8_tell cX8_tell 3 (some .int) (d + 2) 0 0 [.ref 94, .int x] n t I R (qI Q) := by
  refine mc_intro (L0 := [.ref 94, .int x, vU]) (by decide) rfl (Nat.le_of_ble_eq_true rfl) ?_
  refine wp_aload_n (i := 0) dX8_tell_0 rfl rfl ?_
  refine wp_iload_n (i := 1) dX8_tell_1 rfl rfl ?_
  refine wp_V1i dX8_tell_2 mw_916 mw_918 ms_31 mi_X8_noPart (Nat.le_of_ble_eq_true rfl) (Nat.le_refl _) (Nat.le_refl _) (st_k hst rfl) (by decide) rfl (c_noPart _ hst (by exact hkM) hk4 (fun j2 hj2 e2 => ?_) (fun no2 => ?_)) 
  · subst e2
    refine wp_if_eq0 (tgt := 10) dX8_tell_5 (by decide) ?_
    refine wp_aload_n (i := 0) dX8_tell_10 rfl rfl ?_
    refine wp_getR dX8_tell_11 fl_X8_7 rfl (st_k hst rfl) (st_r hst rfl) ?_
    refine wp_iload_n (i := 1) dX8_tell_14 rfl rfl ?_
    refine wp_ild dX8_tell_15 (st_t hst rfl) rfl (by omega) ?_
    rcases hkd j2 hj2 with hk0 | hk0 | hk0
    · rw [hk0]
      refine wp_istore_3_2 dX8_tell_16 rfl ?_
      refine wp_iload_n (i := 2) dX8_tell_17 rfl rfl ?_
      refine wp_iconst (v := 2) dX8_tell_18 (by decide) ?_
      refine wp_icmp_ne (tgt := 27) dX8_tell_19 (by decide) (fun zq19 => ?_) (fun zq19 => absurd zq19 (by decide)) 
      refine wp_iload_n (i := 2) dX8_tell_27 rfl rfl ?_
      refine wp_if_le (tgt := 36) dX8_tell_28 (by decide) (fun zq28 => ?_) (fun zq28 => absurd zq28 (by decide)) 
      refine wp_aload_n (i := 0) dX8_tell_36 rfl rfl ?_
      refine wp_iconst (v := 1) dX8_tell_37 (by decide) ?_
      refine wp_V1v dX8_tell_38 mw_1174 mw_1176 ms_54 mi_X8_traced (Nat.le_of_ble_eq_true rfl) (Nat.le_refl _) (Nat.le_refl _) (st_k hst rfl) (by decide) rfl (c_traced _ hst ?_) 
      refine wp_iload_n (i := 2) dX8_tell_41 rfl rfl ?_
      refine wp_iconst (v := 2) dX8_tell_42 (by decide) ?_
      refine wp_icmp_ne (tgt := 51) dX8_tell_43 (by decide) (fun zq43 => ?_) (fun zq43 => absurd zq43 (by decide)) 
      refine wp_iload_n (i := 2) dX8_tell_51 rfl rfl ?_
      refine wp_if_ne (tgt := 64) dX8_tell_52 (by decide) (fun zq52 => absurd zq52 (by decide)) (fun zq52 => ?_) 
      refine wp_aload_n (i := 0) dX8_tell_55 rfl rfl ?_
      refine wp_getR dX8_tell_56 fl_X8_13 rfl (st_k hst rfl) (st_r hst rfl) ?_
      refine wp_iload_n (i := 1) dX8_tell_59 rfl rfl ?_
      refine wp_ild dX8_tell_60 (st_t hst rfl) rfl (by omega) ?_
      refine wp_goto (tgt := 94) dX8_tell_61 (by decide) ?_
      exact wp_retI dX8_tell_94 rfl (Nat.le_refl _) (Nat.le_refl _) (h2 j2 hj2 rfl hk0)
    · rw [hk0]
      refine wp_istore_3_2 dX8_tell_16 rfl ?_
      refine wp_iload_n (i := 2) dX8_tell_17 rfl rfl ?_
      refine wp_iconst (v := 2) dX8_tell_18 (by decide) ?_
      refine wp_icmp_ne (tgt := 27) dX8_tell_19 (by decide) (fun zq19 => ?_) (fun zq19 => absurd zq19 (by decide)) 
      refine wp_iload_n (i := 2) dX8_tell_27 rfl rfl ?_
      refine wp_if_le (tgt := 36) dX8_tell_28 (by decide) (fun zq28 => absurd zq28 (by decide)) (fun zq28 => ?_) 
      refine wp_aload_n (i := 0) dX8_tell_31 rfl rfl ?_
      refine wp_iconst (v := 2) dX8_tell_32 (by decide) ?_
      refine wp_V1v dX8_tell_33 mw_1174 mw_1176 ms_54 mi_X8_traced (Nat.le_of_ble_eq_true rfl) (Nat.le_refl _) (Nat.le_refl _) (st_k hst rfl) (by decide) rfl (c_traced _ hst ?_) 
      refine wp_aload_n (i := 0) dX8_tell_36 rfl rfl ?_
      refine wp_iconst (v := 1) dX8_tell_37 (by decide) ?_
      refine wp_V1v dX8_tell_38 mw_1174 mw_1176 ms_54 mi_X8_traced (Nat.le_of_ble_eq_true rfl) (Nat.le_refl _) (Nat.le_refl _) (st_k hst rfl) (by decide) rfl (c_traced _ hst ?_) 
      refine wp_iload_n (i := 2) dX8_tell_41 rfl rfl ?_
      refine wp_iconst (v := 2) dX8_tell_42 (by decide) ?_
      refine wp_icmp_ne (tgt := 51) dX8_tell_43 (by decide) (fun zq43 => ?_) (fun zq43 => absurd zq43 (by decide)) 
      refine wp_iload_n (i := 2) dX8_tell_51 rfl rfl ?_
      refine wp_if_ne (tgt := 64) dX8_tell_52 (by decide) (fun zq52 => ?_) (fun zq52 => absurd zq52 (by decide)) 
      refine wp_iload_n (i := 2) dX8_tell_64 rfl rfl ?_
      refine wp_iconst (v := 1) dX8_tell_65 (by decide) ?_
      refine wp_icmp_ne (tgt := 82) dX8_tell_66 (by decide) (fun zq66 => absurd zq66 (by decide)) (fun zq66 => ?_) 
      refine wp_aload_n (i := 0) dX8_tell_69 rfl rfl ?_
      refine wp_getR dX8_tell_70 fl_X8_13 rfl (st_k hst rfl) (st_r hst rfl) ?_
      refine wp_iload_n (i := 1) dX8_tell_73 rfl rfl ?_
      refine wp_ild dX8_tell_74 (st_t hst rfl) rfl (by omega) ?_
      refine wp_sipush (v := 1000) dX8_tell_75 (by decide) ?_
      refine wp_iadd dX8_tell_78 ?_
      refine wp_goto (tgt := 94) dX8_tell_79 (by decide) ?_
      exact wp_retI dX8_tell_94 rfl (Nat.le_refl _) (Nat.le_refl _) (h3 j2 hj2 rfl hk0)
    · rw [hk0]
      refine wp_istore_3_2 dX8_tell_16 rfl ?_
      refine wp_iload_n (i := 2) dX8_tell_17 rfl rfl ?_
      refine wp_iconst (v := 2) dX8_tell_18 (by decide) ?_
      refine wp_icmp_ne (tgt := 27) dX8_tell_19 (by decide) (fun zq19 => absurd zq19 (by decide)) (fun zq19 => ?_) 
      refine wp_aload_n (i := 0) dX8_tell_22 rfl rfl ?_
      refine wp_iconst (v := 3) dX8_tell_23 (by decide) ?_
      refine wp_V1v dX8_tell_24 mw_1174 mw_1176 ms_54 mi_X8_traced (Nat.le_of_ble_eq_true rfl) (Nat.le_refl _) (Nat.le_refl _) (st_k hst rfl) (by decide) rfl (c_traced _ hst ?_) 
      refine wp_iload_n (i := 2) dX8_tell_27 rfl rfl ?_
      refine wp_if_le (tgt := 36) dX8_tell_28 (by decide) (fun zq28 => absurd zq28 (by decide)) (fun zq28 => ?_) 
      refine wp_aload_n (i := 0) dX8_tell_31 rfl rfl ?_
      refine wp_iconst (v := 2) dX8_tell_32 (by decide) ?_
      refine wp_V1v dX8_tell_33 mw_1174 mw_1176 ms_54 mi_X8_traced (Nat.le_of_ble_eq_true rfl) (Nat.le_refl _) (Nat.le_refl _) (st_k hst rfl) (by decide) rfl (c_traced _ hst ?_) 
      refine wp_aload_n (i := 0) dX8_tell_36 rfl rfl ?_
      refine wp_iconst (v := 1) dX8_tell_37 (by decide) ?_
      refine wp_V1v dX8_tell_38 mw_1174 mw_1176 ms_54 mi_X8_traced (Nat.le_of_ble_eq_true rfl) (Nat.le_refl _) (Nat.le_refl _) (st_k hst rfl) (by decide) rfl (c_traced _ hst ?_) 
      refine wp_iload_n (i := 2) dX8_tell_41 rfl rfl ?_
      refine wp_iconst (v := 2) dX8_tell_42 (by decide) ?_
      refine wp_icmp_ne (tgt := 51) dX8_tell_43 (by decide) (fun zq43 => absurd zq43 (by decide)) (fun zq43 => ?_) 
      refine wp_aload_n (i := 0) dX8_tell_46 rfl rfl ?_
      refine wp_iconst (v := 1) dX8_tell_47 (by decide) ?_
      refine wp_V1v dX8_tell_48 mw_1174 mw_1176 ms_54 mi_X8_traced (Nat.le_of_ble_eq_true rfl) (Nat.le_refl _) (Nat.le_refl _) (st_k hst rfl) (by decide) rfl (c_traced _ hst ?_) 
      refine wp_iload_n (i := 2) dX8_tell_51 rfl rfl ?_
      refine wp_if_ne (tgt := 64) dX8_tell_52 (by decide) (fun zq52 => ?_) (fun zq52 => absurd zq52 (by decide)) 
      refine wp_iload_n (i := 2) dX8_tell_64 rfl rfl ?_
      refine wp_iconst (v := 1) dX8_tell_65 (by decide) ?_
      refine wp_icmp_ne (tgt := 82) dX8_tell_66 (by decide) (fun zq66 => ?_) (fun zq66 => absurd zq66 (by decide)) 
      refine wp_iconst (v := 2) dX8_tell_82 (by decide) ?_
      refine wp_aload_n (i := 0) dX8_tell_83 rfl rfl ?_
      refine wp_getR dX8_tell_84 fl_X8_13 rfl (st_k hst rfl) (st_r hst rfl) ?_
      refine wp_iload_n (i := 1) dX8_tell_87 rfl rfl ?_
      refine wp_ild dX8_tell_88 (st_t hst rfl) rfl (by omega) ?_
      refine wp_imul dX8_tell_89 ?_
      refine wp_sipush (v := 1000) dX8_tell_90 (by decide) ?_
      refine wp_iadd dX8_tell_93 ?_
      exact wp_retI dX8_tell_94 rfl (Nat.le_refl _) (Nat.le_refl _) (h4 j2 hj2 rfl hk0)
  · skip
    refine wp_if_eq1 (tgt := 10) dX8_tell_5 (by decide) ?_
    refine wp_iconst (v := (-1)) dX8_tell_8 (by decide) ?_
    exact wp_retI dX8_tell_9 rfl (Nat.le_refl _) (Nat.le_refl _) (by first | assumption | solve_by_elim [rfl])

