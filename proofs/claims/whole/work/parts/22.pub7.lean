theorem c_noCellN (d : Nat) {n : Nat} {t : eT} {I : eI} {R : eR} {Q : Int32 → Nat → eT → eI → eR → Prop} (hst : ST n t R) {j : Nat} (hj : j < 4) {y : Int32} (hneg : I 124 j < 0) (hq : Q 1 n t I R) : MC yX8_noCell cX8_noCell 3 (some .int) (d + 1) 0 0 [.ref 94, .int (nI j), .int y] n t I R (qI Q) := by
  refine mc_intro (L0 := [.ref 94, .int (nI j), .int y]) (by decide) rfl (Nat.le_of_ble_eq_true rfl) ?_
  refine wp_aload_n (i := 0) dX8_noCell_0 rfl rfl ?_
  refine wp_getR dX8_noCell_1 fl_X8_98 rfl (st_k hst rfl) (st_r hst rfl) ?_
  refine wp_iload_n (i := 1) dX8_noCell_4 rfl rfl ?_
  refine wp_ild dX8_noCell_5 (st_t hst rfl) rfl (by omega) ?_
  refine wp_if_ge (tgt := 13) dX8_noCell_6 (by decide) (fun zq6 => absurd hneg (Int32.not_lt.mpr zq6)) (fun zq6 => ?_) 
  refine wp_iconst (v := 1) dX8_noCell_9 (by decide) ?_
  refine wp_goto (tgt := 36) dX8_noCell_10 (by decide) ?_
  exact wp_retI dX8_noCell_36 rfl (Nat.le_refl _) (Nat.le_refl _) hq

theorem c_noCell (d : Nat) {n : Nat} {t : eT} {I : eI} {R : eR} {Q : Int32 → Nat → eT → eI → eR → Prop} (hst : ST n t R) {j : Nat} (hj : j < 4) {y : Int32} {len : Nat} (hsl : I 124 j = nI len) (hlen : len ≤ 60) (h0 : ∀ i, i < len → y = nI i → Q 0 n t I R) (h3 : ¬ (0 ≤ y.toInt ∧ y.toInt ≤ (len : Int) - 1) → Q 3 n t I R) : MC yX8_noCell cX8_noCell 3 (some .int) (d + 1) 0 0 [.ref 94, .int (nI j), .int y] n t I R (qI Q) := by
  refine mc_intro (L0 := [.ref 94, .int (nI j), .int y]) (by decide) rfl (Nat.le_of_ble_eq_true rfl) ?_
  refine wp_aload_n (i := 0) dX8_noCell_0 rfl rfl ?_
  refine wp_getR dX8_noCell_1 fl_X8_98 rfl (st_k hst rfl) (st_r hst rfl) ?_
  refine wp_iload_n (i := 1) dX8_noCell_4 rfl rfl ?_
  refine wp_ild dX8_noCell_5 (st_t hst rfl) rfl (by omega) ?_
  refine wp_if_ge (tgt := 13) dX8_noCell_6 (by decide) (fun zq6 => ?_) (fun zq6 => absurd (by rw [hsl]; exact nI_pos' (by omega)) zq6) 
  refine wp_iload_n (i := 2) dX8_noCell_13 rfl rfl ?_
  refine wp_i2l dX8_noCell_14 ?_
  refine wp_lconst (v := 0) dX8_noCell_15 (by decide) ?_
  refine wp_aload_n (i := 0) dX8_noCell_16 rfl rfl ?_
  refine wp_getR dX8_noCell_17 fl_X8_98 rfl (st_k hst rfl) (st_r hst rfl) ?_
  refine wp_iload_n (i := 1) dX8_noCell_20 rfl rfl ?_
  refine wp_ild dX8_noCell_21 (st_t hst rfl) rfl (by omega) ?_
  refine wp_i2l dX8_noCell_22 ?_
  refine wp_lconst (v := 1) dX8_noCell_23 (by decide) ?_
  refine wp_lsub dX8_noCell_24 ?_
  refine wp_S3i dX8_noCell_25 mw_887 mw_888 mi_X8_in (Nat.le_of_ble_eq_true rfl) (Nat.le_refl _) (Nat.le_refl _) (c_in _ (a := 0) (b := (len : Int) - 1) rfl (by rw [hsl]; exact nI_subL (by omega)) (fun ga25 gb25 => ?_) (fun gn25 => ?_)) 
  · skip
    refine wp_if_eq1 (tgt := 35) dX8_noCell_28 (by decide) ?_
    refine wp_iconst (v := 0) dX8_noCell_31 (by decide) ?_
    refine wp_goto (tgt := 36) dX8_noCell_32 (by decide) ?_
    obtain ⟨i, hi, ei⟩ := nat_yes (x := y) (m := len) (by omega) ga25 gb25
    exact wp_retI dX8_noCell_36 rfl (Nat.le_refl _) (Nat.le_refl _) (h0 i hi ei)
  · skip
    refine wp_if_eq0 (tgt := 35) dX8_noCell_28 (by decide) ?_
    refine wp_iconst (v := 3) dX8_noCell_35 (by decide) ?_
    exact wp_retI dX8_noCell_36 rfl (Nat.le_refl _) (Nat.le_refl _) (h3 gn25)

theorem c_putM (d : Nat) {n : Nat} {t : eT} {I : eI} {R : eR} {Q : Int32 → Nat → eT → eI → eR → Prop} (hst : ST n t R) (hsz : ∀ j, j < 4 → I 124 j < 0 ∨ ∃ len, len ≤ 60 ∧ I 124 j = nI len) {x y v : Int32} (h1 : (∀ j, j < 4 → x ≠ nI j) → Q (-1) n t (eU I 94 0 0) R) (h2 : ∀ j, j < 4 → x = nI j → I 124 j < 0 → Q (-11) n t (eU I 94 0 1) R) (h3 : ∀ j len, j < 4 → x = nI j → len ≤ 60 → I 124 j = nI len → ¬ (0 ≤ y.toInt ∧ y.toInt ≤ (len : Int) - 1) → Q (-13) n t (eU I 94 0 3) R) (h4 : ∀ j len i, j < 4 → x = nI j → len ≤ 60 → I 124 j = nI len → i < len → y = nI i → Q 1 n t (eU (eU I 126 (60 * j + i) (cutL v (I 125 j))) 94 0 0) R) : MC yX8_put cX8_put 4 (some .int) (d + 2) 0 0 [.ref 94, .int x, .int y, .int v] n t I R (qI Q) := by
  refine mc_intro (L0 := [.ref 94, .int x, .int y, .int v]) (by decide) rfl (Nat.le_of_ble_eq_true rfl) ?_
  refine wp_iload_n (i := 1) dX8_put_0 rfl rfl ?_
  refine wp_S1i dX8_put_1 mw_883 mw_884 mi_X8_noSheet (Nat.le_of_ble_eq_true rfl) (Nat.le_refl _) (Nat.le_refl _) (c_noSheet _ (fun w hw ew => ?_) (fun no1 => ?_)) 
  · subst ew
    refine wp_if_eq0 (tgt := 13) dX8_put_4 (by decide) ?_
    rcases hsz w hw with hneg | ⟨len, hlen, hsl⟩
    · skip
      refine wp_aload_n (i := 0) dX8_put_13 rfl rfl ?_
      refine wp_iload_n (i := 1) dX8_put_14 rfl rfl ?_
      refine wp_iload_n (i := 2) dX8_put_15 rfl rfl ?_
      refine wp_V2i dX8_put_16 mw_1154 mw_1156 ms_52 mi_X8_noCell (Nat.le_of_ble_eq_true rfl) (Nat.le_refl _) (Nat.le_refl _) (st_k hst rfl) (by decide) rfl (c_noCellN _ hst hw hneg ?_) 
      · skip
        refine wp_if_le (tgt := 33) dX8_put_19 (by decide) (fun zq19 => absurd zq19 (by decide)) (fun zq19 => ?_) 
        refine wp_aload_n (i := 0) dX8_put_22 rfl rfl ?_
        refine wp_aload_n (i := 0) dX8_put_23 rfl rfl ?_
        refine wp_iload_n (i := 1) dX8_put_24 rfl rfl ?_
        refine wp_iload_n (i := 2) dX8_put_25 rfl rfl ?_
        refine wp_V2i dX8_put_26 mw_1154 mw_1156 ms_52 mi_X8_noCell (Nat.le_of_ble_eq_true rfl) (Nat.le_refl _) (Nat.le_refl _) (st_k hst rfl) (by decide) rfl (c_noCellN _ hst hw hneg ?_) 
        · skip
          refine wp_V1i dX8_put_29 mw_899 mw_901 ms_29 mi_X8_failed (Nat.le_of_ble_eq_true rfl) (Nat.le_refl _) (Nat.le_refl _) (st_k hst rfl) (by decide) rfl (c_failed _ hst (r := -11) (by decide) ?_) 
          exact wp_retI dX8_put_32 rfl (Nat.le_refl _) (Nat.le_refl _) (h2 w hw rfl hneg)
    · skip
      refine wp_aload_n (i := 0) dX8_put_13 rfl rfl ?_
      refine wp_iload_n (i := 1) dX8_put_14 rfl rfl ?_
      refine wp_iload_n (i := 2) dX8_put_15 rfl rfl ?_
      refine wp_V2i dX8_put_16 mw_1154 mw_1156 ms_52 mi_X8_noCell (Nat.le_of_ble_eq_true rfl) (Nat.le_refl _) (Nat.le_refl _) (st_k hst rfl) (by decide) rfl (c_noCell _ hst hw hsl hlen (fun i hi ei => ?_) (fun gr => ?_)) 
      · subst ei
        refine wp_if_le (tgt := 33) dX8_put_19 (by decide) (fun zq19 => ?_) (fun zq19 => absurd zq19 (by decide)) 
        refine wp_aload_n (i := 0) dX8_put_33 rfl rfl ?_
        refine wp_getR dX8_put_34 fl_X8_104 rfl (st_k hst rfl) (st_r hst rfl) ?_
        refine wp_bipush (v := 60) dX8_put_37 (by decide) ?_
        refine wp_iload_n (i := 1) dX8_put_39 rfl rfl ?_
        refine wp_imul dX8_put_40 ?_
        refine wp_iload_n (i := 2) dX8_put_41 rfl rfl ?_
        refine wp_iadd dX8_put_42 ?_
        refine wp_aload_n (i := 0) dX8_put_43 rfl rfl ?_
        refine wp_getR dX8_put_44 fl_X8_101 rfl (st_k hst rfl) (st_r hst rfl) ?_
        refine wp_iload_n (i := 1) dX8_put_47 rfl rfl ?_
        refine wp_ild dX8_put_48 (st_t hst rfl) rfl (by omega) ?_
        refine wp_if_ne (tgt := 57) dX8_put_49 (by decide) (fun zq49 => ?_) (fun zq49 => ?_) 
        · refine wp_aload_n (i := 0) dX8_put_57 rfl rfl ?_
          refine wp_getR dX8_put_58 fl_X8_101 rfl (st_k hst rfl) (st_r hst rfl) ?_
          refine wp_iload_n (i := 1) dX8_put_61 rfl rfl ?_
          refine wp_ild dX8_put_62 (st_t hst rfl) rfl (by omega) ?_
          refine wp_iconst (v := 1) dX8_put_63 (by decide) ?_
          refine wp_icmp_ne (tgt := 72) dX8_put_64 (by decide) (fun zq64 => ?_) (fun zq64 => ?_) 
          · refine wp_iload_n (i := 3) dX8_put_72 rfl rfl ?_
            refine wp_ist (j := 60 * w + i) dX8_put_73 (st_t hst rfl) (n_lin 60 w i) (by omega) ?_
            refine wp_aload_n (i := 0) dX8_put_74 rfl rfl ?_
            refine wp_iconst (v := 1) dX8_put_75 (by decide) ?_
            refine wp_V1i dX8_put_76 mw_890 mw_892 ms_27 mi_X8_refused (Nat.le_of_ble_eq_true rfl) (Nat.le_refl _) (Nat.le_refl _) (st_k hst rfl) (by decide) rfl (c_refused _ hst ?_) 
            exact wp_retI dX8_put_79 rfl (Nat.le_refl _) (Nat.le_refl _) (by have g := h4 w len i hw rfl hlen hsl hi rfl; unfold cutL at g; first | (rw [if_pos (by assumption)] at g; exact g) | (rw [if_neg (by assumption), if_pos (by assumption)] at g; exact g) | (rw [if_neg (by assumption), if_neg (by assumption)] at g; exact g))
          · refine wp_iload_n (i := 3) dX8_put_67 rfl rfl ?_
            refine wp_i2s dX8_put_68 ?_
            refine wp_goto (tgt := 73) dX8_put_69 (by decide) ?_
            refine wp_ist (j := 60 * w + i) dX8_put_73 (st_t hst rfl) (n_lin 60 w i) (by omega) ?_
            refine wp_aload_n (i := 0) dX8_put_74 rfl rfl ?_
            refine wp_iconst (v := 1) dX8_put_75 (by decide) ?_
            refine wp_V1i dX8_put_76 mw_890 mw_892 ms_27 mi_X8_refused (Nat.le_of_ble_eq_true rfl) (Nat.le_refl _) (Nat.le_refl _) (st_k hst rfl) (by decide) rfl (c_refused _ hst ?_) 
            exact wp_retI dX8_put_79 rfl (Nat.le_refl _) (Nat.le_refl _) (by have g := h4 w len i hw rfl hlen hsl hi rfl; unfold cutL at g; first | (rw [if_pos (by assumption)] at g; exact g) | (rw [if_neg (by assumption), if_pos (by assumption)] at g; exact g) | (rw [if_neg (by assumption), if_neg (by assumption)] at g; exact g))
        · refine wp_iload_n (i := 3) dX8_put_52 rfl rfl ?_
          refine wp_i2b dX8_put_53 ?_
          refine wp_goto (tgt := 73) dX8_put_54 (by decide) ?_
          refine wp_ist (j := 60 * w + i) dX8_put_73 (st_t hst rfl) (n_lin 60 w i) (by omega) ?_
          refine wp_aload_n (i := 0) dX8_put_74 rfl rfl ?_
          refine wp_iconst (v := 1) dX8_put_75 (by decide) ?_
          refine wp_V1i dX8_put_76 mw_890 mw_892 ms_27 mi_X8_refused (Nat.le_of_ble_eq_true rfl) (Nat.le_refl _) (Nat.le_refl _) (st_k hst rfl) (by decide) rfl (c_refused _ hst ?_) 
          exact wp_retI dX8_put_79 rfl (Nat.le_refl _) (Nat.le_refl _) (by have g := h4 w len i hw rfl hlen hsl hi rfl; unfold cutL at g; first | (rw [if_pos (by assumption)] at g; exact g) | (rw [if_neg (by assumption), if_pos (by assumption)] at g; exact g) | (rw [if_neg (by assumption), if_neg (by assumption)] at g; exact g))
      · skip
        refine wp_if_le (tgt := 33) dX8_put_19 (by decide) (fun zq19 => absurd zq19 (by decide)) (fun zq19 => ?_) 
        refine wp_aload_n (i := 0) dX8_put_22 rfl rfl ?_
        refine wp_aload_n (i := 0) dX8_put_23 rfl rfl ?_
        refine wp_iload_n (i := 1) dX8_put_24 rfl rfl ?_
        refine wp_iload_n (i := 2) dX8_put_25 rfl rfl ?_
        refine wp_V2i dX8_put_26 mw_1154 mw_1156 ms_52 mi_X8_noCell (Nat.le_of_ble_eq_true rfl) (Nat.le_refl _) (Nat.le_refl _) (st_k hst rfl) (by decide) rfl (c_noCell _ hst hw hsl hlen (fun i hi ei => absurd ((nat_iff (by omega)).mpr ⟨i, hi, ei⟩) gr) (fun gr2 => ?_)) 
        · skip
          refine wp_V1i dX8_put_29 mw_899 mw_901 ms_29 mi_X8_failed (Nat.le_of_ble_eq_true rfl) (Nat.le_refl _) (Nat.le_refl _) (st_k hst rfl) (by decide) rfl (c_failed _ hst (r := -13) (by decide) ?_) 
          exact wp_retI dX8_put_32 rfl (Nat.le_refl _) (Nat.le_refl _) (h3 w len hw rfl hlen hsl gr)
  · skip
    refine wp_if_eq1 (tgt := 13) dX8_put_4 (by decide) ?_
    refine wp_aload_n (i := 0) dX8_put_7 rfl rfl ?_
    refine wp_iconst (v := (-1)) dX8_put_8 (by decide) ?_
    refine wp_V1i dX8_put_9 mw_890 mw_892 ms_27 mi_X8_refused (Nat.le_of_ble_eq_true rfl) (Nat.le_refl _) (Nat.le_refl _) (st_k hst rfl) (by decide) rfl (c_refused _ hst ?_) 
    exact wp_retI dX8_put_12 rfl (Nat.le_refl _) (Nat.le_refl _) (h1 no1)

theorem c_cell (d : Nat) {n : Nat} {t : eT} {I : eI} {R : eR} {Q : Int64 → Nat → eT → eI → eR → Prop} (hst : ST n t R) (hsh : ∀ j a, j < 4 → R 53 j = some a → (t a).1 = 6 ∧ ∃ c len, R a 1 = some c ∧ t c = (9, len) ∧ len ≤ 60) {x y l : Int32} (h1 : (∀ j, j < 4 → x ≠ nI j) → Q (-9223372036854775808) n t (eU I 4 9 0) R) (h1b : ¬ (0 ≤ l.toInt ∧ l.toInt ≤ 2) → Q (-9223372036854775808) n t (eU I 4 9 0) R) (h2 : ∀ j, j < 4 → x = nI j → (0 ≤ l.toInt ∧ l.toInt ≤ 2) → R 53 j = none → Q (-9223372036854775808) n t (eU (eU I 4 9 0) 4 9 1) R) (h3 : ∀ j a, j < 4 → x = nI j → (0 ≤ l.toInt ∧ l.toInt ≤ 2) → R 53 j = some a → ¬ I a 0 = l → Q (-9223372036854775808) n t (eU (eU I 4 9 0) 4 9 2) R) (h4 : ∀ j a c len, j < 4 → x = nI j → (0 ≤ l.toInt ∧ l.toInt ≤ 2) → R 53 j = some a → I a 0 = l → R a 1 = some c → t c = (9, len) → ¬ (0 ≤ y.toInt ∧ y.toInt ≤ (len : Int) - 1) → Q (-9223372036854775808) n t (eU (eU I 4 9 0) 4 9 3) R) (h5 : ∀ j a c len i, j < 4 → x = nI j → (0 ≤ l.toInt ∧ l.toInt ≤ 2) → R 53 j = some a → I a 0 = l → R a 1 = some c → t c = (9, len) → i < len → y = nI i → Q (I c i).toInt64 n t (eU I 4 9 0) R) : MC yX7_cell cX7_cell 5 (some .long) (d + 2) 0 0 [.ref 4, .int x, .int y, .int l] n t I R (qL Q) := by
  refine mc_intro (L0 := [.ref 4, .int x, .int y, .int l, vU]) (by decide) rfl (Nat.le_of_ble_eq_true rfl) ?_
  refine wp_aload_n (i := 0) dX7_cell_0 rfl rfl ?_
  refine wp_iconst (v := 0) dX7_cell_1 (by decide) ?_
  refine wp_putI dX7_cell_2 fl_X7_62 rfl (Or.inl rfl) (st_k hst rfl) ?_
  refine wp_iload_n (i := 1) dX7_cell_5 rfl rfl ?_
  refine wp_iconst (v := 0) dX7_cell_6 (by decide) ?_
  refine wp_iconst (v := 3) dX7_cell_7 (by decide) ?_
  refine wp_S3i dX7_cell_8 mw_267 mw_268 mi_X7_isWithin (Nat.le_of_ble_eq_true rfl) (Nat.le_refl _) (Nat.le_refl _) (c_isWithin _ (a := 0) (b := 3) rfl rfl (fun ga8 gb8 => ?_) (fun gn8 => ?_)) 
  · skip
    refine wp_if_eq1 (tgt := 23) dX7_cell_11 (by decide) ?_
    refine wp_iload_n (i := 3) dX7_cell_14 rfl rfl ?_
    refine wp_iconst (v := 0) dX7_cell_15 (by decide) ?_
    refine wp_iconst (v := 2) dX7_cell_16 (by decide) ?_
    refine wp_S3i dX7_cell_17 mw_267 mw_268 mi_X7_isWithin (Nat.le_of_ble_eq_true rfl) (Nat.le_refl _) (Nat.le_refl _) (c_isWithin _ (a := 0) (b := 2) rfl rfl (fun ga17 gb17 => ?_) (fun gn17 => ?_)) 
    · skip
      refine wp_if_ne1 (tgt := 27) dX7_cell_20 (by decide) ?_
      obtain ⟨w, hw, ew⟩ := nat_yes (x := x) (m := 4) (by omega) ga8 (by omega)
      subst ew
      refine wp_aload_n (i := 0) dX7_cell_27 rfl rfl ?_
      refine wp_getR dX7_cell_28 fl_X7_55 rfl (st_k hst rfl) (st_r hst rfl) ?_
      refine wp_iload_n (i := 1) dX7_cell_31 rfl rfl ?_
      rcases hr32 : R 53 w with _ | ra32
      · refine wp_rld12N dX7_cell_32 (st_t hst rfl) rfl (by omega) hr32 ?_
        refine wp_astoreN_5_4 dX7_cell_33 rfl ?_
        refine wp_aloadN dX7_cell_35 rfl ?_
        refine wp_ifnonnullN dX7_cell_37 ?_
        refine wp_aload_n (i := 0) dX7_cell_40 rfl rfl ?_
        refine wp_iconst (v := 1) dX7_cell_41 (by decide) ?_
        refine wp_putI dX7_cell_42 fl_X7_62 rfl (Or.inl rfl) (st_k hst rfl) ?_
        refine wp_ldc2 (v := (-9223372036854775808)) dX7_cell_45 mw_614 ?_
        exact wp_retL dX7_cell_48 rfl (Nat.le_refl _) (Nat.le_refl _) (h2 w hw rfl ⟨ga17, gb17⟩ hr32)
      · refine wp_rld12 dX7_cell_32 (st_t hst rfl) rfl (by omega) hr32 ?_
        obtain ⟨hk0, ac, len, hk1, hk2, hk3⟩ := hsh w ra32 hw hr32
        have hne4 : ra32 ≠ 4 := fun g => by rw [g, st_k hst (q := 7) (l := 0) rfl] at hk0; exact absurd hk0 (by decide)
        have hnc4 : ac ≠ 4 := fun g => by rw [g, st_t hst (v := (7, 0)) rfl] at hk2; exact absurd hk2 (by simp)
        refine wp_astore_5_4 dX7_cell_33 rfl ?_
        refine wp_aload dX7_cell_35 rfl ?_
        refine wp_ifnonnull (tgt := 49) dX7_cell_37 (by decide) ?_
        refine wp_aload dX7_cell_49 rfl ?_
        refine wp_getI dX7_cell_51 fl_X7_74 rfl hk0 ?_
        rw [eU_o hne4]
        refine wp_iload_n (i := 3) dX7_cell_54 rfl rfl ?_
        refine wp_icmp_eq (tgt := 67) dX7_cell_55 (by decide) (fun zq55 => ?_) (fun zq55 => ?_) 
        · refine wp_iload_n (i := 2) dX7_cell_67 rfl rfl ?_
          refine wp_iconst (v := 0) dX7_cell_68 (by decide) ?_
          refine wp_aload dX7_cell_69 rfl ?_
          refine wp_getR dX7_cell_71 fl_X7_81 rfl hk0 hk1 ?_
          refine wp_len dX7_cell_74 hk2 ?_
          refine wp_iconst (v := 1) dX7_cell_75 (by decide) ?_
          refine wp_isub dX7_cell_76 ?_
          refine wp_S3i dX7_cell_77 mw_267 mw_268 mi_X7_isWithin (Nat.le_of_ble_eq_true rfl) (Nat.le_refl _) (Nat.le_refl _) (c_isWithin _ (a := 0) (b := (len : Int) - 1) rfl (nI_subT (by omega)) (fun ga77 gb77 => ?_) (fun gn77 => ?_)) 
          · skip
            refine wp_if_ne1 (tgt := 92) dX7_cell_80 (by decide) ?_
            obtain ⟨i, hi, ei⟩ := nat_yes (x := y) (m := len) (by omega) ga77 gb77
            subst ei
            refine wp_aload dX7_cell_92 rfl ?_
            refine wp_getR dX7_cell_94 fl_X7_81 rfl hk0 hk1 ?_
            refine wp_iload_n (i := 2) dX7_cell_97 rfl rfl ?_
            refine wp_ild (j := i) dX7_cell_98 hk2 rfl hi ?_
            rw [eU_o hnc4]
            refine wp_i2l dX7_cell_99 ?_
            exact wp_retL dX7_cell_100 rfl (Nat.le_refl _) (Nat.le_refl _) (h5 w ra32 ac len i hw rfl ⟨ga17, gb17⟩ hr32 zq55 hk1 hk2 hi rfl)
          · skip
            refine wp_if_ne0 (tgt := 92) dX7_cell_80 (by decide) ?_
            refine wp_aload_n (i := 0) dX7_cell_83 rfl rfl ?_
            refine wp_iconst (v := 3) dX7_cell_84 (by decide) ?_
            refine wp_putI dX7_cell_85 fl_X7_62 rfl (Or.inl rfl) (st_k hst rfl) ?_
            refine wp_ldc2 (v := (-9223372036854775808)) dX7_cell_88 mw_614 ?_
            exact wp_retL dX7_cell_91 rfl (Nat.le_refl _) (Nat.le_refl _) (h4 w ra32 ac len hw rfl ⟨ga17, gb17⟩ hr32 zq55 hk1 hk2 gn77)
        · refine wp_aload_n (i := 0) dX7_cell_58 rfl rfl ?_
          refine wp_iconst (v := 2) dX7_cell_59 (by decide) ?_
          refine wp_putI dX7_cell_60 fl_X7_62 rfl (Or.inl rfl) (st_k hst rfl) ?_
          refine wp_ldc2 (v := (-9223372036854775808)) dX7_cell_63 mw_614 ?_
          exact wp_retL dX7_cell_66 rfl (Nat.le_refl _) (Nat.le_refl _) (h3 w ra32 hw rfl ⟨ga17, gb17⟩ hr32 zq55)
    · skip
      refine wp_if_ne0 (tgt := 27) dX7_cell_20 (by decide) ?_
      refine wp_ldc2 (v := (-9223372036854775808)) dX7_cell_23 mw_614 ?_
      exact wp_retL dX7_cell_26 rfl (Nat.le_refl _) (Nat.le_refl _) (h1b gn17)
  · skip
    refine wp_if_eq0 (tgt := 23) dX7_cell_11 (by decide) ?_
    refine wp_ldc2 (v := (-9223372036854775808)) dX7_cell_23 mw_614 ?_
    exact wp_retL dX7_cell_26 rfl (Nat.le_refl _) (Nat.le_refl _) (h1 (nat_no (m := 4) (by omega) (by omega)))

