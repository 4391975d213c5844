theorem sf_r {n : Nat} {t : eT} {R : eR} (h : ST n t R) {j : Nat} (hj : j < 10) : R 8 j = some (9 + j) := by
  rcases (show j = 0 ∨ j = 1 ∨ j = 2 ∨ j = 3 ∨ j = 4 ∨ j = 5 ∨ j = 6 ∨ j = 7 ∨ j = 8 ∨ j = 9 by omega) with rfl | rfl | rfl | rfl | rfl | rfl | rfl | rfl | rfl | rfl <;> exact st_r h rfl
theorem sf_t {n : Nat} {t : eT} {R : eR} (h : ST n t R) {j : Nat} (hj : j < 10) : t (9 + j) = (9, 10) := by
  rcases (show j = 0 ∨ j = 1 ∨ j = 2 ∨ j = 3 ∨ j = 4 ∨ j = 5 ∨ j = 6 ∨ j = 7 ∨ j = 8 ∨ j = 9 by omega) with rfl | rfl | rfl | rfl | rfl | rfl | rfl | rfl | rfl | rfl <;> exact st_t h rfl
theorem eU_at {α : Type} (f : Nat → Nat → α) (a k : Nat) (v : α) : eU f a k v a k = v := by simp [eU]
theorem c_part (d : Nat) {n : Nat} {t : eT} {I : eI} {R : eR} {Q : Int32 → Nat → eT → eI → eR → Prop} (hst : ST n t R) {k : Nat} (hk : I 5 0 = nI k) (hk4 : k ≤ 10) {x w : Int32} (h1 : (∀ j, j < k → x ≠ nI j) → Q (-1) n t I R) (h2 : ∀ j, j < k → x = nI j → ¬ (0 ≤ w.toInt ∧ w.toInt ≤ 1) → Q (-2) n t I R) (h3 : ∀ j, j < k → x = nI j → w = 0 → Q (I 6 j) n t I R) (h4 : ∀ j, j < k → x = nI j → w = 1 → Q (I 7 j) n t I R) : MC yX7_part cX7_part 3 (some .int) (d + 2) 0 0 [.ref 4, .int x, .int w] n t I R (qI Q) := by
  refine mc_intro (L0 := [.ref 4, .int x, .int w]) (by decide) rfl (Nat.le_of_ble_eq_true rfl) ?_
  refine wp_aload_n (i := 0) dX7_part_0 rfl rfl ?_
  refine wp_getR dX7_part_1 fl_X7_12 rfl (st_k hst rfl) (st_r hst rfl) ?_
  refine wp_iload_n (i := 1) dX7_part_4 rfl rfl ?_
  refine wp_V1i dX7_part_5 mw_351 mw_352 mw_353 mi_X2_has (Nat.le_of_ble_eq_true rfl) (Nat.le_refl _) (Nat.le_refl _) (st_k hst rfl) (by decide) rfl (c_has _ hst hk hk4 (fun j5 hj5 e5 => ?_) (fun no5 => ?_)) 
  · subst e5
    refine wp_if_ne1 (tgt := 13) dX7_part_8 (by decide) ?_
    refine wp_iload_n (i := 2) dX7_part_13 rfl rfl ?_
    refine wp_iconst (v := 0) dX7_part_14 (by decide) ?_
    refine wp_iconst (v := 1) dX7_part_15 (by decide) ?_
    refine wp_S3i dX7_part_16 mw_267 mw_268 mi_X7_isWithin (Nat.le_of_ble_eq_true rfl) (Nat.le_refl _) (Nat.le_refl _) (c_isWithin _ (a := 0) (b := 1) rfl rfl (fun ga16 gb16 => ?_) (fun gn16 => ?_)) 
    · skip
      refine wp_if_ne1 (tgt := 25) dX7_part_19 (by decide) ?_
      refine wp_iload_n (i := 2) dX7_part_25 rfl rfl ?_
      refine wp_if_ne (tgt := 41) dX7_part_26 (by decide) (fun zq26 => ?_) (fun zq26 => ?_) 
      · refine wp_aload_n (i := 0) dX7_part_41 rfl rfl ?_
        refine wp_getR dX7_part_42 fl_X7_12 rfl (st_k hst rfl) (st_r hst rfl) ?_
        refine wp_getR dX7_part_45 fl_X7_105 rfl (st_k hst rfl) (st_r hst rfl) ?_
        refine wp_iload_n (i := 1) dX7_part_48 rfl rfl ?_
        refine wp_ild dX7_part_49 (st_t hst rfl) rfl (by omega) ?_
        exact wp_retI dX7_part_50 rfl (Nat.le_refl _) (Nat.le_refl _) (h4 j5 hj5 rfl (i_one ga16 gb16 zq26))
      · refine wp_aload_n (i := 0) dX7_part_29 rfl rfl ?_
        refine wp_getR dX7_part_30 fl_X7_12 rfl (st_k hst rfl) (st_r hst rfl) ?_
        refine wp_getR dX7_part_33 fl_X7_102 rfl (st_k hst rfl) (st_r hst rfl) ?_
        refine wp_iload_n (i := 1) dX7_part_36 rfl rfl ?_
        refine wp_ild dX7_part_37 (st_t hst rfl) rfl (by omega) ?_
        refine wp_goto (tgt := 50) dX7_part_38 (by decide) ?_
        exact wp_retI dX7_part_50 rfl (Nat.le_refl _) (Nat.le_refl _) (h3 j5 hj5 rfl zq26)
    · skip
      refine wp_if_ne0 (tgt := 25) dX7_part_19 (by decide) ?_
      refine wp_bipush (v := (-2)) dX7_part_22 (by decide) ?_
      exact wp_retI dX7_part_24 rfl (Nat.le_refl _) (Nat.le_refl _) (by first | assumption | solve_by_elim [rfl])
  · skip
    refine wp_if_ne0 (tgt := 13) dX7_part_8 (by decide) ?_
    refine wp_iconst (v := (-1)) dX7_part_11 (by decide) ?_
    exact wp_retI dX7_part_12 rfl (Nat.le_refl _) (Nat.le_refl _) (by first | assumption | solve_by_elim [rfl])

theorem c_partM (d : Nat) {n : Nat} {t : eT} {I : eI} {R : eR} {Q : Int32 → Nat → eT → eI → eR → Prop} (hst : ST n t R) {k : Nat} (hkM : I 94 1 = nI k) (hk4 : k ≤ 10) {x w : Int32} (h1 : (∀ j, j < k → x ≠ nI j) → Q (-1) n t I R) (h2 : ∀ j, j < k → x = nI j → ¬ (0 ≤ w.toInt ∧ w.toInt ≤ 1) → Q (-2) n t I R) (h3 : ∀ j, j < k → x = nI j → w = 0 → Q (I 95 j) n t I R) (h4 : ∀ j, j < k → x = nI j → w = 1 → Q (I 96 j) n t I R) : MC yX8_part cX8_part 3 (some .int) (d + 2) 0 0 [.ref 94, .int x, .int w] n t I R (qI Q) := by
  refine mc_intro (L0 := [.ref 94, .int x, .int w]) (by decide) rfl (Nat.le_of_ble_eq_true rfl) ?_
  refine wp_aload_n (i := 0) dX8_part_0 rfl rfl ?_
  refine wp_iload_n (i := 1) dX8_part_1 rfl rfl ?_
  refine wp_V1i dX8_part_2 mw_916 mw_918 ms_31 mi_X8_noPart (Nat.le_of_ble_eq_true rfl) (Nat.le_refl _) (Nat.le_refl _) (st_k hst rfl) (by decide) rfl (c_noPart _ hst hkM hk4 (fun j2 hj2 e2 => ?_) (fun no2 => ?_)) 
  · subst e2
    refine wp_if_eq0 (tgt := 10) dX8_part_5 (by decide) ?_
    refine wp_iload_n (i := 2) dX8_part_10 rfl rfl ?_
    refine wp_if_ne (tgt := 23) dX8_part_11 (by decide) (fun zq11 => ?_) (fun zq11 => ?_) 
    · refine wp_iload_n (i := 2) dX8_part_23 rfl rfl ?_
      refine wp_iconst (v := 1) dX8_part_24 (by decide) ?_
      refine wp_icmp_ne (tgt := 37) dX8_part_25 (by decide) (fun zq25 => ?_) (fun zq25 => ?_) 
      · refine wp_bipush (v := (-2)) dX8_part_37 (by decide) ?_
        exact wp_retI dX8_part_39 rfl (Nat.le_refl _) (Nat.le_refl _) (h2 j2 hj2 rfl (i_none zq11 zq25))
      · refine wp_aload_n (i := 0) dX8_part_28 rfl rfl ?_
        refine wp_getR dX8_part_29 fl_X8_13 rfl (st_k hst rfl) (st_r hst rfl) ?_
        refine wp_iload_n (i := 1) dX8_part_32 rfl rfl ?_
        refine wp_ild dX8_part_33 (st_t hst rfl) rfl (by omega) ?_
        refine wp_goto (tgt := 39) dX8_part_34 (by decide) ?_
        exact wp_retI dX8_part_39 rfl (Nat.le_refl _) (Nat.le_refl _) (by first | assumption | solve_by_elim [rfl])
    · refine wp_aload_n (i := 0) dX8_part_14 rfl rfl ?_
      refine wp_getR dX8_part_15 fl_X8_7 rfl (st_k hst rfl) (st_r hst rfl) ?_
      refine wp_iload_n (i := 1) dX8_part_18 rfl rfl ?_
      refine wp_ild dX8_part_19 (st_t hst rfl) rfl (by omega) ?_
      refine wp_goto (tgt := 39) dX8_part_20 (by decide) ?_
      exact wp_retI dX8_part_39 rfl (Nat.le_refl _) (Nat.le_refl _) (by first | assumption | solve_by_elim [rfl])
  · skip
    refine wp_if_eq1 (tgt := 10) dX8_part_5 (by decide) ?_
    refine wp_iconst (v := (-1)) dX8_part_8 (by decide) ?_
    exact wp_retI dX8_part_9 rfl (Nat.le_refl _) (Nat.le_refl _) (by first | assumption | solve_by_elim [rfl])

theorem c_wish (d : Nat) {n : Nat} {t : eT} {I : eI} {R : eR} {Q : Int32 → Nat → eT → eI → eR → Prop} (hst : ST n t R) {k : Nat} (hk : I 5 0 = nI k) (hk4 : k ≤ 10) {x w : Int32} (h1 : (∀ j, j < k → x ≠ nI j) → Q (-1) n t I R) (h2 : ∀ j, j < k → x = nI j → ¬ (0 ≤ w.toInt ∧ w.toInt ≤ 999) → Q (-2) n t I R) (h3 : ∀ j, j < k → x = nI j → 0 ≤ w.toInt → w.toInt ≤ 999 → Q (I 7 j) n t (eU I 7 j w) R) : MC yX7_wish cX7_wish 4 (some .int) (d + 2) 0 0 [.ref 4, .int x, .int w] n t I R (qI Q) := by
  refine mc_intro (L0 := [.ref 4, .int x, .int w, vU]) (by decide) rfl (Nat.le_of_ble_eq_true rfl) ?_
  refine wp_aload_n (i := 0) dX7_wish_0 rfl rfl ?_
  refine wp_getR dX7_wish_1 fl_X7_12 rfl (st_k hst rfl) (st_r hst rfl) ?_
  refine wp_iload_n (i := 1) dX7_wish_4 rfl rfl ?_
  refine wp_V1i dX7_wish_5 mw_351 mw_352 mw_353 mi_X2_has (Nat.le_of_ble_eq_true rfl) (Nat.le_refl _) (Nat.le_refl _) (st_k hst rfl) (by decide) rfl (c_has _ hst hk hk4 (fun j5 hj5 e5 => ?_) (fun no5 => ?_)) 
  · subst e5
    refine wp_if_ne1 (tgt := 13) dX7_wish_8 (by decide) ?_
    refine wp_iload_n (i := 2) dX7_wish_13 rfl rfl ?_
    refine wp_iconst (v := 0) dX7_wish_14 (by decide) ?_
    refine wp_sipush (v := 999) dX7_wish_15 (by decide) ?_
    refine wp_S3i dX7_wish_18 mw_267 mw_268 mi_X7_isWithin (Nat.le_of_ble_eq_true rfl) (Nat.le_refl _) (Nat.le_refl _) (c_isWithin _ (a := 0) (b := 999) rfl rfl (fun ga18 gb18 => ?_) (fun gn18 => ?_)) 
    · skip
      refine wp_if_ne1 (tgt := 27) dX7_wish_21 (by decide) ?_
      refine wp_aload_n (i := 0) dX7_wish_27 rfl rfl ?_
      refine wp_getR dX7_wish_28 fl_X7_12 rfl (st_k hst rfl) (st_r hst rfl) ?_
      refine wp_getR dX7_wish_31 fl_X7_105 rfl (st_k hst rfl) (st_r hst rfl) ?_
      refine wp_iload_n (i := 1) dX7_wish_34 rfl rfl ?_
      refine wp_ild dX7_wish_35 (st_t hst rfl) rfl (by omega) ?_
      refine wp_istore_4_3 dX7_wish_36 rfl ?_
      refine wp_aload_n (i := 0) dX7_wish_37 rfl rfl ?_
      refine wp_getR dX7_wish_38 fl_X7_12 rfl (st_k hst rfl) (st_r hst rfl) ?_
      refine wp_getR dX7_wish_41 fl_X7_105 rfl (st_k hst rfl) (st_r hst rfl) ?_
      refine wp_iload_n (i := 1) dX7_wish_44 rfl rfl ?_
      refine wp_iload_n (i := 2) dX7_wish_45 rfl rfl ?_
      refine wp_ist dX7_wish_46 (st_t hst rfl) rfl (by omega) ?_
      refine wp_iload_n (i := 3) dX7_wish_47 rfl rfl ?_
      exact wp_retI dX7_wish_48 rfl (Nat.le_refl _) (Nat.le_refl _) (by first | assumption | solve_by_elim [rfl])
    · skip
      refine wp_if_ne0 (tgt := 27) dX7_wish_21 (by decide) ?_
      refine wp_bipush (v := (-2)) dX7_wish_24 (by decide) ?_
      exact wp_retI dX7_wish_26 rfl (Nat.le_refl _) (Nat.le_refl _) (by first | assumption | solve_by_elim [rfl])
  · skip
    refine wp_if_ne0 (tgt := 13) dX7_wish_8 (by decide) ?_
    refine wp_iconst (v := (-1)) dX7_wish_11 (by decide) ?_
    exact wp_retI dX7_wish_12 rfl (Nat.le_refl _) (Nat.le_refl _) (by first | assumption | solve_by_elim [rfl])

theorem c_wishM (d : Nat) {n : Nat} {t : eT} {I : eI} {R : eR} {Q : Int32 → Nat → eT → eI → eR → Prop} (hst : ST n t R) {k : Nat} (hkM : I 94 1 = nI k) (hk4 : k ≤ 10) {x w : Int32} (h1 : (∀ j, j < k → x ≠ nI j) → Q (-1) n t I R) (h2 : ∀ j, j < k → x = nI j → ¬ (0 ≤ w.toInt ∧ w.toInt ≤ 999) → Q (-2) n t I R) (h3 : ∀ j, j < k → x = nI j → 0 ≤ w.toInt → w.toInt ≤ 999 → Q (I 96 j) n t (eU I 96 j w) R) : MC yX8_wish cX8_wish 4 (some .int) (d + 2) 0 0 [.ref 94, .int x, .int w] n t I R (qI Q) := by
  refine mc_intro (L0 := [.ref 94, .int x, .int w, vU]) (by decide) rfl (Nat.le_of_ble_eq_true rfl) ?_
  refine wp_aload_n (i := 0) dX8_wish_0 rfl rfl ?_
  refine wp_iload_n (i := 1) dX8_wish_1 rfl rfl ?_
  refine wp_V1i dX8_wish_2 mw_916 mw_918 ms_31 mi_X8_noPart (Nat.le_of_ble_eq_true rfl) (Nat.le_refl _) (Nat.le_refl _) (st_k hst rfl) (by decide) rfl (c_noPart _ hst hkM hk4 (fun j2 hj2 e2 => ?_) (fun no2 => ?_)) 
  · subst e2
    refine wp_if_eq0 (tgt := 10) dX8_wish_5 (by decide) ?_
    refine wp_iload_n (i := 2) dX8_wish_10 rfl rfl ?_
    refine wp_i2l dX8_wish_11 ?_
    refine wp_lconst (v := 0) dX8_wish_12 (by decide) ?_
    refine wp_ldc2 (v := 999) dX8_wish_13 mw_924 ?_
    refine wp_S3i dX8_wish_16 mw_887 mw_888 mi_X8_in (Nat.le_of_ble_eq_true rfl) (Nat.le_refl _) (Nat.le_refl _) (c_in _ (a := 0) (b := 999) rfl rfl (fun ga16 gb16 => ?_) (fun gn16 => ?_)) 
    · skip
      refine wp_if_ne1 (tgt := 25) dX8_wish_19 (by decide) ?_
      refine wp_aload_n (i := 0) dX8_wish_25 rfl rfl ?_
      refine wp_getR dX8_wish_26 fl_X8_13 rfl (st_k hst rfl) (st_r hst rfl) ?_
      refine wp_iload_n (i := 1) dX8_wish_29 rfl rfl ?_
      refine wp_ild dX8_wish_30 (st_t hst rfl) rfl (by omega) ?_
      refine wp_istore_4_3 dX8_wish_31 rfl ?_
      refine wp_aload_n (i := 0) dX8_wish_32 rfl rfl ?_
      refine wp_getR dX8_wish_33 fl_X8_13 rfl (st_k hst rfl) (st_r hst rfl) ?_
      refine wp_iload_n (i := 1) dX8_wish_36 rfl rfl ?_
      refine wp_iload_n (i := 2) dX8_wish_37 rfl rfl ?_
      refine wp_ist dX8_wish_38 (st_t hst rfl) rfl (by omega) ?_
      refine wp_iload_n (i := 3) dX8_wish_39 rfl rfl ?_
      exact wp_retI dX8_wish_40 rfl (Nat.le_refl _) (Nat.le_refl _) (by first | assumption | solve_by_elim [rfl])
    · skip
      refine wp_if_ne0 (tgt := 25) dX8_wish_19 (by decide) ?_
      refine wp_bipush (v := (-2)) dX8_wish_22 (by decide) ?_
      exact wp_retI dX8_wish_24 rfl (Nat.le_refl _) (Nat.le_refl _) (by first | assumption | solve_by_elim [rfl])
  · skip
    refine wp_if_eq1 (tgt := 10) dX8_wish_5 (by decide) ?_
    refine wp_iconst (v := (-1)) dX8_wish_8 (by decide) ?_
    exact wp_retI dX8_wish_9 rfl (Nat.le_refl _) (Nat.le_refl _) (by first | assumption | solve_by_elim [rfl])

theorem c_follows (d : Nat) {n : Nat} {t : eT} {I : eI} {R : eR} {Q : Int32 → Nat → eT → eI → eR → Prop} (hst : ST n t R) {k : Nat} (hk : I 5 0 = nI k) (hk4 : k ≤ 10) {x y : Int32} (h1 : (∀ j, j < k → x ≠ nI j) → Q (-1) n t I R) (h1b : (∀ j, j < k → y ≠ nI j) → Q (-1) n t I R) (h2 : ∀ j, j < k → x = nI j → y = nI j → Q (-2) n t I R) (h3 : ∀ a b, a < k → b < k → a ≠ b → x = nI a → y = nI b → Q (I (9 + a) b) n t I R) : MC yX7_follows cX7_follows 3 (some .int) (d + 2) 0 0 [.ref 4, .int x, .int y] n t I R (qI Q) := by
  refine mc_intro (L0 := [.ref 4, .int x, .int y]) (by decide) rfl (Nat.le_of_ble_eq_true rfl) ?_
  refine wp_aload_n (i := 0) dX7_follows_0 rfl rfl ?_
  refine wp_getR dX7_follows_1 fl_X7_12 rfl (st_k hst rfl) (st_r hst rfl) ?_
  refine wp_iload_n (i := 1) dX7_follows_4 rfl rfl ?_
  refine wp_V1i dX7_follows_5 mw_351 mw_352 mw_353 mi_X2_has (Nat.le_of_ble_eq_true rfl) (Nat.le_refl _) (Nat.le_refl _) (st_k hst rfl) (by decide) rfl (c_has _ hst hk hk4 (fun j5 hj5 e5 => ?_) (fun no5 => ?_)) 
  · subst e5
    refine wp_if_eq1 (tgt := 22) dX7_follows_8 (by decide) ?_
    refine wp_aload_n (i := 0) dX7_follows_11 rfl rfl ?_
    refine wp_getR dX7_follows_12 fl_X7_12 rfl (st_k hst rfl) (st_r hst rfl) ?_
    refine wp_iload_n (i := 2) dX7_follows_15 rfl rfl ?_
    refine wp_V1i dX7_follows_16 mw_351 mw_352 mw_353 mi_X2_has (Nat.le_of_ble_eq_true rfl) (Nat.le_refl _) (Nat.le_refl _) (st_k hst rfl) (by decide) rfl (c_has _ hst hk hk4 (fun j16 hj16 e16 => ?_) (fun no16 => ?_)) 
    · subst e16
      refine wp_if_ne1 (tgt := 24) dX7_follows_19 (by decide) ?_
      refine wp_iload_n (i := 1) dX7_follows_24 rfl rfl ?_
      refine wp_iload_n (i := 2) dX7_follows_25 rfl rfl ?_
      refine wp_icmp_ne (tgt := 32) dX7_follows_26 (by decide) (fun zq26 => ?_) (fun zq26 => ?_) 
      · refine wp_aload_n (i := 0) dX7_follows_32 rfl rfl ?_
        refine wp_getR dX7_follows_33 fl_X7_12 rfl (st_k hst rfl) (st_r hst rfl) ?_
        refine wp_getR dX7_follows_36 fl_X7_108 rfl (st_k hst rfl) (st_r hst rfl) ?_
        refine wp_iload_n (i := 1) dX7_follows_39 rfl rfl ?_
        refine wp_rld13 dX7_follows_40 (st_t hst rfl) rfl (by omega) (sf_r hst (by omega)) ?_
        refine wp_iload_n (i := 2) dX7_follows_41 rfl rfl ?_
        refine wp_ild dX7_follows_42 (sf_t hst (by omega)) rfl (by omega) ?_
        exact wp_retI dX7_follows_43 rfl (Nat.le_refl _) (Nat.le_refl _) (h3 j5 j16 hj5 hj16 (fun e => zq26 (by rw [e])) rfl rfl)
      · refine wp_bipush (v := (-2)) dX7_follows_29 (by decide) ?_
        exact wp_retI dX7_follows_31 rfl (Nat.le_refl _) (Nat.le_refl _) (h2 j5 hj5 rfl (by rw [← zq26]))
    · skip
      refine wp_if_ne0 (tgt := 24) dX7_follows_19 (by decide) ?_
      refine wp_iconst (v := (-1)) dX7_follows_22 (by decide) ?_
      exact wp_retI dX7_follows_23 rfl (Nat.le_refl _) (Nat.le_refl _) (by first | assumption | solve_by_elim [rfl])
  · skip
    refine wp_if_eq0 (tgt := 22) dX7_follows_8 (by decide) ?_
    refine wp_iconst (v := (-1)) dX7_follows_22 (by decide) ?_
    exact wp_retI dX7_follows_23 rfl (Nat.le_refl _) (Nat.le_refl _) (by first | assumption | solve_by_elim [rfl])

theorem c_followsM (d : Nat) {n : Nat} {t : eT} {I : eI} {R : eR} {Q : Int32 → Nat → eT → eI → eR → Prop} (hst : ST n t R) {k : Nat} (hkM : I 94 1 = nI k) (hk4 : k ≤ 10) {x y : Int32} (h1 : (∀ j, j < k → x ≠ nI j) → Q (-1) n t I R) (h1b : (∀ j, j < k → y ≠ nI j) → Q (-1) n t I R) (h2 : ∀ j, j < k → x = nI j → y = nI j → Q (-2) n t I R) (h3 : ∀ a b, a < k → b < k → a ≠ b → x = nI a → y = nI b → Q (I 97 (10 * a + b)) n t I R) : MC yX8_follows cX8_follows 3 (some .int) (d + 2) 0 0 [.ref 94, .int x, .int y] n t I R (qI Q) := by
  refine mc_intro (L0 := [.ref 94, .int x, .int y]) (by decide) rfl (Nat.le_of_ble_eq_true rfl) ?_
  refine wp_aload_n (i := 0) dX8_follows_0 rfl rfl ?_
  refine wp_iload_n (i := 1) dX8_follows_1 rfl rfl ?_
  refine wp_V1i dX8_follows_2 mw_916 mw_918 ms_31 mi_X8_noPart (Nat.le_of_ble_eq_true rfl) (Nat.le_refl _) (Nat.le_refl _) (st_k hst rfl) (by decide) rfl (c_noPart _ hst hkM hk4 (fun j2 hj2 e2 => ?_) (fun no2 => ?_)) 
  · subst e2
    refine wp_if_ne0 (tgt := 16) dX8_follows_5 (by decide) ?_
    refine wp_aload_n (i := 0) dX8_follows_8 rfl rfl ?_
    refine wp_iload_n (i := 2) dX8_follows_9 rfl rfl ?_
    refine wp_V1i dX8_follows_10 mw_916 mw_918 ms_31 mi_X8_noPart (Nat.le_of_ble_eq_true rfl) (Nat.le_refl _) (Nat.le_refl _) (st_k hst rfl) (by decide) rfl (c_noPart _ hst hkM hk4 (fun j10 hj10 e10 => ?_) (fun no10 => ?_)) 
    · subst e10
      refine wp_if_eq0 (tgt := 18) dX8_follows_13 (by decide) ?_
      refine wp_iload_n (i := 1) dX8_follows_18 rfl rfl ?_
      refine wp_iload_n (i := 2) dX8_follows_19 rfl rfl ?_
      refine wp_icmp_ne (tgt := 28) dX8_follows_20 (by decide) (fun zq20 => ?_) (fun zq20 => ?_) 
      · refine wp_aload_n (i := 0) dX8_follows_28 rfl rfl ?_
        refine wp_getR dX8_follows_29 fl_X8_16 rfl (st_k hst rfl) (st_r hst rfl) ?_
        refine wp_bipush (v := 10) dX8_follows_32 (by decide) ?_
        refine wp_iload_n (i := 1) dX8_follows_34 rfl rfl ?_
        refine wp_imul dX8_follows_35 ?_
        refine wp_iload_n (i := 2) dX8_follows_36 rfl rfl ?_
        refine wp_iadd dX8_follows_37 ?_
        refine wp_ild (j := 10 * j2 + j10) dX8_follows_38 (st_t hst rfl) (n_lin 10 j2 j10) (by omega) ?_
        exact wp_retI dX8_follows_39 rfl (Nat.le_refl _) (Nat.le_refl _) (h3 j2 j10 hj2 hj10 (fun e => zq20 (by rw [e])) rfl rfl)
      · refine wp_bipush (v := (-2)) dX8_follows_23 (by decide) ?_
        refine wp_goto (tgt := 39) dX8_follows_25 (by decide) ?_
        exact wp_retI dX8_follows_39 rfl (Nat.le_refl _) (Nat.le_refl _) (h2 j2 hj2 rfl (by rw [← zq20]))
    · skip
      refine wp_if_eq1 (tgt := 18) dX8_follows_13 (by decide) ?_
      refine wp_iconst (v := (-1)) dX8_follows_16 (by decide) ?_
      exact wp_retI dX8_follows_17 rfl (Nat.le_refl _) (Nat.le_refl _) (by first | assumption | solve_by_elim [rfl])
  · skip
    refine wp_if_ne1 (tgt := 16) dX8_follows_5 (by decide) ?_
    refine wp_iconst (v := (-1)) dX8_follows_16 (by decide) ?_
    exact wp_retI dX8_follows_17 rfl (Nat.le_refl _) (Nat.le_refl _) (by first | assumption | solve_by_elim [rfl])

theorem c_follow (d : Nat) {n : Nat} {t : eT} {I : eI} {R : eR} {Q : Int32 → Nat → eT → eI → eR → Prop} (hst : ST n t R) {k : Nat} (hk : I 5 0 = nI k) (hk4 : k ≤ 10) {x y w : Int32} (h1 : (∀ j, j < k → x ≠ nI j) → Q (-1) n t I R) (h1b : (∀ j, j < k → y ≠ nI j) → Q (-1) n t I R) (h2 : ∀ a b, a < k → b < k → x = nI a → y = nI b → ¬ (0 ≤ w.toInt ∧ w.toInt ≤ 99 ∧ a ≠ b) → Q (-2) n t I R) (h3 : ∀ a b, a < k → b < k → a ≠ b → x = nI a → y = nI b → 0 ≤ w.toInt → w.toInt ≤ 99 → Q (I (9 + a) b) n t (eU I (9 + a) b w) R) : MC yX7_follow cX7_follow 5 (some .int) (d + 2) 0 0 [.ref 4, .int x, .int y, .int w] n t I R (qI Q) := by
  refine mc_intro (L0 := [.ref 4, .int x, .int y, .int w, vU]) (by decide) rfl (Nat.le_of_ble_eq_true rfl) ?_
  refine wp_aload_n (i := 0) dX7_follow_0 rfl rfl ?_
  refine wp_getR dX7_follow_1 fl_X7_12 rfl (st_k hst rfl) (st_r hst rfl) ?_
  refine wp_iload_n (i := 1) dX7_follow_4 rfl rfl ?_
  refine wp_V1i dX7_follow_5 mw_351 mw_352 mw_353 mi_X2_has (Nat.le_of_ble_eq_true rfl) (Nat.le_refl _) (Nat.le_refl _) (st_k hst rfl) (by decide) rfl (c_has _ hst hk hk4 (fun j5 hj5 e5 => ?_) (fun no5 => ?_)) 
  · subst e5
    refine wp_if_eq1 (tgt := 22) dX7_follow_8 (by decide) ?_
    refine wp_aload_n (i := 0) dX7_follow_11 rfl rfl ?_
    refine wp_getR dX7_follow_12 fl_X7_12 rfl (st_k hst rfl) (st_r hst rfl) ?_
    refine wp_iload_n (i := 2) dX7_follow_15 rfl rfl ?_
    refine wp_V1i dX7_follow_16 mw_351 mw_352 mw_353 mi_X2_has (Nat.le_of_ble_eq_true rfl) (Nat.le_refl _) (Nat.le_refl _) (st_k hst rfl) (by decide) rfl (c_has _ hst hk hk4 (fun j16 hj16 e16 => ?_) (fun no16 => ?_)) 
    · subst e16
      refine wp_if_ne1 (tgt := 24) dX7_follow_19 (by decide) ?_
      refine wp_iload_n (i := 3) dX7_follow_24 rfl rfl ?_
      refine wp_iconst (v := 0) dX7_follow_25 (by decide) ?_
      refine wp_bipush (v := 99) dX7_follow_26 (by decide) ?_
      refine wp_S3i dX7_follow_28 mw_267 mw_268 mi_X7_isWithin (Nat.le_of_ble_eq_true rfl) (Nat.le_refl _) (Nat.le_refl _) (c_isWithin _ (a := 0) (b := 99) rfl rfl (fun ga28 gb28 => ?_) (fun gn28 => ?_)) 
      · skip
        refine wp_if_eq1 (tgt := 39) dX7_follow_31 (by decide) ?_
        refine wp_iload_n (i := 1) dX7_follow_34 rfl rfl ?_
        refine wp_iload_n (i := 2) dX7_follow_35 rfl rfl ?_
        refine wp_icmp_ne (tgt := 42) dX7_follow_36 (by decide) (fun zq36 => ?_) (fun zq36 => ?_) 
        · refine wp_aload_n (i := 0) dX7_follow_42 rfl rfl ?_
          refine wp_getR dX7_follow_43 fl_X7_12 rfl (st_k hst rfl) (st_r hst rfl) ?_
          refine wp_getR dX7_follow_46 fl_X7_108 rfl (st_k hst rfl) (st_r hst rfl) ?_
          refine wp_iload_n (i := 1) dX7_follow_49 rfl rfl ?_
          refine wp_rld13 dX7_follow_50 (st_t hst rfl) rfl (by omega) (sf_r hst (by omega)) ?_
          refine wp_iload_n (i := 2) dX7_follow_51 rfl rfl ?_
          refine wp_ild dX7_follow_52 (sf_t hst (by omega)) rfl (by omega) ?_
          refine wp_istore_5_4 dX7_follow_53 rfl ?_
          refine wp_aload_n (i := 0) dX7_follow_55 rfl rfl ?_
          refine wp_getR dX7_follow_56 fl_X7_12 rfl (st_k hst rfl) (st_r hst rfl) ?_
          refine wp_getR dX7_follow_59 fl_X7_108 rfl (st_k hst rfl) (st_r hst rfl) ?_
          refine wp_iload_n (i := 1) dX7_follow_62 rfl rfl ?_
          refine wp_rld13 dX7_follow_63 (st_t hst rfl) rfl (by omega) (sf_r hst (by omega)) ?_
          refine wp_iload_n (i := 2) dX7_follow_64 rfl rfl ?_
          refine wp_iload_n (i := 3) dX7_follow_65 rfl rfl ?_
          refine wp_ist dX7_follow_66 (sf_t hst (by omega)) rfl (by omega) ?_
          refine wp_iload dX7_follow_67 rfl ?_
          exact wp_retI dX7_follow_69 rfl (Nat.le_refl _) (Nat.le_refl _) (h3 j5 j16 hj5 hj16 (fun e => zq36 (by rw [e])) rfl rfl ga28 gb28)
        · refine wp_bipush (v := (-2)) dX7_follow_39 (by decide) ?_
          exact wp_retI dX7_follow_41 rfl (Nat.le_refl _) (Nat.le_refl _) (h2 j5 j16 hj5 hj16 rfl rfl (fun g => g.2.2 ((nI_eq (by omega) (by omega)).mp zq36)))
      · skip
        refine wp_if_eq0 (tgt := 39) dX7_follow_31 (by decide) ?_
        refine wp_bipush (v := (-2)) dX7_follow_39 (by decide) ?_
        exact wp_retI dX7_follow_41 rfl (Nat.le_refl _) (Nat.le_refl _) (h2 j5 j16 hj5 hj16 rfl rfl (fun g => gn28 ⟨g.1, g.2.1⟩))
    · skip
      refine wp_if_ne0 (tgt := 24) dX7_follow_19 (by decide) ?_
      refine wp_iconst (v := (-1)) dX7_follow_22 (by decide) ?_
      exact wp_retI dX7_follow_23 rfl (Nat.le_refl _) (Nat.le_refl _) (by first | assumption | solve_by_elim [rfl])
  · skip
    refine wp_if_eq0 (tgt := 22) dX7_follow_8 (by decide) ?_
    refine wp_iconst (v := (-1)) dX7_follow_22 (by decide) ?_
    exact wp_retI dX7_follow_23 rfl (Nat.le_refl _) (Nat.le_refl _) (by first | assumption | solve_by_elim [rfl])

theorem c_followM (d : Nat) {n : Nat} {t : eT} {I : eI} {R : eR} {Q : Int32 → Nat → eT → eI → eR → Prop} (hst : ST n t R) {k : Nat} (hkM : I 94 1 = nI k) (hk4 : k ≤ 10) {x y w : Int32} (h1 : (∀ j, j < k → x ≠ nI j) → Q (-1) n t I R) (h1b : (∀ j, j < k → y ≠ nI j) → Q (-1) n t I R) (h2 : ∀ a b, a < k → b < k → x = nI a → y = nI b → ¬ (0 ≤ w.toInt ∧ w.toInt ≤ 99 ∧ a ≠ b) → Q (-2) n t I R) (h3 : ∀ a b, a < k → b < k → a ≠ b → x = nI a → y = nI b → 0 ≤ w.toInt → w.toInt ≤ 99 → Q (I 97 (10 * a + b)) n t (eU I 97 (10 * a + b) w) R) : MC yX8_follow cX8_follow 5 (some .int) (d + 2) 0 0 [.ref 94, .int x, .int y, .int w] n t I R (qI Q) := by
  refine mc_intro (L0 := [.ref 94, .int x, .int y, .int w, vU]) (by decide) rfl (Nat.le_of_ble_eq_true rfl) ?_
  refine wp_aload_n (i := 0) dX8_follow_0 rfl rfl ?_
  refine wp_iload_n (i := 1) dX8_follow_1 rfl rfl ?_
  refine wp_V1i dX8_follow_2 mw_916 mw_918 ms_31 mi_X8_noPart (Nat.le_of_ble_eq_true rfl) (Nat.le_refl _) (Nat.le_refl _) (st_k hst rfl) (by decide) rfl (c_noPart _ hst hkM hk4 (fun j2 hj2 e2 => ?_) (fun no2 => ?_)) 
  · subst e2
    refine wp_if_ne0 (tgt := 16) dX8_follow_5 (by decide) ?_
    refine wp_aload_n (i := 0) dX8_follow_8 rfl rfl ?_
    refine wp_iload_n (i := 2) dX8_follow_9 rfl rfl ?_
    refine wp_V1i dX8_follow_10 mw_916 mw_918 ms_31 mi_X8_noPart (Nat.le_of_ble_eq_true rfl) (Nat.le_refl _) (Nat.le_refl _) (st_k hst rfl) (by decide) rfl (c_noPart _ hst hkM hk4 (fun j10 hj10 e10 => ?_) (fun no10 => ?_)) 
    · subst e10
      refine wp_if_eq0 (tgt := 18) dX8_follow_13 (by decide) ?_
      refine wp_iload_n (i := 3) dX8_follow_18 rfl rfl ?_
      refine wp_i2l dX8_follow_19 ?_
      refine wp_lconst (v := 0) dX8_follow_20 (by decide) ?_
      refine wp_ldc2 (v := 99) dX8_follow_21 mw_933 ?_
      refine wp_S3i dX8_follow_24 mw_887 mw_888 mi_X8_in (Nat.le_of_ble_eq_true rfl) (Nat.le_refl _) (Nat.le_refl _) (c_in _ (a := 0) (b := 99) rfl rfl (fun ga24 gb24 => ?_) (fun gn24 => ?_)) 
      · skip
        refine wp_if_eq1 (tgt := 35) dX8_follow_27 (by decide) ?_
        refine wp_iload_n (i := 1) dX8_follow_30 rfl rfl ?_
        refine wp_iload_n (i := 2) dX8_follow_31 rfl rfl ?_
        refine wp_icmp_ne (tgt := 38) dX8_follow_32 (by decide) (fun zq32 => ?_) (fun zq32 => ?_) 
        · refine wp_aload_n (i := 0) dX8_follow_38 rfl rfl ?_
          refine wp_getR dX8_follow_39 fl_X8_16 rfl (st_k hst rfl) (st_r hst rfl) ?_
          refine wp_bipush (v := 10) dX8_follow_42 (by decide) ?_
          refine wp_iload_n (i := 1) dX8_follow_44 rfl rfl ?_
          refine wp_imul dX8_follow_45 ?_
          refine wp_iload_n (i := 2) dX8_follow_46 rfl rfl ?_
          refine wp_iadd dX8_follow_47 ?_
          refine wp_ild (j := 10 * j2 + j10) dX8_follow_48 (st_t hst rfl) (n_lin 10 j2 j10) (by omega) ?_
          refine wp_istore_5_4 dX8_follow_49 rfl ?_
          refine wp_aload_n (i := 0) dX8_follow_51 rfl rfl ?_
          refine wp_getR dX8_follow_52 fl_X8_16 rfl (st_k hst rfl) (st_r hst rfl) ?_
          refine wp_bipush (v := 10) dX8_follow_55 (by decide) ?_
          refine wp_iload_n (i := 1) dX8_follow_57 rfl rfl ?_
          refine wp_imul dX8_follow_58 ?_
          refine wp_iload_n (i := 2) dX8_follow_59 rfl rfl ?_
          refine wp_iadd dX8_follow_60 ?_
          refine wp_iload_n (i := 3) dX8_follow_61 rfl rfl ?_
          refine wp_ist (j := 10 * j2 + j10) dX8_follow_62 (st_t hst rfl) (n_lin 10 j2 j10) (by omega) ?_
          refine wp_iload dX8_follow_63 rfl ?_
          exact wp_retI dX8_follow_65 rfl (Nat.le_refl _) (Nat.le_refl _) (h3 j2 j10 hj2 hj10 (fun e => zq32 (by rw [e])) rfl rfl ga24 gb24)
        · refine wp_bipush (v := (-2)) dX8_follow_35 (by decide) ?_
          exact wp_retI dX8_follow_37 rfl (Nat.le_refl _) (Nat.le_refl _) (h2 j2 j10 hj2 hj10 rfl rfl (fun g => g.2.2 ((nI_eq (by omega) (by omega)).mp zq32)))
      · skip
        refine wp_if_eq0 (tgt := 35) dX8_follow_27 (by decide) ?_
        refine wp_bipush (v := (-2)) dX8_follow_35 (by decide) ?_
        exact wp_retI dX8_follow_37 rfl (Nat.le_refl _) (Nat.le_refl _) (h2 j2 j10 hj2 hj10 rfl rfl (fun g => gn24 ⟨g.1, g.2.1⟩))
    · skip
      refine wp_if_eq1 (tgt := 18) dX8_follow_13 (by decide) ?_
      refine wp_iconst (v := (-1)) dX8_follow_16 (by decide) ?_
      exact wp_retI dX8_follow_17 rfl (Nat.le_refl _) (Nat.le_refl _) (by first | assumption | solve_by_elim [rfl])
  · skip
    refine wp_if_ne1 (tgt := 16) dX8_follow_5 (by decide) ?_
    refine wp_iconst (v := (-1)) dX8_follow_16 (by decide) ?_
    exact wp_retI dX8_follow_17 rfl (Nat.le_refl _) (Nat.le_refl _) (by first | assumption | solve_by_elim [rfl])

theorem c_person (d : Nat) {n : Nat} {t : eT} {I : eI} {R : eR} {Q : Int32 → Nat → eT → eI → eR → Prop} (hst : ST n t R) {m : Nat} (hm : I 4 3 = nI m) (hm4 : m ≤ 4) (h1 : m = 4 → Q (-4) n t I R) (h2 : m < 4 → Q (nI m) n t (eU I 4 3 (nI (m + 1))) R) : MC yX7_person cX7_person 1 (some .int) d 0 0 [.ref 4] n t I R (qI Q) := by
  refine mc_intro (L0 := [.ref 4]) (by decide) rfl (Nat.le_of_ble_eq_true rfl) ?_
  refine wp_aload_n (i := 0) dX7_person_0 rfl rfl ?_
  refine wp_getI dX7_person_1 fl_X7_31 rfl (st_k hst rfl) ?_
  refine wp_iconst (v := 4) dX7_person_4 (by decide) ?_
  refine wp_icmp_lt (tgt := 11) dX7_person_5 (by decide) (fun zq5 => ?_) (fun zq5 => ?_) 
  · refine wp_aload_n (i := 0) dX7_person_11 rfl rfl ?_
    refine wp_dup dX7_person_12 rfl ?_
    refine wp_getI dX7_person_13 fl_X7_31 rfl (st_k hst rfl) ?_
    refine wp_iconst (v := 1) dX7_person_16 (by decide) ?_
    refine wp_iadd dX7_person_17 ?_
    refine wp_putI dX7_person_18 fl_X7_31 rfl (Or.inl rfl) (st_k hst rfl) ?_
    refine wp_aload_n (i := 0) dX7_person_21 rfl rfl ?_
    refine wp_getI dX7_person_22 fl_X7_31 rfl (st_k hst rfl) ?_
    refine wp_iconst (v := 1) dX7_person_25 (by decide) ?_
    refine wp_isub dX7_person_26 ?_
    exact wp_retI dX7_person_27 rfl (Nat.le_refl _) (Nat.le_refl _) (by rw [hm, i_lt, nI_toInt (by omega)] at zq5; have : (4 : Int32).toInt = 4 := rfl; have g := h2 (by omega); rw [hm, eU_at, nI_1, nI_pred]; exact g)
  · refine wp_bipush (v := (-4)) dX7_person_8 (by decide) ?_
    exact wp_retI dX7_person_10 rfl (Nat.le_refl _) (Nat.le_refl _) (h1 (by rw [hm, i_lt, nI_toInt (by omega)] at zq5; have : (4 : Int32).toInt = 4 := rfl; omega))

theorem c_personM (d : Nat) {n : Nat} {t : eT} {I : eI} {R : eR} {Q : Int32 → Nat → eT → eI → eR → Prop} (hst : ST n t R) {m : Nat} (hmM : I 94 9 = nI m) (hm4 : m ≤ 4) (h1 : m = 4 → Q (-4) n t I R) (h2 : m < 4 → Q (nI m) n t (eU I 94 9 (nI (m + 1))) R) : MC yX8_person cX8_person 1 (some .int) d 0 0 [.ref 94] n t I R (qI Q) := by
  refine mc_intro (L0 := [.ref 94]) (by decide) rfl (Nat.le_of_ble_eq_true rfl) ?_
  refine wp_aload_n (i := 0) dX8_person_0 rfl rfl ?_
  refine wp_getI dX8_person_1 fl_X8_172 rfl (st_k hst rfl) ?_
  refine wp_iconst (v := 4) dX8_person_4 (by decide) ?_
  refine wp_icmp_ne (tgt := 11) dX8_person_5 (by decide) (fun zq5 => ?_) (fun zq5 => ?_) 
  · refine wp_aload_n (i := 0) dX8_person_11 rfl rfl ?_
    refine wp_dup dX8_person_12 rfl ?_
    refine wp_getI dX8_person_13 fl_X8_172 rfl (st_k hst rfl) ?_
    refine wp_iconst (v := 1) dX8_person_16 (by decide) ?_
    refine wp_iadd dX8_person_17 ?_
    refine wp_putI dX8_person_18 fl_X8_172 rfl (Or.inl rfl) (st_k hst rfl) ?_
    refine wp_aload_n (i := 0) dX8_person_21 rfl rfl ?_
    refine wp_getI dX8_person_22 fl_X8_172 rfl (st_k hst rfl) ?_
    refine wp_iconst (v := 1) dX8_person_25 (by decide) ?_
    refine wp_isub dX8_person_26 ?_
    exact wp_retI dX8_person_27 rfl (Nat.le_refl _) (Nat.le_refl _) (by have g0 : m ≠ 4 := (fun e => zq5 (by rw [hmM, e]; rfl)); have g := h2 (by omega); rw [hmM, eU_at, nI_1, nI_pred]; exact g)
  · refine wp_bipush (v := (-4)) dX8_person_8 (by decide) ?_
    exact wp_retI dX8_person_10 rfl (Nat.le_refl _) (Nat.le_refl _) (h1 ((nI_eq (by omega) (by omega)).mp (by rw [← hmM]; exact zq5)))

