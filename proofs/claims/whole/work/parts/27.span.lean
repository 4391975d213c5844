def spanS (a b c w : Int32) : Int32 := if a + b + c ≤ 0 then -9 else if ¬ 10 * a < w * (a + b + c) then 0 else if ¬ 10 * (a + b) < w * (a + b + c) then 1 else if ¬ 10 * (a + b + c) < w * (a + b + c) then 2 else -9
theorem c_spanFor (d : Nat) {n : Nat} {t : eT} {I : eI} {R : eR} {Q : Int32 → Nat → eT → eI → eR → Prop} (hst : ST n t R) {j : Nat} (hj : j < 4) {w : Int32} (hq : Q (spanS (I (60 + 10 * j) 0) (I (60 + 10 * j) 1) (I (60 + 10 * j) 2) w) n t I R) : MC yX3_spanFor cX3_spanFor 5 (some .int) d 0 0 [.ref (54 + 10 * j), .int w] n t I R (qI Q) := by
  refine mc_intro (L0 := [.ref (54 + 10 * j), .int w, vU, vU, vU]) (by decide) rfl (Nat.le_of_ble_eq_true rfl) ?_
  refine wp_iconst (v := 0) dX3_spanFor_0 (by decide) ?_
  refine wp_istore_5_2 dX3_spanFor_1 rfl ?_
  refine wp_iconst (v := 0) dX3_spanFor_2 (by decide) ?_
  refine wp_istore_5_3 dX3_spanFor_3 rfl ?_
  refine wp_iload_n (i := 3) dX3_spanFor_4 rfl rfl ?_
  refine wp_iconst (v := 3) dX3_spanFor_5 (by decide) ?_
  refine wp_icmp_ge (tgt := 24) dX3_spanFor_6 (by decide) (fun zq6 => absurd zq6 (by decide)) (fun zq6 => ?_) 
  refine wp_iload_n (i := 2) dX3_spanFor_9 rfl rfl ?_
  refine wp_aload_n (i := 0) dX3_spanFor_10 rfl rfl ?_
  refine wp_getR dX3_spanFor_11 fl_X3_38 rfl (sp_k0 hst (by omega)) (sp_r7 hst (by omega)) ?_
  refine wp_iload_n (i := 3) dX3_spanFor_14 rfl rfl ?_
  refine wp_ild dX3_spanFor_15 (sp_t6 hst (by omega)) rfl (by decide) ?_
  refine wp_iadd dX3_spanFor_16 ?_
  try rw [Int32.zero_add]
  refine wp_istore_5_2 dX3_spanFor_17 rfl ?_
  refine wp_iinc_5_3 (v := 1) dX3_spanFor_18 (by decide) ?_
  refine wp_goto (tgt := 4) dX3_spanFor_21 (by decide) ?_
  refine wp_iload_n (i := 3) dX3_spanFor_4 rfl rfl ?_
  refine wp_iconst (v := 3) dX3_spanFor_5 (by decide) ?_
  refine wp_icmp_ge (tgt := 24) dX3_spanFor_6 (by decide) (fun zq6 => absurd zq6 (by decide)) (fun zq6 => ?_) 
  refine wp_iload_n (i := 2) dX3_spanFor_9 rfl rfl ?_
  refine wp_aload_n (i := 0) dX3_spanFor_10 rfl rfl ?_
  refine wp_getR dX3_spanFor_11 fl_X3_38 rfl (sp_k0 hst (by omega)) (sp_r7 hst (by omega)) ?_
  refine wp_iload_n (i := 3) dX3_spanFor_14 rfl rfl ?_
  refine wp_ild dX3_spanFor_15 (sp_t6 hst (by omega)) rfl (by decide) ?_
  refine wp_iadd dX3_spanFor_16 ?_
  try rw [Int32.zero_add]
  refine wp_istore_5_2 dX3_spanFor_17 rfl ?_
  refine wp_iinc_5_3 (v := 2) dX3_spanFor_18 (by decide) ?_
  refine wp_goto (tgt := 4) dX3_spanFor_21 (by decide) ?_
  refine wp_iload_n (i := 3) dX3_spanFor_4 rfl rfl ?_
  refine wp_iconst (v := 3) dX3_spanFor_5 (by decide) ?_
  refine wp_icmp_ge (tgt := 24) dX3_spanFor_6 (by decide) (fun zq6 => absurd zq6 (by decide)) (fun zq6 => ?_) 
  refine wp_iload_n (i := 2) dX3_spanFor_9 rfl rfl ?_
  refine wp_aload_n (i := 0) dX3_spanFor_10 rfl rfl ?_
  refine wp_getR dX3_spanFor_11 fl_X3_38 rfl (sp_k0 hst (by omega)) (sp_r7 hst (by omega)) ?_
  refine wp_iload_n (i := 3) dX3_spanFor_14 rfl rfl ?_
  refine wp_ild dX3_spanFor_15 (sp_t6 hst (by omega)) rfl (by decide) ?_
  refine wp_iadd dX3_spanFor_16 ?_
  try rw [Int32.zero_add]
  refine wp_istore_5_2 dX3_spanFor_17 rfl ?_
  refine wp_iinc_5_3 (v := 3) dX3_spanFor_18 (by decide) ?_
  refine wp_goto (tgt := 4) dX3_spanFor_21 (by decide) ?_
  refine wp_iload_n (i := 3) dX3_spanFor_4 rfl rfl ?_
  refine wp_iconst (v := 3) dX3_spanFor_5 (by decide) ?_
  refine wp_icmp_ge (tgt := 24) dX3_spanFor_6 (by decide) (fun zq6 => ?_) (fun zq6 => absurd zq6 (by decide)) 
  refine wp_iconst (v := 0) dX3_spanFor_24 (by decide) ?_
  refine wp_istore_5_3 dX3_spanFor_25 rfl ?_
  refine wp_iconst (v := 0) dX3_spanFor_26 (by decide) ?_
  refine wp_istore_5_4 dX3_spanFor_27 rfl ?_
  refine wp_iload dX3_spanFor_29 rfl ?_
  refine wp_iconst (v := 3) dX3_spanFor_31 (by decide) ?_
  refine wp_icmp_ge (tgt := 68) dX3_spanFor_32 (by decide) (fun zq32 => absurd zq32 (by decide)) (fun zq32 => ?_) 
  refine wp_iload_n (i := 2) dX3_spanFor_35 rfl rfl ?_
  refine wp_if_le (tgt := 68) dX3_spanFor_36 (by decide) (fun zq36 => ?_) (fun zq36 => ?_) 
  · refine wp_bipush (v := (-9)) dX3_spanFor_68 (by decide) ?_
    exact wp_retI dX3_spanFor_70 rfl (Nat.le_refl _) (Nat.le_refl _) (by unfold spanS at hq; rw [if_pos zq36] at hq; exact hq)
  · refine wp_iload_n (i := 3) dX3_spanFor_39 rfl rfl ?_
    refine wp_aload_n (i := 0) dX3_spanFor_40 rfl rfl ?_
    refine wp_getR dX3_spanFor_41 fl_X3_38 rfl (sp_k0 hst (by omega)) (sp_r7 hst (by omega)) ?_
    refine wp_iload dX3_spanFor_44 rfl ?_
    refine wp_ild dX3_spanFor_46 (sp_t6 hst (by omega)) rfl (by decide) ?_
    refine wp_iadd dX3_spanFor_47 ?_
    try rw [Int32.zero_add]
    refine wp_istore_5_3 dX3_spanFor_48 rfl ?_
    refine wp_bipush (v := 10) dX3_spanFor_49 (by decide) ?_
    refine wp_iload_n (i := 3) dX3_spanFor_51 rfl rfl ?_
    refine wp_imul dX3_spanFor_52 ?_
    refine wp_iload_n (i := 1) dX3_spanFor_53 rfl rfl ?_
    refine wp_iload_n (i := 2) dX3_spanFor_54 rfl rfl ?_
    refine wp_imul dX3_spanFor_55 ?_
    refine wp_icmp_lt (tgt := 62) dX3_spanFor_56 (by decide) (fun zq56 => ?_) (fun zq56 => ?_) 
    · refine wp_iinc_5_4 (v := 1) dX3_spanFor_62 (by decide) ?_
      refine wp_goto (tgt := 29) dX3_spanFor_65 (by decide) ?_
      refine wp_iload dX3_spanFor_29 rfl ?_
      refine wp_iconst (v := 3) dX3_spanFor_31 (by decide) ?_
      refine wp_icmp_ge (tgt := 68) dX3_spanFor_32 (by decide) (fun zq32 => absurd zq32 (by decide)) (fun zq32 => ?_) 
      refine wp_iload_n (i := 2) dX3_spanFor_35 rfl rfl ?_
      refine wp_if_le (tgt := 68) dX3_spanFor_36 (by decide) (fun zz2 => absurd zz2 zq36) (fun zz2 => ?_) 
      refine wp_iload_n (i := 3) dX3_spanFor_39 rfl rfl ?_
      refine wp_aload_n (i := 0) dX3_spanFor_40 rfl rfl ?_
      refine wp_getR dX3_spanFor_41 fl_X3_38 rfl (sp_k0 hst (by omega)) (sp_r7 hst (by omega)) ?_
      refine wp_iload dX3_spanFor_44 rfl ?_
      refine wp_ild dX3_spanFor_46 (sp_t6 hst (by omega)) rfl (by decide) ?_
      refine wp_iadd dX3_spanFor_47 ?_
      try rw [Int32.zero_add]
      refine wp_istore_5_3 dX3_spanFor_48 rfl ?_
      refine wp_bipush (v := 10) dX3_spanFor_49 (by decide) ?_
      refine wp_iload_n (i := 3) dX3_spanFor_51 rfl rfl ?_
      refine wp_imul dX3_spanFor_52 ?_
      refine wp_iload_n (i := 1) dX3_spanFor_53 rfl rfl ?_
      refine wp_iload_n (i := 2) dX3_spanFor_54 rfl rfl ?_
      refine wp_imul dX3_spanFor_55 ?_
      refine wp_icmp_lt (tgt := 62) dX3_spanFor_56 (by decide) (fun zy2 => ?_) (fun zy2 => ?_) 
      · refine wp_iinc_5_4 (v := 2) dX3_spanFor_62 (by decide) ?_
        refine wp_goto (tgt := 29) dX3_spanFor_65 (by decide) ?_
        refine wp_iload dX3_spanFor_29 rfl ?_
        refine wp_iconst (v := 3) dX3_spanFor_31 (by decide) ?_
        refine wp_icmp_ge (tgt := 68) dX3_spanFor_32 (by decide) (fun zq32 => absurd zq32 (by decide)) (fun zq32 => ?_) 
        refine wp_iload_n (i := 2) dX3_spanFor_35 rfl rfl ?_
        refine wp_if_le (tgt := 68) dX3_spanFor_36 (by decide) (fun zz3 => absurd zz3 zq36) (fun zz3 => ?_) 
        refine wp_iload_n (i := 3) dX3_spanFor_39 rfl rfl ?_
        refine wp_aload_n (i := 0) dX3_spanFor_40 rfl rfl ?_
        refine wp_getR dX3_spanFor_41 fl_X3_38 rfl (sp_k0 hst (by omega)) (sp_r7 hst (by omega)) ?_
        refine wp_iload dX3_spanFor_44 rfl ?_
        refine wp_ild dX3_spanFor_46 (sp_t6 hst (by omega)) rfl (by decide) ?_
        refine wp_iadd dX3_spanFor_47 ?_
        try rw [Int32.zero_add]
        refine wp_istore_5_3 dX3_spanFor_48 rfl ?_
        refine wp_bipush (v := 10) dX3_spanFor_49 (by decide) ?_
        refine wp_iload_n (i := 3) dX3_spanFor_51 rfl rfl ?_
        refine wp_imul dX3_spanFor_52 ?_
        refine wp_iload_n (i := 1) dX3_spanFor_53 rfl rfl ?_
        refine wp_iload_n (i := 2) dX3_spanFor_54 rfl rfl ?_
        refine wp_imul dX3_spanFor_55 ?_
        refine wp_icmp_lt (tgt := 62) dX3_spanFor_56 (by decide) (fun zy3 => ?_) (fun zy3 => ?_) 
        · refine wp_iinc_5_4 (v := 3) dX3_spanFor_62 (by decide) ?_
          refine wp_goto (tgt := 29) dX3_spanFor_65 (by decide) ?_
          refine wp_iload dX3_spanFor_29 rfl ?_
          refine wp_iconst (v := 3) dX3_spanFor_31 (by decide) ?_
          refine wp_icmp_ge (tgt := 68) dX3_spanFor_32 (by decide) (fun zq32 => ?_) (fun zq32 => absurd zq32 (by decide)) 
          refine wp_bipush (v := (-9)) dX3_spanFor_68 (by decide) ?_
          exact wp_retI dX3_spanFor_70 rfl (Nat.le_refl _) (Nat.le_refl _) (by unfold spanS at hq; rw [if_neg zq36, if_neg (fun g => g zq56), if_neg (fun g => g zy2), if_neg (fun g => g zy3)] at hq; exact hq)
        · refine wp_iload dX3_spanFor_59 rfl ?_
          exact wp_retI dX3_spanFor_61 rfl (Nat.le_refl _) (Nat.le_refl _) (by unfold spanS at hq; rw [if_neg zq36, if_neg (fun g => g zq56), if_neg (fun g => g zy2), if_pos zy3] at hq; exact hq)
      · refine wp_iload dX3_spanFor_59 rfl ?_
        exact wp_retI dX3_spanFor_61 rfl (Nat.le_refl _) (Nat.le_refl _) (by unfold spanS at hq; rw [if_neg zq36, if_neg (fun g => g zq56), if_pos zy2] at hq; exact hq)
    · refine wp_iload dX3_spanFor_59 rfl ?_
      exact wp_retI dX3_spanFor_61 rfl (Nat.le_refl _) (Nat.le_refl _) (by unfold spanS at hq; rw [if_neg zq36, if_pos zq56] at hq; exact hq)

theorem c_spanOf (d : Nat) {n : Nat} {t : eT} {I : eI} {R : eR} {Q : Int32 → Nat → eT → eI → eR → Prop} (hst : ST n t R) {j : Nat} (hj : j < 4) {w : Int32} (hq : Q (spanS (I 118 (3 * j)) (I 118 (3 * j + 1)) (I 118 (3 * j + 2)) w) n t I R) : MC yX8_spanOf cX8_spanOf 6 (some .int) d 0 0 [.ref 94, .int (nI j), .int w] n t I R (qI Q) := by
  refine mc_intro (L0 := [.ref 94, .int (nI j), .int w, vU, vU, vU]) (by decide) rfl (Nat.le_of_ble_eq_true rfl) ?_
  refine wp_aload_n (i := 0) dX8_spanOf_0 rfl rfl ?_
  refine wp_getR dX8_spanOf_1 fl_X8_80 rfl (st_k hst rfl) (st_r hst rfl) ?_
  refine wp_iconst (v := 3) dX8_spanOf_4 (by decide) ?_
  refine wp_iload_n (i := 1) dX8_spanOf_5 rfl rfl ?_
  refine wp_imul dX8_spanOf_6 ?_
  refine wp_ild (j := 3 * j) dX8_spanOf_7 (st_t hst rfl) (pk_mul 3 j) (by omega) ?_
  refine wp_aload_n (i := 0) dX8_spanOf_8 rfl rfl ?_
  refine wp_getR dX8_spanOf_9 fl_X8_80 rfl (st_k hst rfl) (st_r hst rfl) ?_
  refine wp_iconst (v := 3) dX8_spanOf_12 (by decide) ?_
  refine wp_iload_n (i := 1) dX8_spanOf_13 rfl rfl ?_
  refine wp_imul dX8_spanOf_14 ?_
  refine wp_iconst (v := 1) dX8_spanOf_15 (by decide) ?_
  refine wp_iadd dX8_spanOf_16 ?_
  refine wp_ild (j := 3 * j + 1) dX8_spanOf_17 (st_t hst rfl) (n_lin 3 j 1) (by omega) ?_
  refine wp_iadd dX8_spanOf_18 ?_
  refine wp_aload_n (i := 0) dX8_spanOf_19 rfl rfl ?_
  refine wp_getR dX8_spanOf_20 fl_X8_80 rfl (st_k hst rfl) (st_r hst rfl) ?_
  refine wp_iconst (v := 3) dX8_spanOf_23 (by decide) ?_
  refine wp_iload_n (i := 1) dX8_spanOf_24 rfl rfl ?_
  refine wp_imul dX8_spanOf_25 ?_
  refine wp_iconst (v := 2) dX8_spanOf_26 (by decide) ?_
  refine wp_iadd dX8_spanOf_27 ?_
  refine wp_ild (j := 3 * j + 2) dX8_spanOf_28 (st_t hst rfl) (n_lin 3 j 2) (by omega) ?_
  refine wp_iadd dX8_spanOf_29 ?_
  refine wp_istore_6_3 dX8_spanOf_30 rfl ?_
  refine wp_iconst (v := 0) dX8_spanOf_31 (by decide) ?_
  refine wp_istore_6_4 dX8_spanOf_32 rfl ?_
  refine wp_iconst (v := 0) dX8_spanOf_34 (by decide) ?_
  refine wp_istore_6_5 dX8_spanOf_35 rfl ?_
  refine wp_iload dX8_spanOf_37 rfl ?_
  refine wp_iconst (v := 3) dX8_spanOf_39 (by decide) ?_
  refine wp_icmp_ge (tgt := 83) dX8_spanOf_40 (by decide) (fun zq40 => absurd zq40 (by decide)) (fun zq40 => ?_) 
  refine wp_iload_n (i := 3) dX8_spanOf_43 rfl rfl ?_
  refine wp_if_le (tgt := 83) dX8_spanOf_44 (by decide) (fun zq44 => ?_) (fun zq44 => ?_) 
  · refine wp_bipush (v := (-9)) dX8_spanOf_83 (by decide) ?_
    exact wp_retI dX8_spanOf_85 rfl (Nat.le_refl _) (Nat.le_refl _) (by unfold spanS at hq; rw [if_pos zq44] at hq; exact hq)
  · refine wp_iload dX8_spanOf_47 rfl ?_
    refine wp_aload_n (i := 0) dX8_spanOf_49 rfl rfl ?_
    refine wp_getR dX8_spanOf_50 fl_X8_80 rfl (st_k hst rfl) (st_r hst rfl) ?_
    refine wp_iconst (v := 3) dX8_spanOf_53 (by decide) ?_
    refine wp_iload_n (i := 1) dX8_spanOf_54 rfl rfl ?_
    refine wp_imul dX8_spanOf_55 ?_
    refine wp_iload dX8_spanOf_56 rfl ?_
    refine wp_iadd dX8_spanOf_58 ?_
    refine wp_ild (j := 3 * j) dX8_spanOf_59 (st_t hst rfl) (n_lin 3 j 0) (by omega) ?_
    refine wp_iadd dX8_spanOf_60 ?_
    try rw [Int32.zero_add]
    refine wp_istore_6_4 dX8_spanOf_61 rfl ?_
    refine wp_bipush (v := 10) dX8_spanOf_63 (by decide) ?_
    refine wp_iload dX8_spanOf_65 rfl ?_
    refine wp_imul dX8_spanOf_67 ?_
    refine wp_iload_n (i := 2) dX8_spanOf_68 rfl rfl ?_
    refine wp_iload_n (i := 3) dX8_spanOf_69 rfl rfl ?_
    refine wp_imul dX8_spanOf_70 ?_
    refine wp_icmp_lt (tgt := 77) dX8_spanOf_71 (by decide) (fun zq71 => ?_) (fun zq71 => ?_) 
    · refine wp_iinc_6_5 (v := 1) dX8_spanOf_77 (by decide) ?_
      refine wp_goto (tgt := 37) dX8_spanOf_80 (by decide) ?_
      refine wp_iload dX8_spanOf_37 rfl ?_
      refine wp_iconst (v := 3) dX8_spanOf_39 (by decide) ?_
      refine wp_icmp_ge (tgt := 83) dX8_spanOf_40 (by decide) (fun zq40 => absurd zq40 (by decide)) (fun zq40 => ?_) 
      refine wp_iload_n (i := 3) dX8_spanOf_43 rfl rfl ?_
      refine wp_if_le (tgt := 83) dX8_spanOf_44 (by decide) (fun zz2 => absurd zz2 zq44) (fun zz2 => ?_) 
      refine wp_iload dX8_spanOf_47 rfl ?_
      refine wp_aload_n (i := 0) dX8_spanOf_49 rfl rfl ?_
      refine wp_getR dX8_spanOf_50 fl_X8_80 rfl (st_k hst rfl) (st_r hst rfl) ?_
      refine wp_iconst (v := 3) dX8_spanOf_53 (by decide) ?_
      refine wp_iload_n (i := 1) dX8_spanOf_54 rfl rfl ?_
      refine wp_imul dX8_spanOf_55 ?_
      refine wp_iload dX8_spanOf_56 rfl ?_
      refine wp_iadd dX8_spanOf_58 ?_
      refine wp_ild (j := 3 * j + 1) dX8_spanOf_59 (st_t hst rfl) (n_lin 3 j 1) (by omega) ?_
      refine wp_iadd dX8_spanOf_60 ?_
      try rw [Int32.zero_add]
      refine wp_istore_6_4 dX8_spanOf_61 rfl ?_
      refine wp_bipush (v := 10) dX8_spanOf_63 (by decide) ?_
      refine wp_iload dX8_spanOf_65 rfl ?_
      refine wp_imul dX8_spanOf_67 ?_
      refine wp_iload_n (i := 2) dX8_spanOf_68 rfl rfl ?_
      refine wp_iload_n (i := 3) dX8_spanOf_69 rfl rfl ?_
      refine wp_imul dX8_spanOf_70 ?_
      refine wp_icmp_lt (tgt := 77) dX8_spanOf_71 (by decide) (fun zy2 => ?_) (fun zy2 => ?_) 
      · refine wp_iinc_6_5 (v := 2) dX8_spanOf_77 (by decide) ?_
        refine wp_goto (tgt := 37) dX8_spanOf_80 (by decide) ?_
        refine wp_iload dX8_spanOf_37 rfl ?_
        refine wp_iconst (v := 3) dX8_spanOf_39 (by decide) ?_
        refine wp_icmp_ge (tgt := 83) dX8_spanOf_40 (by decide) (fun zq40 => absurd zq40 (by decide)) (fun zq40 => ?_) 
        refine wp_iload_n (i := 3) dX8_spanOf_43 rfl rfl ?_
        refine wp_if_le (tgt := 83) dX8_spanOf_44 (by decide) (fun zz3 => absurd zz3 zq44) (fun zz3 => ?_) 
        refine wp_iload dX8_spanOf_47 rfl ?_
        refine wp_aload_n (i := 0) dX8_spanOf_49 rfl rfl ?_
        refine wp_getR dX8_spanOf_50 fl_X8_80 rfl (st_k hst rfl) (st_r hst rfl) ?_
        refine wp_iconst (v := 3) dX8_spanOf_53 (by decide) ?_
        refine wp_iload_n (i := 1) dX8_spanOf_54 rfl rfl ?_
        refine wp_imul dX8_spanOf_55 ?_
        refine wp_iload dX8_spanOf_56 rfl ?_
        refine wp_iadd dX8_spanOf_58 ?_
        refine wp_ild (j := 3 * j + 2) dX8_spanOf_59 (st_t hst rfl) (n_lin 3 j 2) (by omega) ?_
        refine wp_iadd dX8_spanOf_60 ?_
        try rw [Int32.zero_add]
        refine wp_istore_6_4 dX8_spanOf_61 rfl ?_
        refine wp_bipush (v := 10) dX8_spanOf_63 (by decide) ?_
        refine wp_iload dX8_spanOf_65 rfl ?_
        refine wp_imul dX8_spanOf_67 ?_
        refine wp_iload_n (i := 2) dX8_spanOf_68 rfl rfl ?_
        refine wp_iload_n (i := 3) dX8_spanOf_69 rfl rfl ?_
        refine wp_imul dX8_spanOf_70 ?_
        refine wp_icmp_lt (tgt := 77) dX8_spanOf_71 (by decide) (fun zy3 => ?_) (fun zy3 => ?_) 
        · refine wp_iinc_6_5 (v := 3) dX8_spanOf_77 (by decide) ?_
          refine wp_goto (tgt := 37) dX8_spanOf_80 (by decide) ?_
          refine wp_iload dX8_spanOf_37 rfl ?_
          refine wp_iconst (v := 3) dX8_spanOf_39 (by decide) ?_
          refine wp_icmp_ge (tgt := 83) dX8_spanOf_40 (by decide) (fun zq40 => ?_) (fun zq40 => absurd zq40 (by decide)) 
          refine wp_bipush (v := (-9)) dX8_spanOf_83 (by decide) ?_
          exact wp_retI dX8_spanOf_85 rfl (Nat.le_refl _) (Nat.le_refl _) (by unfold spanS at hq; rw [if_neg zq44, if_neg (fun g => g zq71), if_neg (fun g => g zy2), if_neg (fun g => g zy3)] at hq; exact hq)
        · refine wp_iload dX8_spanOf_74 rfl ?_
          exact wp_retI dX8_spanOf_76 rfl (Nat.le_refl _) (Nat.le_refl _) (by unfold spanS at hq; rw [if_neg zq44, if_neg (fun g => g zq71), if_neg (fun g => g zy2), if_pos zy3] at hq; exact hq)
      · refine wp_iload dX8_spanOf_74 rfl ?_
        exact wp_retI dX8_spanOf_76 rfl (Nat.le_refl _) (Nat.le_refl _) (by unfold spanS at hq; rw [if_neg zq44, if_neg (fun g => g zq71), if_pos zy2] at hq; exact hq)
    · refine wp_iload dX8_spanOf_74 rfl ?_
      exact wp_retI dX8_spanOf_76 rfl (Nat.le_refl _) (Nat.le_refl _) (by unfold spanS at hq; rw [if_neg zq44, if_pos zq71] at hq; exact hq)

theorem c_span (d : Nat) {n : Nat} {t : eT} {I : eI} {R : eR} {Q : Int32 → Nat → eT → eI → eR → Prop} (hst : ST n t R) {m : Nat} (hm : I 4 3 = nI m) (hm4 : m ≤ 4) {p w : Int32} (h1 : (∀ j, j < m → p ≠ nI j) → Q (-1) n t I R) (h2 : ∀ j, j < m → p = nI j → ¬ (1 ≤ w.toInt ∧ w.toInt ≤ 10) → Q (-2) n t I R) (h3 : ∀ j, j < m → p = nI j → 1 ≤ w.toInt → w.toInt ≤ 10 → Q (spanS (I (60 + 10 * j) 0) (I (60 + 10 * j) 1) (I (60 + 10 * j) 2) w) n t I R) : MC yX7_span cX7_span 3 (some .int) (d + 2) 0 0 [.ref 4, .int p, .int w] n t I R (qI Q) := by
  refine mc_intro (L0 := [.ref 4, .int p, .int w]) (by decide) rfl (Nat.le_of_ble_eq_true rfl) ?_
  refine wp_aload_n (i := 0) dX7_span_0 rfl rfl ?_
  refine wp_iload_n (i := 1) dX7_span_1 rfl rfl ?_
  refine wp_V1i dX7_span_2 mw_375 mw_377 ms_7 mi_X7_isPerson (Nat.le_of_ble_eq_true rfl) (Nat.le_refl _) (Nat.le_refl _) (st_k hst rfl) (by decide) rfl (c_isPerson _ hst (by exact hm) hm4 (fun j2 hj2 e2 => ?_) (fun no2 => ?_)) 
  · subst e2
    refine wp_if_ne1 (tgt := 10) dX7_span_5 (by decide) ?_
    refine wp_iload_n (i := 2) dX7_span_10 rfl rfl ?_
    refine wp_iconst (v := 1) dX7_span_11 (by decide) ?_
    refine wp_bipush (v := 10) dX7_span_12 (by decide) ?_
    refine wp_S3i dX7_span_14 mw_267 mw_268 mi_X7_isWithin (Nat.le_of_ble_eq_true rfl) (Nat.le_refl _) (Nat.le_refl _) (c_isWithin _ (a := 1) (b := 10) rfl rfl (fun ga14 gb14 => ?_) (fun gn14 => ?_)) 
    · skip
      refine wp_if_ne1 (tgt := 23) dX7_span_17 (by decide) ?_
      refine wp_aload_n (i := 0) dX7_span_23 rfl rfl ?_
      refine wp_getR dX7_span_24 fl_X7_27 rfl (st_k hst rfl) (st_r hst rfl) ?_
      refine wp_iload_n (i := 1) dX7_span_27 rfl rfl ?_
      refine wp_rld11 dX7_span_28 (st_t hst rfl) rfl (by omega) (sp_34 hst (by omega)) ?_
      refine wp_iload_n (i := 2) dX7_span_29 rfl rfl ?_
      refine wp_V1i dX7_span_30 mw_606 mw_607 mw_608 mi_X3_spanFor (Nat.le_of_ble_eq_true rfl) (Nat.le_refl _) (Nat.le_refl _) (sp_k0 hst (by omega)) (by decide) rfl (c_spanFor _ hst (j := j2) (by omega) ?_) 
      exact wp_retI dX7_span_33 rfl (Nat.le_refl _) (Nat.le_refl _) (by first | assumption | solve_by_elim [rfl])
    · skip
      refine wp_if_ne0 (tgt := 23) dX7_span_17 (by decide) ?_
      refine wp_bipush (v := (-2)) dX7_span_20 (by decide) ?_
      exact wp_retI dX7_span_22 rfl (Nat.le_refl _) (Nat.le_refl _) (by first | assumption | solve_by_elim [rfl])
  · skip
    refine wp_if_ne0 (tgt := 10) dX7_span_5 (by decide) ?_
    refine wp_iconst (v := (-1)) dX7_span_8 (by decide) ?_
    exact wp_retI dX7_span_9 rfl (Nat.le_refl _) (Nat.le_refl _) (by first | assumption | solve_by_elim [rfl])

theorem c_spanM (d : Nat) {n : Nat} {t : eT} {I : eI} {R : eR} {Q : Int32 → Nat → eT → eI → eR → Prop} (hst : ST n t R) {m : Nat} (hmM : I 94 9 = nI m) (hm4 : m ≤ 4) {p w : Int32} (h1 : (∀ j, j < m → p ≠ nI j) → Q (-1) n t I R) (h2 : ∀ j, j < m → p = nI j → ¬ (1 ≤ w.toInt ∧ w.toInt ≤ 10) → Q (-2) n t I R) (h3 : ∀ j, j < m → p = nI j → 1 ≤ w.toInt → w.toInt ≤ 10 → Q (spanS (I 118 (3 * j)) (I 118 (3 * j + 1)) (I 118 (3 * j + 2)) w) n t I R) : MC yX8_span cX8_span 3 (some .int) (d + 2) 0 0 [.ref 94, .int p, .int w] n t I R (qI Q) := by
  refine mc_intro (L0 := [.ref 94, .int p, .int w]) (by decide) rfl (Nat.le_of_ble_eq_true rfl) ?_
  refine wp_aload_n (i := 0) dX8_span_0 rfl rfl ?_
  refine wp_iload_n (i := 1) dX8_span_1 rfl rfl ?_
  refine wp_V1i dX8_span_2 mw_942 mw_944 ms_32 mi_X8_noPerson (Nat.le_of_ble_eq_true rfl) (Nat.le_refl _) (Nat.le_refl _) (st_k hst rfl) (by decide) rfl (c_noPerson _ hst (by exact hmM) hm4 (fun j2 hj2 e2 => ?_) (fun no2 => ?_)) 
  · subst e2
    refine wp_if_eq0 (tgt := 10) dX8_span_5 (by decide) ?_
    refine wp_iload_n (i := 2) dX8_span_10 rfl rfl ?_
    refine wp_i2l dX8_span_11 ?_
    refine wp_lconst (v := 1) dX8_span_12 (by decide) ?_
    refine wp_ldc2 (v := 10) dX8_span_13 mw_947 ?_
    refine wp_S3i dX8_span_16 mw_887 mw_888 mi_X8_in (Nat.le_of_ble_eq_true rfl) (Nat.le_refl _) (Nat.le_refl _) (c_in _ (a := 1) (b := 10) rfl rfl (fun ga16 gb16 => ?_) (fun gn16 => ?_)) 
    · skip
      refine wp_if_eq1 (tgt := 31) dX8_span_19 (by decide) ?_
      refine wp_aload_n (i := 0) dX8_span_22 rfl rfl ?_
      refine wp_iload_n (i := 1) dX8_span_23 rfl rfl ?_
      refine wp_iload_n (i := 2) dX8_span_24 rfl rfl ?_
      refine wp_V2i dX8_span_25 mw_1099 mw_1101 ms_49 mi_X8_spanOf (Nat.le_of_ble_eq_true rfl) (Nat.le_refl _) (Nat.le_refl _) (st_k hst rfl) (by decide) rfl (c_spanOf _ hst (j := j2) (by omega) ?_) 
      refine wp_goto (tgt := 33) dX8_span_28 (by decide) ?_
      exact wp_retI dX8_span_33 rfl (Nat.le_refl _) (Nat.le_refl _) (by first | assumption | solve_by_elim [rfl])
    · skip
      refine wp_if_eq0 (tgt := 31) dX8_span_19 (by decide) ?_
      refine wp_bipush (v := (-2)) dX8_span_31 (by decide) ?_
      exact wp_retI dX8_span_33 rfl (Nat.le_refl _) (Nat.le_refl _) (by first | assumption | solve_by_elim [rfl])
  · skip
    refine wp_if_eq1 (tgt := 10) dX8_span_5 (by decide) ?_
    refine wp_iconst (v := (-1)) dX8_span_8 (by decide) ?_
    exact wp_retI dX8_span_9 rfl (Nat.le_refl _) (Nat.le_refl _) (by first | assumption | solve_by_elim [rfl])

