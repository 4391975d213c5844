theorem shift_step {I : eI} {j k : Nat} (hk : k < 11) : eG (eU I 120 (12 * j + k) (I 120 (12 * j + k + 1))) 120 (fun x => if 12 * j + (k + 1) ≤ x ∧ x < 12 * j + 11 then eU I 120 (12 * j + k) (I 120 (12 * j + k + 1)) 120 (x + 1) else eU I 120 (12 * j + k) (I 120 (12 * j + k + 1)) 120 x) = eG I 120 (fun x => if 12 * j + k ≤ x ∧ x < 12 * j + 11 then I 120 (x + 1) else I 120 x) := by
  funext x y
  by_cases hx : x = 120
  · subst hx
    rw [eG_eq, eG_eq]
    show (if 12 * j + (k + 1) ≤ y ∧ y < 12 * j + 11 then eU I 120 (12 * j + k) (I 120 (12 * j + k + 1)) 120 (y + 1) else eU I 120 (12 * j + k) (I 120 (12 * j + k + 1)) 120 y) = if 12 * j + k ≤ y ∧ y < 12 * j + 11 then I 120 (y + 1) else I 120 y
    by_cases h1 : y = 12 * j + k
    · subst h1
      rw [if_neg (by omega), eU_at, if_pos (by omega)]
    · by_cases h2 : 12 * j + (k + 1) ≤ y ∧ y < 12 * j + 11
      · rw [if_pos h2, eU_c (by omega), if_pos (by omega)]
      · rw [if_neg h2, eU_c h1, if_neg (by omega)]
  · rw [eG_ne hx, eG_ne hx, eU_ne hx]
theorem lp_shift (d : Nat) {n : Nat} {t : eT} {R : eR} {Q : eQt} (hst : ST n t R) {j e : Nat} (hj : j < 4) : ∀ (r k : Nat) (I : eI), k + r = 11 → wp yX8_takePress cX8_takePress 4 none d 0 0 Q 0 0 63 [.ref 94, .int (nI j), .int (nI e), .int (nI 11)] [] n t (eG I 120 (fun x => if 12 * j + k ≤ x ∧ x < 12 * j + 11 then I 120 (x + 1) else I 120 x)) R → wp yX8_takePress cX8_takePress 4 none d 0 0 Q 0 0 27 [.ref 94, .int (nI j), .int (nI e), .int (nI k)] [] n t I R := by
  intro r
  induction r with
  | zero =>
    intro k I hk hq
    obtain rfl : k = 11 := by omega
    have e0 : (eG I 120 (fun x => if 12 * j + 11 ≤ x ∧ x < 12 * j + 11 then I 120 (x + 1) else I 120 x)) = I := by
      funext x y
      by_cases hx : x = 120
      · subst hx; rw [eG_eq]; rw [if_neg (by omega)]
      · rw [eG_ne hx]
    rw [e0] at hq
    refine wp_iload_n (i := 3) dX8_takePress_27 rfl rfl ?_
    refine wp_bipush (v := 11) dX8_takePress_28 (by decide) ?_
    refine wp_icmp_ge (tgt := 63) dX8_takePress_30 (by decide) (fun zq30 => ?_) (fun zq30 => absurd (nI_le (show 11 ≤ 11 by decide) (by decide)) zq30) 
    exact hq
  | succ r ih =>
    intro k I hk hq
    refine wp_iload_n (i := 3) dX8_takePress_27 rfl rfl ?_
    refine wp_bipush (v := 11) dX8_takePress_28 (by decide) ?_
    refine wp_icmp_ge (tgt := 63) dX8_takePress_30 (by decide) (fun zq30 => absurd zq30 (nI_ge (show k < 11 by omega) (by decide))) (fun zq30 => ?_) 
    refine wp_aload_n (i := 0) dX8_takePress_33 rfl rfl ?_
    refine wp_getR dX8_takePress_34 fl_X8_86 rfl (st_k hst rfl) (st_r hst rfl) ?_
    refine wp_bipush (v := 12) dX8_takePress_37 (by decide) ?_
    refine wp_iload_n (i := 1) dX8_takePress_39 rfl rfl ?_
    refine wp_imul dX8_takePress_40 ?_
    refine wp_iload_n (i := 3) dX8_takePress_41 rfl rfl ?_
    refine wp_iadd dX8_takePress_42 ?_
    refine wp_aload_n (i := 0) dX8_takePress_43 rfl rfl ?_
    refine wp_getR dX8_takePress_44 fl_X8_86 rfl (st_k hst rfl) (st_r hst rfl) ?_
    refine wp_bipush (v := 12) dX8_takePress_47 (by decide) ?_
    refine wp_iload_n (i := 1) dX8_takePress_49 rfl rfl ?_
    refine wp_imul dX8_takePress_50 ?_
    refine wp_iload_n (i := 3) dX8_takePress_51 rfl rfl ?_
    refine wp_iadd dX8_takePress_52 ?_
    refine wp_iconst (v := 1) dX8_takePress_53 (by decide) ?_
    refine wp_iadd dX8_takePress_54 ?_
    refine wp_ild (j := 12 * j + k + 1) dX8_takePress_55 (st_t hst rfl) (by show nI 12 * nI j + nI k + nI 1 = _; rw [n_lin, nI_add]) (by omega) ?_
    refine wp_ist (j := 12 * j + k) dX8_takePress_56 (st_t hst rfl) (n_lin 12 j k) (by omega) ?_
    refine wp_iinc_4_3 (v := nI (k + 1)) dX8_takePress_57 (nI_1 k) ?_
    refine wp_goto (tgt := 27) dX8_takePress_60 (by decide) ?_
    exact ih (k + 1) (eU I 120 (12 * j + k) (I 120 (12 * j + k + 1))) (by omega) (by rw [shift_step (by omega)]; exact hq)

theorem c_takePress (d : Nat) {n : Nat} {t : eT} {I : eI} {R : eR} {Q : Nat → eT → eI → eR → Prop} (hst : ST n t R) {j c e : Nat} (hj : j < 4) (hl : I 119 j = nI c) (hc : c ≤ 12) (he : e < 3) (h1 : c < 12 → Q n t (eU (eU (eU (eU I 118 (3 * j + e) (I 118 (3 * j + e) + 1)) 120 (12 * j + c) (nI e)) 119 j (nI (c + 1))) 114 j (-9)) R) (h2 : c = 12 → Q n t (eU (eU (eU (eU (eG (eU I 118 (3 * j + e) (I 118 (3 * j + e) + 1)) 120 (fun x => if 12 * j + 0 ≤ x ∧ x < 12 * j + 11 then (eU I 118 (3 * j + e) (I 118 (3 * j + e) + 1)) 120 (x + 1) else (eU I 118 (3 * j + e) (I 118 (3 * j + e) + 1)) 120 x)) 119 j (nI 11)) 120 (12 * j + 11) (nI e)) 119 j (nI 12)) 114 j (-9)) R) : MC yX8_takePress cX8_takePress 4 none d 0 0 [.ref 94, .int (nI j), .int (nI e)] n t I R (qV Q) := by
  refine mc_intro (L0 := [.ref 94, .int (nI j), .int (nI e), vU]) (by decide) rfl (Nat.le_of_ble_eq_true rfl) ?_
  refine wp_aload_n (i := 0) dX8_takePress_0 rfl rfl ?_
  refine wp_getR dX8_takePress_1 fl_X8_80 rfl (st_k hst rfl) (st_r hst rfl) ?_
  refine wp_iconst (v := 3) dX8_takePress_4 (by decide) ?_
  refine wp_iload_n (i := 1) dX8_takePress_5 rfl rfl ?_
  refine wp_imul dX8_takePress_6 ?_
  refine wp_iload_n (i := 2) dX8_takePress_7 rfl rfl ?_
  refine wp_iadd dX8_takePress_8 ?_
  refine wp_dup2 dX8_takePress_9 rfl rfl ?_
  refine wp_ild (j := 3 * j + e) dX8_takePress_10 (st_t hst rfl) (n_lin 3 j e) (by omega) ?_
  refine wp_iconst (v := 1) dX8_takePress_11 (by decide) ?_
  refine wp_iadd dX8_takePress_12 ?_
  refine wp_ist (j := 3 * j + e) dX8_takePress_13 (st_t hst rfl) (n_lin 3 j e) (by omega) ?_
  refine wp_aload_n (i := 0) dX8_takePress_14 rfl rfl ?_
  refine wp_getR dX8_takePress_15 fl_X8_83 rfl (st_k hst rfl) (st_r hst rfl) ?_
  refine wp_iload_n (i := 1) dX8_takePress_18 rfl rfl ?_
  refine wp_ild dX8_takePress_19 (st_t hst rfl) rfl (by omega) ?_
  refine wp_bipush (v := 12) dX8_takePress_20 (by decide) ?_
  rw [eU_o (show (119 : Nat) ≠ 118 by decide), hl]
  refine wp_icmp_ne (tgt := 73) dX8_takePress_22 (by decide) (fun zq22 => ?_) (fun zq22 => ?_) 
  · have hlt : c < 12 := by have : c ≠ 12 := fun g => zq22 (by rw [g]; rfl); omega
    refine wp_aload_n (i := 0) dX8_takePress_73 rfl rfl ?_
    refine wp_getR dX8_takePress_74 fl_X8_86 rfl (st_k hst rfl) (st_r hst rfl) ?_
    refine wp_bipush (v := 12) dX8_takePress_77 (by decide) ?_
    refine wp_iload_n (i := 1) dX8_takePress_79 rfl rfl ?_
    refine wp_imul dX8_takePress_80 ?_
    refine wp_aload_n (i := 0) dX8_takePress_81 rfl rfl ?_
    refine wp_getR dX8_takePress_82 fl_X8_83 rfl (st_k hst rfl) (st_r hst rfl) ?_
    refine wp_iload_n (i := 1) dX8_takePress_85 rfl rfl ?_
    refine wp_ild dX8_takePress_86 (st_t hst rfl) rfl (by omega) ?_
    refine wp_iadd dX8_takePress_87 ?_
    refine wp_iload_n (i := 2) dX8_takePress_88 rfl rfl ?_
    refine wp_ist (j := 12 * j + c) dX8_takePress_89 (st_t hst rfl) (by rw [eU_o (show (119 : Nat) ≠ 118 by decide), hl]; exact n_lin 12 j c) (by omega) ?_
    refine wp_aload_n (i := 0) dX8_takePress_90 rfl rfl ?_
    refine wp_getR dX8_takePress_91 fl_X8_83 rfl (st_k hst rfl) (st_r hst rfl) ?_
    refine wp_iload_n (i := 1) dX8_takePress_94 rfl rfl ?_
    refine wp_dup2 dX8_takePress_95 rfl rfl ?_
    refine wp_ild dX8_takePress_96 (st_t hst rfl) rfl (by omega) ?_
    refine wp_iconst (v := 1) dX8_takePress_97 (by decide) ?_
    refine wp_iadd dX8_takePress_98 ?_
    rw [eU_o (show (119 : Nat) ≠ 120 by decide), eU_o (show (119 : Nat) ≠ 118 by decide), hl, nI_1]
    refine wp_ist dX8_takePress_99 (st_t hst rfl) rfl (by omega) ?_
    refine wp_aload_n (i := 0) dX8_takePress_100 rfl rfl ?_
    refine wp_getR dX8_takePress_101 fl_X8_68 rfl (st_k hst rfl) (st_r hst rfl) ?_
    refine wp_iload_n (i := 1) dX8_takePress_104 rfl rfl ?_
    refine wp_bipush (v := (-9)) dX8_takePress_105 (by decide) ?_
    refine wp_ist dX8_takePress_107 (st_t hst rfl) rfl (by omega) ?_
    exact wp_retV dX8_takePress_108 rfl (Nat.le_refl _) (Nat.le_refl _) (h1 hlt)
  · have h12 : c = 12 := (nI_eq (by omega) (by decide)).mp zq22
    refine wp_iconst (v := 0) dX8_takePress_25 (by decide) ?_
    refine wp_istore_4_3 dX8_takePress_26 rfl ?_
    refine lp_shift d hst hj 11 0 _ rfl ?_
    refine wp_aload_n (i := 0) dX8_takePress_63 rfl rfl ?_
    refine wp_getR dX8_takePress_64 fl_X8_83 rfl (st_k hst rfl) (st_r hst rfl) ?_
    refine wp_iload_n (i := 1) dX8_takePress_67 rfl rfl ?_
    refine wp_dup2 dX8_takePress_68 rfl rfl ?_
    refine wp_ild dX8_takePress_69 (st_t hst rfl) rfl (by omega) ?_
    refine wp_iconst (v := 1) dX8_takePress_70 (by decide) ?_
    refine wp_isub dX8_takePress_71 ?_
    rw [eG_ne (show (119 : Nat) ≠ 120 by decide), eU_o (show (119 : Nat) ≠ 118 by decide), hl, h12, show nI 12 - 1 = nI 11 by decide]
    refine wp_ist dX8_takePress_72 (st_t hst rfl) rfl (by omega) ?_
    refine wp_aload_n (i := 0) dX8_takePress_73 rfl rfl ?_
    refine wp_getR dX8_takePress_74 fl_X8_86 rfl (st_k hst rfl) (st_r hst rfl) ?_
    refine wp_bipush (v := 12) dX8_takePress_77 (by decide) ?_
    refine wp_iload_n (i := 1) dX8_takePress_79 rfl rfl ?_
    refine wp_imul dX8_takePress_80 ?_
    refine wp_aload_n (i := 0) dX8_takePress_81 rfl rfl ?_
    refine wp_getR dX8_takePress_82 fl_X8_83 rfl (st_k hst rfl) (st_r hst rfl) ?_
    refine wp_iload_n (i := 1) dX8_takePress_85 rfl rfl ?_
    refine wp_ild dX8_takePress_86 (st_t hst rfl) rfl (by omega) ?_
    refine wp_iadd dX8_takePress_87 ?_
    refine wp_iload_n (i := 2) dX8_takePress_88 rfl rfl ?_
    refine wp_ist (j := 12 * j + 11) dX8_takePress_89 (st_t hst rfl) (by rw [eU_at]; exact n_lin 12 j 11) (by omega) ?_
    refine wp_aload_n (i := 0) dX8_takePress_90 rfl rfl ?_
    refine wp_getR dX8_takePress_91 fl_X8_83 rfl (st_k hst rfl) (st_r hst rfl) ?_
    refine wp_iload_n (i := 1) dX8_takePress_94 rfl rfl ?_
    refine wp_dup2 dX8_takePress_95 rfl rfl ?_
    refine wp_ild dX8_takePress_96 (st_t hst rfl) rfl (by omega) ?_
    refine wp_iconst (v := 1) dX8_takePress_97 (by decide) ?_
    refine wp_iadd dX8_takePress_98 ?_
    rw [eU_o (show (119 : Nat) ≠ 120 by decide), eU_at, show nI 11 + 1 = nI 12 by decide]
    refine wp_ist dX8_takePress_99 (st_t hst rfl) rfl (by omega) ?_
    refine wp_aload_n (i := 0) dX8_takePress_100 rfl rfl ?_
    refine wp_getR dX8_takePress_101 fl_X8_68 rfl (st_k hst rfl) (st_r hst rfl) ?_
    refine wp_iload_n (i := 1) dX8_takePress_104 rfl rfl ?_
    refine wp_bipush (v := (-9)) dX8_takePress_105 (by decide) ?_
    refine wp_ist dX8_takePress_107 (st_t hst rfl) rfl (by omega) ?_
    exact wp_retV dX8_takePress_108 rfl (Nat.le_refl _) (Nat.le_refl _) (h2 h12)

