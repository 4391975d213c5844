theorem c_told (d : Nat) {n : Nat} {t : eT} {I : eI} {R : eR} {Q : Int32 → Nat → eT → eI → eR → Prop} (hst : ST n t R) {m : Nat} (hm : I 4 3 = nI m) (hm4 : m ≤ 4) {q p g w : Int32} (h1 : (∀ j, j < m → q ≠ nI j) → Q (-1) n t I R) (h1b : (∀ j, j < m → p ≠ nI j) → Q (-1) n t I R) (h2 : ∀ a b, a < m → b < m → p = nI a → q = nI b → ¬ ((1 ≤ g.toInt ∧ g.toInt ≤ 10) ∧ (0 ≤ w.toInt ∧ w.toInt ≤ 9999)) → Q (-2) n t I R) (h3 : ∀ a b, a < m → b < m → p = nI a → q = nI b → ((1 ≤ g.toInt ∧ g.toInt ≤ 10) ∧ (0 ≤ w.toInt ∧ w.toInt ≤ 9999)) → a ≠ b → I (63 + 10 * a) (4 + b) < w → Q (-3) n t I R) (h4 : ∀ a b, a < m → b < m → p = nI a → q = nI b → ((1 ≤ g.toInt ∧ g.toInt ≤ 10) ∧ (0 ≤ w.toInt ∧ w.toInt ≤ 9999)) → (a = b ∨ ¬ I (63 + 10 * a) (4 + b) < w) → Q (spanS (I (60 + 10 * a) 0) (I (60 + 10 * a) 1) (I (60 + 10 * a) 2) g) n t I R) : MC yX7_told cX7_told 5 (some .int) (d + 3) 0 0 [.ref 4, .int q, .int p, .int g, .int w] n t I R (qI Q) := by
  refine mc_intro (L0 := [.ref 4, .int q, .int p, .int g, .int w]) (by decide) rfl (Nat.le_of_ble_eq_true rfl) ?_
  refine wp_aload_n (i := 0) dX7_told_0 rfl rfl ?_
  refine wp_iload_n (i := 1) dX7_told_1 rfl rfl ?_
  refine wp_V1i dX7_told_2 mw_375 mw_377 ms_7 mi_X7_isPerson (Nat.le_of_ble_eq_true rfl) (Nat.le_refl _) (Nat.le_refl _) (st_k hst rfl) (by decide) rfl (c_isPerson _ hst (by exact hm) hm4 (fun j2 hj2 e2 => ?_) (fun no2 => ?_)) 
  · subst e2
    refine wp_if_eq1 (tgt := 16) dX7_told_5 (by decide) ?_
    refine wp_aload_n (i := 0) dX7_told_8 rfl rfl ?_
    refine wp_iload_n (i := 2) dX7_told_9 rfl rfl ?_
    refine wp_V1i dX7_told_10 mw_375 mw_377 ms_7 mi_X7_isPerson (Nat.le_of_ble_eq_true rfl) (Nat.le_refl _) (Nat.le_refl _) (st_k hst rfl) (by decide) rfl (c_isPerson _ hst (by exact hm) hm4 (fun j10 hj10 e10 => ?_) (fun no10 => ?_)) 
    · subst e10
      refine wp_if_ne1 (tgt := 18) dX7_told_13 (by decide) ?_
      refine wp_iload_n (i := 3) dX7_told_18 rfl rfl ?_
      refine wp_iconst (v := 1) dX7_told_19 (by decide) ?_
      refine wp_bipush (v := 10) dX7_told_20 (by decide) ?_
      refine wp_S3i dX7_told_22 mw_267 mw_268 mi_X7_isWithin (Nat.le_of_ble_eq_true rfl) (Nat.le_refl _) (Nat.le_refl _) (c_isWithin _ (a := 1) (b := 10) rfl rfl (fun ga22 gb22 => ?_) (fun gn22 => ?_)) 
      · skip
        refine wp_if_eq1 (tgt := 36) dX7_told_25 (by decide) ?_
        refine wp_iload dX7_told_28 rfl ?_
        refine wp_S1i dX7_told_30 mw_554 mw_555 mi_X7_isTick (Nat.le_of_ble_eq_true rfl) (Nat.le_refl _) (Nat.le_refl _) (c_isTick _ (fun ga30 gb30 => ?_) (fun gn30 => ?_)) 
        · skip
          refine wp_if_ne1 (tgt := 39) dX7_told_33 (by decide) ?_
          refine wp_aload_n (i := 0) dX7_told_39 rfl rfl ?_
          refine wp_iload_n (i := 1) dX7_told_40 rfl rfl ?_
          refine wp_iload_n (i := 2) dX7_told_41 rfl rfl ?_
          refine wp_iconst (v := 1) dX7_told_42 (by decide) ?_
          refine wp_iload dX7_told_43 rfl ?_
          refine wp_V4i dX7_told_45 mw_647 mw_649 ms_20 mi_X7_hasLeave (Nat.le_of_ble_eq_true rfl) (Nat.le_refl _) (Nat.le_refl _) (st_k hst rfl) (by decide) rfl (c_hasLeave _ hst (a := j10) (b := j2) (e := 1) (by omega) (by omega) (by decide) (fun v1 => ?_) (fun v1 v2 => ?_) (fun v1 v2 => ?_)) 
          · have vv : j10 = j2 ∨ ¬ I (63 + 10 * j10) (4 + j2) < w := Or.inl v1
            refine wp_if_ne1 (tgt := 54) dX7_told_48 (by decide) ?_
            refine wp_aload_n (i := 0) dX7_told_54 rfl rfl ?_
            refine wp_getR dX7_told_55 fl_X7_27 rfl (st_k hst rfl) (st_r hst rfl) ?_
            refine wp_iload_n (i := 2) dX7_told_58 rfl rfl ?_
            refine wp_rld11 dX7_told_59 (st_t hst rfl) rfl (by omega) (sp_34 hst (by omega)) ?_
            refine wp_iload_n (i := 3) dX7_told_60 rfl rfl ?_
            refine wp_V1i dX7_told_61 mw_606 mw_607 mw_608 mi_X3_spanFor (Nat.le_of_ble_eq_true rfl) (Nat.le_refl _) (Nat.le_refl _) (sp_k0 hst (by omega)) (by decide) rfl (c_spanFor _ hst (j := j10) (by omega) ?_) 
            exact wp_retI dX7_told_64 rfl (Nat.le_refl _) (Nat.le_refl _) (h4 j10 j2 hj10 hj2 rfl rfl ⟨⟨ga22, gb22⟩, ⟨ga30, gb30⟩⟩ vv)
          · have vv : j10 = j2 ∨ ¬ I (63 + 10 * j10) (4 + j2) < w := Or.inr (by rw [show 1 * 4 + j2 = 4 + j2 by omega] at v2; exact v2)
            refine wp_if_ne1 (tgt := 54) dX7_told_48 (by decide) ?_
            refine wp_aload_n (i := 0) dX7_told_54 rfl rfl ?_
            refine wp_getR dX7_told_55 fl_X7_27 rfl (st_k hst rfl) (st_r hst rfl) ?_
            refine wp_iload_n (i := 2) dX7_told_58 rfl rfl ?_
            refine wp_rld11 dX7_told_59 (st_t hst rfl) rfl (by omega) (sp_34 hst (by omega)) ?_
            refine wp_iload_n (i := 3) dX7_told_60 rfl rfl ?_
            refine wp_V1i dX7_told_61 mw_606 mw_607 mw_608 mi_X3_spanFor (Nat.le_of_ble_eq_true rfl) (Nat.le_refl _) (Nat.le_refl _) (sp_k0 hst (by omega)) (by decide) rfl (c_spanFor _ hst (j := j10) (by omega) ?_) 
            exact wp_retI dX7_told_64 rfl (Nat.le_refl _) (Nat.le_refl _) (h4 j10 j2 hj10 hj2 rfl rfl ⟨⟨ga22, gb22⟩, ⟨ga30, gb30⟩⟩ vv)
          · rw [show 1 * 4 + j2 = 4 + j2 by omega] at v2
            refine wp_if_ne0 (tgt := 54) dX7_told_48 (by decide) ?_
            refine wp_bipush (v := (-3)) dX7_told_51 (by decide) ?_
            exact wp_retI dX7_told_53 rfl (Nat.le_refl _) (Nat.le_refl _) (h3 j10 j2 hj10 hj2 rfl rfl ⟨⟨ga22, gb22⟩, ⟨ga30, gb30⟩⟩ v1 v2)
        · skip
          refine wp_if_ne0 (tgt := 39) dX7_told_33 (by decide) ?_
          refine wp_bipush (v := (-2)) dX7_told_36 (by decide) ?_
          exact wp_retI dX7_told_38 rfl (Nat.le_refl _) (Nat.le_refl _) (h2 j10 j2 hj10 hj2 rfl rfl (fun z => gn30 z.2))
      · skip
        refine wp_if_eq0 (tgt := 36) dX7_told_25 (by decide) ?_
        refine wp_bipush (v := (-2)) dX7_told_36 (by decide) ?_
        exact wp_retI dX7_told_38 rfl (Nat.le_refl _) (Nat.le_refl _) (h2 j10 j2 hj10 hj2 rfl rfl (fun z => gn22 z.1))
    · skip
      refine wp_if_ne0 (tgt := 18) dX7_told_13 (by decide) ?_
      refine wp_iconst (v := (-1)) dX7_told_16 (by decide) ?_
      exact wp_retI dX7_told_17 rfl (Nat.le_refl _) (Nat.le_refl _) (h1b no10)
  · skip
    refine wp_if_eq0 (tgt := 16) dX7_told_5 (by decide) ?_
    refine wp_iconst (v := (-1)) dX7_told_16 (by decide) ?_
    exact wp_retI dX7_told_17 rfl (Nat.le_refl _) (Nat.le_refl _) (h1 no2)

theorem c_toldM (d : Nat) {n : Nat} {t : eT} {I : eI} {R : eR} {Q : Int32 → Nat → eT → eI → eR → Prop} (hst : ST n t R) {m : Nat} (hmM : I 94 9 = nI m) (hm4 : m ≤ 4) {q p g w : Int32} (h1 : (∀ j, j < m → q ≠ nI j) → Q (-1) n t I R) (h1b : (∀ j, j < m → p ≠ nI j) → Q (-1) n t I R) (h2 : ∀ a b, a < m → b < m → p = nI a → q = nI b → ¬ ((1 ≤ g.toInt ∧ g.toInt ≤ 10) ∧ (0 ≤ w.toInt ∧ w.toInt ≤ 9999)) → Q (-2) n t I R) (h3 : ∀ a b, a < m → b < m → p = nI a → q = nI b → ((1 ≤ g.toInt ∧ g.toInt ≤ 10) ∧ (0 ≤ w.toInt ∧ w.toInt ≤ 9999)) → a ≠ b → I 123 (8 * a + 2 * b + 1) < w → Q (-3) n t I R) (h4 : ∀ a b, a < m → b < m → p = nI a → q = nI b → ((1 ≤ g.toInt ∧ g.toInt ≤ 10) ∧ (0 ≤ w.toInt ∧ w.toInt ≤ 9999)) → (a = b ∨ ¬ I 123 (8 * a + 2 * b + 1) < w) → Q (spanS (I 118 (3 * a)) (I 118 (3 * a + 1)) (I 118 (3 * a + 2)) g) n t I R) : MC yX8_told cX8_told 5 (some .int) (d + 3) 0 0 [.ref 94, .int q, .int p, .int g, .int w] n t I R (qI Q) := by
  refine mc_intro (L0 := [.ref 94, .int q, .int p, .int g, .int w]) (by decide) rfl (Nat.le_of_ble_eq_true rfl) ?_
  refine wp_aload_n (i := 0) dX8_told_0 rfl rfl ?_
  refine wp_iload_n (i := 1) dX8_told_1 rfl rfl ?_
  refine wp_V1i dX8_told_2 mw_942 mw_944 ms_32 mi_X8_noPerson (Nat.le_of_ble_eq_true rfl) (Nat.le_refl _) (Nat.le_refl _) (st_k hst rfl) (by decide) rfl (c_noPerson _ hst (by exact hmM) hm4 (fun j2 hj2 e2 => ?_) (fun no2 => ?_)) 
  · subst e2
    refine wp_if_ne0 (tgt := 16) dX8_told_5 (by decide) ?_
    refine wp_aload_n (i := 0) dX8_told_8 rfl rfl ?_
    refine wp_iload_n (i := 2) dX8_told_9 rfl rfl ?_
    refine wp_V1i dX8_told_10 mw_942 mw_944 ms_32 mi_X8_noPerson (Nat.le_of_ble_eq_true rfl) (Nat.le_refl _) (Nat.le_refl _) (st_k hst rfl) (by decide) rfl (c_noPerson _ hst (by exact hmM) hm4 (fun j10 hj10 e10 => ?_) (fun no10 => ?_)) 
    · subst e10
      refine wp_if_eq0 (tgt := 18) dX8_told_13 (by decide) ?_
      refine wp_iload_n (i := 3) dX8_told_18 rfl rfl ?_
      refine wp_i2l dX8_told_19 ?_
      refine wp_lconst (v := 1) dX8_told_20 (by decide) ?_
      refine wp_ldc2 (v := 10) dX8_told_21 mw_947 ?_
      refine wp_S3i dX8_told_24 mw_887 mw_888 mi_X8_in (Nat.le_of_ble_eq_true rfl) (Nat.le_refl _) (Nat.le_refl _) (c_in _ (a := 1) (b := 10) rfl rfl (fun ga24 gb24 => ?_) (fun gn24 => ?_)) 
      · skip
        refine wp_if_eq1 (tgt := 43) dX8_told_27 (by decide) ?_
        refine wp_iload dX8_told_30 rfl ?_
        refine wp_i2l dX8_told_32 ?_
        refine wp_lconst (v := 0) dX8_told_33 (by decide) ?_
        refine wp_ldc2 (v := 9999) dX8_told_34 mw_1007 ?_
        refine wp_S3i dX8_told_37 mw_887 mw_888 mi_X8_in (Nat.le_of_ble_eq_true rfl) (Nat.le_refl _) (Nat.le_refl _) (c_in _ (a := 0) (b := 9999) rfl rfl (fun ga37 gb37 => ?_) (fun gn37 => ?_)) 
        · skip
          refine wp_if_ne1 (tgt := 46) dX8_told_40 (by decide) ?_
          refine wp_aload_n (i := 0) dX8_told_46 rfl rfl ?_
          refine wp_iload_n (i := 1) dX8_told_47 rfl rfl ?_
          refine wp_iload_n (i := 2) dX8_told_48 rfl rfl ?_
          refine wp_iconst (v := 1) dX8_told_49 (by decide) ?_
          refine wp_iload dX8_told_50 rfl ?_
          refine wp_V4i dX8_told_52 mw_1134 mw_1136 ms_51 mi_X8_maySee (Nat.le_of_ble_eq_true rfl) (Nat.le_refl _) (Nat.le_refl _) (st_k hst rfl) (by decide) rfl (c_maySee _ hst (a := j10) (b := j2) (e := 1) (by omega) (by omega) (by decide) (fun v1 => ?_) (fun v1 v2 => ?_) (fun v1 v2 => ?_)) 
          · have vv : j10 = j2 ∨ ¬ I 123 (8 * j10 + 2 * j2 + 1) < w := Or.inl v1
            refine wp_if_eq1 (tgt := 67) dX8_told_55 (by decide) ?_
            refine wp_aload_n (i := 0) dX8_told_58 rfl rfl ?_
            refine wp_iload_n (i := 2) dX8_told_59 rfl rfl ?_
            refine wp_iload_n (i := 3) dX8_told_60 rfl rfl ?_
            refine wp_V2i dX8_told_61 mw_1099 mw_1101 ms_49 mi_X8_spanOf (Nat.le_of_ble_eq_true rfl) (Nat.le_refl _) (Nat.le_refl _) (st_k hst rfl) (by decide) rfl (c_spanOf _ hst (j := j10) (by omega) ?_) 
            refine wp_goto (tgt := 69) dX8_told_64 (by decide) ?_
            exact wp_retI dX8_told_69 rfl (Nat.le_refl _) (Nat.le_refl _) (h4 j10 j2 hj10 hj2 rfl rfl ⟨⟨ga24, gb24⟩, ⟨ga37, gb37⟩⟩ vv)
          · have vv : j10 = j2 ∨ ¬ I 123 (8 * j10 + 2 * j2 + 1) < w := Or.inr v2
            refine wp_if_eq1 (tgt := 67) dX8_told_55 (by decide) ?_
            refine wp_aload_n (i := 0) dX8_told_58 rfl rfl ?_
            refine wp_iload_n (i := 2) dX8_told_59 rfl rfl ?_
            refine wp_iload_n (i := 3) dX8_told_60 rfl rfl ?_
            refine wp_V2i dX8_told_61 mw_1099 mw_1101 ms_49 mi_X8_spanOf (Nat.le_of_ble_eq_true rfl) (Nat.le_refl _) (Nat.le_refl _) (st_k hst rfl) (by decide) rfl (c_spanOf _ hst (j := j10) (by omega) ?_) 
            refine wp_goto (tgt := 69) dX8_told_64 (by decide) ?_
            exact wp_retI dX8_told_69 rfl (Nat.le_refl _) (Nat.le_refl _) (h4 j10 j2 hj10 hj2 rfl rfl ⟨⟨ga24, gb24⟩, ⟨ga37, gb37⟩⟩ vv)
          · skip
            refine wp_if_eq0 (tgt := 67) dX8_told_55 (by decide) ?_
            refine wp_bipush (v := (-3)) dX8_told_67 (by decide) ?_
            exact wp_retI dX8_told_69 rfl (Nat.le_refl _) (Nat.le_refl _) (h3 j10 j2 hj10 hj2 rfl rfl ⟨⟨ga24, gb24⟩, ⟨ga37, gb37⟩⟩ v1 v2)
        · skip
          refine wp_if_ne0 (tgt := 46) dX8_told_40 (by decide) ?_
          refine wp_bipush (v := (-2)) dX8_told_43 (by decide) ?_
          exact wp_retI dX8_told_45 rfl (Nat.le_refl _) (Nat.le_refl _) (h2 j10 j2 hj10 hj2 rfl rfl (fun z => gn37 z.2))
      · skip
        refine wp_if_eq0 (tgt := 43) dX8_told_27 (by decide) ?_
        refine wp_bipush (v := (-2)) dX8_told_43 (by decide) ?_
        exact wp_retI dX8_told_45 rfl (Nat.le_refl _) (Nat.le_refl _) (h2 j10 j2 hj10 hj2 rfl rfl (fun z => gn24 z.1))
    · skip
      refine wp_if_eq1 (tgt := 18) dX8_told_13 (by decide) ?_
      refine wp_iconst (v := (-1)) dX8_told_16 (by decide) ?_
      exact wp_retI dX8_told_17 rfl (Nat.le_refl _) (Nat.le_refl _) (h1b no10)
  · skip
    refine wp_if_ne1 (tgt := 16) dX8_told_5 (by decide) ?_
    refine wp_iconst (v := (-1)) dX8_told_16 (by decide) ?_
    exact wp_retI dX8_told_17 rfl (Nat.le_refl _) (Nat.le_refl _) (h1 no2)

theorem c_take (d : Nat) {n : Nat} {t : eT} {I : eI} {R : eR} {Q : Nat → eT → eI → eR → Prop} (hst : ST n t R) {j c e : Nat} (hj : j < 4) (hl : I (54 + 10 * j) 9 = nI c) (hc : c ≤ 12) (he : e < 3) (h1 : c < 12 → Q n t (eU (eU (eU (eU I (54 + 10 * j) 4 (-9)) (60 + 10 * j) e (I (60 + 10 * j) e + 1)) (61 + 10 * j) c (nI e)) (54 + 10 * j) 9 (nI (c + 1))) R) (h2 : c = 12 → Q n t (eU (eU (eU (eG (eU (eU I (54 + 10 * j) 4 (-9)) (60 + 10 * j) e (I (60 + 10 * j) e + 1)) (61 + 10 * j) (va_cpy (I (61 + 10 * j)) (I (61 + 10 * j)) 1 0 11)) (54 + 10 * j) 9 (nI 11)) (61 + 10 * j) 11 (nI e)) (54 + 10 * j) 9 (nI 12)) R) : MC yX3_take cX3_take 2 none (d + 1) 0 0 [.ref (54 + 10 * j), .int (nI e)] n t I R (qV Q) := by
  refine mc_intro (L0 := [.ref (54 + 10 * j), .int (nI e)]) (by decide) rfl (Nat.le_of_ble_eq_true rfl) ?_
  refine wp_aload_n (i := 0) dX3_take_0 rfl rfl ?_
  refine wp_bipush (v := (-9)) dX3_take_1 (by decide) ?_
  refine wp_putI dX3_take_3 fl_X3_29 rfl (Or.inl rfl) (sp_k0 hst (by omega)) ?_
  refine wp_aload_n (i := 0) dX3_take_6 rfl rfl ?_
  refine wp_getR dX3_take_7 fl_X3_38 rfl (sp_k0 hst (by omega)) (sp_r7 hst (by omega)) ?_
  refine wp_iload_n (i := 1) dX3_take_10 rfl rfl ?_
  refine wp_dup2 dX3_take_11 rfl rfl ?_
  refine wp_ild (j := e) dX3_take_12 (sp_t6 hst (by omega)) rfl (by omega) ?_
  refine wp_iconst (v := 1) dX3_take_13 (by decide) ?_
  refine wp_iadd dX3_take_14 ?_
  rw [eU_o (show 60 + 10 * j ≠ 54 + 10 * j by omega)]
  refine wp_ist (j := e) dX3_take_15 (sp_t6 hst (by omega)) rfl (by omega) ?_
  refine wp_aload_n (i := 0) dX3_take_16 rfl rfl ?_
  refine wp_getI dX3_take_17 fl_X3_44 rfl (sp_k0 hst (by omega)) ?_
  refine wp_bipush (v := 12) dX3_take_20 (by decide) ?_
  rw [eU_o (show 54 + 10 * j ≠ 60 + 10 * j by omega), eU_c (show (9 : Nat) ≠ 4 by decide), hl]
  refine wp_icmp_ne (tgt := 50) dX3_take_22 (by decide) (fun zq22 => ?_) (fun zq22 => ?_) 
  · have hlt : c < 12 := by have : c ≠ 12 := fun g => zq22 (by rw [g]; rfl); omega
    refine wp_aload_n (i := 0) dX3_take_50 rfl rfl ?_
    refine wp_getR dX3_take_51 fl_X3_41 rfl (sp_k0 hst (by omega)) (sp_r8 hst (by omega)) ?_
    refine wp_aload_n (i := 0) dX3_take_54 rfl rfl ?_
    refine wp_getI dX3_take_55 fl_X3_44 rfl (sp_k0 hst (by omega)) ?_
    refine wp_iload_n (i := 1) dX3_take_58 rfl rfl ?_
    refine wp_ist (j := c) dX3_take_59 (sp_t7 hst (by omega)) (by rw [eU_o (show 54 + 10 * j ≠ 60 + 10 * j by omega), eU_c (show (9 : Nat) ≠ 4 by decide), hl]) (by omega) ?_
    refine wp_aload_n (i := 0) dX3_take_60 rfl rfl ?_
    refine wp_dup dX3_take_61 rfl ?_
    refine wp_getI dX3_take_62 fl_X3_44 rfl (sp_k0 hst (by omega)) ?_
    refine wp_iconst (v := 1) dX3_take_65 (by decide) ?_
    refine wp_iadd dX3_take_66 ?_
    rw [eU_o (show 54 + 10 * j ≠ 61 + 10 * j by omega), eU_o (show 54 + 10 * j ≠ 60 + 10 * j by omega), eU_c (show (9 : Nat) ≠ 4 by decide), hl, nI_1]
    refine wp_putI dX3_take_67 fl_X3_44 rfl (Or.inl rfl) (sp_k0 hst (by omega)) ?_
    exact wp_retV dX3_take_70 rfl (Nat.le_refl _) (Nat.le_refl _) (h1 hlt)
  · have h12 : c = 12 := (nI_eq (by omega) (by decide)).mp zq22
    refine wp_aload_n (i := 0) dX3_take_25 rfl rfl ?_
    refine wp_getR dX3_take_26 fl_X3_41 rfl (sp_k0 hst (by omega)) (sp_r8 hst (by omega)) ?_
    refine wp_iconst (v := 1) dX3_take_29 (by decide) ?_
    refine wp_aload_n (i := 0) dX3_take_30 rfl rfl ?_
    refine wp_getR dX3_take_31 fl_X3_41 rfl (sp_k0 hst (by omega)) (sp_r8 hst (by omega)) ?_
    refine wp_iconst (v := 0) dX3_take_34 (by decide) ?_
    refine wp_bipush (v := 11) dX3_take_35 (by decide) ?_
    refine wp_copy dX3_take_37 mw_577 (sp_k7 hst hj) (sp_k7 hst hj) (by decide) (by decide) (by decide) (by rw [sp_t7 hst hj]; decide) (by rw [sp_t7 hst hj]; decide) (Nat.le_of_ble_eq_true rfl) ?_
    rw [show (1 : Int32).toNatClampNeg = 1 by decide, show (0 : Int32).toNatClampNeg = 0 by decide, show (11 : Int32).toNatClampNeg = 11 by decide, eU_ne (show 61 + 10 * j ≠ 60 + 10 * j by omega), eU_ne (show 61 + 10 * j ≠ 54 + 10 * j by omega)]
    refine wp_aload_n (i := 0) dX3_take_40 rfl rfl ?_
    refine wp_dup dX3_take_41 rfl ?_
    refine wp_getI dX3_take_42 fl_X3_44 rfl (sp_k0 hst (by omega)) ?_
    refine wp_iconst (v := 1) dX3_take_45 (by decide) ?_
    refine wp_isub dX3_take_46 ?_
    rw [eG_ne (show 54 + 10 * j ≠ 61 + 10 * j by omega), eU_o (show 54 + 10 * j ≠ 60 + 10 * j by omega), eU_c (show (9 : Nat) ≠ 4 by decide), hl, h12, show nI 12 - 1 = nI 11 by decide]
    refine wp_putI dX3_take_47 fl_X3_44 rfl (Or.inl rfl) (sp_k0 hst (by omega)) ?_
    refine wp_aload_n (i := 0) dX3_take_50 rfl rfl ?_
    refine wp_getR dX3_take_51 fl_X3_41 rfl (sp_k0 hst (by omega)) (sp_r8 hst (by omega)) ?_
    refine wp_aload_n (i := 0) dX3_take_54 rfl rfl ?_
    refine wp_getI dX3_take_55 fl_X3_44 rfl (sp_k0 hst (by omega)) ?_
    refine wp_iload_n (i := 1) dX3_take_58 rfl rfl ?_
    refine wp_ist (j := 11) dX3_take_59 (sp_t7 hst (by omega)) (by rw [eU_at]) (by omega) ?_
    refine wp_aload_n (i := 0) dX3_take_60 rfl rfl ?_
    refine wp_dup dX3_take_61 rfl ?_
    refine wp_getI dX3_take_62 fl_X3_44 rfl (sp_k0 hst (by omega)) ?_
    refine wp_iconst (v := 1) dX3_take_65 (by decide) ?_
    refine wp_iadd dX3_take_66 ?_
    rw [eU_o (show 54 + 10 * j ≠ 61 + 10 * j by omega), eU_at, show nI 11 + 1 = nI 12 by decide]
    refine wp_putI dX3_take_67 fl_X3_44 rfl (Or.inl rfl) (sp_k0 hst (by omega)) ?_
    exact wp_retV dX3_take_70 rfl (Nat.le_refl _) (Nat.le_refl _) (h2 h12)

