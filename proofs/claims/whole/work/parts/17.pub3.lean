theorem eU_o {α : Type} {f : Nat → Nat → α} {a k x y : Nat} {v : α} (h : x ≠ a) : eU f a k v x y = f x y := by rw [eU_ne h]
theorem eU_c {α : Type} {f : Nat → Nat → α} {a k x y : Nat} {v : α} (h : y ≠ k) : eU f a k v x y = f x y := by simp [eU, h]
theorem n_linR (w c q : Nat) : nI w * nI c + nI q = nI (w * c + q) := by rw [pk_mul, nI_add]
theorem n_lin3 (a p b q e : Nat) : nI a * nI p + nI b * nI q + nI e = nI (a * p + b * q + e) := by rw [pk_mul, pk_mul, nI_add, nI_add]
theorem c_trial (d : Nat) {n : Nat} {t : eT} {I : eI} {R : eR} {Q : Int32 → Nat → eT → eI → eR → Prop} (hst : ST n t R) {m : Nat} (hm : I 4 3 = nI m) (hm4 : m ≤ 4) {cF : Nat → Nat} (hc : ∀ j, j < 4 → I (54 + 10 * j) 11 = nI (cF j) ∧ cF j ≤ 10) {p x w : Int32} (h1 : (∀ j, j < m → p ≠ nI j) → Q (-1) n t I R) (h2 : ∀ j, j < m → p = nI j → ¬ (0 ≤ x.toInt ∧ x.toInt ≤ 99 ∧ 0 ≤ w.toInt ∧ w.toInt ≤ 99) → Q (-2) n t I R) (h3 : ∀ j, j < m → p = nI j → (0 ≤ x.toInt ∧ x.toInt ≤ 99 ∧ 0 ≤ w.toInt ∧ w.toInt ≤ 99) → cF j = 10 → Q (-4) n t I R) (h4 : ∀ j, j < m → p = nI j → (0 ≤ x.toInt ∧ x.toInt ≤ 99 ∧ 0 ≤ w.toInt ∧ w.toInt ≤ 99) → cF j < 10 → Q (nI (cF j + 1)) n t (eU (eU I (62 + 10 * j) (cF j) (x - w)) (54 + 10 * j) 11 (nI (cF j + 1))) R) : MC yX7_trial cX7_trial 5 (some .int) (d + 2) 0 0 [.ref 4, .int p, .int x, .int w] n t I R (qI Q) := by
  refine mc_intro (L0 := [.ref 4, .int p, .int x, .int w, vU]) (by decide) rfl (Nat.le_of_ble_eq_true rfl) ?_
  refine wp_aload_n (i := 0) dX7_trial_0 rfl rfl ?_
  refine wp_iload_n (i := 1) dX7_trial_1 rfl rfl ?_
  refine wp_V1i dX7_trial_2 mw_375 mw_377 ms_7 mi_X7_isPerson (Nat.le_of_ble_eq_true rfl) (Nat.le_refl _) (Nat.le_refl _) (st_k hst rfl) (by decide) rfl (c_isPerson _ hst (by exact hm) hm4 (fun j2 hj2 e2 => ?_) (fun no2 => ?_)) 
  · subst e2
    refine wp_if_ne1 (tgt := 10) dX7_trial_5 (by decide) ?_
    refine wp_iload_n (i := 2) dX7_trial_10 rfl rfl ?_
    refine wp_iconst (v := 0) dX7_trial_11 (by decide) ?_
    refine wp_bipush (v := 99) dX7_trial_12 (by decide) ?_
    refine wp_S3i dX7_trial_14 mw_267 mw_268 mi_X7_isWithin (Nat.le_of_ble_eq_true rfl) (Nat.le_refl _) (Nat.le_refl _) (c_isWithin _ (a := 0) (b := 99) rfl rfl (fun ga14 gb14 => ?_) (fun gn14 => ?_)) 
    · skip
      refine wp_if_eq1 (tgt := 30) dX7_trial_17 (by decide) ?_
      refine wp_iload_n (i := 3) dX7_trial_20 rfl rfl ?_
      refine wp_iconst (v := 0) dX7_trial_21 (by decide) ?_
      refine wp_bipush (v := 99) dX7_trial_22 (by decide) ?_
      refine wp_S3i dX7_trial_24 mw_267 mw_268 mi_X7_isWithin (Nat.le_of_ble_eq_true rfl) (Nat.le_refl _) (Nat.le_refl _) (c_isWithin _ (a := 0) (b := 99) rfl rfl (fun ga24 gb24 => ?_) (fun gn24 => ?_)) 
      · skip
        refine wp_if_ne1 (tgt := 33) dX7_trial_27 (by decide) ?_
        obtain ⟨hc1, hc2⟩ := hc j2 (by omega)
        refine wp_aload_n (i := 0) dX7_trial_33 rfl rfl ?_
        refine wp_getR dX7_trial_34 fl_X7_27 rfl (st_k hst rfl) (st_r hst rfl) ?_
        refine wp_iload_n (i := 1) dX7_trial_37 rfl rfl ?_
        refine wp_rld11 dX7_trial_38 (st_t hst rfl) rfl (by omega) (sp_34 hst (by omega)) ?_
        refine wp_astore_5_4 dX7_trial_39 rfl ?_
        refine wp_aload dX7_trial_41 rfl ?_
        refine wp_getI dX7_trial_43 fl_X7_240 rfl (sp_k0 hst (by omega)) ?_
        refine wp_bipush (v := 10) dX7_trial_46 (by decide) ?_
        refine wp_icmp_lt (tgt := 54) dX7_trial_48 (by decide) (fun zq48 => ?_) (fun zq48 => ?_) 
        · have hlt : cF j2 < 10 := by rw [hc1, i_lt, nI_toInt (by omega)] at zq48; have : (10 : Int32).toInt = 10 := rfl; omega
          refine wp_aload dX7_trial_54 rfl ?_
          refine wp_getR dX7_trial_56 fl_X7_243 rfl (sp_k0 hst (by omega)) (sp_r10 hst (by omega)) ?_
          refine wp_aload dX7_trial_59 rfl ?_
          refine wp_getI dX7_trial_61 fl_X7_240 rfl (sp_k0 hst (by omega)) ?_
          refine wp_iload_n (i := 2) dX7_trial_64 rfl rfl ?_
          refine wp_iload_n (i := 3) dX7_trial_65 rfl rfl ?_
          refine wp_isub dX7_trial_66 ?_
          refine wp_ist (j := cF j2) dX7_trial_67 (sp_t8 hst (by omega)) hc1 (by omega) ?_
          refine wp_aload dX7_trial_68 rfl ?_
          refine wp_dup dX7_trial_70 rfl ?_
          refine wp_getI dX7_trial_71 fl_X7_240 rfl (sp_k0 hst (by omega)) ?_
          refine wp_iconst (v := 1) dX7_trial_74 (by decide) ?_
          refine wp_iadd dX7_trial_75 ?_
          refine wp_putI dX7_trial_76 fl_X7_240 rfl (Or.inl rfl) (sp_k0 hst (by omega)) ?_
          refine wp_aload dX7_trial_79 rfl ?_
          refine wp_getI dX7_trial_81 fl_X7_240 rfl (sp_k0 hst (by omega)) ?_
          exact wp_retI dX7_trial_84 rfl (Nat.le_refl _) (Nat.le_refl _) (by rw [eU_at, eU_o (by omega), hc1, nI_1]; exact h4 j2 hj2 rfl ⟨ga14, gb14, ga24, gb24⟩ hlt)
        · refine wp_bipush (v := (-4)) dX7_trial_51 (by decide) ?_
          exact wp_retI dX7_trial_53 rfl (Nat.le_refl _) (Nat.le_refl _) (h3 j2 hj2 rfl ⟨ga14, gb14, ga24, gb24⟩ (by rw [hc1, i_lt, nI_toInt (by omega)] at zq48; have : (10 : Int32).toInt = 10 := rfl; omega))
      · skip
        refine wp_if_ne0 (tgt := 33) dX7_trial_27 (by decide) ?_
        refine wp_bipush (v := (-2)) dX7_trial_30 (by decide) ?_
        exact wp_retI dX7_trial_32 rfl (Nat.le_refl _) (Nat.le_refl _) (h2 j2 hj2 rfl (fun g => gn24 g.2.2))
    · skip
      refine wp_if_eq0 (tgt := 30) dX7_trial_17 (by decide) ?_
      refine wp_bipush (v := (-2)) dX7_trial_30 (by decide) ?_
      exact wp_retI dX7_trial_32 rfl (Nat.le_refl _) (Nat.le_refl _) (h2 j2 hj2 rfl (fun g => gn14 ⟨g.1, g.2.1⟩))
  · skip
    refine wp_if_ne0 (tgt := 10) dX7_trial_5 (by decide) ?_
    refine wp_iconst (v := (-1)) dX7_trial_8 (by decide) ?_
    exact wp_retI dX7_trial_9 rfl (Nat.le_refl _) (Nat.le_refl _) (by first | assumption | solve_by_elim [rfl])

theorem c_trialM (d : Nat) {n : Nat} {t : eT} {I : eI} {R : eR} {Q : Int32 → Nat → eT → eI → eR → Prop} (hst : ST n t R) {m : Nat} (hmM : I 94 9 = nI m) (hm4 : m ≤ 4) {cF : Nat → Nat} (hc : ∀ j, j < 4 → I 121 j = nI (cF j) ∧ cF j ≤ 10) {p x w : Int32} (h1 : (∀ j, j < m → p ≠ nI j) → Q (-1) n t I R) (h2 : ∀ j, j < m → p = nI j → ¬ (0 ≤ x.toInt ∧ x.toInt ≤ 99 ∧ 0 ≤ w.toInt ∧ w.toInt ≤ 99) → Q (-2) n t I R) (h3 : ∀ j, j < m → p = nI j → (0 ≤ x.toInt ∧ x.toInt ≤ 99 ∧ 0 ≤ w.toInt ∧ w.toInt ≤ 99) → cF j = 10 → Q (-4) n t I R) (h4 : ∀ j, j < m → p = nI j → (0 ≤ x.toInt ∧ x.toInt ≤ 99 ∧ 0 ≤ w.toInt ∧ w.toInt ≤ 99) → cF j < 10 → Q (nI (cF j + 1)) n t (eU (eU I 122 (10 * j + cF j) (x - w)) 121 j (nI (cF j + 1))) R) : MC yX8_trial cX8_trial 4 (some .int) (d + 2) 0 0 [.ref 94, .int p, .int x, .int w] n t I R (qI Q) := by
  refine mc_intro (L0 := [.ref 94, .int p, .int x, .int w]) (by decide) rfl (Nat.le_of_ble_eq_true rfl) ?_
  refine wp_aload_n (i := 0) dX8_trial_0 rfl rfl ?_
  refine wp_iload_n (i := 1) dX8_trial_1 rfl rfl ?_
  refine wp_V1i dX8_trial_2 mw_942 mw_944 ms_32 mi_X8_noPerson (Nat.le_of_ble_eq_true rfl) (Nat.le_refl _) (Nat.le_refl _) (st_k hst rfl) (by decide) rfl (c_noPerson _ hst (by exact hmM) hm4 (fun j2 hj2 e2 => ?_) (fun no2 => ?_)) 
  · subst e2
    refine wp_if_eq0 (tgt := 10) dX8_trial_5 (by decide) ?_
    refine wp_iload_n (i := 2) dX8_trial_10 rfl rfl ?_
    refine wp_i2l dX8_trial_11 ?_
    refine wp_lconst (v := 0) dX8_trial_12 (by decide) ?_
    refine wp_ldc2 (v := 99) dX8_trial_13 mw_933 ?_
    refine wp_S3i dX8_trial_16 mw_887 mw_888 mi_X8_in (Nat.le_of_ble_eq_true rfl) (Nat.le_refl _) (Nat.le_refl _) (c_in _ (a := 0) (b := 99) rfl rfl (fun ga16 gb16 => ?_) (fun gn16 => ?_)) 
    · skip
      refine wp_if_eq1 (tgt := 34) dX8_trial_19 (by decide) ?_
      refine wp_iload_n (i := 3) dX8_trial_22 rfl rfl ?_
      refine wp_i2l dX8_trial_23 ?_
      refine wp_lconst (v := 0) dX8_trial_24 (by decide) ?_
      refine wp_ldc2 (v := 99) dX8_trial_25 mw_933 ?_
      refine wp_S3i dX8_trial_28 mw_887 mw_888 mi_X8_in (Nat.le_of_ble_eq_true rfl) (Nat.le_refl _) (Nat.le_refl _) (c_in _ (a := 0) (b := 99) rfl rfl (fun ga28 gb28 => ?_) (fun gn28 => ?_)) 
      · skip
        refine wp_if_ne1 (tgt := 37) dX8_trial_31 (by decide) ?_
        obtain ⟨hc1, hc2⟩ := hc j2 (by omega)
        refine wp_aload_n (i := 0) dX8_trial_37 rfl rfl ?_
        refine wp_getR dX8_trial_38 fl_X8_89 rfl (st_k hst rfl) (st_r hst rfl) ?_
        refine wp_iload_n (i := 1) dX8_trial_41 rfl rfl ?_
        refine wp_ild dX8_trial_42 (st_t hst rfl) rfl (by omega) ?_
        refine wp_bipush (v := 10) dX8_trial_43 (by decide) ?_
        refine wp_icmp_ne (tgt := 51) dX8_trial_45 (by decide) (fun zq45 => ?_) (fun zq45 => ?_) 
        · have hlt : cF j2 < 10 := by have : cF j2 ≠ 10 := fun e => zq45 (by rw [hc1, e]; rfl);omega
          refine wp_aload_n (i := 0) dX8_trial_51 rfl rfl ?_
          refine wp_getR dX8_trial_52 fl_X8_92 rfl (st_k hst rfl) (st_r hst rfl) ?_
          refine wp_bipush (v := 10) dX8_trial_55 (by decide) ?_
          refine wp_iload_n (i := 1) dX8_trial_57 rfl rfl ?_
          refine wp_imul dX8_trial_58 ?_
          refine wp_aload_n (i := 0) dX8_trial_59 rfl rfl ?_
          refine wp_getR dX8_trial_60 fl_X8_89 rfl (st_k hst rfl) (st_r hst rfl) ?_
          refine wp_iload_n (i := 1) dX8_trial_63 rfl rfl ?_
          refine wp_ild dX8_trial_64 (st_t hst rfl) rfl (by omega) ?_
          refine wp_iadd dX8_trial_65 ?_
          refine wp_iload_n (i := 2) dX8_trial_66 rfl rfl ?_
          refine wp_iload_n (i := 3) dX8_trial_67 rfl rfl ?_
          refine wp_isub dX8_trial_68 ?_
          refine wp_ist (j := 10 * j2 + cF j2) dX8_trial_69 (st_t hst rfl) (by rw [hc1]; exact n_lin 10 j2 (cF j2)) (by omega) ?_
          refine wp_aload_n (i := 0) dX8_trial_70 rfl rfl ?_
          refine wp_getR dX8_trial_71 fl_X8_89 rfl (st_k hst rfl) (st_r hst rfl) ?_
          refine wp_iload_n (i := 1) dX8_trial_74 rfl rfl ?_
          refine wp_dup2 dX8_trial_75 rfl rfl ?_
          refine wp_ild dX8_trial_76 (st_t hst rfl) rfl (by omega) ?_
          refine wp_iconst (v := 1) dX8_trial_77 (by decide) ?_
          refine wp_iadd dX8_trial_78 ?_
          refine wp_ist dX8_trial_79 (st_t hst rfl) rfl (by omega) ?_
          refine wp_aload_n (i := 0) dX8_trial_80 rfl rfl ?_
          refine wp_getR dX8_trial_81 fl_X8_89 rfl (st_k hst rfl) (st_r hst rfl) ?_
          refine wp_iload_n (i := 1) dX8_trial_84 rfl rfl ?_
          refine wp_ild dX8_trial_85 (st_t hst rfl) rfl (by omega) ?_
          exact wp_retI dX8_trial_86 rfl (Nat.le_refl _) (Nat.le_refl _) (by rw [eU_at, eU_o (by decide), hc1, nI_1]; exact h4 j2 hj2 rfl ⟨ga16, gb16, ga28, gb28⟩ hlt)
        · refine wp_bipush (v := (-4)) dX8_trial_48 (by decide) ?_
          exact wp_retI dX8_trial_50 rfl (Nat.le_refl _) (Nat.le_refl _) (h3 j2 hj2 rfl ⟨ga16, gb16, ga28, gb28⟩ ((nI_eq (by omega) (by omega)).mp (by rw [← hc1]; exact zq45)))
      · skip
        refine wp_if_ne0 (tgt := 37) dX8_trial_31 (by decide) ?_
        refine wp_bipush (v := (-2)) dX8_trial_34 (by decide) ?_
        exact wp_retI dX8_trial_36 rfl (Nat.le_refl _) (Nat.le_refl _) (h2 j2 hj2 rfl (fun g => gn28 g.2.2))
    · skip
      refine wp_if_eq0 (tgt := 34) dX8_trial_19 (by decide) ?_
      refine wp_bipush (v := (-2)) dX8_trial_34 (by decide) ?_
      exact wp_retI dX8_trial_36 rfl (Nat.le_refl _) (Nat.le_refl _) (h2 j2 hj2 rfl (fun g => gn16 ⟨g.1, g.2.1⟩))
  · skip
    refine wp_if_eq1 (tgt := 10) dX8_trial_5 (by decide) ?_
    refine wp_iconst (v := (-1)) dX8_trial_8 (by decide) ?_
    exact wp_retI dX8_trial_9 rfl (Nat.le_refl _) (Nat.le_refl _) (by first | assumption | solve_by_elim [rfl])

theorem c_leave (d : Nat) {n : Nat} {t : eT} {I : eI} {R : eR} {Q : Int32 → Nat → eT → eI → eR → Prop} (hst : ST n t R) {m : Nat} (hm : I 4 3 = nI m) (hm4 : m ≤ 4) {p q x w : Int32} (h1 : (∀ j, j < m → p ≠ nI j) → Q (-1) n t I R) (h1b : (∀ j, j < m → q ≠ nI j) → Q (-1) n t I R) (h2 : ∀ a b, a < m → b < m → p = nI a → q = nI b → ¬ (a ≠ b ∧ 0 ≤ x.toInt ∧ x.toInt ≤ 1 ∧ -1 ≤ w.toInt ∧ w.toInt ≤ 9999) → Q (-2) n t I R) (h3 : ∀ a b e, a < m → b < m → a ≠ b → e < 2 → p = nI a → q = nI b → x = nI e → -1 ≤ w.toInt → w.toInt ≤ 9999 → I (63 + 10 * a) (e * 4 + b) = -1 → Q (-9) n t (eU I (63 + 10 * a) (e * 4 + b) w) R) (h4 : ∀ a b e, a < m → b < m → a ≠ b → e < 2 → p = nI a → q = nI b → x = nI e → -1 ≤ w.toInt → w.toInt ≤ 9999 → ¬ I (63 + 10 * a) (e * 4 + b) = -1 → Q (I (63 + 10 * a) (e * 4 + b)) n t (eU I (63 + 10 * a) (e * 4 + b) w) R) : MC yX7_leave cX7_leave 8 (some .int) (d + 2) 0 0 [.ref 4, .int p, .int q, .int x, .int w] n t I R (qI Q) := by
  refine mc_intro (L0 := [.ref 4, .int p, .int q, .int x, .int w, vU, vU, vU]) (by decide) rfl (Nat.le_of_ble_eq_true rfl) ?_
  refine wp_aload_n (i := 0) dX7_leave_0 rfl rfl ?_
  refine wp_iload_n (i := 1) dX7_leave_1 rfl rfl ?_
  refine wp_V1i dX7_leave_2 mw_375 mw_377 ms_7 mi_X7_isPerson (Nat.le_of_ble_eq_true rfl) (Nat.le_refl _) (Nat.le_refl _) (st_k hst rfl) (by decide) rfl (c_isPerson _ hst (by exact hm) hm4 (fun j2 hj2 e2 => ?_) (fun no2 => ?_)) 
  · subst e2
    refine wp_if_eq1 (tgt := 16) dX7_leave_5 (by decide) ?_
    refine wp_aload_n (i := 0) dX7_leave_8 rfl rfl ?_
    refine wp_iload_n (i := 2) dX7_leave_9 rfl rfl ?_
    refine wp_V1i dX7_leave_10 mw_375 mw_377 ms_7 mi_X7_isPerson (Nat.le_of_ble_eq_true rfl) (Nat.le_refl _) (Nat.le_refl _) (st_k hst rfl) (by decide) rfl (c_isPerson _ hst (by exact hm) hm4 (fun j10 hj10 e10 => ?_) (fun no10 => ?_)) 
    · subst e10
      refine wp_if_ne1 (tgt := 18) dX7_leave_13 (by decide) ?_
      refine wp_iload_n (i := 1) dX7_leave_18 rfl rfl ?_
      refine wp_iload_n (i := 2) dX7_leave_19 rfl rfl ?_
      refine wp_icmp_eq (tgt := 44) dX7_leave_20 (by decide) (fun zq20 => ?_) (fun zq20 => ?_) 
      · refine wp_bipush (v := (-2)) dX7_leave_44 (by decide) ?_
        exact wp_retI dX7_leave_46 rfl (Nat.le_refl _) (Nat.le_refl _) (h2 j2 j10 hj2 hj10 rfl rfl (fun g => g.1 ((nI_eq (by omega) (by omega)).mp zq20)))
      · refine wp_iload_n (i := 3) dX7_leave_23 rfl rfl ?_
        refine wp_iconst (v := 0) dX7_leave_24 (by decide) ?_
        refine wp_iconst (v := 1) dX7_leave_25 (by decide) ?_
        refine wp_S3i dX7_leave_26 mw_267 mw_268 mi_X7_isWithin (Nat.le_of_ble_eq_true rfl) (Nat.le_refl _) (Nat.le_refl _) (c_isWithin _ (a := 0) (b := 1) rfl rfl (fun ga26 gb26 => ?_) (fun gn26 => ?_)) 
        · skip
          refine wp_if_eq1 (tgt := 44) dX7_leave_29 (by decide) ?_
          refine wp_iload dX7_leave_32 rfl ?_
          refine wp_iconst (v := (-1)) dX7_leave_34 (by decide) ?_
          refine wp_sipush (v := 9999) dX7_leave_35 (by decide) ?_
          refine wp_S3i dX7_leave_38 mw_267 mw_268 mi_X7_isWithin (Nat.le_of_ble_eq_true rfl) (Nat.le_refl _) (Nat.le_refl _) (c_isWithin _ (a := -1) (b := 9999) rfl rfl (fun ga38 gb38 => ?_) (fun gn38 => ?_)) 
          · skip
            refine wp_if_ne1 (tgt := 47) dX7_leave_41 (by decide) ?_
            obtain ⟨e, he, ee⟩ := nat_yes (x := x) (m := 2) (by omega) ga26 (by omega)
            subst ee
            have hne : j2 ≠ j10 := fun g => zq20 (by rw [g])
            refine wp_aload_n (i := 0) dX7_leave_47 rfl rfl ?_
            refine wp_getR dX7_leave_48 fl_X7_27 rfl (st_k hst rfl) (st_r hst rfl) ?_
            refine wp_iload_n (i := 1) dX7_leave_51 rfl rfl ?_
            refine wp_rld11 dX7_leave_52 (st_t hst rfl) rfl (by omega) (sp_34 hst (by omega)) ?_
            refine wp_getR dX7_leave_53 fl_X7_250 rfl (sp_k0 hst (by omega)) (sp_r12 hst (by omega)) ?_
            refine wp_astore_8_5 dX7_leave_56 rfl ?_
            refine wp_iload_n (i := 3) dX7_leave_58 rfl rfl ?_
            refine wp_iconst (v := 4) dX7_leave_59 (by decide) ?_
            refine wp_imul dX7_leave_60 ?_
            refine wp_iload_n (i := 2) dX7_leave_61 rfl rfl ?_
            refine wp_iadd dX7_leave_62 ?_
            refine wp_istore_8_6 dX7_leave_63 rfl ?_
            refine wp_aload dX7_leave_65 rfl ?_
            refine wp_iload dX7_leave_67 rfl ?_
            refine wp_ild (j := e * 4 + j10) dX7_leave_69 (sp_t9 hst (by omega)) (n_linR e 4 j10) (by omega) ?_
            refine wp_istore_8_7 dX7_leave_70 rfl ?_
            refine wp_aload dX7_leave_72 rfl ?_
            refine wp_iload dX7_leave_74 rfl ?_
            refine wp_iload dX7_leave_76 rfl ?_
            refine wp_ist (j := e * 4 + j10) dX7_leave_78 (sp_t9 hst (by omega)) (n_linR e 4 j10) (by omega) ?_
            refine wp_iload dX7_leave_79 rfl ?_
            refine wp_iconst (v := (-1)) dX7_leave_81 (by decide) ?_
            refine wp_icmp_ne (tgt := 90) dX7_leave_82 (by decide) (fun zq82 => ?_) (fun zq82 => ?_) 
            · refine wp_iload dX7_leave_90 rfl ?_
              exact wp_retI dX7_leave_92 rfl (Nat.le_refl _) (Nat.le_refl _) (h4 j2 j10 e hj2 hj10 hne he rfl rfl rfl ga38 gb38 zq82)
            · refine wp_bipush (v := (-9)) dX7_leave_85 (by decide) ?_
              refine wp_goto (tgt := 92) dX7_leave_87 (by decide) ?_
              exact wp_retI dX7_leave_92 rfl (Nat.le_refl _) (Nat.le_refl _) (h3 j2 j10 e hj2 hj10 hne he rfl rfl rfl ga38 gb38 zq82)
          · skip
            refine wp_if_ne0 (tgt := 47) dX7_leave_41 (by decide) ?_
            refine wp_bipush (v := (-2)) dX7_leave_44 (by decide) ?_
            exact wp_retI dX7_leave_46 rfl (Nat.le_refl _) (Nat.le_refl _) (h2 j2 j10 hj2 hj10 rfl rfl (fun g => gn38 g.2.2.2))
        · skip
          refine wp_if_eq0 (tgt := 44) dX7_leave_29 (by decide) ?_
          refine wp_bipush (v := (-2)) dX7_leave_44 (by decide) ?_
          exact wp_retI dX7_leave_46 rfl (Nat.le_refl _) (Nat.le_refl _) (h2 j2 j10 hj2 hj10 rfl rfl (fun g => gn26 ⟨g.2.1, g.2.2.1⟩))
    · skip
      refine wp_if_ne0 (tgt := 18) dX7_leave_13 (by decide) ?_
      refine wp_iconst (v := (-1)) dX7_leave_16 (by decide) ?_
      exact wp_retI dX7_leave_17 rfl (Nat.le_refl _) (Nat.le_refl _) (by first | assumption | solve_by_elim [rfl])
  · skip
    refine wp_if_eq0 (tgt := 16) dX7_leave_5 (by decide) ?_
    refine wp_iconst (v := (-1)) dX7_leave_16 (by decide) ?_
    exact wp_retI dX7_leave_17 rfl (Nat.le_refl _) (Nat.le_refl _) (by first | assumption | solve_by_elim [rfl])

theorem c_leaveM (d : Nat) {n : Nat} {t : eT} {I : eI} {R : eR} {Q : Int32 → Nat → eT → eI → eR → Prop} (hst : ST n t R) {m : Nat} (hmM : I 94 9 = nI m) (hm4 : m ≤ 4) {p q x w : Int32} (h1 : (∀ j, j < m → p ≠ nI j) → Q (-1) n t I R) (h1b : (∀ j, j < m → q ≠ nI j) → Q (-1) n t I R) (h2 : ∀ a b, a < m → b < m → p = nI a → q = nI b → ¬ (a ≠ b ∧ 0 ≤ x.toInt ∧ x.toInt ≤ 1 ∧ -1 ≤ w.toInt ∧ w.toInt ≤ 9999) → Q (-2) n t I R) (h3 : ∀ a b e, a < m → b < m → a ≠ b → e < 2 → p = nI a → q = nI b → x = nI e → -1 ≤ w.toInt → w.toInt ≤ 9999 → w < 0 → Q (I 123 (8 * a + 2 * b + e)) n t (eU I 123 (8 * a + 2 * b + e) (-9)) R) (h4 : ∀ a b e, a < m → b < m → a ≠ b → e < 2 → p = nI a → q = nI b → x = nI e → -1 ≤ w.toInt → w.toInt ≤ 9999 → ¬ w < 0 → Q (I 123 (8 * a + 2 * b + e)) n t (eU I 123 (8 * a + 2 * b + e) w) R) : MC yX8_leave cX8_leave 7 (some .int) (d + 2) 0 0 [.ref 94, .int p, .int q, .int x, .int w] n t I R (qI Q) := by
  refine mc_intro (L0 := [.ref 94, .int p, .int q, .int x, .int w, vU, vU]) (by decide) rfl (Nat.le_of_ble_eq_true rfl) ?_
  refine wp_aload_n (i := 0) dX8_leave_0 rfl rfl ?_
  refine wp_iload_n (i := 1) dX8_leave_1 rfl rfl ?_
  refine wp_V1i dX8_leave_2 mw_942 mw_944 ms_32 mi_X8_noPerson (Nat.le_of_ble_eq_true rfl) (Nat.le_refl _) (Nat.le_refl _) (st_k hst rfl) (by decide) rfl (c_noPerson _ hst (by exact hmM) hm4 (fun j2 hj2 e2 => ?_) (fun no2 => ?_)) 
  · subst e2
    refine wp_if_ne0 (tgt := 16) dX8_leave_5 (by decide) ?_
    refine wp_aload_n (i := 0) dX8_leave_8 rfl rfl ?_
    refine wp_iload_n (i := 2) dX8_leave_9 rfl rfl ?_
    refine wp_V1i dX8_leave_10 mw_942 mw_944 ms_32 mi_X8_noPerson (Nat.le_of_ble_eq_true rfl) (Nat.le_refl _) (Nat.le_refl _) (st_k hst rfl) (by decide) rfl (c_noPerson _ hst (by exact hmM) hm4 (fun j10 hj10 e10 => ?_) (fun no10 => ?_)) 
    · subst e10
      refine wp_if_eq0 (tgt := 18) dX8_leave_13 (by decide) ?_
      refine wp_iload_n (i := 1) dX8_leave_18 rfl rfl ?_
      refine wp_iload_n (i := 2) dX8_leave_19 rfl rfl ?_
      refine wp_icmp_eq (tgt := 48) dX8_leave_20 (by decide) (fun zq20 => ?_) (fun zq20 => ?_) 
      · refine wp_bipush (v := (-2)) dX8_leave_48 (by decide) ?_
        exact wp_retI dX8_leave_50 rfl (Nat.le_refl _) (Nat.le_refl _) (h2 j2 j10 hj2 hj10 rfl rfl (fun g => g.1 ((nI_eq (by omega) (by omega)).mp zq20)))
      · refine wp_iload_n (i := 3) dX8_leave_23 rfl rfl ?_
        refine wp_i2l dX8_leave_24 ?_
        refine wp_lconst (v := 0) dX8_leave_25 (by decide) ?_
        refine wp_lconst (v := 1) dX8_leave_26 (by decide) ?_
        refine wp_S3i dX8_leave_27 mw_887 mw_888 mi_X8_in (Nat.le_of_ble_eq_true rfl) (Nat.le_refl _) (Nat.le_refl _) (c_in _ (a := 0) (b := 1) rfl rfl (fun ga27 gb27 => ?_) (fun gn27 => ?_)) 
        · skip
          refine wp_if_eq1 (tgt := 48) dX8_leave_30 (by decide) ?_
          refine wp_iload dX8_leave_33 rfl ?_
          refine wp_i2l dX8_leave_35 ?_
          refine wp_ldc2 (v := (-1)) dX8_leave_36 mw_952 ?_
          refine wp_ldc2 (v := 9999) dX8_leave_39 mw_1007 ?_
          refine wp_S3i dX8_leave_42 mw_887 mw_888 mi_X8_in (Nat.le_of_ble_eq_true rfl) (Nat.le_refl _) (Nat.le_refl _) (c_in _ (a := -1) (b := 9999) rfl rfl (fun ga42 gb42 => ?_) (fun gn42 => ?_)) 
          · skip
            refine wp_if_ne1 (tgt := 51) dX8_leave_45 (by decide) ?_
            obtain ⟨e, he, ee⟩ := nat_yes (x := x) (m := 2) (by omega) ga27 (by omega)
            subst ee
            have hne : j2 ≠ j10 := fun g => zq20 (by rw [g])
            refine wp_bipush (v := 8) dX8_leave_51 (by decide) ?_
            refine wp_iload_n (i := 1) dX8_leave_53 rfl rfl ?_
            refine wp_imul dX8_leave_54 ?_
            refine wp_iconst (v := 2) dX8_leave_55 (by decide) ?_
            refine wp_iload_n (i := 2) dX8_leave_56 rfl rfl ?_
            refine wp_imul dX8_leave_57 ?_
            refine wp_iadd dX8_leave_58 ?_
            refine wp_iload_n (i := 3) dX8_leave_59 rfl rfl ?_
            refine wp_iadd dX8_leave_60 ?_
            refine wp_istore_7_5 dX8_leave_61 rfl ?_
            refine wp_aload_n (i := 0) dX8_leave_63 rfl rfl ?_
            refine wp_getR dX8_leave_64 fl_X8_95 rfl (st_k hst rfl) (st_r hst rfl) ?_
            refine wp_iload dX8_leave_67 rfl ?_
            refine wp_ild (j := 8 * j2 + 2 * j10 + e) dX8_leave_69 (st_t hst rfl) (n_lin3 8 j2 2 j10 e) (by omega) ?_
            refine wp_istore_7_6 dX8_leave_70 rfl ?_
            refine wp_aload_n (i := 0) dX8_leave_72 rfl rfl ?_
            refine wp_getR dX8_leave_73 fl_X8_95 rfl (st_k hst rfl) (st_r hst rfl) ?_
            refine wp_iload dX8_leave_76 rfl ?_
            refine wp_iload dX8_leave_78 rfl ?_
            refine wp_if_ge (tgt := 88) dX8_leave_80 (by decide) (fun zq80 => ?_) (fun zq80 => ?_) 
            · refine wp_iload dX8_leave_88 rfl ?_
              refine wp_ist (j := 8 * j2 + 2 * j10 + e) dX8_leave_90 (st_t hst rfl) (n_lin3 8 j2 2 j10 e) (by omega) ?_
              refine wp_iload dX8_leave_91 rfl ?_
              exact wp_retI dX8_leave_93 rfl (Nat.le_refl _) (Nat.le_refl _) (h4 j2 j10 e hj2 hj10 hne he rfl rfl rfl ga42 gb42 (Int32.not_lt.mpr zq80))
            · refine wp_bipush (v := (-9)) dX8_leave_83 (by decide) ?_
              refine wp_goto (tgt := 90) dX8_leave_85 (by decide) ?_
              refine wp_ist (j := 8 * j2 + 2 * j10 + e) dX8_leave_90 (st_t hst rfl) (n_lin3 8 j2 2 j10 e) (by omega) ?_
              refine wp_iload dX8_leave_91 rfl ?_
              exact wp_retI dX8_leave_93 rfl (Nat.le_refl _) (Nat.le_refl _) (h3 j2 j10 e hj2 hj10 hne he rfl rfl rfl ga42 gb42 (Int32.not_le.mp zq80))
          · skip
            refine wp_if_ne0 (tgt := 51) dX8_leave_45 (by decide) ?_
            refine wp_bipush (v := (-2)) dX8_leave_48 (by decide) ?_
            exact wp_retI dX8_leave_50 rfl (Nat.le_refl _) (Nat.le_refl _) (h2 j2 j10 hj2 hj10 rfl rfl (fun g => gn42 g.2.2.2))
        · skip
          refine wp_if_eq0 (tgt := 48) dX8_leave_30 (by decide) ?_
          refine wp_bipush (v := (-2)) dX8_leave_48 (by decide) ?_
          exact wp_retI dX8_leave_50 rfl (Nat.le_refl _) (Nat.le_refl _) (h2 j2 j10 hj2 hj10 rfl rfl (fun g => gn27 ⟨g.2.1, g.2.2.1⟩))
    · skip
      refine wp_if_eq1 (tgt := 18) dX8_leave_13 (by decide) ?_
      refine wp_iconst (v := (-1)) dX8_leave_16 (by decide) ?_
      exact wp_retI dX8_leave_17 rfl (Nat.le_refl _) (Nat.le_refl _) (by first | assumption | solve_by_elim [rfl])
  · skip
    refine wp_if_ne1 (tgt := 16) dX8_leave_5 (by decide) ?_
    refine wp_iconst (v := (-1)) dX8_leave_16 (by decide) ?_
    exact wp_retI dX8_leave_17 rfl (Nat.le_refl _) (Nat.le_refl _) (by first | assumption | solve_by_elim [rfl])


theorem c_partBody (d : Nat) {n : Nat} {t : eT} {I : eI} {R : eR} {Q : Int32 → Nat → eT → eI → eR → Prop} (hst : ST n t R) {j : Nat} (hj : j < 10) (hq : Q (I 7 j) n t (eU I 4 8 (31 * I 4 8 + 1)) R) : MC yX7_partBody cX7_partBody 2 (some .int) (d + 1) 0 0 [.ref 4, .int (nI j)] n t I R (qI Q) := by
  refine mc_intro (L0 := [.ref 4, .int (nI j)]) (by decide) rfl (Nat.le_of_ble_eq_true rfl) ?_
  refine wp_aload_n (i := 0) dX7_partBody_0 rfl rfl ?_
  refine wp_iconst (v := 1) dX7_partBody_1 (by decide) ?_
  refine wp_V1v dX7_partBody_2 mw_702 mw_704 ms_22 mi_X7_leaveTrace (Nat.le_of_ble_eq_true rfl) (Nat.le_refl _) (Nat.le_refl _) (st_k hst rfl) (by decide) rfl (c_leaveTrace _ hst ?_) 
  refine wp_aload_n (i := 0) dX7_partBody_5 rfl rfl ?_
  refine wp_getR dX7_partBody_6 fl_X7_12 rfl (st_k hst rfl) (st_r hst rfl) ?_
  refine wp_getR dX7_partBody_9 fl_X7_105 rfl (st_k hst rfl) (st_r hst rfl) ?_
  refine wp_iload_n (i := 1) dX7_partBody_12 rfl rfl ?_
  refine wp_ild dX7_partBody_13 (st_t hst rfl) rfl (by omega) ?_
  exact wp_retI dX7_partBody_14 rfl (Nat.le_refl _) (Nat.le_refl _) hq

theorem c_deedBody (d : Nat) {n : Nat} {t : eT} {I : eI} {R : eR} {Q : Int32 → Nat → eT → eI → eR → Prop} (hst : ST n t R) {j : Nat} (hj : j < 10) (hq : Q (I 7 j + 1000) n t (eU (eU I 4 8 (31 * I 4 8 + 2)) 4 8 (31 * (31 * I 4 8 + 2) + 1)) R) : MC yX7_deedBody cX7_deedBody 2 (some .int) (d + 2) 0 0 [.ref 4, .int (nI j)] n t I R (qI Q) := by
  refine mc_intro (L0 := [.ref 4, .int (nI j)]) (by decide) rfl (Nat.le_of_ble_eq_true rfl) ?_
  refine wp_aload_n (i := 0) dX7_deedBody_0 rfl rfl ?_
  refine wp_iconst (v := 2) dX7_deedBody_1 (by decide) ?_
  refine wp_V1v dX7_deedBody_2 mw_702 mw_704 ms_22 mi_X7_leaveTrace (Nat.le_of_ble_eq_true rfl) (Nat.le_refl _) (Nat.le_refl _) (st_k hst rfl) (by decide) rfl (c_leaveTrace _ hst ?_) 
  refine wp_aload_n (i := 0) dX7_deedBody_5 rfl rfl ?_
  refine wp_iload_n (i := 1) dX7_deedBody_6 rfl rfl ?_
  refine wp_V1i dX7_deedBody_7 mw_710 mw_712 ms_24 mi_X7_partBody (Nat.le_of_ble_eq_true rfl) (Nat.le_refl _) (Nat.le_refl _) (st_k hst rfl) (by decide) rfl (c_partBody _ hst hj ?_) 
  refine wp_sipush (v := 1000) dX7_deedBody_10 (by decide) ?_
  refine wp_iadd dX7_deedBody_13 ?_
  exact wp_retI dX7_deedBody_14 rfl (Nat.le_refl _) (Nat.le_refl _) hq

theorem c_dangerBody (d : Nat) {n : Nat} {t : eT} {I : eI} {R : eR} {Q : Int32 → Nat → eT → eI → eR → Prop} (hst : ST n t R) {j : Nat} (hj : j < 10) (hq : Q (I 7 j + 1000 + I 7 j) n t (eU (eU (eU (eU I 4 8 (31 * I 4 8 + 3)) 4 8 (31 * (31 * I 4 8 + 3) + 2)) 4 8 (31 * (31 * (31 * I 4 8 + 3) + 2) + 1)) 4 8 (31 * (31 * (31 * (31 * I 4 8 + 3) + 2) + 1) + 1)) R) : MC yX7_dangerBody cX7_dangerBody 3 (some .int) (d + 3) 0 0 [.ref 4, .int (nI j)] n t I R (qI Q) := by
  refine mc_intro (L0 := [.ref 4, .int (nI j), vU]) (by decide) rfl (Nat.le_of_ble_eq_true rfl) ?_
  refine wp_aload_n (i := 0) dX7_dangerBody_0 rfl rfl ?_
  refine wp_iconst (v := 3) dX7_dangerBody_1 (by decide) ?_
  refine wp_V1v dX7_dangerBody_2 mw_702 mw_704 ms_22 mi_X7_leaveTrace (Nat.le_of_ble_eq_true rfl) (Nat.le_refl _) (Nat.le_refl _) (st_k hst rfl) (by decide) rfl (c_leaveTrace _ hst ?_) 
  refine wp_aload_n (i := 0) dX7_dangerBody_5 rfl rfl ?_
  refine wp_iload_n (i := 1) dX7_dangerBody_6 rfl rfl ?_
  refine wp_V1i dX7_dangerBody_7 mw_706 mw_708 ms_23 mi_X7_deedBody (Nat.le_of_ble_eq_true rfl) (Nat.le_refl _) (Nat.le_refl _) (st_k hst rfl) (by decide) rfl (c_deedBody _ hst hj ?_) 
  refine wp_istore_3_2 dX7_dangerBody_10 rfl ?_
  refine wp_iload_n (i := 2) dX7_dangerBody_11 rfl rfl ?_
  refine wp_aload_n (i := 0) dX7_dangerBody_12 rfl rfl ?_
  refine wp_iload_n (i := 1) dX7_dangerBody_13 rfl rfl ?_
  refine wp_V1i dX7_dangerBody_14 mw_710 mw_712 ms_24 mi_X7_partBody (Nat.le_of_ble_eq_true rfl) (Nat.le_refl _) (Nat.le_refl _) (st_k hst rfl) (by decide) rfl (c_partBody _ hst hj ?_) 
  refine wp_iadd dX7_dangerBody_17 ?_
  exact wp_retI dX7_dangerBody_18 rfl (Nat.le_refl _) (Nat.le_refl _) hq

theorem c_lentBody (d : Nat) {n : Nat} {t : eT} {I : eI} {R : eR} {Q : Int32 → Nat → eT → eI → eR → Prop} (hst : ST n t R) {x : Int32} (hq : Q x n t (eU I 4 8 (31 * I 4 8 + 4)) R) : MC yX7_lentBody cX7_lentBody 2 (some .int) (d + 1) 0 0 [.ref 4, .int x] n t I R (qI Q) := by
  refine mc_intro (L0 := [.ref 4, .int x]) (by decide) rfl (Nat.le_of_ble_eq_true rfl) ?_
  refine wp_aload_n (i := 0) dX7_lentBody_0 rfl rfl ?_
  refine wp_iconst (v := 4) dX7_lentBody_1 (by decide) ?_
  refine wp_V1v dX7_lentBody_2 mw_702 mw_704 ms_22 mi_X7_leaveTrace (Nat.le_of_ble_eq_true rfl) (Nat.le_refl _) (Nat.le_refl _) (st_k hst rfl) (by decide) rfl (c_leaveTrace _ hst ?_) 
  refine wp_iload_n (i := 1) dX7_lentBody_5 rfl rfl ?_
  exact wp_retI dX7_lentBody_6 rfl (Nat.le_refl _) (Nat.le_refl _) hq

theorem c_dangerSpokenBody (d : Nat) {n : Nat} {t : eT} {I : eI} {R : eR} {Q : Int32 → Nat → eT → eI → eR → Prop} (hst : ST n t R) (hq : Q 99 n t (eU I 4 8 (31 * I 4 8 + 5)) R) : MC yX7_dangerSpokenBody cX7_dangerSpokenBody 1 (some .int) (d + 1) 0 0 [.ref 4] n t I R (qI Q) := by
  refine mc_intro (L0 := [.ref 4]) (by decide) rfl (Nat.le_of_ble_eq_true rfl) ?_
  refine wp_aload_n (i := 0) dX7_dangerSpokenBody_0 rfl rfl ?_
  refine wp_iconst (v := 5) dX7_dangerSpokenBody_1 (by decide) ?_
  refine wp_V1v dX7_dangerSpokenBody_2 mw_702 mw_704 ms_22 mi_X7_leaveTrace (Nat.le_of_ble_eq_true rfl) (Nat.le_refl _) (Nat.le_refl _) (st_k hst rfl) (by decide) rfl (c_leaveTrace _ hst ?_) 
  refine wp_bipush (v := 99) dX7_dangerSpokenBody_5 (by decide) ?_
  exact wp_retI dX7_dangerSpokenBody_7 rfl (Nat.le_refl _) (Nat.le_refl _) hq

theorem c_speak (d : Nat) {n : Nat} {t : eT} {I : eI} {R : eR} {Q : Int32 → Nat → eT → eI → eR → Prop} (hst : ST n t R) {k : Nat} (hk : I 5 0 = nI k) (hk4 : k ≤ 10) {x : Int32} (h1 : (∀ j, j < k → x ≠ nI j) → Q (-1) n t I R) (h2 : ∀ j, j < k → x = nI j → I 6 j = 2 → Q 99 n t (eU I 4 8 (31 * I 4 8 + 5)) R) (h3 : ∀ j, j < k → x = nI j → ¬ I 6 j = 2 → Q (nI j) n t (eU I 4 8 (31 * I 4 8 + 4)) R) : MC yX7_speak cX7_speak 2 (some .int) (d + 2) 0 0 [.ref 4, .int x] n t I R (qI Q) := by
  refine mc_intro (L0 := [.ref 4, .int x]) (by decide) rfl (Nat.le_of_ble_eq_true rfl) ?_
  refine wp_aload_n (i := 0) dX7_speak_0 rfl rfl ?_
  refine wp_getR dX7_speak_1 fl_X7_12 rfl (st_k hst rfl) (st_r hst rfl) ?_
  refine wp_iload_n (i := 1) dX7_speak_4 rfl rfl ?_
  refine wp_V1i dX7_speak_5 mw_351 mw_352 mw_353 mi_X2_has (Nat.le_of_ble_eq_true rfl) (Nat.le_refl _) (Nat.le_refl _) (st_k hst rfl) (by decide) rfl (c_has _ hst (by exact hk) hk4 (fun j5 hj5 e5 => ?_) (fun no5 => ?_)) 
  · subst e5
    refine wp_if_ne1 (tgt := 13) dX7_speak_8 (by decide) ?_
    refine wp_aload_n (i := 0) dX7_speak_13 rfl rfl ?_
    refine wp_getR dX7_speak_14 fl_X7_12 rfl (st_k hst rfl) (st_r hst rfl) ?_
    refine wp_getR dX7_speak_17 fl_X7_102 rfl (st_k hst rfl) (st_r hst rfl) ?_
    refine wp_iload_n (i := 1) dX7_speak_20 rfl rfl ?_
    refine wp_ild dX7_speak_21 (st_t hst rfl) rfl (by omega) ?_
    refine wp_iconst (v := 2) dX7_speak_22 (by decide) ?_
    refine wp_icmp_ne (tgt := 33) dX7_speak_23 (by decide) (fun zq23 => ?_) (fun zq23 => ?_) 
    · refine wp_aload_n (i := 0) dX7_speak_33 rfl rfl ?_
      refine wp_iload_n (i := 1) dX7_speak_34 rfl rfl ?_
      refine wp_V1i dX7_speak_35 mw_722 mw_724 ms_26 mi_X7_lentBody (Nat.le_of_ble_eq_true rfl) (Nat.le_refl _) (Nat.le_refl _) (st_k hst rfl) (by decide) rfl (c_lentBody _ hst ?_) 
      exact wp_retI dX7_speak_38 rfl (Nat.le_refl _) (Nat.le_refl _) (by first | assumption | solve_by_elim [rfl])
    · refine wp_aload_n (i := 0) dX7_speak_26 rfl rfl ?_
      refine wp_V0i dX7_speak_27 mw_718 mw_720 ms_25 mi_X7_dangerSpokenBody (Nat.le_of_ble_eq_true rfl) (Nat.le_refl _) (Nat.le_refl _) (st_k hst rfl) (by decide) rfl (c_dangerSpokenBody _ hst ?_) 
      refine wp_goto (tgt := 38) dX7_speak_30 (by decide) ?_
      exact wp_retI dX7_speak_38 rfl (Nat.le_refl _) (Nat.le_refl _) (by first | assumption | solve_by_elim [rfl])
  · skip
    refine wp_if_ne0 (tgt := 13) dX7_speak_8 (by decide) ?_
    refine wp_iconst (v := (-1)) dX7_speak_11 (by decide) ?_
    exact wp_retI dX7_speak_12 rfl (Nat.le_refl _) (Nat.le_refl _) (by first | assumption | solve_by_elim [rfl])

theorem c_speakM (d : Nat) {n : Nat} {t : eT} {I : eI} {R : eR} {Q : Int32 → Nat → eT → eI → eR → Prop} (hst : ST n t R) {k : Nat} (hkM : I 94 1 = nI k) (hk4 : k ≤ 10) {x : Int32} (h1 : (∀ j, j < k → x ≠ nI j) → Q (-1) n t I R) (h2 : ∀ j, j < k → x = nI j → I 95 j = 2 → Q 99 n t (eU I 94 42 (31 * I 94 42 + 5)) R) (h3 : ∀ j, j < k → x = nI j → ¬ I 95 j = 2 → Q (nI j) n t (eU I 94 42 (31 * I 94 42 + 4)) R) : MC yX8_speak cX8_speak 2 (some .int) (d + 2) 0 0 [.ref 94, .int x] n t I R (qI Q) := by
  refine mc_intro (L0 := [.ref 94, .int x]) (by decide) rfl (Nat.le_of_ble_eq_true rfl) ?_
  refine wp_aload_n (i := 0) dX8_speak_0 rfl rfl ?_
  refine wp_iload_n (i := 1) dX8_speak_1 rfl rfl ?_
  refine wp_V1i dX8_speak_2 mw_916 mw_918 ms_31 mi_X8_noPart (Nat.le_of_ble_eq_true rfl) (Nat.le_refl _) (Nat.le_refl _) (st_k hst rfl) (by decide) rfl (c_noPart _ hst (by exact hkM) hk4 (fun j2 hj2 e2 => ?_) (fun no2 => ?_)) 
  · subst e2
    refine wp_if_eq0 (tgt := 10) dX8_speak_5 (by decide) ?_
    refine wp_aload_n (i := 0) dX8_speak_10 rfl rfl ?_
    refine wp_aload_n (i := 0) dX8_speak_11 rfl rfl ?_
    refine wp_getR dX8_speak_12 fl_X8_7 rfl (st_k hst rfl) (st_r hst rfl) ?_
    refine wp_iload_n (i := 1) dX8_speak_15 rfl rfl ?_
    refine wp_ild dX8_speak_16 (st_t hst rfl) rfl (by omega) ?_
    refine wp_iconst (v := 2) dX8_speak_17 (by decide) ?_
    refine wp_icmp_ne (tgt := 25) dX8_speak_18 (by decide) (fun zq18 => ?_) (fun zq18 => ?_) 
    · refine wp_iconst (v := 4) dX8_speak_25 (by decide) ?_
      refine wp_V1v dX8_speak_26 mw_1174 mw_1176 ms_54 mi_X8_traced (Nat.le_of_ble_eq_true rfl) (Nat.le_refl _) (Nat.le_refl _) (st_k hst rfl) (by decide) rfl (c_traced _ hst ?_) 
      refine wp_aload_n (i := 0) dX8_speak_29 rfl rfl ?_
      refine wp_getR dX8_speak_30 fl_X8_7 rfl (st_k hst rfl) (st_r hst rfl) ?_
      refine wp_iload_n (i := 1) dX8_speak_33 rfl rfl ?_
      refine wp_ild dX8_speak_34 (st_t hst rfl) rfl (by omega) ?_
      refine wp_iconst (v := 2) dX8_speak_35 (by decide) ?_
      refine wp_icmp_ne (tgt := 44) dX8_speak_36 (by decide) (fun zq36 => ?_) (fun zq36 => absurd zq36 zq18) 
      refine wp_iload_n (i := 1) dX8_speak_44 rfl rfl ?_
      exact wp_retI dX8_speak_45 rfl (Nat.le_refl _) (Nat.le_refl _) (by first | assumption | solve_by_elim [rfl])
    · refine wp_iconst (v := 5) dX8_speak_21 (by decide) ?_
      refine wp_goto (tgt := 26) dX8_speak_22 (by decide) ?_
      refine wp_V1v dX8_speak_26 mw_1174 mw_1176 ms_54 mi_X8_traced (Nat.le_of_ble_eq_true rfl) (Nat.le_refl _) (Nat.le_refl _) (st_k hst rfl) (by decide) rfl (c_traced _ hst ?_) 
      refine wp_aload_n (i := 0) dX8_speak_29 rfl rfl ?_
      refine wp_getR dX8_speak_30 fl_X8_7 rfl (st_k hst rfl) (st_r hst rfl) ?_
      refine wp_iload_n (i := 1) dX8_speak_33 rfl rfl ?_
      refine wp_ild dX8_speak_34 (st_t hst rfl) rfl (by omega) ?_
      refine wp_iconst (v := 2) dX8_speak_35 (by decide) ?_
      refine wp_icmp_ne (tgt := 44) dX8_speak_36 (by decide) (fun zq36 => absurd zq18 zq36) (fun zq36 => ?_) 
      refine wp_bipush (v := 99) dX8_speak_39 (by decide) ?_
      refine wp_goto (tgt := 45) dX8_speak_41 (by decide) ?_
      exact wp_retI dX8_speak_45 rfl (Nat.le_refl _) (Nat.le_refl _) (by first | assumption | solve_by_elim [rfl])
  · skip
    refine wp_if_eq1 (tgt := 10) dX8_speak_5 (by decide) ?_
    refine wp_iconst (v := (-1)) dX8_speak_8 (by decide) ?_
    exact wp_retI dX8_speak_9 rfl (Nat.le_refl _) (Nat.le_refl _) (by first | assumption | solve_by_elim [rfl])

theorem c_as (d : Nat) {n : Nat} {t : eT} {I : eI} {R : eR} {Q : Int32 → Nat → eT → eI → eR → Prop} (hst : ST n t R) {k : Nat} (hk : I 5 0 = nI k) (hk4 : k ≤ 10) {x w : Int32} (h1 : (∀ j, j < k → x ≠ nI j) → Q (-1) n t (eU I 4 9 0) R) (h2 : ∀ j, j < k → x = nI j → ¬ (0 ≤ w.toInt ∧ w.toInt ≤ 2) → Q (-2) n t (eU I 4 9 0) R) (h3 : ∀ j, j < k → x = nI j → 0 ≤ w.toInt → w.toInt ≤ 2 → ¬ I 6 j < w → Q 1 n t (eU I 4 9 0) R) (h4 : ∀ j, j < k → x = nI j → 0 ≤ w.toInt → w.toInt ≤ 2 → I 6 j < w → Q (-12) n t (eU (eU I 4 9 0) 4 9 2) R) : MC yX7_as cX7_as 3 (some .int) (d + 2) 0 0 [.ref 4, .int x, .int w] n t I R (qI Q) := by
  refine mc_intro (L0 := [.ref 4, .int x, .int w]) (by decide) rfl (Nat.le_of_ble_eq_true rfl) ?_
  refine wp_aload_n (i := 0) dX7_as_0 rfl rfl ?_
  refine wp_iconst (v := 0) dX7_as_1 (by decide) ?_
  refine wp_putI dX7_as_2 fl_X7_62 rfl (Or.inl rfl) (st_k hst rfl) ?_
  refine wp_aload_n (i := 0) dX7_as_5 rfl rfl ?_
  refine wp_getR dX7_as_6 fl_X7_12 rfl (st_k hst rfl) (st_r hst rfl) ?_
  refine wp_iload_n (i := 1) dX7_as_9 rfl rfl ?_
  refine wp_V1i dX7_as_10 mw_351 mw_352 mw_353 mi_X2_has (Nat.le_of_ble_eq_true rfl) (Nat.le_refl _) (Nat.le_refl _) (st_k hst rfl) (by decide) rfl (c_has _ hst (by exact hk) hk4 (fun j10 hj10 e10 => ?_) (fun no10 => ?_)) 
  · subst e10
    refine wp_if_ne1 (tgt := 18) dX7_as_13 (by decide) ?_
    refine wp_iload_n (i := 2) dX7_as_18 rfl rfl ?_
    refine wp_iconst (v := 0) dX7_as_19 (by decide) ?_
    refine wp_iconst (v := 2) dX7_as_20 (by decide) ?_
    refine wp_S3i dX7_as_21 mw_267 mw_268 mi_X7_isWithin (Nat.le_of_ble_eq_true rfl) (Nat.le_refl _) (Nat.le_refl _) (c_isWithin _ (a := 0) (b := 2) rfl rfl (fun ga21 gb21 => ?_) (fun gn21 => ?_)) 
    · skip
      refine wp_if_ne1 (tgt := 30) dX7_as_24 (by decide) ?_
      refine wp_aload_n (i := 0) dX7_as_30 rfl rfl ?_
      refine wp_getR dX7_as_31 fl_X7_12 rfl (st_k hst rfl) (st_r hst rfl) ?_
      refine wp_getR dX7_as_34 fl_X7_102 rfl (st_k hst rfl) (st_r hst rfl) ?_
      refine wp_iload_n (i := 1) dX7_as_37 rfl rfl ?_
      refine wp_ild dX7_as_38 (st_t hst rfl) rfl (by omega) ?_
      refine wp_iload_n (i := 2) dX7_as_39 rfl rfl ?_
      refine wp_icmp_lt (tgt := 47) dX7_as_40 (by decide) (fun zq40 => ?_) (fun zq40 => ?_) 
      · refine wp_aload_n (i := 0) dX7_as_47 rfl rfl ?_
        refine wp_iconst (v := 2) dX7_as_48 (by decide) ?_
        refine wp_V1i dX7_as_49 mw_270 mw_272 ms_0 mi_X7_faulted (Nat.le_of_ble_eq_true rfl) (Nat.le_refl _) (Nat.le_refl _) (st_k hst rfl) (by decide) rfl (c_faulted _ hst (r := -12) (by decide) ?_) 
        exact wp_retI dX7_as_52 rfl (Nat.le_refl _) (Nat.le_refl _) (h4 j10 hj10 rfl ga21 gb21 zq40)
      · refine wp_iconst (v := 1) dX7_as_43 (by decide) ?_
        refine wp_goto (tgt := 52) dX7_as_44 (by decide) ?_
        exact wp_retI dX7_as_52 rfl (Nat.le_refl _) (Nat.le_refl _) (h3 j10 hj10 rfl ga21 gb21 zq40)
    · skip
      refine wp_if_ne0 (tgt := 30) dX7_as_24 (by decide) ?_
      refine wp_bipush (v := (-2)) dX7_as_27 (by decide) ?_
      exact wp_retI dX7_as_29 rfl (Nat.le_refl _) (Nat.le_refl _) (by first | assumption | solve_by_elim [rfl])
  · skip
    refine wp_if_ne0 (tgt := 18) dX7_as_13 (by decide) ?_
    refine wp_iconst (v := (-1)) dX7_as_16 (by decide) ?_
    exact wp_retI dX7_as_17 rfl (Nat.le_refl _) (Nat.le_refl _) (by first | assumption | solve_by_elim [rfl])

theorem c_asM (d : Nat) {n : Nat} {t : eT} {I : eI} {R : eR} {Q : Int32 → Nat → eT → eI → eR → Prop} (hst : ST n t R) {k : Nat} (hkM : I 94 1 = nI k) (hk4 : k ≤ 10) {x w : Int32} (h1 : (∀ j, j < k → x ≠ nI j) → Q (-1) n t (eU I 94 0 0) R) (h2 : ∀ j, j < k → x = nI j → ¬ (0 ≤ w.toInt ∧ w.toInt ≤ 2) → Q (-2) n t (eU I 94 0 0) R) (h3 : ∀ j, j < k → x = nI j → 0 ≤ w.toInt → w.toInt ≤ 2 → ¬ I 95 j < w → Q 1 n t (eU I 94 0 0) R) (h4 : ∀ j, j < k → x = nI j → 0 ≤ w.toInt → w.toInt ≤ 2 → I 95 j < w → Q (-12) n t (eU I 94 0 2) R) : MC yX8_as cX8_as 3 (some .int) (d + 2) 0 0 [.ref 94, .int x, .int w] n t I R (qI Q) := by
  refine mc_intro (L0 := [.ref 94, .int x, .int w]) (by decide) rfl (Nat.le_of_ble_eq_true rfl) ?_
  refine wp_aload_n (i := 0) dX8_as_0 rfl rfl ?_
  refine wp_iload_n (i := 1) dX8_as_1 rfl rfl ?_
  refine wp_V1i dX8_as_2 mw_916 mw_918 ms_31 mi_X8_noPart (Nat.le_of_ble_eq_true rfl) (Nat.le_refl _) (Nat.le_refl _) (st_k hst rfl) (by decide) rfl (c_noPart _ hst (by exact hkM) hk4 (fun j2 hj2 e2 => ?_) (fun no2 => ?_)) 
  · subst e2
    refine wp_if_eq0 (tgt := 14) dX8_as_5 (by decide) ?_
    refine wp_iload_n (i := 2) dX8_as_14 rfl rfl ?_
    refine wp_i2l dX8_as_15 ?_
    refine wp_lconst (v := 0) dX8_as_16 (by decide) ?_
    refine wp_ldc2 (v := 2) dX8_as_17 mw_898 ?_
    refine wp_S3i dX8_as_20 mw_887 mw_888 mi_X8_in (Nat.le_of_ble_eq_true rfl) (Nat.le_refl _) (Nat.le_refl _) (c_in _ (a := 0) (b := 2) rfl rfl (fun ga20 gb20 => ?_) (fun gn20 => ?_)) 
    · skip
      refine wp_if_ne1 (tgt := 33) dX8_as_23 (by decide) ?_
      refine wp_aload_n (i := 0) dX8_as_33 rfl rfl ?_
      refine wp_getR dX8_as_34 fl_X8_7 rfl (st_k hst rfl) (st_r hst rfl) ?_
      refine wp_iload_n (i := 1) dX8_as_37 rfl rfl ?_
      refine wp_ild dX8_as_38 (st_t hst rfl) rfl (by omega) ?_
      refine wp_iload_n (i := 2) dX8_as_39 rfl rfl ?_
      refine wp_icmp_lt (tgt := 51) dX8_as_40 (by decide) (fun zq40 => ?_) (fun zq40 => ?_) 
      · refine wp_aload_n (i := 0) dX8_as_51 rfl rfl ?_
        refine wp_iconst (v := 2) dX8_as_52 (by decide) ?_
        refine wp_V1i dX8_as_53 mw_899 mw_901 ms_29 mi_X8_failed (Nat.le_of_ble_eq_true rfl) (Nat.le_refl _) (Nat.le_refl _) (st_k hst rfl) (by decide) rfl (c_failed _ hst (r := -12) (by decide) ?_) 
        exact wp_retI dX8_as_56 rfl (Nat.le_refl _) (Nat.le_refl _) (h4 j2 hj2 rfl ga20 gb20 zq40)
      · refine wp_aload_n (i := 0) dX8_as_43 rfl rfl ?_
        refine wp_iconst (v := 1) dX8_as_44 (by decide) ?_
        refine wp_V1i dX8_as_45 mw_890 mw_892 ms_27 mi_X8_refused (Nat.le_of_ble_eq_true rfl) (Nat.le_refl _) (Nat.le_refl _) (st_k hst rfl) (by decide) rfl (c_refused _ hst ?_) 
        refine wp_goto (tgt := 56) dX8_as_48 (by decide) ?_
        exact wp_retI dX8_as_56 rfl (Nat.le_refl _) (Nat.le_refl _) (h3 j2 hj2 rfl ga20 gb20 zq40)
    · skip
      refine wp_if_ne0 (tgt := 33) dX8_as_23 (by decide) ?_
      refine wp_aload_n (i := 0) dX8_as_26 rfl rfl ?_
      refine wp_bipush (v := (-2)) dX8_as_27 (by decide) ?_
      refine wp_V1i dX8_as_29 mw_890 mw_892 ms_27 mi_X8_refused (Nat.le_of_ble_eq_true rfl) (Nat.le_refl _) (Nat.le_refl _) (st_k hst rfl) (by decide) rfl (c_refused _ hst ?_) 
      exact wp_retI dX8_as_32 rfl (Nat.le_refl _) (Nat.le_refl _) (by first | assumption | solve_by_elim [rfl])
  · skip
    refine wp_if_eq1 (tgt := 14) dX8_as_5 (by decide) ?_
    refine wp_aload_n (i := 0) dX8_as_8 rfl rfl ?_
    refine wp_iconst (v := (-1)) dX8_as_9 (by decide) ?_
    refine wp_V1i dX8_as_10 mw_890 mw_892 ms_27 mi_X8_refused (Nat.le_of_ble_eq_true rfl) (Nat.le_refl _) (Nat.le_refl _) (st_k hst rfl) (by decide) rfl (c_refused _ hst ?_) 
    exact wp_retI dX8_as_13 rfl (Nat.le_refl _) (Nat.le_refl _) (by first | assumption | solve_by_elim [rfl])

