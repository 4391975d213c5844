theorem n_lin (c j w : Nat) : nI c * nI j + nI w = nI (c * j + w) := by rw [pk_mul, nI_add]
theorem i_one {x : Int32} (h0 : 0 ≤ x.toInt) (h1 : x.toInt ≤ 1) (hn : ¬ x = 0) : x = 1 := by
  apply Int32.toInt_inj.mp
  have : x.toInt ≠ 0 := fun e => hn (Int32.toInt_inj.mp e)
  show x.toInt = 1
  omega
theorem i_none {x : Int32} (h0 : ¬ x = 0) (h1 : ¬ x = 1) : ¬ (0 ≤ x.toInt ∧ x.toInt ≤ 1) := by
  intro h
  exact h1 (i_one h.1 h.2 h0)
theorem c_asked (d : Nat) {n : Nat} {t : eT} {I : eI} {R : eR} {Q : Int32 → Nat → eT → eI → eR → Prop} (hst : ST n t R) {m : Nat} (hm : I 4 3 = nI m) (hm4 : m ≤ 4) {p : Int32} (h1 : (∀ j, j < m → p ≠ nI j) → Q (-1) n t I R) (h2 : ∀ j, j < m → p = nI j → Q (I (54 + 10 * j) 4) n t I R) : MC yX7_asked cX7_asked 2 (some .int) (d + 2) 0 0 [.ref 4, .int p] n t I R (qI Q) := by
  refine mc_intro (L0 := [.ref 4, .int p]) (by decide) rfl (Nat.le_of_ble_eq_true rfl) ?_
  refine wp_aload_n (i := 0) dX7_asked_0 rfl rfl ?_
  refine wp_iload_n (i := 1) dX7_asked_1 rfl rfl ?_
  refine wp_V1i dX7_asked_2 mw_375 mw_377 ms_7 mi_X7_isPerson (Nat.le_of_ble_eq_true rfl) (Nat.le_refl _) (Nat.le_refl _) (st_k hst rfl) (by decide) rfl (c_isPerson _ hst hm hm4 (fun j2 hj2 e2 => ?_) (fun no2 => ?_)) 
  · subst e2
    refine wp_if_eq1 (tgt := 20) dX7_asked_5 (by decide) ?_
    refine wp_aload_n (i := 0) dX7_asked_8 rfl rfl ?_
    refine wp_getR dX7_asked_9 fl_X7_27 rfl (st_k hst rfl) (st_r hst rfl) ?_
    refine wp_iload_n (i := 1) dX7_asked_12 rfl rfl ?_
    refine wp_rld11 dX7_asked_13 (st_t hst rfl) rfl (by omega) (sp_34 hst (by omega)) ?_
    refine wp_getI dX7_asked_14 fl_X7_209 rfl (sp_k0 hst (by omega)) ?_
    refine wp_goto (tgt := 21) dX7_asked_17 (by decide) ?_
    exact wp_retI dX7_asked_21 rfl (Nat.le_refl _) (Nat.le_refl _) (h2 j2 hj2 rfl)
  · skip
    refine wp_if_eq0 (tgt := 20) dX7_asked_5 (by decide) ?_
    refine wp_iconst (v := (-1)) dX7_asked_20 (by decide) ?_
    exact wp_retI dX7_asked_21 rfl (Nat.le_refl _) (Nat.le_refl _) (h1 no2)

theorem c_askedM (d : Nat) {n : Nat} {t : eT} {I : eI} {R : eR} {Q : Int32 → Nat → eT → eI → eR → Prop} (hst : ST n t R) {m : Nat} (hmM : I 94 9 = nI m) (hm4 : m ≤ 4) {p : Int32} (h1 : (∀ j, j < m → p ≠ nI j) → Q (-1) n t I R) (h2 : ∀ j, j < m → p = nI j → Q (I 114 j) n t I R) : MC yX8_asked cX8_asked 2 (some .int) (d + 2) 0 0 [.ref 94, .int p] n t I R (qI Q) := by
  refine mc_intro (L0 := [.ref 94, .int p]) (by decide) rfl (Nat.le_of_ble_eq_true rfl) ?_
  refine wp_aload_n (i := 0) dX8_asked_0 rfl rfl ?_
  refine wp_iload_n (i := 1) dX8_asked_1 rfl rfl ?_
  refine wp_V1i dX8_asked_2 mw_942 mw_944 ms_32 mi_X8_noPerson (Nat.le_of_ble_eq_true rfl) (Nat.le_refl _) (Nat.le_refl _) (st_k hst rfl) (by decide) rfl (c_noPerson _ hst hmM hm4 (fun j2 hj2 e2 => ?_) (fun no2 => ?_)) 
  · subst e2
    refine wp_if_eq0 (tgt := 12) dX8_asked_5 (by decide) ?_
    refine wp_aload_n (i := 0) dX8_asked_12 rfl rfl ?_
    refine wp_getR dX8_asked_13 fl_X8_68 rfl (st_k hst rfl) (st_r hst rfl) ?_
    refine wp_iload_n (i := 1) dX8_asked_16 rfl rfl ?_
    refine wp_ild dX8_asked_17 (st_t hst rfl) rfl (by omega) ?_
    exact wp_retI dX8_asked_18 rfl (Nat.le_refl _) (Nat.le_refl _) (h2 j2 hj2 rfl)
  · skip
    refine wp_if_eq1 (tgt := 12) dX8_asked_5 (by decide) ?_
    refine wp_iconst (v := (-1)) dX8_asked_8 (by decide) ?_
    refine wp_goto (tgt := 18) dX8_asked_9 (by decide) ?_
    exact wp_retI dX8_asked_18 rfl (Nat.le_refl _) (Nat.le_refl _) (h1 no2)

theorem c_counted (d : Nat) {n : Nat} {t : eT} {I : eI} {R : eR} {Q : Int32 → Nat → eT → eI → eR → Prop} (hst : ST n t R) {m : Nat} (hm : I 4 3 = nI m) (hm4 : m ≤ 4) {p x : Int32} (h1 : (∀ j, j < m → p ≠ nI j) → Q (-1) n t I R) (h2 : ∀ j, j < m → p = nI j → ¬ (0 ≤ x.toInt ∧ x.toInt ≤ 2) → Q (-2) n t I R) (h3 : ∀ j, j < m → p = nI j → ∀ w, w < 3 → x = nI w → Q (I (60 + 10 * j) w) n t I R) : MC yX7_counted cX7_counted 3 (some .int) (d + 2) 0 0 [.ref 4, .int p, .int x] n t I R (qI Q) := by
  refine mc_intro (L0 := [.ref 4, .int p, .int x]) (by decide) rfl (Nat.le_of_ble_eq_true rfl) ?_
  refine wp_aload_n (i := 0) dX7_counted_0 rfl rfl ?_
  refine wp_iload_n (i := 1) dX7_counted_1 rfl rfl ?_
  refine wp_V1i dX7_counted_2 mw_375 mw_377 ms_7 mi_X7_isPerson (Nat.le_of_ble_eq_true rfl) (Nat.le_refl _) (Nat.le_refl _) (st_k hst rfl) (by decide) rfl (c_isPerson _ hst hm hm4 (fun j2 hj2 e2 => ?_) (fun no2 => ?_)) 
  · subst e2
    refine wp_if_ne1 (tgt := 10) dX7_counted_5 (by decide) ?_
    refine wp_iload_n (i := 2) dX7_counted_10 rfl rfl ?_
    refine wp_iconst (v := 0) dX7_counted_11 (by decide) ?_
    refine wp_iconst (v := 2) dX7_counted_12 (by decide) ?_
    refine wp_S3i dX7_counted_13 mw_267 mw_268 mi_X7_isWithin (Nat.le_of_ble_eq_true rfl) (Nat.le_refl _) (Nat.le_refl _) (c_isWithin _ (a := 0) (b := 2) rfl rfl (fun ga13 gb13 => ?_) (fun gn13 => ?_)) 
    · skip
      refine wp_if_ne1 (tgt := 22) dX7_counted_16 (by decide) ?_
      obtain ⟨w, hw, ew⟩ := nat_yes (x := x) (m := 3) (by omega) ga13 (by omega)
      subst ew
      refine wp_aload_n (i := 0) dX7_counted_22 rfl rfl ?_
      refine wp_getR dX7_counted_23 fl_X7_27 rfl (st_k hst rfl) (st_r hst rfl) ?_
      refine wp_iload_n (i := 1) dX7_counted_26 rfl rfl ?_
      refine wp_rld11 dX7_counted_27 (st_t hst rfl) rfl (by omega) (sp_34 hst (by omega)) ?_
      refine wp_getR dX7_counted_28 fl_X7_225 rfl (sp_k0 hst (by omega)) (sp_r7 hst (by omega)) ?_
      refine wp_iload_n (i := 2) dX7_counted_31 rfl rfl ?_
      refine wp_ild dX7_counted_32 (sp_t6 hst (by omega)) rfl (by omega) ?_
      exact wp_retI dX7_counted_33 rfl (Nat.le_refl _) (Nat.le_refl _) (h3 j2 hj2 rfl w hw rfl)
    · skip
      refine wp_if_ne0 (tgt := 22) dX7_counted_16 (by decide) ?_
      refine wp_bipush (v := (-2)) dX7_counted_19 (by decide) ?_
      exact wp_retI dX7_counted_21 rfl (Nat.le_refl _) (Nat.le_refl _) (h2 j2 hj2 rfl gn13)
  · skip
    refine wp_if_ne0 (tgt := 10) dX7_counted_5 (by decide) ?_
    refine wp_iconst (v := (-1)) dX7_counted_8 (by decide) ?_
    exact wp_retI dX7_counted_9 rfl (Nat.le_refl _) (Nat.le_refl _) (h1 no2)

theorem c_countedM (d : Nat) {n : Nat} {t : eT} {I : eI} {R : eR} {Q : Int32 → Nat → eT → eI → eR → Prop} (hst : ST n t R) {m : Nat} (hmM : I 94 9 = nI m) (hm4 : m ≤ 4) {p x : Int32} (h1 : (∀ j, j < m → p ≠ nI j) → Q (-1) n t I R) (h2 : ∀ j, j < m → p = nI j → ¬ (0 ≤ x.toInt ∧ x.toInt ≤ 2) → Q (-2) n t I R) (h3 : ∀ j, j < m → p = nI j → ∀ w, w < 3 → x = nI w → Q (I 118 (3 * j + w)) n t I R) : MC yX8_counted cX8_counted 3 (some .int) (d + 2) 0 0 [.ref 94, .int p, .int x] n t I R (qI Q) := by
  refine mc_intro (L0 := [.ref 94, .int p, .int x]) (by decide) rfl (Nat.le_of_ble_eq_true rfl) ?_
  refine wp_aload_n (i := 0) dX8_counted_0 rfl rfl ?_
  refine wp_iload_n (i := 1) dX8_counted_1 rfl rfl ?_
  refine wp_V1i dX8_counted_2 mw_942 mw_944 ms_32 mi_X8_noPerson (Nat.le_of_ble_eq_true rfl) (Nat.le_refl _) (Nat.le_refl _) (st_k hst rfl) (by decide) rfl (c_noPerson _ hst hmM hm4 (fun j2 hj2 e2 => ?_) (fun no2 => ?_)) 
  · subst e2
    refine wp_if_eq0 (tgt := 10) dX8_counted_5 (by decide) ?_
    refine wp_iload_n (i := 2) dX8_counted_10 rfl rfl ?_
    refine wp_i2l dX8_counted_11 ?_
    refine wp_lconst (v := 0) dX8_counted_12 (by decide) ?_
    refine wp_ldc2 (v := 2) dX8_counted_13 mw_898 ?_
    refine wp_S3i dX8_counted_16 mw_887 mw_888 mi_X8_in (Nat.le_of_ble_eq_true rfl) (Nat.le_refl _) (Nat.le_refl _) (c_in _ (a := 0) (b := 2) rfl rfl (fun ga16 gb16 => ?_) (fun gn16 => ?_)) 
    · skip
      refine wp_if_eq1 (tgt := 35) dX8_counted_19 (by decide) ?_
      obtain ⟨w, hw, ew⟩ := nat_yes (x := x) (m := 3) (by omega) ga16 (by omega)
      subst ew
      refine wp_aload_n (i := 0) dX8_counted_22 rfl rfl ?_
      refine wp_getR dX8_counted_23 fl_X8_80 rfl (st_k hst rfl) (st_r hst rfl) ?_
      refine wp_iconst (v := 3) dX8_counted_26 (by decide) ?_
      refine wp_iload_n (i := 1) dX8_counted_27 rfl rfl ?_
      refine wp_imul dX8_counted_28 ?_
      refine wp_iload_n (i := 2) dX8_counted_29 rfl rfl ?_
      refine wp_iadd dX8_counted_30 ?_
      refine wp_ild (j := 3 * j2 + w) dX8_counted_31 (st_t hst rfl) (n_lin 3 j2 w) (by omega) ?_
      refine wp_goto (tgt := 37) dX8_counted_32 (by decide) ?_
      exact wp_retI dX8_counted_37 rfl (Nat.le_refl _) (Nat.le_refl _) (h3 j2 hj2 rfl w hw rfl)
    · skip
      refine wp_if_eq0 (tgt := 35) dX8_counted_19 (by decide) ?_
      refine wp_bipush (v := (-2)) dX8_counted_35 (by decide) ?_
      exact wp_retI dX8_counted_37 rfl (Nat.le_refl _) (Nat.le_refl _) (h2 j2 hj2 rfl gn16)
  · skip
    refine wp_if_eq1 (tgt := 10) dX8_counted_5 (by decide) ?_
    refine wp_iconst (v := (-1)) dX8_counted_8 (by decide) ?_
    exact wp_retI dX8_counted_9 rfl (Nat.le_refl _) (Nat.le_refl _) (h1 no2)

theorem c_many (d : Nat) {n : Nat} {t : eT} {I : eI} {R : eR} {Q : Int32 → Nat → eT → eI → eR → Prop} (hst : ST n t R) {x : Int32} (h1 : ¬ (0 ≤ x.toInt ∧ x.toInt ≤ 1) → Q (-2) n t I R) (h2 : x = 0 → Q (I 5 0) n t I R) (h3 : x = 1 → Q (I 4 3) n t I R) : MC yX7_many cX7_many 2 (some .int) (d + 2) 0 0 [.ref 4, .int x] n t I R (qI Q) := by
  refine mc_intro (L0 := [.ref 4, .int x]) (by decide) rfl (Nat.le_of_ble_eq_true rfl) ?_
  refine wp_iload_n (i := 1) dX7_many_0 rfl rfl ?_
  refine wp_iconst (v := 0) dX7_many_1 (by decide) ?_
  refine wp_iconst (v := 1) dX7_many_2 (by decide) ?_
  refine wp_S3i dX7_many_3 mw_267 mw_268 mi_X7_isWithin (Nat.le_of_ble_eq_true rfl) (Nat.le_refl _) (Nat.le_refl _) (c_isWithin _ (a := 0) (b := 1) rfl rfl (fun ga3 gb3 => ?_) (fun gn3 => ?_)) 
  · skip
    refine wp_if_ne1 (tgt := 12) dX7_many_6 (by decide) ?_
    refine wp_iload_n (i := 1) dX7_many_12 rfl rfl ?_
    refine wp_if_ne (tgt := 26) dX7_many_13 (by decide) (fun zq13 => ?_) (fun zq13 => ?_) 
    · refine wp_aload_n (i := 0) dX7_many_26 rfl rfl ?_
      refine wp_getI dX7_many_27 fl_X7_31 rfl (st_k hst rfl) ?_
      exact wp_retI dX7_many_30 rfl (Nat.le_refl _) (Nat.le_refl _) (h3 (i_one ga3 gb3 zq13))
    · refine wp_aload_n (i := 0) dX7_many_16 rfl rfl ?_
      refine wp_getR dX7_many_17 fl_X7_12 rfl (st_k hst rfl) (st_r hst rfl) ?_
      refine wp_getI dX7_many_20 fl_X7_95 rfl (st_k hst rfl) ?_
      refine wp_goto (tgt := 30) dX7_many_23 (by decide) ?_
      exact wp_retI dX7_many_30 rfl (Nat.le_refl _) (Nat.le_refl _) (h2 zq13)
  · skip
    refine wp_if_ne0 (tgt := 12) dX7_many_6 (by decide) ?_
    refine wp_bipush (v := (-2)) dX7_many_9 (by decide) ?_
    exact wp_retI dX7_many_11 rfl (Nat.le_refl _) (Nat.le_refl _) (h1 gn3)

theorem c_manyM (d : Nat) {n : Nat} {t : eT} {I : eI} {R : eR} {Q : Int32 → Nat → eT → eI → eR → Prop} (hst : ST n t R) {x : Int32} (h1 : ¬ (0 ≤ x.toInt ∧ x.toInt ≤ 1) → Q (-2) n t I R) (h2 : x = 0 → Q (I 94 1) n t I R) (h3 : x = 1 → Q (I 94 9) n t I R) : MC yX8_many cX8_many 2 (some .int) (d + 2) 0 0 [.ref 94, .int x] n t I R (qI Q) := by
  refine mc_intro (L0 := [.ref 94, .int x]) (by decide) rfl (Nat.le_of_ble_eq_true rfl) ?_
  refine wp_iload_n (i := 1) dX8_many_0 rfl rfl ?_
  refine wp_if_ne (tgt := 11) dX8_many_1 (by decide) (fun zq1 => ?_) (fun zq1 => ?_) 
  · refine wp_iload_n (i := 1) dX8_many_11 rfl rfl ?_
    refine wp_iconst (v := 1) dX8_many_12 (by decide) ?_
    refine wp_icmp_ne (tgt := 23) dX8_many_13 (by decide) (fun zq13 => ?_) (fun zq13 => ?_) 
    · refine wp_bipush (v := (-2)) dX8_many_23 (by decide) ?_
      exact wp_retI dX8_many_25 rfl (Nat.le_refl _) (Nat.le_refl _) (h1 (i_none zq1 zq13))
    · refine wp_aload_n (i := 0) dX8_many_16 rfl rfl ?_
      refine wp_getI dX8_many_17 fl_X8_172 rfl (st_k hst rfl) ?_
      refine wp_goto (tgt := 25) dX8_many_20 (by decide) ?_
      exact wp_retI dX8_many_25 rfl (Nat.le_refl _) (Nat.le_refl _) (h3 zq13)
  · refine wp_aload_n (i := 0) dX8_many_4 rfl rfl ?_
    refine wp_getI dX8_many_5 fl_X8_143 rfl (st_k hst rfl) ?_
    refine wp_goto (tgt := 25) dX8_many_8 (by decide) ?_
    exact wp_retI dX8_many_25 rfl (Nat.le_refl _) (Nat.le_refl _) (h2 zq1)

