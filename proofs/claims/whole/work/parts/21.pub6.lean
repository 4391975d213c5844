def cutL (v l : Int32) : Int32 := if l = 0 then v.toInt8.toInt32 else if l = 1 then v.toInt16.toInt32 else v
theorem cutL_cases (v l : Int32) : (l = 0 ∧ cutL v l = v.toInt8.toInt32) ∨ (l = 1 ∧ cutL v l = v.toInt16.toInt32) ∨ (¬ l = 0 ∧ ¬ l = 1 ∧ cutL v l = v) := by
  unfold cutL
  by_cases h0 : l = 0
  · exact Or.inl ⟨h0, by simp [h0]⟩
  · by_cases h1 : l = 1
    · exact Or.inr (Or.inl ⟨h1, by simp [h1]⟩)
    · exact Or.inr (Or.inr ⟨h0, h1, by simp [h0, h1]⟩)
theorem c_cutToLane (d : Nat) {n : Nat} {t : eT} {I : eI} {R : eR} {Q : Int32 → Nat → eT → eI → eR → Prop} {v l : Int32} (hq : Q (cutL v l) n t I R) : MC yX7_cutToLane cX7_cutToLane 2 (some .int) d 0 0 [.int v, .int l] n t I R (qI Q) := by
  refine mc_intro (L0 := [.int v, .int l]) (by decide) rfl (Nat.le_of_ble_eq_true rfl) ?_
  refine wp_iload_n (i := 1) dX7_cutToLane_0 rfl rfl ?_
  rcases cutL_cases v l with ⟨hc0, hc1⟩ | ⟨hc0, hc1⟩ | ⟨hc0, hc2, hc1⟩
  · subst hc0
    refine wp_lookup (tgt := 28) dX7_cutToLane_1 (by decide) (off := 27) (by decide) (by decide) ?_
    refine wp_iload_n (i := 0) dX7_cutToLane_28 rfl rfl ?_
    refine wp_i2b dX7_cutToLane_29 ?_
    exact wp_retI dX7_cutToLane_30 rfl (Nat.le_refl _) (Nat.le_refl _) (by rw [hc1] at hq; exact hq)
  · subst hc0
    refine wp_lookup (tgt := 31) dX7_cutToLane_1 (by decide) (off := 30) (by decide) (by decide) ?_
    refine wp_iload_n (i := 0) dX7_cutToLane_31 rfl rfl ?_
    refine wp_i2s dX7_cutToLane_32 ?_
    exact wp_retI dX7_cutToLane_33 rfl (Nat.le_refl _) (Nat.le_refl _) (by rw [hc1] at hq; exact hq)
  · skip
    refine wp_lookup (tgt := 34) dX7_cutToLane_1 (by decide) (off := 33) ((lv_osw (x := l) (k := 0) (a := 0) (o := 27) (d := 33) (r := [(1, 30)]) hc0 (by decide)).trans ((lv_osw (x := l) (k := 1) (a := 1) (o := 30) (d := 33) (r := []) hc2 (by decide)).trans rfl)) (by decide) ?_
    refine wp_iload_n (i := 0) dX7_cutToLane_34 rfl rfl ?_
    exact wp_retI dX7_cutToLane_35 rfl (Nat.le_refl _) (Nat.le_refl _) (by rw [hc1] at hq; exact hq)

theorem c_lose (d : Nat) {n : Nat} {t : eT} {I : eI} {R : eR} {Q : Int32 → Nat → eT → eI → eR → Prop} (hst : ST n t R) {x : Int32} (h1 : (∀ j, j < 4 → x ≠ nI j) → Q (-1) n t I R) (h2 : ∀ j, j < 4 → x = nI j → R 53 j = none → Q 0 n t I (eU R 53 j none)) (h3 : ∀ j a, j < 4 → x = nI j → R 53 j = some a → Q 1 n t I (eU R 53 j none)) : MC yX7_lose cX7_lose 3 (some .int) (d + 2) 0 0 [.ref 4, .int x] n t I R (qI Q) := by
  refine mc_intro (L0 := [.ref 4, .int x, vU]) (by decide) rfl (Nat.le_of_ble_eq_true rfl) ?_
  refine wp_iload_n (i := 1) dX7_lose_0 rfl rfl ?_
  refine wp_iconst (v := 0) dX7_lose_1 (by decide) ?_
  refine wp_iconst (v := 3) dX7_lose_2 (by decide) ?_
  refine wp_S3i dX7_lose_3 mw_267 mw_268 mi_X7_isWithin (Nat.le_of_ble_eq_true rfl) (Nat.le_refl _) (Nat.le_refl _) (c_isWithin _ (a := 0) (b := 3) rfl rfl (fun ga3 gb3 => ?_) (fun gn3 => ?_)) 
  · skip
    refine wp_if_ne1 (tgt := 11) dX7_lose_6 (by decide) ?_
    obtain ⟨w, hw, ew⟩ := nat_yes (x := x) (m := 4) (by omega) ga3 (by omega)
    subst ew
    refine wp_aload_n (i := 0) dX7_lose_11 rfl rfl ?_
    refine wp_getR dX7_lose_12 fl_X7_55 rfl (st_k hst rfl) (st_r hst rfl) ?_
    refine wp_iload_n (i := 1) dX7_lose_15 rfl rfl ?_
    rcases hr16 : R 53 w with _ | ra16
    · refine wp_rld12N dX7_lose_16 (st_t hst rfl) rfl (by omega) hr16 ?_
      refine wp_ifnonnullN dX7_lose_17 ?_
      refine wp_iconst (v := 0) dX7_lose_20 (by decide) ?_
      refine wp_goto (tgt := 25) dX7_lose_21 (by decide) ?_
      refine wp_istore_3_2 dX7_lose_25 rfl ?_
      refine wp_aload_n (i := 0) dX7_lose_26 rfl rfl ?_
      refine wp_getR dX7_lose_27 fl_X7_55 rfl (st_k hst rfl) (st_r hst rfl) ?_
      refine wp_iload_n (i := 1) dX7_lose_30 rfl rfl ?_
      refine wp_null dX7_lose_31 ?_
      refine wp_rst12N dX7_lose_32 (st_t hst rfl) rfl (by omega) ?_
      refine wp_iload_n (i := 2) dX7_lose_33 rfl rfl ?_
      exact wp_retI dX7_lose_34 rfl (Nat.le_refl _) (Nat.le_refl _) (h2 w hw rfl hr16)
    · refine wp_rld12 dX7_lose_16 (st_t hst rfl) rfl (by omega) hr16 ?_
      refine wp_ifnonnull (tgt := 24) dX7_lose_17 (by decide) ?_
      refine wp_iconst (v := 1) dX7_lose_24 (by decide) ?_
      refine wp_istore_3_2 dX7_lose_25 rfl ?_
      refine wp_aload_n (i := 0) dX7_lose_26 rfl rfl ?_
      refine wp_getR dX7_lose_27 fl_X7_55 rfl (st_k hst rfl) (st_r hst rfl) ?_
      refine wp_iload_n (i := 1) dX7_lose_30 rfl rfl ?_
      refine wp_null dX7_lose_31 ?_
      refine wp_rst12N dX7_lose_32 (st_t hst rfl) rfl (by omega) ?_
      refine wp_iload_n (i := 2) dX7_lose_33 rfl rfl ?_
      exact wp_retI dX7_lose_34 rfl (Nat.le_refl _) (Nat.le_refl _) (h3 w ra16 hw rfl hr16)
  · skip
    refine wp_if_ne0 (tgt := 11) dX7_lose_6 (by decide) ?_
    refine wp_iconst (v := (-1)) dX7_lose_9 (by decide) ?_
    exact wp_retI dX7_lose_10 rfl (Nat.le_refl _) (Nat.le_refl _) (h1 (nat_no (m := 4) (by omega) (by omega)))

theorem c_loseM (d : Nat) {n : Nat} {t : eT} {I : eI} {R : eR} {Q : Int32 → Nat → eT → eI → eR → Prop} (hst : ST n t R) {x : Int32} (h1 : (∀ j, j < 4 → x ≠ nI j) → Q (-1) n t I R) (h2 : ∀ j, j < 4 → x = nI j → I 124 j < 0 → Q 0 n t (eU I 124 j (-1)) R) (h3 : ∀ j, j < 4 → x = nI j → ¬ I 124 j < 0 → Q 1 n t (eU I 124 j (-1)) R) : MC yX8_lose cX8_lose 3 (some .int) (d + 2) 0 0 [.ref 94, .int x] n t I R (qI Q) := by
  refine mc_intro (L0 := [.ref 94, .int x, vU]) (by decide) rfl (Nat.le_of_ble_eq_true rfl) ?_
  refine wp_iload_n (i := 1) dX8_lose_0 rfl rfl ?_
  refine wp_S1i dX8_lose_1 mw_883 mw_884 mi_X8_noSheet (Nat.le_of_ble_eq_true rfl) (Nat.le_refl _) (Nat.le_refl _) (c_noSheet _ (fun w hw ew => ?_) (fun no1 => ?_)) 
  · subst ew
    refine wp_if_eq0 (tgt := 9) dX8_lose_4 (by decide) ?_
    refine wp_aload_n (i := 0) dX8_lose_9 rfl rfl ?_
    refine wp_getR dX8_lose_10 fl_X8_98 rfl (st_k hst rfl) (st_r hst rfl) ?_
    refine wp_iload_n (i := 1) dX8_lose_13 rfl rfl ?_
    refine wp_ild dX8_lose_14 (st_t hst rfl) rfl (by omega) ?_
    refine wp_if_ge (tgt := 22) dX8_lose_15 (by decide) (fun zq15 => ?_) (fun zq15 => ?_) 
    · refine wp_iconst (v := 1) dX8_lose_22 (by decide) ?_
      refine wp_istore_3_2 dX8_lose_23 rfl ?_
      refine wp_aload_n (i := 0) dX8_lose_24 rfl rfl ?_
      refine wp_getR dX8_lose_25 fl_X8_98 rfl (st_k hst rfl) (st_r hst rfl) ?_
      refine wp_iload_n (i := 1) dX8_lose_28 rfl rfl ?_
      refine wp_iconst (v := (-1)) dX8_lose_29 (by decide) ?_
      refine wp_ist dX8_lose_30 (st_t hst rfl) rfl (by omega) ?_
      refine wp_iload_n (i := 2) dX8_lose_31 rfl rfl ?_
      exact wp_retI dX8_lose_32 rfl (Nat.le_refl _) (Nat.le_refl _) (h3 w hw rfl (Int32.not_lt.mpr zq15))
    · refine wp_iconst (v := 0) dX8_lose_18 (by decide) ?_
      refine wp_goto (tgt := 23) dX8_lose_19 (by decide) ?_
      refine wp_istore_3_2 dX8_lose_23 rfl ?_
      refine wp_aload_n (i := 0) dX8_lose_24 rfl rfl ?_
      refine wp_getR dX8_lose_25 fl_X8_98 rfl (st_k hst rfl) (st_r hst rfl) ?_
      refine wp_iload_n (i := 1) dX8_lose_28 rfl rfl ?_
      refine wp_iconst (v := (-1)) dX8_lose_29 (by decide) ?_
      refine wp_ist dX8_lose_30 (st_t hst rfl) rfl (by omega) ?_
      refine wp_iload_n (i := 2) dX8_lose_31 rfl rfl ?_
      exact wp_retI dX8_lose_32 rfl (Nat.le_refl _) (Nat.le_refl _) (h2 w hw rfl (Int32.not_le.mp zq15))
  · skip
    refine wp_if_eq1 (tgt := 9) dX8_lose_4 (by decide) ?_
    refine wp_iconst (v := (-1)) dX8_lose_7 (by decide) ?_
    exact wp_retI dX8_lose_8 rfl (Nat.le_refl _) (Nat.le_refl _) (h1 no1)

theorem c_put (d : Nat) {n : Nat} {t : eT} {I : eI} {R : eR} {Q : Int32 → Nat → eT → eI → eR → Prop} (hst : ST n t R) (hsh : ∀ j a, j < 4 → R 53 j = some a → (t a).1 = 6 ∧ ∃ c len, R a 1 = some c ∧ t c = (9, len) ∧ len ≤ 60) {x y v : Int32} (h1 : (∀ j, j < 4 → x ≠ nI j) → Q (-1) n t (eU I 4 9 0) R) (h2 : ∀ j, j < 4 → x = nI j → R 53 j = none → Q (-11) n t (eU (eU I 4 9 0) 4 9 1) R) (h3 : ∀ j a c len, j < 4 → x = nI j → R 53 j = some a → R a 1 = some c → t c = (9, len) → ¬ (0 ≤ y.toInt ∧ y.toInt ≤ (len : Int) - 1) → Q (-13) n t (eU (eU I 4 9 0) 4 9 3) R) (h4 : ∀ j a c len i, j < 4 → x = nI j → R 53 j = some a → R a 1 = some c → t c = (9, len) → i < len → y = nI i → Q 1 n t (eU (eU I 4 9 0) c i (cutL v (I a 0))) R) : MC yX7_put cX7_put 5 (some .int) (d + 2) 0 0 [.ref 4, .int x, .int y, .int v] n t I R (qI Q) := by
  refine mc_intro (L0 := [.ref 4, .int x, .int y, .int v, vU]) (by decide) rfl (Nat.le_of_ble_eq_true rfl) ?_
  refine wp_aload_n (i := 0) dX7_put_0 rfl rfl ?_
  refine wp_iconst (v := 0) dX7_put_1 (by decide) ?_
  refine wp_putI dX7_put_2 fl_X7_62 rfl (Or.inl rfl) (st_k hst rfl) ?_
  refine wp_iload_n (i := 1) dX7_put_5 rfl rfl ?_
  refine wp_iconst (v := 0) dX7_put_6 (by decide) ?_
  refine wp_iconst (v := 3) dX7_put_7 (by decide) ?_
  refine wp_S3i dX7_put_8 mw_267 mw_268 mi_X7_isWithin (Nat.le_of_ble_eq_true rfl) (Nat.le_refl _) (Nat.le_refl _) (c_isWithin _ (a := 0) (b := 3) rfl rfl (fun ga8 gb8 => ?_) (fun gn8 => ?_)) 
  · skip
    refine wp_if_ne1 (tgt := 16) dX7_put_11 (by decide) ?_
    obtain ⟨w, hw, ew⟩ := nat_yes (x := x) (m := 4) (by omega) ga8 (by omega)
    subst ew
    refine wp_aload_n (i := 0) dX7_put_16 rfl rfl ?_
    refine wp_getR dX7_put_17 fl_X7_55 rfl (st_k hst rfl) (st_r hst rfl) ?_
    refine wp_iload_n (i := 1) dX7_put_20 rfl rfl ?_
    rcases hr21 : R 53 w with _ | ra21
    · refine wp_rld12N dX7_put_21 (st_t hst rfl) rfl (by omega) hr21 ?_
      refine wp_astoreN_5_4 dX7_put_22 rfl ?_
      refine wp_aloadN dX7_put_24 rfl ?_
      refine wp_ifnonnullN dX7_put_26 ?_
      refine wp_aload_n (i := 0) dX7_put_29 rfl rfl ?_
      refine wp_iconst (v := 1) dX7_put_30 (by decide) ?_
      refine wp_V1i dX7_put_31 mw_270 mw_272 ms_0 mi_X7_faulted (Nat.le_of_ble_eq_true rfl) (Nat.le_refl _) (Nat.le_refl _) (st_k hst rfl) (by decide) rfl (c_faulted _ hst (r := -11) (by decide) ?_) 
      exact wp_retI dX7_put_34 rfl (Nat.le_refl _) (Nat.le_refl _) (h2 w hw rfl hr21)
    · refine wp_rld12 dX7_put_21 (st_t hst rfl) rfl (by omega) hr21 ?_
      obtain ⟨hk0, ac, len, hk1, hk2, hk3⟩ := hsh w ra21 hw hr21
      have hne4 : ra21 ≠ 4 := fun g => by rw [g, st_k hst (q := 7) (l := 0) rfl] at hk0; exact absurd hk0 (by decide)
      refine wp_astore_5_4 dX7_put_22 rfl ?_
      refine wp_aload dX7_put_24 rfl ?_
      refine wp_ifnonnull (tgt := 35) dX7_put_26 (by decide) ?_
      refine wp_iload_n (i := 2) dX7_put_35 rfl rfl ?_
      refine wp_iconst (v := 0) dX7_put_36 (by decide) ?_
      refine wp_aload dX7_put_37 rfl ?_
      refine wp_getR dX7_put_39 fl_X7_81 rfl hk0 hk1 ?_
      refine wp_len dX7_put_42 hk2 ?_
      refine wp_iconst (v := 1) dX7_put_43 (by decide) ?_
      refine wp_isub dX7_put_44 ?_
      refine wp_S3i dX7_put_45 mw_267 mw_268 mi_X7_isWithin (Nat.le_of_ble_eq_true rfl) (Nat.le_refl _) (Nat.le_refl _) (c_isWithin _ (a := 0) (b := (len : Int) - 1) rfl (nI_subT (by omega)) (fun ga45 gb45 => ?_) (fun gn45 => ?_)) 
      · skip
        refine wp_if_ne1 (tgt := 57) dX7_put_48 (by decide) ?_
        obtain ⟨i, hi, ei⟩ := nat_yes (x := y) (m := len) (by omega) ga45 gb45
        subst ei
        refine wp_aload dX7_put_57 rfl ?_
        refine wp_getR dX7_put_59 fl_X7_81 rfl hk0 hk1 ?_
        refine wp_iload_n (i := 2) dX7_put_62 rfl rfl ?_
        refine wp_iload_n (i := 3) dX7_put_63 rfl rfl ?_
        refine wp_aload dX7_put_64 rfl ?_
        refine wp_getI dX7_put_66 fl_X7_74 rfl hk0 ?_
        refine wp_S2i dX7_put_69 mw_682 mw_683 mi_X7_cutToLane (Nat.le_of_ble_eq_true rfl) (Nat.le_refl _) (Nat.le_refl _) (c_cutToLane _ ?_) 
        refine wp_ist (j := i) dX7_put_72 hk2 rfl hi ?_
        refine wp_iconst (v := 1) dX7_put_73 (by decide) ?_
        exact wp_retI dX7_put_74 rfl (Nat.le_refl _) (Nat.le_refl _) (by rw [eU_o hne4]; exact h4 w ra21 ac len i hw rfl hr21 hk1 hk2 hi rfl)
      · skip
        refine wp_if_ne0 (tgt := 57) dX7_put_48 (by decide) ?_
        refine wp_aload_n (i := 0) dX7_put_51 rfl rfl ?_
        refine wp_iconst (v := 3) dX7_put_52 (by decide) ?_
        refine wp_V1i dX7_put_53 mw_270 mw_272 ms_0 mi_X7_faulted (Nat.le_of_ble_eq_true rfl) (Nat.le_refl _) (Nat.le_refl _) (st_k hst rfl) (by decide) rfl (c_faulted _ hst (r := -13) (by decide) ?_) 
        exact wp_retI dX7_put_56 rfl (Nat.le_refl _) (Nat.le_refl _) (h3 w ra21 ac len hw rfl hr21 hk1 hk2 gn45)
  · skip
    refine wp_if_ne0 (tgt := 16) dX7_put_11 (by decide) ?_
    refine wp_iconst (v := (-1)) dX7_put_14 (by decide) ?_
    exact wp_retI dX7_put_15 rfl (Nat.le_refl _) (Nat.le_refl _) (h1 (nat_no (m := 4) (by omega) (by omega)))

