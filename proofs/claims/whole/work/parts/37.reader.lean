theorem sg_r {n : Nat} {t : eT} {R : eR} (h : ST n t R) {j : Nat} (hj : j < 10) : R 23 j = some (24 + j) := by
  rcases (show j = 0 ∨ j = 1 ∨ j = 2 ∨ j = 3 ∨ j = 4 ∨ j = 5 ∨ j = 6 ∨ j = 7 ∨ j = 8 ∨ j = 9 by omega) with rfl | rfl | rfl | rfl | rfl | rfl | rfl | rfl | rfl | rfl <;> exact st_r h rfl
theorem sg_t {n : Nat} {t : eT} {R : eR} (h : ST n t R) {j : Nat} (hj : j < 10) : t (24 + j) = (9, 10) := by
  rcases (show j = 0 ∨ j = 1 ∨ j = 2 ∨ j = 3 ∨ j = 4 ∨ j = 5 ∨ j = 6 ∨ j = 7 ∨ j = 8 ∨ j = 9 by omega) with rfl | rfl | rfl | rfl | rfl | rfl | rfl | rfl | rfl | rfl <;> exact st_t h rfl
def kC (c : Int32) : Int32 := if c = 100 then 1 else if c = 112 then 0 else if c = 120 then 2 else -9
theorem kC_cases (c : Int32) : (c = 100 ∧ kC c = 1) ∨ (c = 112 ∧ kC c = 0) ∨ (c = 120 ∧ kC c = 2) ∨ (¬ c = 100 ∧ ¬ c = 112 ∧ ¬ c = 120 ∧ kC c = -9) := by
  by_cases h1 : c = 100
  · exact Or.inl ⟨h1, if_pos h1⟩
  · by_cases h2 : c = 112
    · exact Or.inr (Or.inl ⟨h2, (if_neg h1).trans (if_pos h2)⟩)
    · by_cases h3 : c = 120
      · exact Or.inr (Or.inr (Or.inl ⟨h3, (if_neg h1).trans ((if_neg h2).trans (if_pos h3))⟩))
      · exact Or.inr (Or.inr (Or.inr ⟨h1, h2, h3, (if_neg h1).trans ((if_neg h2).trans (if_neg h3))⟩))
theorem kC_M (c : Int32) : (kC c = -9 ∧ kM c < 0) ∨ (¬ kC c = -9 ∧ ¬ kM c < 0 ∧ kC c = nI (kN c)) := by
  rcases kC_cases c with ⟨h1, h2⟩ | ⟨h1, h2⟩ | ⟨h1, h2⟩ | ⟨h1, h2, h3, h4⟩
  · subst h1; exact Or.inr ⟨by decide, by decide, by decide⟩
  · subst h1; exact Or.inr ⟨by decide, by decide, by decide⟩
  · subst h1; exact Or.inr ⟨by decide, by decide, by decide⟩
  · refine Or.inl ⟨h4, ?_⟩
    unfold kM
    rw [if_neg h2, if_neg h1, if_neg h3]
    decide
/-- the class's reader -/
def RC (I : eI) (w m : Nat) (K V : Nat → Nat) (F : Nat → Nat → Nat) : Prop := m ≤ 9 ∧ ((w = 0 ∧ I 19 1 = 0 ∧ I 20 0 = nI m) ∨ (w = 1 ∧ I 19 1 = 1 ∧ I 19 2 = 0 ∧ I 20 0 = nI (m + 1)) ∨ ((2 ≤ w ∧ w ≤ 4) ∧ I 19 1 = 2 ∧ I 19 2 = nI (w - 1) ∧ I 20 0 = nI (m + 1)) ∨ (w = 4 ∧ I 19 1 = 4 ∧ I 20 0 = nI (m + 1)) ∨ (w = 5 ∧ I 19 1 = 3 ∧ I 20 0 = nI (m + 1))) ∧ (∀ x, (x < m ∨ (x = m ∧ w ≠ 0)) → I 21 x = nI (K x) ∧ I 22 x = nI (V x)) ∧ ∀ a b, a < 10 → b < 10 → I (24 + a) b = nI (F a b)
def FrC (I I2 : eI) : Prop := ∀ a, (a < 19 ∨ 34 ≤ a) → I2 a = I a
theorem FrC.rf (I : eI) : FrC I I := fun _ _ => rfl
theorem FrC.tr {I I2 I3 : eI} (h : FrC I I2) (h2 : FrC I2 I3) : FrC I I3 := fun a ha => (h2 a ha).trans (h a ha)
theorem FrC.u {I I2 : eI} (h : FrC I I2) {a k : Nat} {v : Int32} (ha : 19 ≤ a ∧ a < 34) : FrC I (eU I2 a k v) := fun x hx => by
  rw [eU_ne (by omega)]; exact h x hx
theorem c_kindOf (d : Nat) {n : Nat} {t : eT} {I : eI} {R : eR} {Q : Int32 → Nat → eT → eI → eR → Prop} {c : Int32} (hq : Q (kC c) n t I R) : MC yX4_kindOf cX4_kindOf 1 (some .int) d 0 0 [.int c] n t I R (qI Q) := by
  refine mc_intro (L0 := [.int c]) (by decide) rfl (Nat.le_of_ble_eq_true rfl) ?_
  refine wp_iload_n (i := 0) dX4_kindOf_0 rfl rfl ?_
  rcases kC_cases c with ⟨h1, h2⟩ | ⟨h1, h2⟩ | ⟨h1, h2⟩ | ⟨h1, h2, h3, h4⟩
  · rw [h2] at hq
    subst h1
    refine wp_lookup (tgt := 38) dX4_kindOf_1 (by decide) (off := 37) (by decide) (by decide) ?_
    refine wp_iconst (v := 1) dX4_kindOf_38 (by decide) ?_
    exact wp_retI dX4_kindOf_39 rfl (Nat.le_refl _) (Nat.le_refl _) hq
  · rw [h2] at hq
    subst h1
    refine wp_lookup (tgt := 36) dX4_kindOf_1 (by decide) (off := 35) (by decide) (by decide) ?_
    refine wp_iconst (v := 0) dX4_kindOf_36 (by decide) ?_
    exact wp_retI dX4_kindOf_37 rfl (Nat.le_refl _) (Nat.le_refl _) hq
  · rw [h2] at hq
    subst h1
    refine wp_lookup (tgt := 40) dX4_kindOf_1 (by decide) (off := 39) (by decide) (by decide) ?_
    refine wp_iconst (v := 2) dX4_kindOf_40 (by decide) ?_
    exact wp_retI dX4_kindOf_41 rfl (Nat.le_refl _) (Nat.le_refl _) hq
  · rw [h4] at hq
    refine wp_lookup (tgt := 42) dX4_kindOf_1 (by decide) (off := 41) ((lv_osw (x := c) (k := 100) (a := 100) (o := 37) (d := 41) (r := [(112, 35), (120, 39)]) h1 (by decide)).trans ((lv_osw (x := c) (k := 112) (a := 112) (o := 35) (d := 41) (r := [(120, 39)]) h2 (by decide)).trans ((lv_osw (x := c) (k := 120) (a := 120) (o := 39) (d := 41) (r := []) h3 (by decide)).trans rfl))) (by decide) ?_
    refine wp_bipush (v := (-9)) dX4_kindOf_42 (by decide) ?_
    exact wp_retI dX4_kindOf_44 rfl (Nat.le_refl _) (Nat.le_refl _) hq

theorem c_add (d : Nat) {n : Nat} {t : eT} {I : eI} {R : eR} {Q : Nat → eT → eI → eR → Prop} (hst : ST n t R) {m : Nat} (hm : I 20 0 = nI m) (hm9 : m ≤ 9) {v : Int32} (hq : Q n t (eU (eU (eU I 21 m v) 22 m 0) 20 0 (nI (m + 1))) R) : MC yX2_add cX2_add 2 none d 0 0 [.ref 20, .int v] n t I R (qV Q) := by
  refine mc_intro (L0 := [.ref 20, .int v]) (by decide) rfl (Nat.le_of_ble_eq_true rfl) ?_
  refine wp_aload_n (i := 0) dX2_add_0 rfl rfl ?_
  refine wp_getI dX2_add_1 fl_X2_9 rfl (st_k hst rfl) ?_
  refine wp_bipush (v := 10) dX2_add_4 (by decide) ?_
  refine wp_icmp_ge (tgt := 39) dX2_add_6 (by decide) (fun zq6 => absurd (show nI 10 ≤ I 20 0 from zq6) (by rw [hm]; exact nI_ge (show m < 10 by omega) (by decide))) (fun zq6 => ?_) 
  refine wp_aload_n (i := 0) dX2_add_9 rfl rfl ?_
  refine wp_getR dX2_add_10 fl_X2_15 rfl (st_k hst rfl) (st_r hst rfl) ?_
  refine wp_aload_n (i := 0) dX2_add_13 rfl rfl ?_
  refine wp_getI dX2_add_14 fl_X2_9 rfl (st_k hst rfl) ?_
  refine wp_iload_n (i := 1) dX2_add_17 rfl rfl ?_
  refine wp_ist (j := m) dX2_add_18 (st_t hst rfl) hm (by omega) ?_
  refine wp_aload_n (i := 0) dX2_add_19 rfl rfl ?_
  refine wp_getR dX2_add_20 fl_X2_19 rfl (st_k hst rfl) (st_r hst rfl) ?_
  refine wp_aload_n (i := 0) dX2_add_23 rfl rfl ?_
  refine wp_getI dX2_add_24 fl_X2_9 rfl (st_k hst rfl) ?_
  refine wp_iconst (v := 0) dX2_add_27 (by decide) ?_
  refine wp_ist (j := m) dX2_add_28 (st_t hst rfl) hm (by omega) ?_
  refine wp_aload_n (i := 0) dX2_add_29 rfl rfl ?_
  refine wp_dup dX2_add_30 rfl ?_
  refine wp_getI dX2_add_31 fl_X2_9 rfl (st_k hst rfl) ?_
  refine wp_iconst (v := 1) dX2_add_34 (by decide) ?_
  refine wp_iadd dX2_add_35 ?_
  refine wp_topI (v2 := nI (m + 1)) (n_add hm rfl) ?_
  refine wp_putI dX2_add_36 fl_X2_9 rfl (Or.inl rfl) (st_k hst rfl) ?_
  exact wp_retV dX2_add_39 rfl (Nat.le_refl _) (Nat.le_refl _) hq

theorem c_addDigit (d : Nat) {n : Nat} {t : eT} {I : eI} {R : eR} {Q : Nat → eT → eI → eR → Prop} (hst : ST n t R) {m : Nat} (hm : I 20 0 = nI (m + 1)) (hm9 : m ≤ 9) {v : Int32} (hq : Q n t (eU I 22 m (10 * I 22 m + v)) R) : MC yX2_addDigitToLatest cX2_addDigitToLatest 2 none d 0 0 [.ref 20, .int v] n t I R (qV Q) := by
  refine mc_intro (L0 := [.ref 20, .int v]) (by decide) rfl (Nat.le_of_ble_eq_true rfl) ?_
  refine wp_aload_n (i := 0) dX2_addDigitToLatest_0 rfl rfl ?_
  refine wp_getI dX2_addDigitToLatest_1 fl_X2_9 rfl (st_k hst rfl) ?_
  refine wp_if_le (tgt := 34) dX2_addDigitToLatest_4 (by decide) (fun zq4 => absurd (show I 20 0 ≤ 0 from zq4) (by rw [hm]; exact nI_nle (by omega) (by omega))) (fun zq4 => ?_) 
  refine wp_aload_n (i := 0) dX2_addDigitToLatest_7 rfl rfl ?_
  refine wp_getR dX2_addDigitToLatest_8 fl_X2_19 rfl (st_k hst rfl) (st_r hst rfl) ?_
  refine wp_aload_n (i := 0) dX2_addDigitToLatest_11 rfl rfl ?_
  refine wp_getI dX2_addDigitToLatest_12 fl_X2_9 rfl (st_k hst rfl) ?_
  refine wp_iconst (v := 1) dX2_addDigitToLatest_15 (by decide) ?_
  refine wp_isub dX2_addDigitToLatest_16 ?_
  refine wp_bipush (v := 10) dX2_addDigitToLatest_17 (by decide) ?_
  refine wp_aload_n (i := 0) dX2_addDigitToLatest_19 rfl rfl ?_
  refine wp_getR dX2_addDigitToLatest_20 fl_X2_19 rfl (st_k hst rfl) (st_r hst rfl) ?_
  refine wp_aload_n (i := 0) dX2_addDigitToLatest_23 rfl rfl ?_
  refine wp_getI dX2_addDigitToLatest_24 fl_X2_9 rfl (st_k hst rfl) ?_
  refine wp_iconst (v := 1) dX2_addDigitToLatest_27 (by decide) ?_
  refine wp_isub dX2_addDigitToLatest_28 ?_
  refine wp_ild (j := m) dX2_addDigitToLatest_29 (st_t hst rfl) ((congrArg (fun z => z - 1) hm).trans (nI_pred m)) (by omega) ?_
  refine wp_imul dX2_addDigitToLatest_30 ?_
  refine wp_iload_n (i := 1) dX2_addDigitToLatest_31 rfl rfl ?_
  refine wp_iadd dX2_addDigitToLatest_32 ?_
  refine wp_ist (j := m) dX2_addDigitToLatest_33 (st_t hst rfl) ((congrArg (fun z => z - 1) hm).trans (nI_pred m)) (by omega) ?_
  exact wp_retV dX2_addDigitToLatest_34 rfl (Nat.le_refl _) (Nat.le_refl _) hq

theorem c_isAhead (d : Nat) {n : Nat} {t : eT} {I : eI} {R : eR} {Q : Int32 → Nat → eT → eI → eR → Prop} (hst : ST n t R) {m : Nat} (hm : I 20 0 = nI (m + 1)) (hm9 : m ≤ 9) {x : Int32} (h1 : ∀ e, e < m → x = nI e → Q 1 n t I R) (h0 : (∀ e, e < m → x ≠ nI e) → Q 0 n t I R) : MC yX2_isAheadOfLatest cX2_isAheadOfLatest 2 (some .boolean) d 0 0 [.ref 20, .int x] n t I R (qI Q) := by
  refine mc_intro (L0 := [.ref 20, .int x]) (by decide) rfl (Nat.le_of_ble_eq_true rfl) ?_
  refine wp_iload_n (i := 1) dX2_isAheadOfLatest_0 rfl rfl ?_
  refine wp_if_lt (tgt := 18) dX2_isAheadOfLatest_1 (by decide) (fun zq1 => ?_) (fun zq1 => ?_) 
  · refine wp_iconst (v := 0) dX2_isAheadOfLatest_18 (by decide) ?_
    exact wp_retZ dX2_isAheadOfLatest_19 rfl rfl (Nat.le_refl _) (Nat.le_refl _) (h0 (nat_no (by omega) (by rw [i_lt, i0] at zq1; omega)))
  · refine wp_iload_n (i := 1) dX2_isAheadOfLatest_4 rfl rfl ?_
    refine wp_aload_n (i := 0) dX2_isAheadOfLatest_5 rfl rfl ?_
    refine wp_getI dX2_isAheadOfLatest_6 fl_X2_9 rfl (st_k hst rfl) ?_
    refine wp_iconst (v := 1) dX2_isAheadOfLatest_9 (by decide) ?_
    refine wp_isub dX2_isAheadOfLatest_10 ?_
    refine wp_topI (v2 := nI m) ((congrArg (fun z => z - 1) hm).trans (nI_pred m)) ?_
    refine wp_icmp_ge (tgt := 18) dX2_isAheadOfLatest_11 (by decide) (fun zq11 => ?_) (fun zq11 => ?_) 
    · refine wp_iconst (v := 0) dX2_isAheadOfLatest_18 (by decide) ?_
      exact wp_retZ dX2_isAheadOfLatest_19 rfl rfl (Nat.le_refl _) (Nat.le_refl _) (h0 (nat_no (by omega) (by rw [i_le, nI_toInt (by omega)] at zq11; omega)))
    · refine wp_iconst (v := 1) dX2_isAheadOfLatest_14 (by decide) ?_
      refine wp_goto (tgt := 19) dX2_isAheadOfLatest_15 (by decide) ?_
      obtain ⟨e, he, ee⟩ := nat_yes (x := x) (m := m) (by omega) (by rw [i_lt, i0] at zq1; omega) (by rw [i_le, nI_toInt (by omega)] at zq11; omega)
      exact wp_retZ dX2_isAheadOfLatest_19 rfl rfl (Nat.le_refl _) (Nat.le_refl _) (h1 e he ee)

theorem c_putBehind (d : Nat) {n : Nat} {t : eT} {I : eI} {R : eR} {Q : Nat → eT → eI → eR → Prop} (hst : ST n t R) {m : Nat} (hm : I 20 0 = nI (m + 1)) (hm9 : m ≤ 9) {e : Nat} (he : e < m) (hq : Q n t (eU I (24 + m) e (I (24 + m) e + 1)) R) : MC yX2_putBehindLatest cX2_putBehindLatest 2 none (d + 1) 0 0 [.ref 20, .int (nI e)] n t I R (qV Q) := by
  refine mc_intro (L0 := [.ref 20, .int (nI e)]) (by decide) rfl (Nat.le_of_ble_eq_true rfl) ?_
  refine wp_aload_n (i := 0) dX2_putBehindLatest_0 rfl rfl ?_
  refine wp_iload_n (i := 1) dX2_putBehindLatest_1 rfl rfl ?_
  refine wp_V1i dX2_putBehindLatest_2 mw_327 mw_320 mw_321 mi_X2_isAheadOfLatest (Nat.le_of_ble_eq_true rfl) (Nat.le_refl _) (Nat.le_refl _) (st_k hst rfl) (by decide) rfl (c_isAhead _ hst hm hm9 (fun _ _ _ => ?_) (fun no => absurd rfl (no e he))) 
  · skip
    refine wp_if_eq1 (tgt := 25) dX2_putBehindLatest_5 (by decide) ?_
    refine wp_aload_n (i := 0) dX2_putBehindLatest_8 rfl rfl ?_
    refine wp_getR dX2_putBehindLatest_9 fl_X2_24 rfl (st_k hst rfl) (st_r hst rfl) ?_
    refine wp_aload_n (i := 0) dX2_putBehindLatest_12 rfl rfl ?_
    refine wp_getI dX2_putBehindLatest_13 fl_X2_9 rfl (st_k hst rfl) ?_
    refine wp_iconst (v := 1) dX2_putBehindLatest_16 (by decide) ?_
    refine wp_isub dX2_putBehindLatest_17 ?_
    refine wp_rld13 (j := m) dX2_putBehindLatest_18 (st_t hst rfl) ((congrArg (fun z => z - 1) hm).trans (nI_pred m)) (by omega) (sg_r hst (by omega)) ?_
    refine wp_iload_n (i := 1) dX2_putBehindLatest_19 rfl rfl ?_
    refine wp_dup2 dX2_putBehindLatest_20 rfl rfl ?_
    refine wp_ild (j := e) dX2_putBehindLatest_21 (sg_t hst (by omega)) rfl (by omega) ?_
    refine wp_iconst (v := 1) dX2_putBehindLatest_22 (by decide) ?_
    refine wp_iadd dX2_putBehindLatest_23 ?_
    refine wp_ist (j := e) dX2_putBehindLatest_24 (sg_t hst (by omega)) rfl (by omega) ?_
    exact wp_retV dX2_putBehindLatest_25 rfl (Nat.le_refl _) (Nat.le_refl _) hq

theorem c_takesLetter (d : Nat) {n : Nat} {t : eT} {I : eI} {R : eR} {Q : Int32 → Nat → eT → eI → eR → Prop} (hst : ST n t R) {m : Nat} (hm : I 20 0 = nI m) (hm9 : m ≤ 9) {c : Int32} (h1 : ¬ kM c < 0 → Q 1 n t (eU (eU (eU (eU (eU I 21 m (nI (kN c))) 22 m 0) 20 0 (nI (m + 1))) 19 2 0) 19 1 1) R) (h0 : kM c < 0 → Q 0 n t I R) : MC yX4_takesLetter cX4_takesLetter 3 (some .boolean) (d + 1) 0 0 [.ref 19, .int c] n t I R (qI Q) := by
  refine mc_intro (L0 := [.ref 19, .int c, vU]) (by decide) rfl (Nat.le_of_ble_eq_true rfl) ?_
  refine wp_iload_n (i := 1) dX4_takesLetter_0 rfl rfl ?_
  refine wp_S1i dX4_takesLetter_1 mw_295 mw_296 mi_X4_kindOf (Nat.le_of_ble_eq_true rfl) (Nat.le_refl _) (Nat.le_refl _) (c_kindOf _ ?_) 
  rcases kC_M c with ⟨g1, g2⟩ | ⟨g1, g2, g3⟩
  · rw [g1]
    refine wp_istore_3_2 dX4_takesLetter_4 rfl ?_
    refine wp_iload_n (i := 2) dX4_takesLetter_5 rfl rfl ?_
    refine wp_bipush (v := (-9)) dX4_takesLetter_6 (by decide) ?_
    refine wp_icmp_ne (tgt := 13) dX4_takesLetter_8 (by decide) (fun zq8 => absurd rfl zq8) (fun zq8 => ?_) 
    refine wp_iconst (v := 0) dX4_takesLetter_11 (by decide) ?_
    exact wp_retZ dX4_takesLetter_12 rfl rfl (Nat.le_refl _) (Nat.le_refl _) (h0 g2)
  · rw [g3] at g1 ⊢
    refine wp_istore_3_2 dX4_takesLetter_4 rfl ?_
    refine wp_iload_n (i := 2) dX4_takesLetter_5 rfl rfl ?_
    refine wp_bipush (v := (-9)) dX4_takesLetter_6 (by decide) ?_
    refine wp_icmp_ne (tgt := 13) dX4_takesLetter_8 (by decide) (fun zq8 => ?_) (fun zq8 => absurd zq8 g1) 
    refine wp_aload_n (i := 0) dX4_takesLetter_13 rfl rfl ?_
    refine wp_getR dX4_takesLetter_14 fl_X4_12 rfl (st_k hst rfl) (st_r hst rfl) ?_
    refine wp_iload_n (i := 2) dX4_takesLetter_17 rfl rfl ?_
    refine wp_V1v dX4_takesLetter_18 mw_298 mw_299 mw_300 mi_X2_add (Nat.le_of_ble_eq_true rfl) (Nat.le_refl _) (Nat.le_refl _) (st_k hst rfl) (by decide) rfl (c_add _ hst hm hm9 ?_) 
    refine wp_aload_n (i := 0) dX4_takesLetter_21 rfl rfl ?_
    refine wp_iconst (v := 0) dX4_takesLetter_22 (by decide) ?_
    refine wp_putI dX4_takesLetter_23 fl_X4_22 rfl (Or.inl rfl) (st_k hst rfl) ?_
    refine wp_aload_n (i := 0) dX4_takesLetter_26 rfl rfl ?_
    refine wp_iconst (v := 1) dX4_takesLetter_27 (by decide) ?_
    refine wp_putI dX4_takesLetter_28 fl_X4_18 rfl (Or.inl rfl) (st_k hst rfl) ?_
    refine wp_iconst (v := 1) dX4_takesLetter_31 (by decide) ?_
    exact wp_retZ dX4_takesLetter_32 rfl rfl (Nat.le_refl _) (Nat.le_refl _) (h1 g2)

theorem c_takesDigit (d : Nat) {n : Nat} {t : eT} {I : eI} {R : eR} {Q : Int32 → Nat → eT → eI → eR → Prop} (hst : ST n t R) {m : Nat} (hm : I 20 0 = nI (m + 1)) (hm9 : m ≤ 9) {c : Int32} (h1 : (48 ≤ c.toInt ∧ c.toInt ≤ 57) → Q 1 n t (eU (eU (eU I 22 m (10 * I 22 m + (c - 48))) 19 2 (I 19 2 + 1)) 19 1 2) R) (h0 : ¬ (48 ≤ c.toInt ∧ c.toInt ≤ 57) → Q 0 n t I R) : MC yX4_takesDigit cX4_takesDigit 2 (some .boolean) (d + 1) 0 0 [.ref 19, .int c] n t I R (qI Q) := by
  refine mc_intro (L0 := [.ref 19, .int c]) (by decide) rfl (Nat.le_of_ble_eq_true rfl) ?_
  refine wp_iload_n (i := 1) dX4_takesDigit_0 rfl rfl ?_
  refine wp_bipush (v := 48) dX4_takesDigit_1 (by decide) ?_
  refine wp_bipush (v := 57) dX4_takesDigit_3 (by decide) ?_
  refine wp_SN3i dX4_takesDigit_5 mw_306 mw_268 mi_X7_isWithin (Nat.le_of_ble_eq_true rfl) (Nat.le_refl _) (Nat.le_refl _) (c_isWithin _ (a := 48) (b := 57) rfl rfl (fun ga5 gb5 => ?_) (fun gn5 => ?_)) 
  · skip
    refine wp_if_ne1 (tgt := 13) dX4_takesDigit_8 (by decide) ?_
    refine wp_aload_n (i := 0) dX4_takesDigit_13 rfl rfl ?_
    refine wp_getR dX4_takesDigit_14 fl_X4_12 rfl (st_k hst rfl) (st_r hst rfl) ?_
    refine wp_iload_n (i := 1) dX4_takesDigit_17 rfl rfl ?_
    refine wp_bipush (v := 48) dX4_takesDigit_18 (by decide) ?_
    refine wp_isub dX4_takesDigit_20 ?_
    refine wp_V1v dX4_takesDigit_21 mw_307 mw_308 mw_309 mi_X2_addDigitToLatest (Nat.le_of_ble_eq_true rfl) (Nat.le_refl _) (Nat.le_refl _) (st_k hst rfl) (by decide) rfl (c_addDigit _ hst hm hm9 ?_) 
    refine wp_aload_n (i := 0) dX4_takesDigit_24 rfl rfl ?_
    refine wp_dup dX4_takesDigit_25 rfl ?_
    refine wp_getI dX4_takesDigit_26 fl_X4_22 rfl (st_k hst rfl) ?_
    refine wp_iconst (v := 1) dX4_takesDigit_29 (by decide) ?_
    refine wp_iadd dX4_takesDigit_30 ?_
    refine wp_putI dX4_takesDigit_31 fl_X4_22 rfl (Or.inl rfl) (st_k hst rfl) ?_
    refine wp_aload_n (i := 0) dX4_takesDigit_34 rfl rfl ?_
    refine wp_iconst (v := 2) dX4_takesDigit_35 (by decide) ?_
    refine wp_putI dX4_takesDigit_36 fl_X4_18 rfl (Or.inl rfl) (st_k hst rfl) ?_
    refine wp_iconst (v := 1) dX4_takesDigit_39 (by decide) ?_
    exact wp_retZ dX4_takesDigit_40 rfl rfl (Nat.le_refl _) (Nat.le_refl _) (h1 ⟨ga5, gb5⟩)
  · skip
    refine wp_if_ne0 (tgt := 13) dX4_takesDigit_8 (by decide) ?_
    refine wp_iconst (v := 0) dX4_takesDigit_11 (by decide) ?_
    exact wp_retZ dX4_takesDigit_12 rfl rfl (Nat.le_refl _) (Nat.le_refl _) (h0 gn5)

theorem c_takesSign (d : Nat) {n : Nat} {t : eT} {I : eI} {R : eR} {Q : Int32 → Nat → eT → eI → eR → Prop} (hst : ST n t R) {m : Nat} (hm : I 20 0 = nI (m + 1)) (hm9 : m ≤ 9) {c : Int32} (h1 : c = 62 → Q 1 n t (eU I 19 1 3) R) (h2 : c = 59 → m < 9 → Q 1 n t (eU I 19 1 0) R) (h0 : ¬ c = 62 → ¬ (c = 59 ∧ m < 9) → Q 0 n t I R) : MC yX4_takesSign cX4_takesSign 2 (some .boolean) d 0 0 [.ref 19, .int c] n t I R (qI Q) := by
  refine mc_intro (L0 := [.ref 19, .int c]) (by decide) rfl (Nat.le_of_ble_eq_true rfl) ?_
  refine wp_iload_n (i := 1) dX4_takesSign_0 rfl rfl ?_
  refine wp_bipush (v := 62) dX4_takesSign_1 (by decide) ?_
  refine wp_icmp_ne (tgt := 13) dX4_takesSign_3 (by decide) (fun zq3 => ?_) (fun zq3 => ?_) 
  · refine wp_iload_n (i := 1) dX4_takesSign_13 rfl rfl ?_
    refine wp_bipush (v := 59) dX4_takesSign_14 (by decide) ?_
    refine wp_icmp_ne (tgt := 38) dX4_takesSign_16 (by decide) (fun zq16 => ?_) (fun zq16 => ?_) 
    · refine wp_iconst (v := 0) dX4_takesSign_38 (by decide) ?_
      exact wp_retZ dX4_takesSign_39 rfl rfl (Nat.le_refl _) (Nat.le_refl _) (h0 zq3 (fun g => zq16 g.1))
    · refine wp_aload_n (i := 0) dX4_takesSign_19 rfl rfl ?_
      refine wp_getR dX4_takesSign_20 fl_X4_12 rfl (st_k hst rfl) (st_r hst rfl) ?_
      refine wp_getI dX4_takesSign_23 fl_X4_59 rfl (st_k hst rfl) ?_
      refine wp_bipush (v := 10) dX4_takesSign_26 (by decide) ?_
      refine wp_icmp_ge (tgt := 38) dX4_takesSign_28 (by decide) (fun zq28 => ?_) (fun zq28 => ?_) 
      · refine wp_iconst (v := 0) dX4_takesSign_38 (by decide) ?_
        exact wp_retZ dX4_takesSign_39 rfl rfl (Nat.le_refl _) (Nat.le_refl _) (h0 zq3 (fun g => absurd (show nI 10 ≤ I 20 0 from zq28) (by rw [hm]; exact nI_ge (a := m + 1) (b := 10) (by omega) (by decide))))
      · refine wp_aload_n (i := 0) dX4_takesSign_31 rfl rfl ?_
        refine wp_iconst (v := 0) dX4_takesSign_32 (by decide) ?_
        refine wp_putI dX4_takesSign_33 fl_X4_18 rfl (Or.inl rfl) (st_k hst rfl) ?_
        refine wp_iconst (v := 1) dX4_takesSign_36 (by decide) ?_
        exact wp_retZ dX4_takesSign_37 rfl rfl (Nat.le_refl _) (Nat.le_refl _) (h2 zq16 (Nat.lt_of_not_le (fun g => zq28 (by rw [hm]; exact nI_le (a := 10) (b := m + 1) (by omega) (by omega)))))
  · refine wp_aload_n (i := 0) dX4_takesSign_6 rfl rfl ?_
    refine wp_iconst (v := 3) dX4_takesSign_7 (by decide) ?_
    refine wp_putI dX4_takesSign_8 fl_X4_18 rfl (Or.inl rfl) (st_k hst rfl) ?_
    refine wp_iconst (v := 1) dX4_takesSign_11 (by decide) ?_
    exact wp_retZ dX4_takesSign_12 rfl rfl (Nat.le_refl _) (Nat.le_refl _) (h1 zq3)

theorem c_takesAhead (d : Nat) {n : Nat} {t : eT} {I : eI} {R : eR} {Q : Int32 → Nat → eT → eI → eR → Prop} (hst : ST n t R) {m : Nat} (hm : I 20 0 = nI (m + 1)) (hm9 : m ≤ 9) {c : Int32} (h1 : (48 ≤ c.toInt ∧ c.toInt ≤ 57) → dg c < m → Q 1 n t (eU (eU I (24 + m) (dg c) (I (24 + m) (dg c) + 1)) 19 1 4) R) (h0 : ¬ ((48 ≤ c.toInt ∧ c.toInt ≤ 57) ∧ dg c < m) → Q 0 n t I R) : MC yX4_takesAhead cX4_takesAhead 3 (some .boolean) (d + 2) 0 0 [.ref 19, .int c] n t I R (qI Q) := by
  refine mc_intro (L0 := [.ref 19, .int c, vU]) (by decide) rfl (Nat.le_of_ble_eq_true rfl) ?_
  refine wp_iload_n (i := 1) dX4_takesAhead_0 rfl rfl ?_
  refine wp_bipush (v := 48) dX4_takesAhead_1 (by decide) ?_
  refine wp_isub dX4_takesAhead_3 ?_
  refine wp_istore_3_2 dX4_takesAhead_4 rfl ?_
  refine wp_iload_n (i := 1) dX4_takesAhead_5 rfl rfl ?_
  refine wp_bipush (v := 48) dX4_takesAhead_6 (by decide) ?_
  refine wp_bipush (v := 57) dX4_takesAhead_8 (by decide) ?_
  refine wp_SN3i dX4_takesAhead_10 mw_306 mw_268 mi_X7_isWithin (Nat.le_of_ble_eq_true rfl) (Nat.le_refl _) (Nat.le_refl _) (c_isWithin _ (a := 48) (b := 57) rfl rfl (fun ga gb => ?_) (fun gn => ?_)) 
  · have hdg := dg_of ⟨ga, gb⟩
    have hds : c - 48 = nI (dg c) := by
      have h9 : nI (48 + dg c) - nI 48 = nI (dg c) := by rw [pk_sub (by omega), show 48 + dg c - 48 = dg c by omega]
      rw [← hdg.1] at h9
      exact h9
    rw [hds]
    refine wp_if_eq1 (tgt := 27) dX4_takesAhead_13 (by decide) ?_
    refine wp_aload_n (i := 0) dX4_takesAhead_16 rfl rfl ?_
    refine wp_getR dX4_takesAhead_17 fl_X4_12 rfl (st_k hst rfl) (st_r hst rfl) ?_
    refine wp_iload_n (i := 2) dX4_takesAhead_20 rfl rfl ?_
    refine wp_V1i dX4_takesAhead_21 mw_319 mw_320 mw_321 mi_X2_isAheadOfLatest (Nat.le_of_ble_eq_true rfl) (Nat.le_refl _) (Nat.le_refl _) (st_k hst rfl) (by decide) rfl (c_isAhead _ hst hm hm9 (fun e he ee => ?_) (fun no => ?_)) 
    · have hlt : dg c < m := by rw [(nI_eq (by omega) (by omega)).mp ee]; exact he
      refine wp_if_ne1 (tgt := 29) dX4_takesAhead_24 (by decide) ?_
      refine wp_aload_n (i := 0) dX4_takesAhead_29 rfl rfl ?_
      refine wp_getR dX4_takesAhead_30 fl_X4_12 rfl (st_k hst rfl) (st_r hst rfl) ?_
      refine wp_iload_n (i := 2) dX4_takesAhead_33 rfl rfl ?_
      refine wp_V1v dX4_takesAhead_34 mw_323 mw_324 mw_325 mi_X2_putBehindLatest (Nat.le_of_ble_eq_true rfl) (Nat.le_refl _) (Nat.le_refl _) (st_k hst rfl) (by decide) rfl (c_putBehind _ hst hm hm9 hlt ?_) 
      refine wp_aload_n (i := 0) dX4_takesAhead_37 rfl rfl ?_
      refine wp_iconst (v := 4) dX4_takesAhead_38 (by decide) ?_
      refine wp_putI dX4_takesAhead_39 fl_X4_18 rfl (Or.inl rfl) (st_k hst rfl) ?_
      refine wp_iconst (v := 1) dX4_takesAhead_42 (by decide) ?_
      exact wp_retZ dX4_takesAhead_43 rfl rfl (Nat.le_refl _) (Nat.le_refl _) (h1 ⟨ga, gb⟩ hlt)
    · skip
      refine wp_if_ne0 (tgt := 29) dX4_takesAhead_24 (by decide) ?_
      refine wp_iconst (v := 0) dX4_takesAhead_27 (by decide) ?_
      exact wp_retZ dX4_takesAhead_28 rfl rfl (Nat.le_refl _) (Nat.le_refl _) (h0 (fun g => no (dg c) g.2 rfl))
  · skip
    refine wp_if_eq0 (tgt := 27) dX4_takesAhead_13 (by decide) ?_
    refine wp_iconst (v := 0) dX4_takesAhead_27 (by decide) ?_
    exact wp_retZ dX4_takesAhead_28 rfl rfl (Nat.le_refl _) (Nat.le_refl _) (h0 (fun g => gn g.1))

section RCS
variable {I : eI} {w m : Nat} {K V : Nat → Nat} {F : Nat → Nat → Nat} {c : Int32}
theorem RC.letter (h : RC I 0 m K V F) (hk : ¬ kM c < 0) : RC (eU (eU (eU (eU (eU I 21 m (nI (kN c))) 22 m 0) 20 0 (nI (m + 1))) 19 2 0) 19 1 1) 1 m (eG K m (kN c)) (eG V m 0) F := by
  obtain ⟨h1, -, h4, h5⟩ := h
  refine ⟨h1, Or.inr (Or.inl ⟨rfl, rfl, rfl, rfl⟩), fun x hx => ?_, fun a b ha hb => ?_⟩
  · show (eU I 21 m (nI (kN c))) 21 x = _ ∧ (eU (eU I 21 m (nI (kN c))) 22 m 0) 22 x = _
    by_cases e : x = m
    · subst e
      rw [eU_at, eU_at, eG_eq, eG_eq]
      exact ⟨rfl, rfl⟩
    · rw [eU_c e, eU_c e, eU_o (show (22 : Nat) ≠ 21 by decide), eG_ne e, eG_ne e]
      exact h4 x (Or.inl (by omega))
  · rw [eU_o (by omega), eU_o (by omega), eU_o (by omega), eU_o (by omega), eU_o (by omega)]
    exact h5 a b ha hb
theorem RC.digit (h : RC I w m K V F) (hw : 0 < w) (hw4 : w < 4) (hg : I 19 2 = nI (w - 1)) (hcn : I 20 0 = nI (m + 1)) (v : Int32) (hv : v = nI (10 * V m + dg c)) : RC (eU (eU (eU I 22 m v) 19 2 (I 19 2 + 1)) 19 1 2) (w + 1) m K (eG V m (10 * V m + dg c)) F := by
  obtain ⟨h1, -, h4, h5⟩ := h
  refine ⟨h1, Or.inr (Or.inr (Or.inl ⟨by omega, rfl, ?_, hcn⟩)), fun x hx => ?_, fun a b ha hb => ?_⟩
  · show I 19 2 + 1 = nI (w + 1 - 1)
    rw [hg, nI_1]
    exact congrArg nI (by omega)
  · show I 21 x = _ ∧ (eU I 22 m v) 22 x = _
    refine ⟨(h4 x (by omega)).1, ?_⟩
    by_cases e : x = m
    · subst e
      rw [eU_at, eG_eq]
      exact hv
    · rw [eU_c e, eG_ne e]
      exact (h4 x (by omega)).2
  · rw [eU_o (by omega), eU_o (by omega), eU_o (by omega)]
    exact h5 a b ha hb
theorem RC.to5 (h : RC I w m K V F) (hw : 1 < w) (hcn : I 20 0 = nI (m + 1)) : RC (eU I 19 1 3) 5 m K V F :=
  ⟨h.1, Or.inr (Or.inr (Or.inr (Or.inr ⟨rfl, rfl, hcn⟩))), fun x hx => h.2.2.1 x (by omega), fun a b ha hb => by rw [eU_o (by omega)]; exact h.2.2.2 a b ha hb⟩
theorem RC.ahead (h : RC I 5 m K V F) {e : Nat} (he : e < m) (hcn : I 20 0 = nI (m + 1)) : RC (eU (eU I (24 + m) e (I (24 + m) e + 1)) 19 1 4) 4 m K V (eU F m e (F m e + 1)) := by
  obtain ⟨h1, -, h4, h5⟩ := h
  refine ⟨h1, Or.inr (Or.inr (Or.inr (Or.inl ⟨rfl, rfl, ?_⟩))), fun x hx => ?_, fun a b ha hb => ?_⟩
  · rw [eU_o (by omega), eU_o (by omega)]; exact hcn
  · rw [eU_o (by omega), eU_o (by omega), eU_o (by omega), eU_o (by omega)]; exact h4 x (by omega)
  · rw [eU_o (by omega)]
    by_cases e1 : a = m ∧ b = e
    · obtain ⟨rfl, rfl⟩ := e1
      rw [eU_at, eU_at, h5 a b ha hb, nI_1]
    · have e2 : eU F m e (F m e + 1) a b = F a b := if_neg e1
      have e3 : eU I (24 + m) e (I (24 + m) e + 1) (24 + a) b = I (24 + a) b := if_neg (fun g => e1 ⟨by omega, g.2⟩)
      rw [e2, e3]
      exact h5 a b ha hb
theorem RC.semi (h : RC I w m K V F) (hw : 1 < w) (hm : m < 9) (hcn : I 20 0 = nI (m + 1)) : RC (eU I 19 1 0) 0 (m + 1) K V F :=
  ⟨by omega, Or.inl ⟨rfl, rfl, hcn⟩, fun x hx => h.2.2.1 x (by omega), fun a b ha hb => by rw [eU_o (by omega)]; exact h.2.2.2 a b ha hb⟩
end RCS
theorem dig_valC {c v : Int32} {q : Nat} (hd : 48 ≤ c.toInt ∧ c.toInt ≤ 57) (hv : v = nI q) : 10 * v + (c - 48) = nI (10 * q + dg c) := by
  have h := dg_of hd
  have h9 : nI 10 * nI q + (nI (48 + dg c) - nI 48) = nI (10 * q + dg c) := by rw [pk_mul, pk_sub (by omega), nI_add, show 10 * q + (48 + dg c - 48) = 10 * q + dg c by omega]
  rw [← h.1] at h9
  rw [hv]
  exact h9

theorem c_takes (d : Nat) {n : Nat} {t : eT} {I : eI} {R : eR} {Q : Int32 → Nat → eT → eI → eR → Prop} (hst : ST n t R) {w m : Nat} {K V : Nat → Nat} {F : Nat → Nat → Nat} {c : Int32} (hR : RC I w m K V F) (h1 : ∀ (I1 : eI) (w1 m1 : Nat) (K1 V1 : Nat → Nat) (F1 : Nat → Nat → Nat), step (w, m, K, V, F) c = some (w1, m1, K1, V1, F1) → RC I1 w1 m1 K1 V1 F1 → FrC I I1 → Q 1 n t I1 R) (h0 : step (w, m, K, V, F) c = none → Q 0 n t I R) : MC yX4_takes cX4_takes 2 (some .boolean) (d + 3) 0 0 [.ref 19, .int c] n t I R (qI Q) := by
  refine mc_intro (L0 := [.ref 19, .int c]) (by decide) rfl (Nat.le_of_ble_eq_true rfl) ?_
  refine wp_aload_n (i := 0) dX4_takes_0 rfl rfl ?_
  refine wp_getI dX4_takes_1 fl_X4_18 rfl (st_k hst rfl) ?_
  rcases (id hR).2.1 with ⟨rfl, ha, hcn⟩ | ⟨rfl, ha, hdg, hcn⟩ | ⟨hw, ha, hdg, hcn⟩ | ⟨rfl, ha, hcn⟩ | ⟨rfl, ha, hcn⟩
  · rw [ha]
    refine wp_tableIn (off := 32) (tgt := 36) dX4_takes_4 (by decide) (by decide) (by decide) (by decide) ?_
    refine wp_aload_n (i := 0) dX4_takes_36 rfl rfl ?_
    refine wp_iload_n (i := 1) dX4_takes_37 rfl rfl ?_
    refine wp_V1i dX4_takes_38 mw_291 mw_293 ms_2 mi_X4_takesLetter (Nat.le_of_ble_eq_true rfl) (Nat.le_refl _) (Nat.le_refl _) (st_k hst rfl) (by decide) rfl (c_takesLetter _ hst hcn hR.1 (fun gk => ?_) (fun gk => ?_)) 
    · skip
      exact wp_retZ dX4_takes_41 rfl rfl (Nat.le_refl _) (Nat.le_refl _) (h1 _ _ _ _ _ _ (st_letter gk) (hR.letter gk) ((((((FrC.rf I).u (by omega)).u (by omega)).u (by omega)).u (by omega)).u (by omega)))
    · skip
      exact wp_retZ dX4_takes_41 rfl rfl (Nat.le_refl _) (Nat.le_refl _) (h0 (st_none (fun g => g.2 gk) (fun g => by omega) (fun g => by omega) (fun g => by omega) (fun g => by omega)))
  · rw [ha]
    refine wp_tableIn (off := 38) (tgt := 42) dX4_takes_4 (by decide) (by decide) (by decide) (by decide) ?_
    refine wp_aload_n (i := 0) dX4_takes_42 rfl rfl ?_
    refine wp_iload_n (i := 1) dX4_takes_43 rfl rfl ?_
    refine wp_V1i dX4_takes_44 mw_302 mw_304 ms_3 mi_X4_takesDigit (Nat.le_of_ble_eq_true rfl) (Nat.le_refl _) (Nat.le_refl _) (st_k hst rfl) (by decide) rfl (c_takesDigit _ hst hcn hR.1 (fun hd => ?_) (fun hd => ?_)) 
    · skip
      exact wp_retZ dX4_takes_47 rfl rfl (Nat.le_refl _) (Nat.le_refl _) (h1 _ _ _ _ _ _ (st_digit (by decide) (by decide) hd) (hR.digit (by decide) (by decide) hdg hcn _ (dig_valC hd (hR.2.2.1 m (Or.inr ⟨rfl, by decide⟩)).2)) ((((FrC.rf I).u (by omega)).u (by omega)).u (by omega)))
    · skip
      exact wp_retZ dX4_takes_47 rfl rfl (Nat.le_refl _) (Nat.le_refl _) (h0 (st_none (fun g => by omega) (fun g => hd g.2) (fun g => by omega) (fun g => by omega) (fun g => by omega)))
  · rw [ha]
    refine wp_tableIn (off := 44) (tgt := 48) dX4_takes_4 (by decide) (by decide) (by decide) (by decide) ?_
    refine wp_aload_n (i := 0) dX4_takes_48 rfl rfl ?_
    refine wp_getI dX4_takes_49 fl_X4_22 rfl (st_k hst rfl) ?_
    refine wp_iconst (v := 3) dX4_takes_52 (by decide) ?_
    refine wp_icmp_ge (tgt := 64) dX4_takes_53 (by decide) (fun zq53 => ?_) (fun zq53 => ?_) 
    · have hw4 : w = 4 := by
        have : 3 ≤ w - 1 := Nat.le_of_not_lt (fun g => absurd (show nI 3 ≤ I 19 2 from zq53) (by rw [hdg]; exact nI_ge g (by decide)))
        omega
      refine wp_aload_n (i := 0) dX4_takes_64 rfl rfl ?_
      refine wp_iload_n (i := 1) dX4_takes_65 rfl rfl ?_
      refine wp_V1i dX4_takes_66 mw_311 mw_313 ms_4 mi_X4_takesSign (Nat.le_of_ble_eq_true rfl) (Nat.le_refl _) (Nat.le_refl _) (st_k hst rfl) (by decide) rfl (c_takesSign _ hst hcn hR.1 (fun gc => ?_) (fun gc gm => ?_) (fun g1 g2 => ?_)) 
      · skip
        refine wp_if_eq1 (tgt := 76) dX4_takes_69 (by decide) ?_
        refine wp_iconst (v := 1) dX4_takes_72 (by decide) ?_
        refine wp_goto (tgt := 77) dX4_takes_73 (by decide) ?_
        exact wp_retZ dX4_takes_77 rfl rfl (Nat.le_refl _) (Nat.le_refl _) (h1 _ _ _ _ _ _ (st_gt (by omega) (by omega) gc) (hR.to5 (by omega) hcn) ((FrC.rf I).u (by omega)))
      · skip
        refine wp_if_eq1 (tgt := 76) dX4_takes_69 (by decide) ?_
        refine wp_iconst (v := 1) dX4_takes_72 (by decide) ?_
        refine wp_goto (tgt := 77) dX4_takes_73 (by decide) ?_
        exact wp_retZ dX4_takes_77 rfl rfl (Nat.le_refl _) (Nat.le_refl _) (h1 _ _ _ _ _ _ (st_semi (by omega) (by omega) gc gm) (hR.semi (by omega) gm hcn) ((FrC.rf I).u (by omega)))
      · skip
        refine wp_if_eq0 (tgt := 76) dX4_takes_69 (by decide) ?_
        refine wp_iconst (v := 0) dX4_takes_76 (by decide) ?_
        exact wp_retZ dX4_takes_77 rfl rfl (Nat.le_refl _) (Nat.le_refl _) (h0 (st_none (fun g => by omega) (fun g => by omega) (fun g => g1 g.2) (fun g => by omega) (fun g => g2 g.2)))
    · refine wp_aload_n (i := 0) dX4_takes_56 rfl rfl ?_
      refine wp_iload_n (i := 1) dX4_takes_57 rfl rfl ?_
      have hw3 : w < 4 := Nat.lt_of_not_le (fun g => zq53 (by rw [hdg]; exact nI_le (a := 3) (b := w - 1) (by omega) (by omega)))
      refine wp_V1i dX4_takes_58 mw_302 mw_304 ms_3 mi_X4_takesDigit (Nat.le_of_ble_eq_true rfl) (Nat.le_refl _) (Nat.le_refl _) (st_k hst rfl) (by decide) rfl (c_takesDigit _ hst hcn hR.1 (fun hd => ?_) (fun hd => ?_)) 
      · skip
        refine wp_if_ne1 (tgt := 72) dX4_takes_61 (by decide) ?_
        refine wp_iconst (v := 1) dX4_takes_72 (by decide) ?_
        refine wp_goto (tgt := 77) dX4_takes_73 (by decide) ?_
        exact wp_retZ dX4_takes_77 rfl rfl (Nat.le_refl _) (Nat.le_refl _) (h1 _ _ _ _ _ _ (st_digit (by omega) hw3 hd) (hR.digit (by omega) hw3 hdg hcn _ (dig_valC hd (hR.2.2.1 m (Or.inr ⟨rfl, by omega⟩)).2)) ((((FrC.rf I).u (by omega)).u (by omega)).u (by omega)))
      · skip
        refine wp_if_ne0 (tgt := 72) dX4_takes_61 (by decide) ?_
        refine wp_aload_n (i := 0) dX4_takes_64 rfl rfl ?_
        refine wp_iload_n (i := 1) dX4_takes_65 rfl rfl ?_
        refine wp_V1i dX4_takes_66 mw_311 mw_313 ms_4 mi_X4_takesSign (Nat.le_of_ble_eq_true rfl) (Nat.le_refl _) (Nat.le_refl _) (st_k hst rfl) (by decide) rfl (c_takesSign _ hst hcn hR.1 (fun gc => ?_) (fun gc gm => ?_) (fun g1 g2 => ?_)) 
        · skip
          refine wp_if_eq1 (tgt := 76) dX4_takes_69 (by decide) ?_
          refine wp_iconst (v := 1) dX4_takes_72 (by decide) ?_
          refine wp_goto (tgt := 77) dX4_takes_73 (by decide) ?_
          exact wp_retZ dX4_takes_77 rfl rfl (Nat.le_refl _) (Nat.le_refl _) (h1 _ _ _ _ _ _ (st_gt (by omega) (by omega) gc) (hR.to5 (by omega) hcn) ((FrC.rf I).u (by omega)))
        · skip
          refine wp_if_eq1 (tgt := 76) dX4_takes_69 (by decide) ?_
          refine wp_iconst (v := 1) dX4_takes_72 (by decide) ?_
          refine wp_goto (tgt := 77) dX4_takes_73 (by decide) ?_
          exact wp_retZ dX4_takes_77 rfl rfl (Nat.le_refl _) (Nat.le_refl _) (h1 _ _ _ _ _ _ (st_semi (by omega) (by omega) gc gm) (hR.semi (by omega) gm hcn) ((FrC.rf I).u (by omega)))
        · skip
          refine wp_if_eq0 (tgt := 76) dX4_takes_69 (by decide) ?_
          refine wp_iconst (v := 0) dX4_takes_76 (by decide) ?_
          exact wp_retZ dX4_takes_77 rfl rfl (Nat.le_refl _) (Nat.le_refl _) (h0 (st_none (fun g => by omega) (fun g => hd g.2) (fun g => g1 g.2) (fun g => by omega) (fun g => g2 g.2)))
  · rw [ha]
    refine wp_tableOut (tgt := 84) dX4_takes_4 (Or.inr (by decide)) (by decide) ?_
    refine wp_aload_n (i := 0) dX4_takes_84 rfl rfl ?_
    refine wp_iload_n (i := 1) dX4_takes_85 rfl rfl ?_
    refine wp_V1i dX4_takes_86 mw_311 mw_313 ms_4 mi_X4_takesSign (Nat.le_of_ble_eq_true rfl) (Nat.le_refl _) (Nat.le_refl _) (st_k hst rfl) (by decide) rfl (c_takesSign _ hst hcn hR.1 (fun gc => ?_) (fun gc gm => ?_) (fun g1 g2 => ?_)) 
    · skip
      exact wp_retZ dX4_takes_89 rfl rfl (Nat.le_refl _) (Nat.le_refl _) (h1 _ _ _ _ _ _ (st_gt (by decide) (by decide) gc) (hR.to5 (by decide) hcn) ((FrC.rf I).u (by omega)))
    · skip
      exact wp_retZ dX4_takes_89 rfl rfl (Nat.le_refl _) (Nat.le_refl _) (h1 _ _ _ _ _ _ (st_semi (by decide) (by decide) gc gm) (hR.semi (by decide) gm hcn) ((FrC.rf I).u (by omega)))
    · skip
      exact wp_retZ dX4_takes_89 rfl rfl (Nat.le_refl _) (Nat.le_refl _) (h0 (st_none (fun g => by omega) (fun g => by omega) (fun g => g1 g.2) (fun g => by omega) (fun g => g2 g.2)))
  · rw [ha]
    refine wp_tableIn (off := 74) (tgt := 78) dX4_takes_4 (by decide) (by decide) (by decide) (by decide) ?_
    refine wp_aload_n (i := 0) dX4_takes_78 rfl rfl ?_
    refine wp_iload_n (i := 1) dX4_takes_79 rfl rfl ?_
    refine wp_V1i dX4_takes_80 mw_315 mw_317 ms_5 mi_X4_takesAhead (Nat.le_of_ble_eq_true rfl) (Nat.le_refl _) (Nat.le_refl _) (st_k hst rfl) (by decide) rfl (c_takesAhead _ hst hcn hR.1 (fun hd hlt => ?_) (fun gno => ?_)) 
    · skip
      exact wp_retZ dX4_takes_83 rfl rfl (Nat.le_refl _) (Nat.le_refl _) (h1 _ _ _ _ _ _ (st_ahead rfl hd hlt) (hR.ahead hlt hcn) (((FrC.rf I).u (show 19 ≤ 24 + m ∧ 24 + m < 34 by have := hR.1; omega)).u (by omega)))
    · skip
      exact wp_retZ dX4_takes_83 rfl rfl (Nat.le_refl _) (Nat.le_refl _) (h0 (st_none (fun g => by omega) (fun g => by omega) (fun g => by omega) (fun g => gno g.2) (fun g => by omega)))

theorem lp_clear (d : Nat) {n : Nat} {t : eT} {R : eR} {Q : Nat → eT → eI → eR → Prop} (hst : ST n t R) : ∀ (r k : Nat) (I : eI), k + r = 10 → (∀ x, x < k → ∀ b, b < 10 → I (24 + x) b = 0) → (∀ I2 : eI, (∀ x, x < 10 → ∀ b, b < 10 → I2 (24 + x) b = 0) → (∀ z, (z < 24 ∨ 34 ≤ z) → I2 z = I z) → Q n t I2 R) → wp yX2_clear cX2_clear 2 none (d + 1) 0 0 (qV Q) 0 0 7 [.ref 20, .int (nI k)] [] n t I R := by
  intro r
  induction r with
  | zero =>
    intro k I hk hz hq
    obtain rfl : k = 10 := by omega
    refine wp_iload_n (i := 1) dX2_clear_7 rfl rfl ?_
    refine wp_bipush (v := 10) dX2_clear_8 (by decide) ?_
    refine wp_icmp_ge (tgt := 29) dX2_clear_10 (by decide) (fun zq10 => ?_) (fun zq10 => absurd (nI_le (show 10 ≤ 10 by decide) (by decide)) zq10) 
    exact wp_retV dX2_clear_29 rfl (Nat.le_refl _) (Nat.le_refl _) (hq I hz (fun _ _ => rfl))
  | succ r ih =>
    intro k I hk hz hq
    refine wp_iload_n (i := 1) dX2_clear_7 rfl rfl ?_
    refine wp_bipush (v := 10) dX2_clear_8 (by decide) ?_
    refine wp_icmp_ge (tgt := 29) dX2_clear_10 (by decide) (fun zq10 => absurd zq10 (nI_ge (show k < 10 by omega) (by decide))) (fun zq10 => ?_) 
    refine wp_aload_n (i := 0) dX2_clear_13 rfl rfl ?_
    refine wp_getR dX2_clear_14 fl_X2_24 rfl (st_k hst rfl) (st_r hst rfl) ?_
    refine wp_iload_n (i := 1) dX2_clear_17 rfl rfl ?_
    refine wp_rld13 (j := k) dX2_clear_18 (st_t hst rfl) rfl (by omega) (sg_r hst (by omega)) ?_
    refine wp_iconst (v := 0) dX2_clear_19 (by decide) ?_
    refine wp_S2v dX2_clear_20 mw_286 mw_178 mi_J7_fill_53178 (Nat.le_of_ble_eq_true rfl) (Nat.le_refl _) (Nat.le_refl _) (c_fill _ (sg_t hst (by omega)) (by decide) ?_) 
    refine wp_iinc_2_1 (v := nI (k + 1)) dX2_clear_23 (n_add rfl rfl) ?_
    refine wp_goto (tgt := 7) dX2_clear_26 (by decide) ?_
    refine ih (k + 1) _ (by omega) (fun x hx b hb => ?_) (fun I2 h1 h2 => hq I2 h1 (fun z hz => (h2 z hz).trans (eG_ne (by omega))))
    by_cases e : x = k
    · subst e; rw [eG_eq]; exact if_pos hb
    · rw [eG_ne (by omega)]; exact hz x (by omega) b hb

theorem c_clear (d : Nat) {n : Nat} {t : eT} {I : eI} {R : eR} {Q : Nat → eT → eI → eR → Prop} (hst : ST n t R) (hq : ∀ I2 : eI, (∀ x, x < 10 → ∀ b, b < 10 → I2 (24 + x) b = 0) → I2 20 0 = 0 → FrC I I2 → Q n t I2 R) : MC yX2_clear cX2_clear 2 none (d + 1) 0 0 [.ref 20] n t I R (qV Q) := by
  refine mc_intro (L0 := [.ref 20, vU]) (by decide) rfl (Nat.le_of_ble_eq_true rfl) ?_
  refine wp_aload_n (i := 0) dX2_clear_0 rfl rfl ?_
  refine wp_iconst (v := 0) dX2_clear_1 (by decide) ?_
  refine wp_putI dX2_clear_2 fl_X2_9 rfl (Or.inl rfl) (st_k hst rfl) ?_
  refine wp_iconst (v := 0) dX2_clear_5 (by decide) ?_
  refine wp_istore_2_1 dX2_clear_6 rfl ?_
  exact lp_clear d hst 10 0 _ rfl (fun x hx => absurd hx (Nat.not_lt_zero x)) (fun I2 h1 h2 => hq I2 h1 (by rw [h2 20 (by decide)]; exact eU_at _ _ _ _) (fun a ha => (h2 a (by omega)).trans (eU_ne (by omega))))

theorem lp_ff (d : Nat) {n : Nat} {t : eT} {R : eR} {Q : Int32 → Nat → eT → eI → eR → Prop} (hst : ST n t R) {ca len fr nn : Nat} (hca : 34 ≤ ca) (htc : t ca = (9, len)) (hlen : len ≤ 60) (hb : fr + nn ≤ len) {cds : Nat → Int32} : ∀ (r x : Nat) (I : eI) (w m : Nat) (K V : Nat → Nat) (F : Nat → Nat → Nat), x + r = nn → (∀ z, z < nn → I ca (fr + z) = cds z) → aft cds x = some (w, m, K, V, F) → RC I w m K V F → (∀ z I2, z < nn → (∃ s, aft cds z = some s) → aft cds (z + 1) = none → FrC I I2 → Q (nI z) n t I2 R) → (∀ s I2, aft cds nn = some s → ¬ (1 < s.1 ∧ s.1 < 5) → FrC I I2 → Q (nI nn) n t I2 R) → (∀ w m K V F I2, aft cds nn = some (w, m, K, V, F) → (1 < w ∧ w < 5) → RC I2 w m K V F → FrC I I2 → Q (-9) n t I2 R) → wp yX4_firstFault cX4_firstFault 5 (some .int) (d + 4) 0 0 (qI Q) 0 0 15 [.ref 19, .ref ca, .int (nI fr), .int (nI nn), .int (nI x)] [] n t I R := by
  intro r
  induction r with
  | zero =>
    intro x I w m K V F hx hc ha hR h1 h2 h3
    obtain rfl : x = nn := by omega
    refine wp_iload dX4_firstFault_15 rfl ?_
    refine wp_iload_n (i := 3) dX4_firstFault_17 rfl rfl ?_
    refine wp_icmp_ge (tgt := 43) dX4_firstFault_18 (by decide) (fun zq18 => ?_) (fun zq18 => absurd (nI_le (Nat.le_refl _) (by omega)) zq18) 
    rcases (id hR).2.1 with ⟨hw, hv, -⟩ | ⟨hw, hv, -, -⟩ | ⟨hw, hv, -, -⟩ | ⟨hw, hv, -⟩ | ⟨hw, hv, -⟩
    · skip
      refine wp_aload_n (i := 0) dX4_firstFault_43 rfl rfl ?_
      refine wp_getI dX4_firstFault_44 fl_X4_18 rfl (st_k hst rfl) ?_
      refine wp_iconst (v := 2) dX4_firstFault_47 (by decide) ?_
      refine wp_icmp_eq (tgt := 59) dX4_firstFault_48 (by decide) (fun zq48 => absurd (hv.symm.trans zq48) (by decide)) (fun zq48 => ?_) 
      refine wp_aload_n (i := 0) dX4_firstFault_51 rfl rfl ?_
      refine wp_getI dX4_firstFault_52 fl_X4_18 rfl (st_k hst rfl) ?_
      refine wp_iconst (v := 4) dX4_firstFault_55 (by decide) ?_
      refine wp_icmp_ne (tgt := 64) dX4_firstFault_56 (by decide) (fun zq56 => ?_) (fun zq56 => absurd (hv.symm.trans zq56) (by decide)) 
      refine wp_iload_n (i := 3) dX4_firstFault_64 rfl rfl ?_
      exact wp_retI dX4_firstFault_65 rfl (Nat.le_refl _) (Nat.le_refl _) (h2 _ I ha (fun g => by have g1 : 1 < w ∧ w < 5 := g; omega) (FrC.rf I))
    · skip
      refine wp_aload_n (i := 0) dX4_firstFault_43 rfl rfl ?_
      refine wp_getI dX4_firstFault_44 fl_X4_18 rfl (st_k hst rfl) ?_
      refine wp_iconst (v := 2) dX4_firstFault_47 (by decide) ?_
      refine wp_icmp_eq (tgt := 59) dX4_firstFault_48 (by decide) (fun zq48 => absurd (hv.symm.trans zq48) (by decide)) (fun zq48 => ?_) 
      refine wp_aload_n (i := 0) dX4_firstFault_51 rfl rfl ?_
      refine wp_getI dX4_firstFault_52 fl_X4_18 rfl (st_k hst rfl) ?_
      refine wp_iconst (v := 4) dX4_firstFault_55 (by decide) ?_
      refine wp_icmp_ne (tgt := 64) dX4_firstFault_56 (by decide) (fun zq56 => ?_) (fun zq56 => absurd (hv.symm.trans zq56) (by decide)) 
      refine wp_iload_n (i := 3) dX4_firstFault_64 rfl rfl ?_
      exact wp_retI dX4_firstFault_65 rfl (Nat.le_refl _) (Nat.le_refl _) (h2 _ I ha (fun g => by have g1 : 1 < w ∧ w < 5 := g; omega) (FrC.rf I))
    · skip
      refine wp_aload_n (i := 0) dX4_firstFault_43 rfl rfl ?_
      refine wp_getI dX4_firstFault_44 fl_X4_18 rfl (st_k hst rfl) ?_
      refine wp_iconst (v := 2) dX4_firstFault_47 (by decide) ?_
      refine wp_icmp_eq (tgt := 59) dX4_firstFault_48 (by decide) (fun zq48 => ?_) (fun zq48 => absurd hv zq48) 
      refine wp_bipush (v := (-9)) dX4_firstFault_59 (by decide) ?_
      refine wp_goto (tgt := 65) dX4_firstFault_61 (by decide) ?_
      exact wp_retI dX4_firstFault_65 rfl (Nat.le_refl _) (Nat.le_refl _) (h3 w m K V F I ha ⟨by omega, by omega⟩ hR (FrC.rf I))
    · skip
      refine wp_aload_n (i := 0) dX4_firstFault_43 rfl rfl ?_
      refine wp_getI dX4_firstFault_44 fl_X4_18 rfl (st_k hst rfl) ?_
      refine wp_iconst (v := 2) dX4_firstFault_47 (by decide) ?_
      refine wp_icmp_eq (tgt := 59) dX4_firstFault_48 (by decide) (fun zq48 => absurd (hv.symm.trans zq48) (by decide)) (fun zq48 => ?_) 
      refine wp_aload_n (i := 0) dX4_firstFault_51 rfl rfl ?_
      refine wp_getI dX4_firstFault_52 fl_X4_18 rfl (st_k hst rfl) ?_
      refine wp_iconst (v := 4) dX4_firstFault_55 (by decide) ?_
      refine wp_icmp_ne (tgt := 64) dX4_firstFault_56 (by decide) (fun zq56 => absurd hv zq56) (fun zq56 => ?_) 
      refine wp_bipush (v := (-9)) dX4_firstFault_59 (by decide) ?_
      refine wp_goto (tgt := 65) dX4_firstFault_61 (by decide) ?_
      exact wp_retI dX4_firstFault_65 rfl (Nat.le_refl _) (Nat.le_refl _) (h3 w m K V F I ha ⟨by omega, by omega⟩ hR (FrC.rf I))
    · skip
      refine wp_aload_n (i := 0) dX4_firstFault_43 rfl rfl ?_
      refine wp_getI dX4_firstFault_44 fl_X4_18 rfl (st_k hst rfl) ?_
      refine wp_iconst (v := 2) dX4_firstFault_47 (by decide) ?_
      refine wp_icmp_eq (tgt := 59) dX4_firstFault_48 (by decide) (fun zq48 => absurd (hv.symm.trans zq48) (by decide)) (fun zq48 => ?_) 
      refine wp_aload_n (i := 0) dX4_firstFault_51 rfl rfl ?_
      refine wp_getI dX4_firstFault_52 fl_X4_18 rfl (st_k hst rfl) ?_
      refine wp_iconst (v := 4) dX4_firstFault_55 (by decide) ?_
      refine wp_icmp_ne (tgt := 64) dX4_firstFault_56 (by decide) (fun zq56 => ?_) (fun zq56 => absurd (hv.symm.trans zq56) (by decide)) 
      refine wp_iload_n (i := 3) dX4_firstFault_64 rfl rfl ?_
      exact wp_retI dX4_firstFault_65 rfl (Nat.le_refl _) (Nat.le_refl _) (h2 _ I ha (fun g => by have g1 : 1 < w ∧ w < 5 := g; omega) (FrC.rf I))
  | succ r ih =>
    intro x I w m K V F hx hc ha hR h1 h2 h3
    refine wp_iload dX4_firstFault_15 rfl ?_
    refine wp_iload_n (i := 3) dX4_firstFault_17 rfl rfl ?_
    refine wp_icmp_ge (tgt := 43) dX4_firstFault_18 (by decide) (fun zq18 => absurd zq18 (nI_ge (show x < nn by omega) (by omega))) (fun zq18 => ?_) 
    refine wp_aload_n (i := 0) dX4_firstFault_21 rfl rfl ?_
    refine wp_aload_n (i := 1) dX4_firstFault_22 rfl rfl ?_
    refine wp_iload_n (i := 2) dX4_firstFault_23 rfl rfl ?_
    refine wp_iload dX4_firstFault_24 rfl ?_
    refine wp_iadd dX4_firstFault_26 ?_
    refine wp_ild (j := (fr + x)) dX4_firstFault_27 htc (n_add rfl rfl) (by omega) ?_
    rw [hc x (by omega)]
    refine wp_V1i dX4_firstFault_28 mw_287 mw_289 ms_1 mi_X4_takes (Nat.le_of_ble_eq_true rfl) (Nat.le_refl _) (Nat.le_refl _) (st_k hst rfl) (by decide) rfl (c_takes _ hst hR (fun I1 w1 m1 K1 V1 F1 hs hR1 hf => ?_) (fun hs => ?_)) 
    · skip
      refine wp_if_ne1 (tgt := 37) dX4_firstFault_31 (by decide) ?_
      refine wp_iinc_5_4 (v := nI (x + 1)) dX4_firstFault_37 (n_add rfl rfl) ?_
      refine wp_goto (tgt := 15) dX4_firstFault_40 (by decide) ?_
      exact ih (x + 1) I1 w1 m1 K1 V1 F1 (by omega) (fun z hz => by rw [hf ca (Or.inr hca)]; exact hc z hz) ((aft_s ha).trans hs) hR1 (fun z I2 hz hs0 hs1 hf2 => h1 z I2 hz hs0 hs1 (hf.tr hf2)) (fun s I2 hs0 hs1 hf2 => h2 s I2 hs0 hs1 (hf.tr hf2)) (fun w2 m2 K2 V2 F2 I2 hs0 hs1 hs2 hf2 => h3 w2 m2 K2 V2 F2 I2 hs0 hs1 hs2 (hf.tr hf2))
    · skip
      refine wp_if_ne0 (tgt := 37) dX4_firstFault_31 (by decide) ?_
      refine wp_iload dX4_firstFault_34 rfl ?_
      exact wp_retI dX4_firstFault_36 rfl (Nat.le_refl _) (Nat.le_refl _) (h1 x I (by omega) ⟨_, ha⟩ ((aft_s ha).trans hs) (FrC.rf I))

theorem c_firstFault (d : Nat) {n : Nat} {t : eT} {I : eI} {R : eR} {Q : Int32 → Nat → eT → eI → eR → Prop} (hst : ST n t R) {ca len fr nn : Nat} (hca : 34 ≤ ca) (htc : t ca = (9, len)) (hlen : len ≤ 60) (hb : fr + nn ≤ len) {cds : Nat → Int32} (hc : ∀ z, z < nn → I ca (fr + z) = cds z) (h1 : ∀ z I2, z < nn → (∃ s, aft cds z = some s) → aft cds (z + 1) = none → FrC I I2 → Q (nI z) n t I2 R) (h2 : ∀ s I2, aft cds nn = some s → ¬ (1 < s.1 ∧ s.1 < 5) → FrC I I2 → Q (nI nn) n t I2 R) (h3 : ∀ w m K V F I2, aft cds nn = some (w, m, K, V, F) → (1 < w ∧ w < 5) → RC I2 w m K V F → FrC I I2 → Q (-9) n t I2 R)  : MC yX4_firstFault cX4_firstFault 5 (some .int) (d + 4) 0 0 [.ref 19, .ref ca, .int (nI fr), .int (nI nn)] n t I R (qI Q) := by
  refine mc_intro (L0 := [.ref 19, .ref ca, .int (nI fr), .int (nI nn), vU]) (by decide) rfl (Nat.le_of_ble_eq_true rfl) ?_
  refine wp_aload_n (i := 0) dX4_firstFault_0 rfl rfl ?_
  refine wp_getR dX4_firstFault_1 fl_X4_12 rfl (st_k hst rfl) (st_r hst rfl) ?_
  refine wp_V0v dX4_firstFault_4 mw_282 mw_283 mw_284 mi_X2_clear (Nat.le_of_ble_eq_true rfl) (Nat.le_refl _) (Nat.le_refl _) (st_k hst rfl) (by decide) rfl (c_clear _ hst (fun I2 hz hz0 hf => ?_)) 
  refine wp_aload_n (i := 0) dX4_firstFault_7 rfl rfl ?_
  refine wp_iconst (v := 0) dX4_firstFault_8 (by decide) ?_
  refine wp_putI dX4_firstFault_9 fl_X4_18 rfl (Or.inl rfl) (st_k hst rfl) ?_
  refine wp_iconst (v := 0) dX4_firstFault_12 (by decide) ?_
  refine wp_istore_5_4 dX4_firstFault_13 rfl ?_
  have hf9 : FrC I (eU I2 19 1 0) := hf.u (by decide)
  refine lp_ff d hst hca htc hlen hb nn 0 (eU I2 19 1 0) 0 0 (fun _ => 0) (fun _ => 0) (fun _ _ => 0) (by omega) (fun z hz2 => by rw [hf9 ca (Or.inr hca)]; exact hc z hz2) rfl ⟨by decide, Or.inl ⟨rfl, rfl, hz0⟩, fun x hx => by omega, fun a b ha hb2 => by rw [eU_o (by omega)]; exact hz a ha b hb2⟩ (fun z I3 hz2 hs0 hs1 hf2 => h1 z I3 hz2 hs0 hs1 (hf9.tr hf2)) (fun s I3 hs0 hs1 hf2 => h2 s I3 hs0 hs1 (hf9.tr hf2)) (fun w2 m2 K2 V2 F2 I3 hs0 hs1 hs2 hf2 => h3 w2 m2 K2 V2 F2 I3 hs0 hs1 hs2 (hf9.tr hf2))

