theorem l_sum2 (i v : Int32) : (i.toInt64 + v.toInt64).toInt = i.toInt + v.toInt := by
  rw [Int64.toInt_add, Int32.toInt_toInt64, Int32.toInt_toInt64]
  have h1 := Int32.toInt_lt i
  have h2 := Int32.toInt_lt v
  have h3 := Int32.le_toInt i
  have h4 := Int32.le_toInt v
  exact Int.bmod_eq_of_le (by omega) (by omega)
theorem max_0 {v : Int32} {q : Nat} (h : v = nI q) (hq : q ≤ 60) : maxI 0 v = nI q := by
  subst h
  unfold maxI
  rcases Nat.lt_or_ge 0 q with g | g
  · rw [if_pos (by rw [show (0 : Int32) = nI 0 from rfl]; exact nI_lt g (by omega))]
  · obtain rfl : q = 0 := by omega
    rfl
theorem c_sheetInit (d : Nat) {n : Nat} {t : eT} {I : eI} {R : eR} {Q : Nat → eT → eI → eR → Prop} {a : Nat} (hta : (t a).1 = 6) (han : a ≠ n) {l v : Int32} {ln : Nat} (hv : v = nI ln) (hln : ln ≤ 60) (hq : Q (n + 1) (eG t n (9, ln)) (eG (eU I a 0 l) n (fun _ => 0)) (eU (eG R n (fun _ => none)) a 1 (some n))) : MC yX6_init cX6_init 3 none (d + 1) 1 60 [.ref a, .int l, .int v] n t I R (qV Q) := by
  refine mc_intro (L0 := [.ref a, .int l, .int v]) (by decide) rfl (Nat.le_of_ble_eq_true rfl) ?_
  refine wp_aload_n (i := 0) dX6_init_0 rfl rfl ?_
  refine wp_objInit dX6_init_1 mw_663 (Nat.le_of_ble_eq_true rfl) ?_
  refine wp_aload_n (i := 0) dX6_init_4 rfl rfl ?_
  refine wp_iload_n (i := 1) dX6_init_5 rfl rfl ?_
  refine wp_putI dX6_init_6 fl_X6_7 rfl (Or.inr ⟨rfl, rfl, rfl⟩) hta ?_
  refine wp_aload_n (i := 0) dX6_init_9 rfl rfl ?_
  refine wp_iconst (v := 0) dX6_init_10 (by decide) ?_
  refine wp_iload_n (i := 2) dX6_init_11 rfl rfl ?_
  refine wp_mmax dX6_init_12 mw_664 (Nat.le_of_ble_eq_true rfl) (by first | decide | omega) (by first | decide | omega) ?_
  refine wp_topI (v2 := nI ln) (max_0 hv hln) ?_
  refine wp_newI (M := ln) dX6_init_15 mw_51 (nI_pos (by omega)) (nI_clamp (by omega)) (by omega) (by first | decide | omega) (by first | decide | omega) ?_
  refine wp_putR dX6_init_17 fl_X6_19 rfl (Or.inr ⟨rfl, rfl, rfl⟩) (by rw [eG_ne han]; exact hta) ?_
  exact wp_retV dX6_init_20 rfl (by first | decide | omega) (by first | decide | omega) hq

theorem c_sheet (d : Nat) {n : Nat} {t : eT} {I : eI} {R : eR} {Q : Int32 → Nat → eT → eI → eR → Prop} (hst : ST n t R) {x l v : Int32} (h1 : (∀ j, j < 4 → x ≠ nI j) → Q (-1) n t (eU I 4 9 0) R) (h2 : ∀ j, j < 4 → x = nI j → ¬ ((0 ≤ l.toInt ∧ l.toInt ≤ 2) ∧ v.toInt ≤ 60) → Q (-2) n t (eU I 4 9 0) R) (h3 : ∀ j, j < 4 → x = nI j → (0 ≤ l.toInt ∧ l.toInt ≤ 2) → v.toInt < 0 → Q (-14) n t (eU (eU I 4 9 0) 4 9 4) R) (h4 : ∀ j ln, j < 4 → x = nI j → (0 ≤ l.toInt ∧ l.toInt ≤ 2) → ln ≤ 60 → v = nI ln → Q 1 (n + 2) (eG (eG t n (6, 0)) (n + 1) (9, ln)) (eG (eU (eG (eU I 4 9 0) n (fun _ => 0)) n 0 l) (n + 1) (fun _ => 0)) (eU (eU (eG (eG R n (fun _ => none)) (n + 1) (fun _ => none)) n 1 (some (n + 1))) 53 j (some n))) : MC yX7_sheet cX7_sheet 4 (some .int) (d + 2) 2 62 [.ref 4, .int x, .int l, .int v] n t I R (qI Q) := by
  refine mc_intro (L0 := [.ref 4, .int x, .int l, .int v]) (by decide) rfl (Nat.le_of_ble_eq_true rfl) ?_
  refine wp_aload_n (i := 0) dX7_sheet_0 rfl rfl ?_
  refine wp_iconst (v := 0) dX7_sheet_1 (by decide) ?_
  refine wp_putI dX7_sheet_2 fl_X7_62 rfl (Or.inl rfl) (st_k hst rfl) ?_
  refine wp_iload_n (i := 1) dX7_sheet_5 rfl rfl ?_
  refine wp_iconst (v := 0) dX7_sheet_6 (by decide) ?_
  refine wp_iconst (v := 3) dX7_sheet_7 (by decide) ?_
  refine wp_S3i dX7_sheet_8 mw_267 mw_268 mi_X7_isWithin (Nat.le_of_ble_eq_true rfl) (by first | decide | omega) (by first | decide | omega) (c_isWithin _ (a := 0) (b := 3) rfl rfl (fun ga8 gb8 => ?_) (fun gn8 => ?_)) 
  · skip
    refine wp_if_ne1 (tgt := 16) dX7_sheet_11 (by decide) ?_
    obtain ⟨j, hj, ej⟩ := nat_yes (x := x) (m := 4) (by omega) ga8 (by omega)
    subst ej
    refine wp_iload_n (i := 2) dX7_sheet_16 rfl rfl ?_
    refine wp_iconst (v := 0) dX7_sheet_17 (by decide) ?_
    refine wp_iconst (v := 2) dX7_sheet_18 (by decide) ?_
    refine wp_S3i dX7_sheet_19 mw_267 mw_268 mi_X7_isWithin (Nat.le_of_ble_eq_true rfl) (by first | decide | omega) (by first | decide | omega) (c_isWithin _ (a := 0) (b := 2) rfl rfl (fun ga19 gb19 => ?_) (fun gn19 => ?_)) 
    · skip
      refine wp_if_eq1 (tgt := 31) dX7_sheet_22 (by decide) ?_
      refine wp_iload_n (i := 3) dX7_sheet_25 rfl rfl ?_
      refine wp_bipush (v := 60) dX7_sheet_26 (by decide) ?_
      refine wp_icmp_le (tgt := 34) dX7_sheet_28 (by decide) (fun zq28 => ?_) (fun zq28 => ?_) 
      · refine wp_iload_n (i := 3) dX7_sheet_34 rfl rfl ?_
        refine wp_if_ge (tgt := 44) dX7_sheet_35 (by decide) (fun zq35 => ?_) (fun zq35 => ?_) 
        · obtain ⟨ln, hln, eln⟩ := nat_yes (x := v) (m := 61) (by omega) (by rw [i_le, i0] at zq35; omega) (by rw [i_le, show (60 : Int32).toInt = 60 from rfl] at zq28; omega)
          have hn128 := hst.1
          refine wp_aload_n (i := 0) dX7_sheet_44 rfl rfl ?_
          refine wp_getR dX7_sheet_45 fl_X7_55 rfl (st_k hst rfl) (st_r hst rfl) ?_
          refine wp_iload_n (i := 1) dX7_sheet_48 rfl rfl ?_
          refine wp_new (q := 6) dX7_sheet_49 (by decide) mw_166 mw_659 mw_13 (by first | decide | omega) (by first | decide | omega) (by decide) ?_
          refine wp_dup dX7_sheet_52 rfl ?_
          refine wp_iload_n (i := 2) dX7_sheet_53 rfl rfl ?_
          refine wp_iload_n (i := 3) dX7_sheet_54 rfl rfl ?_
          refine wp_I2vA dX7_sheet_55 mw_660 mw_661 rfl rfl mi_X6_init (Nat.le_of_ble_eq_true rfl) (by first | decide | omega) (by first | decide | omega) (c_sheetInit d (t := eG t n (6, 0)) (a := n) (by rw [eG_eq]) (by omega) eln (by omega) ?_) 
          refine wp_rst12 (j := j) dX7_sheet_58 (by rw [eG_ne (by omega), eG_ne (by omega)]; exact st_t hst rfl) rfl (by omega) (by rw [eG_ne (by omega), eG_eq]) ?_
          refine wp_iconst (v := 1) dX7_sheet_59 (by decide) ?_
          exact wp_retI dX7_sheet_60 rfl (by first | decide | omega) (by first | decide | omega) (h4 j ln hj rfl ⟨ga19, gb19⟩ (by omega) eln)
        · refine wp_aload_n (i := 0) dX7_sheet_38 rfl rfl ?_
          refine wp_iconst (v := 4) dX7_sheet_39 (by decide) ?_
          refine wp_V1i dX7_sheet_40 mw_270 mw_272 ms_0 mi_X7_faulted (Nat.le_of_ble_eq_true rfl) (by first | decide | omega) (by first | decide | omega) (st_k hst rfl) (by decide) rfl (c_faulted _ hst (r := -14) (by decide) ?_) 
          exact wp_retI dX7_sheet_43 rfl (by first | decide | omega) (by first | decide | omega) (h3 j hj rfl ⟨ga19, gb19⟩ (by rw [i_le, i0] at zq35; omega))
      · refine wp_bipush (v := (-2)) dX7_sheet_31 (by decide) ?_
        exact wp_retI dX7_sheet_33 rfl (by first | decide | omega) (by first | decide | omega) (h2 j hj rfl (fun g => by rw [i_le, show (60 : Int32).toInt = 60 from rfl] at zq28; omega))
    · skip
      refine wp_if_eq0 (tgt := 31) dX7_sheet_22 (by decide) ?_
      refine wp_bipush (v := (-2)) dX7_sheet_31 (by decide) ?_
      exact wp_retI dX7_sheet_33 rfl (by first | decide | omega) (by first | decide | omega) (h2 j hj rfl (fun g => gn19 g.1))
  · skip
    refine wp_if_ne0 (tgt := 16) dX7_sheet_11 (by decide) ?_
    refine wp_iconst (v := (-1)) dX7_sheet_14 (by decide) ?_
    exact wp_retI dX7_sheet_15 rfl (by first | decide | omega) (by first | decide | omega) (h1 (nat_no (m := 4) (by omega) (by omega)))

theorem zero_step {I : eI} {j k ln : Nat} (hk : k < ln) : (eG (eU I 126 (60 * j + k) 0) 126 (fun z => if 60 * j + (k + 1) ≤ z ∧ z < 60 * j + ln then 0 else (eU I 126 (60 * j + k) 0) 126 z)) = eG I 126 (fun z => if 60 * j + k ≤ z ∧ z < 60 * j + ln then 0 else I 126 z) := by
  funext x y
  by_cases hx : x = 126
  · subst hx
    rw [eG_eq, eG_eq]
    show (if 60 * j + (k + 1) ≤ y ∧ y < 60 * j + ln then _ else _) = if 60 * j + k ≤ y ∧ y < 60 * j + ln then _ else _
    by_cases h1 : y = 60 * j + k
    · subst h1
      rw [if_neg (by omega), if_pos (by omega), eU_at]
    · by_cases h2 : 60 * j + (k + 1) ≤ y ∧ y < 60 * j + ln
      · rw [if_pos h2, if_pos (by omega)]
      · rw [if_neg h2, if_neg (by omega), eU_c h1]
  · rw [eG_ne hx, eG_ne hx, eU_ne hx]

theorem lp_zero (d : Nat) {n : Nat} {t : eT} {R : eR} {Q : eQt} (hst : ST n t R) {j ln : Nat} (hj : j < 4) (hln : ln ≤ 60) {l : Int32} : ∀ (r k : Nat) (I : eI), k + r = ln → wp yX8_sheet cX8_sheet 5 (some .int) d 0 0 Q 0 0 90 [.ref 94, .int (nI j), .int l, .int (nI ln), .int (nI ln)] [] n t (eG I 126 (fun z => if 60 * j + k ≤ z ∧ z < 60 * j + ln then 0 else I 126 z)) R → wp yX8_sheet cX8_sheet 5 (some .int) d 0 0 Q 0 0 65 [.ref 94, .int (nI j), .int l, .int (nI ln), .int (nI k)] [] n t I R := by
  intro r
  induction r with
  | zero =>
    intro k I hk hq
    obtain rfl : k = ln := by omega
    have e0 : (eG I 126 (fun z => if 60 * j + k ≤ z ∧ z < 60 * j + k then 0 else I 126 z)) = I := by
      funext x y
      by_cases hx : x = 126
      · subst hx; rw [eG_eq]; exact if_neg (by omega)
      · rw [eG_ne hx]
    rw [e0] at hq
    refine wp_iload dX8_sheet_65 rfl ?_
    refine wp_iload_n (i := 3) dX8_sheet_67 rfl rfl ?_
    refine wp_icmp_ge (tgt := 90) dX8_sheet_68 (by decide) (fun zq68 => ?_) (fun zq68 => absurd (nI_le (Nat.le_refl _) (by omega)) zq68) 
    exact hq
  | succ r ih =>
    intro k I hk hq
    refine wp_iload dX8_sheet_65 rfl ?_
    refine wp_iload_n (i := 3) dX8_sheet_67 rfl rfl ?_
    refine wp_icmp_ge (tgt := 90) dX8_sheet_68 (by decide) (fun zq68 => absurd zq68 (nI_ge (show k < ln by omega) (by omega))) (fun zq68 => ?_) 
    refine wp_aload_n (i := 0) dX8_sheet_71 rfl rfl ?_
    refine wp_getR dX8_sheet_72 fl_X8_104 rfl (st_k hst rfl) (st_r hst rfl) ?_
    refine wp_bipush (v := 60) dX8_sheet_75 (by decide) ?_
    refine wp_iload_n (i := 1) dX8_sheet_77 rfl rfl ?_
    refine wp_imul dX8_sheet_78 ?_
    refine wp_iload dX8_sheet_79 rfl ?_
    refine wp_iadd dX8_sheet_81 ?_
    refine wp_iconst (v := 0) dX8_sheet_82 (by decide) ?_
    refine wp_ist (j := ((60 * j) + k)) dX8_sheet_83 (st_t hst rfl) (n_add (n_mul rfl rfl) rfl) (by omega) ?_
    refine wp_iinc_5_4 (v := nI (k + 1)) dX8_sheet_84 (n_add rfl rfl) ?_
    refine wp_goto (tgt := 65) dX8_sheet_87 (by decide) ?_
    exact ih (k + 1) _ (by omega) (by rw [zero_step (by omega)]; exact hq)

theorem c_sheetM (d : Nat) {n : Nat} {t : eT} {I : eI} {R : eR} {Q : Int32 → Nat → eT → eI → eR → Prop} (hst : ST n t R) {x l v : Int32} (h1 : (∀ j, j < 4 → x ≠ nI j) → Q (-1) n t (eU I 94 0 0) R) (h2 : ∀ j, j < 4 → x = nI j → ¬ ((0 ≤ l.toInt ∧ l.toInt ≤ 2) ∧ v.toInt ≤ 60) → Q (-2) n t (eU I 94 0 0) R) (h3 : ∀ j, j < 4 → x = nI j → (0 ≤ l.toInt ∧ l.toInt ≤ 2) → v.toInt < 0 → Q (-14) n t (eU I 94 0 4) R) (h4 : ∀ j ln, j < 4 → x = nI j → (0 ≤ l.toInt ∧ l.toInt ≤ 2) → ln ≤ 60 → v = nI ln → Q 1 n t (eU (eG (eU (eU I 124 j (nI ln)) 125 j l) 126 (fun z => if 60 * j + 0 ≤ z ∧ z < 60 * j + ln then 0 else (eU (eU I 124 j (nI ln)) 125 j l) 126 z)) 94 0 0) R) : MC yX8_sheet cX8_sheet 5 (some .int) (d + 2) 0 0 [.ref 94, .int x, .int l, .int v] n t I R (qI Q) := by
  refine mc_intro (L0 := [.ref 94, .int x, .int l, .int v, vU]) (by decide) rfl (Nat.le_of_ble_eq_true rfl) ?_
  refine wp_iload_n (i := 1) dX8_sheet_0 rfl rfl ?_
  refine wp_S1i dX8_sheet_1 mw_883 mw_884 mi_X8_noSheet (Nat.le_of_ble_eq_true rfl) (Nat.le_refl _) (Nat.le_refl _) (c_noSheet _ (fun j hj ej => ?_) (fun no => ?_)) 
  · subst ej
    refine wp_if_eq0 (tgt := 13) dX8_sheet_4 (by decide) ?_
    refine wp_iload_n (i := 2) dX8_sheet_13 rfl rfl ?_
    refine wp_i2l dX8_sheet_14 ?_
    refine wp_lconst (v := 0) dX8_sheet_15 (by decide) ?_
    refine wp_ldc2 (v := 2) dX8_sheet_16 mw_898 ?_
    refine wp_S3i dX8_sheet_19 mw_887 mw_888 mi_X8_in (Nat.le_of_ble_eq_true rfl) (Nat.le_refl _) (Nat.le_refl _) (c_in _ (a := 0) (b := 2) rfl rfl (fun ga19 gb19 => ?_) (fun gn19 => ?_)) 
    · skip
      refine wp_if_eq1 (tgt := 31) dX8_sheet_22 (by decide) ?_
      refine wp_iload_n (i := 3) dX8_sheet_25 rfl rfl ?_
      refine wp_bipush (v := 60) dX8_sheet_26 (by decide) ?_
      refine wp_icmp_le (tgt := 38) dX8_sheet_28 (by decide) (fun zq28 => ?_) (fun zq28 => ?_) 
      · refine wp_iload_n (i := 3) dX8_sheet_38 rfl rfl ?_
        refine wp_if_ge (tgt := 48) dX8_sheet_39 (by decide) (fun zq39 => ?_) (fun zq39 => ?_) 
        · obtain ⟨ln, hln, eln⟩ := nat_yes (x := v) (m := 61) (by omega) (by rw [i_le, i0] at zq39; omega) (by rw [i_le, show (60 : Int32).toInt = 60 from rfl] at zq28; omega)
          subst eln
          refine wp_aload_n (i := 0) dX8_sheet_48 rfl rfl ?_
          refine wp_getR dX8_sheet_49 fl_X8_98 rfl (st_k hst rfl) (st_r hst rfl) ?_
          refine wp_iload_n (i := 1) dX8_sheet_52 rfl rfl ?_
          refine wp_iload_n (i := 3) dX8_sheet_53 rfl rfl ?_
          refine wp_ist dX8_sheet_54 (st_t hst rfl) rfl (by omega) ?_
          refine wp_aload_n (i := 0) dX8_sheet_55 rfl rfl ?_
          refine wp_getR dX8_sheet_56 fl_X8_101 rfl (st_k hst rfl) (st_r hst rfl) ?_
          refine wp_iload_n (i := 1) dX8_sheet_59 rfl rfl ?_
          refine wp_iload_n (i := 2) dX8_sheet_60 rfl rfl ?_
          refine wp_ist dX8_sheet_61 (st_t hst rfl) rfl (by omega) ?_
          refine wp_iconst (v := 0) dX8_sheet_62 (by decide) ?_
          refine wp_istore_5_4 dX8_sheet_63 rfl ?_
          refine lp_zero _ hst hj (by omega) ln 0 _ (by omega) ?_
          refine wp_aload_n (i := 0) dX8_sheet_90 rfl rfl ?_
          refine wp_iconst (v := 1) dX8_sheet_91 (by decide) ?_
          refine wp_V1i dX8_sheet_92 mw_890 mw_892 ms_27 mi_X8_refused (Nat.le_of_ble_eq_true rfl) (Nat.le_refl _) (Nat.le_refl _) (st_k hst rfl) (by decide) rfl (c_refused _ hst ?_) 
          exact wp_retI dX8_sheet_95 rfl (Nat.le_refl _) (Nat.le_refl _) (h4 j ln hj rfl ⟨ga19, gb19⟩ (by omega) rfl)
        · refine wp_aload_n (i := 0) dX8_sheet_42 rfl rfl ?_
          refine wp_iconst (v := 4) dX8_sheet_43 (by decide) ?_
          refine wp_V1i dX8_sheet_44 mw_899 mw_901 ms_29 mi_X8_failed (Nat.le_of_ble_eq_true rfl) (Nat.le_refl _) (Nat.le_refl _) (st_k hst rfl) (by decide) rfl (c_failed _ hst (r := -14) (by decide) ?_) 
          exact wp_retI dX8_sheet_47 rfl (Nat.le_refl _) (Nat.le_refl _) (h3 j hj rfl ⟨ga19, gb19⟩ (by rw [i_le, i0] at zq39; omega))
      · refine wp_aload_n (i := 0) dX8_sheet_31 rfl rfl ?_
        refine wp_bipush (v := (-2)) dX8_sheet_32 (by decide) ?_
        refine wp_V1i dX8_sheet_34 mw_890 mw_892 ms_27 mi_X8_refused (Nat.le_of_ble_eq_true rfl) (Nat.le_refl _) (Nat.le_refl _) (st_k hst rfl) (by decide) rfl (c_refused _ hst ?_) 
        exact wp_retI dX8_sheet_37 rfl (Nat.le_refl _) (Nat.le_refl _) (h2 j hj rfl (fun g => by rw [i_le, show (60 : Int32).toInt = 60 from rfl] at zq28; omega))
    · skip
      refine wp_if_eq0 (tgt := 31) dX8_sheet_22 (by decide) ?_
      refine wp_aload_n (i := 0) dX8_sheet_31 rfl rfl ?_
      refine wp_bipush (v := (-2)) dX8_sheet_32 (by decide) ?_
      refine wp_V1i dX8_sheet_34 mw_890 mw_892 ms_27 mi_X8_refused (Nat.le_of_ble_eq_true rfl) (Nat.le_refl _) (Nat.le_refl _) (st_k hst rfl) (by decide) rfl (c_refused _ hst ?_) 
      exact wp_retI dX8_sheet_37 rfl (Nat.le_refl _) (Nat.le_refl _) (h2 j hj rfl (fun g => gn19 g.1))
  · skip
    refine wp_if_eq1 (tgt := 13) dX8_sheet_4 (by decide) ?_
    refine wp_aload_n (i := 0) dX8_sheet_7 rfl rfl ?_
    refine wp_iconst (v := (-1)) dX8_sheet_8 (by decide) ?_
    refine wp_V1i dX8_sheet_9 mw_890 mw_892 ms_27 mi_X8_refused (Nat.le_of_ble_eq_true rfl) (Nat.le_refl _) (Nat.le_refl _) (st_k hst rfl) (by decide) rfl (c_refused _ hst ?_) 
    exact wp_retI dX8_sheet_12 rfl (Nat.le_refl _) (Nat.le_refl _) (h1 no)

theorem c_hasCells (d : Nat) {n : Nat} {t : eT} {I : eI} {R : eR} {Q : Int32 → Nat → eT → eI → eR → Prop} {a c len : Nat} (hta : (t a).1 = 6) (hrc : R a 1 = some c) (htc : t c = (9, len)) (hlen : len ≤ 60) {i v : Int32} (h1 : ∀ i0 v0, i0 + v0 ≤ len → i = nI i0 → v = nI v0 → Q 1 n t I R) (h0 : ¬ (0 ≤ i.toInt ∧ 0 ≤ v.toInt ∧ i.toInt + v.toInt ≤ len) → Q 0 n t I R) : MC yX6_hasCells cX6_hasCells 3 (some .boolean) d 0 0 [.ref a, .int i, .int v] n t I R (qI Q) := by
  refine mc_intro (L0 := [.ref a, .int i, .int v]) (by decide) rfl (Nat.le_of_ble_eq_true rfl) ?_
  refine wp_iload_n (i := 1) dX6_hasCells_0 rfl rfl ?_
  refine wp_if_lt (tgt := 32) dX6_hasCells_1 (by decide) (fun zq1 => ?_) (fun zq1 => ?_) 
  · refine wp_iconst (v := 0) dX6_hasCells_32 (by decide) ?_
    exact wp_retZ dX6_hasCells_33 rfl rfl (Nat.le_refl _) (Nat.le_refl _) (h0 (fun g => by rw [i_lt, i0] at zq1; omega))
  · refine wp_iload_n (i := 1) dX6_hasCells_4 rfl rfl ?_
    refine wp_aload_n (i := 0) dX6_hasCells_5 rfl rfl ?_
    refine wp_getR dX6_hasCells_6 fl_X6_19 rfl hta hrc ?_
    refine wp_len dX6_hasCells_9 htc ?_
    refine wp_icmp_gt (tgt := 32) dX6_hasCells_10 (by decide) (fun zq10 => ?_) (fun zq10 => ?_) 
    · refine wp_iconst (v := 0) dX6_hasCells_32 (by decide) ?_
      exact wp_retZ dX6_hasCells_33 rfl rfl (Nat.le_refl _) (Nat.le_refl _) (h0 (fun g => by rw [i_lt, nI_toInt (by omega)] at zq10; omega))
    · obtain ⟨i9, hi9, rfl⟩ := nat_yes (x := i) (m := len + 1) (by omega) (by rw [i_lt, i0] at zq1; omega) (by rw [i_lt, nI_toInt (by omega)] at zq10; omega)
      refine wp_iload_n (i := 2) dX6_hasCells_13 rfl rfl ?_
      refine wp_if_lt (tgt := 32) dX6_hasCells_14 (by decide) (fun zq14 => ?_) (fun zq14 => ?_) 
      · refine wp_iconst (v := 0) dX6_hasCells_32 (by decide) ?_
        exact wp_retZ dX6_hasCells_33 rfl rfl (Nat.le_refl _) (Nat.le_refl _) (h0 (fun g => by rw [i_lt, i0] at zq14; omega))
      · refine wp_iload_n (i := 2) dX6_hasCells_17 rfl rfl ?_
        refine wp_aload_n (i := 0) dX6_hasCells_18 rfl rfl ?_
        refine wp_getR dX6_hasCells_19 fl_X6_19 rfl hta hrc ?_
        refine wp_len dX6_hasCells_22 htc ?_
        refine wp_iload_n (i := 1) dX6_hasCells_23 rfl rfl ?_
        refine wp_isub dX6_hasCells_24 ?_
        rw [pk_sub (show i9 ≤ len by omega)]
        refine wp_icmp_gt (tgt := 32) dX6_hasCells_25 (by decide) (fun zq25 => ?_) (fun zq25 => ?_) 
        · refine wp_iconst (v := 0) dX6_hasCells_32 (by decide) ?_
          exact wp_retZ dX6_hasCells_33 rfl rfl (Nat.le_refl _) (Nat.le_refl _) (h0 (fun g => by rw [i_lt, nI_toInt (by omega)] at zq25; rw [nI_toInt (by omega)] at g; omega))
        · refine wp_iconst (v := 1) dX6_hasCells_28 (by decide) ?_
          refine wp_goto (tgt := 33) dX6_hasCells_29 (by decide) ?_
          obtain ⟨v9, hv9, rfl⟩ := nat_yes (x := v) (m := len + 1) (by omega) (by rw [i_lt, i0] at zq14; omega) (by rw [i_lt, nI_toInt (by omega)] at zq25; omega)
          exact wp_retZ dX6_hasCells_33 rfl rfl (Nat.le_refl _) (Nat.le_refl _) (h1 i9 v9 (by rw [i_lt, nI_toInt (by omega), nI_toInt (by omega)] at zq25; omega) rfl rfl)

theorem c_isBeyond (d : Nat) {n : Nat} {t : eT} {I : eI} {R : eR} {Q : Int32 → Nat → eT → eI → eR → Prop} {len : Nat} (hlen : len ≤ 60) {i v : Int32} (h0 : ∀ i0 v0, i0 + v0 ≤ len → i = nI i0 → v = nI v0 → Q 0 n t I R) (h1 : ¬ (0 ≤ i.toInt ∧ 0 ≤ v.toInt ∧ i.toInt + v.toInt ≤ len) → Q 1 n t I R) : MC yX8_isBeyond cX8_isBeyond 4 (some .boolean) d 0 0 [.int i, .long v.toInt64, .int (nI len)] n t I R (qI Q) := by
  refine mc_intro (L0 := [.int i, .long v.toInt64, vM, .int (nI len)]) (by decide) rfl (Nat.le_of_ble_eq_true rfl) ?_
  refine wp_iload_n (i := 0) dX8_isBeyond_0 rfl rfl ?_
  refine wp_if_lt (tgt := 20) dX8_isBeyond_1 (by decide) (fun zq1 => ?_) (fun zq1 => ?_) 
  · refine wp_iconst (v := 1) dX8_isBeyond_20 (by decide) ?_
    refine wp_goto (tgt := 25) dX8_isBeyond_21 (by decide) ?_
    exact wp_retZ dX8_isBeyond_25 rfl rfl (Nat.le_refl _) (Nat.le_refl _) (h1 (fun g => by rw [i_lt, i0] at zq1; omega))
  · refine wp_lload_n (i := 1) dX8_isBeyond_4 rfl rfl ?_
    refine wp_lconst (v := 0) dX8_isBeyond_5 (by decide) ?_
    refine wp_lcmp dX8_isBeyond_6 ?_
    refine wp_if_lt (tgt := 20) dX8_isBeyond_7 (by decide) (fun zq7 => ?_) (fun zq7 => ?_) 
    · refine wp_iconst (v := 1) dX8_isBeyond_20 (by decide) ?_
      refine wp_goto (tgt := 25) dX8_isBeyond_21 (by decide) ?_
      exact wp_retZ dX8_isBeyond_25 rfl rfl (Nat.le_refl _) (Nat.le_refl _) (h1 (fun g => by rw [lg_cmp_lt, l_lt, Int32.toInt_toInt64, show (0 : Int64).toInt = 0 from rfl] at zq7; omega))
    · refine wp_iload_n (i := 0) dX8_isBeyond_10 rfl rfl ?_
      refine wp_i2l dX8_isBeyond_11 ?_
      refine wp_lload_n (i := 1) dX8_isBeyond_12 rfl rfl ?_
      refine wp_ladd dX8_isBeyond_13 ?_
      refine wp_iload_n (i := 3) dX8_isBeyond_14 rfl rfl ?_
      refine wp_i2l dX8_isBeyond_15 ?_
      refine wp_lcmp dX8_isBeyond_16 ?_
      refine wp_if_le (tgt := 24) dX8_isBeyond_17 (by decide) (fun zq17 => ?_) (fun zq17 => ?_) 
      · refine wp_iconst (v := 0) dX8_isBeyond_24 (by decide) ?_
        rw [lg_cmp_le, l_le, l_sum2, Int32.toInt_toInt64, nI_toInt (by omega)] at zq17
        rw [lg_cmp_lt, l_lt, Int32.toInt_toInt64, show (0 : Int64).toInt = 0 from rfl] at zq7
        rw [i_lt, i0] at zq1
        obtain ⟨i9, hi9, rfl⟩ := nat_yes (x := i) (m := len + 1) (by omega) (by omega) (by omega)
        obtain ⟨v9, hv9, rfl⟩ := nat_yes (x := v) (m := len + 1) (by omega) (by omega) (by omega)
        rw [nI_toInt (by omega), nI_toInt (by omega)] at zq17
        exact wp_retZ dX8_isBeyond_25 rfl rfl (Nat.le_refl _) (Nat.le_refl _) (h0 i9 v9 (by omega) rfl rfl)
      · refine wp_iconst (v := 1) dX8_isBeyond_20 (by decide) ?_
        refine wp_goto (tgt := 25) dX8_isBeyond_21 (by decide) ?_
        exact wp_retZ dX8_isBeyond_25 rfl rfl (Nat.le_refl _) (Nat.le_refl _) (h1 (fun g => by rw [lg_cmp_le, l_le, l_sum2, Int32.toInt_toInt64, nI_toInt (by omega)] at zq17; omega))

theorem c_copy (d : Nat) {n : Nat} {t : eT} {I : eI} {R : eR} {Q : Int32 → Nat → eT → eI → eR → Prop} (hst : ST n t R) (hsh : ∀ j a, j < 4 → R 53 j = some a → (t a).1 = 6 ∧ ∃ c len, R a 1 = some c ∧ t c = (9, len) ∧ len ≤ 60) {x i y k v : Int32} (h1 : ((∀ j, j < 4 → x ≠ nI j) ∨ (∀ j, j < 4 → y ≠ nI j)) → Q (-1) n t (eU I 4 9 0) R) (h2 : ∀ j o, j < 4 → o < 4 → x = nI j → y = nI o → (R 53 j = none ∨ R 53 o = none) → Q (-11) n t (eU (eU I 4 9 0) 4 9 1) R) (h3 : ∀ j o a b, j < 4 → o < 4 → x = nI j → y = nI o → R 53 j = some a → R 53 o = some b → ¬ I a 0 = I b 0 → Q (-12) n t (eU (eU I 4 9 0) 4 9 2) R) (h4 : ∀ j o a b ca cb la lb, j < 4 → o < 4 → x = nI j → y = nI o → R 53 j = some a → R 53 o = some b → R a 1 = some ca → R b 1 = some cb → t ca = (9, la) → t cb = (9, lb) → I a 0 = I b 0 → ¬ ((0 ≤ i.toInt ∧ 0 ≤ v.toInt ∧ i.toInt + v.toInt ≤ la) ∧ (0 ≤ k.toInt ∧ 0 ≤ v.toInt ∧ k.toInt + v.toInt ≤ lb)) → Q (-13) n t (eU (eU I 4 9 0) 4 9 3) R) (h5 : ∀ j o a b ca cb la lb, j < 4 → o < 4 → x = nI j → y = nI o → R 53 j = some a → R 53 o = some b → R a 1 = some ca → R b 1 = some cb → t ca = (9, la) → t cb = (9, lb) → I a 0 = I b 0 → ∀ i0 k0 v0, i0 + v0 ≤ la → k0 + v0 ≤ lb → i = nI i0 → k = nI k0 → v = nI v0 → Q v n t (eG (eU I 4 9 0) cb (va_cpy ((eU I 4 9 0) ca) ((eU I 4 9 0) cb) i0 k0 v0)) R) : MC yX7_copy cX7_copy 8 (some .int) (d + 2) 0 0 [.ref 4, .int x, .int i, .int y, .int k, .int v] n t I R (qI Q) := by
  refine mc_intro (L0 := [.ref 4, .int x, .int i, .int y, .int k, .int v, vU, vU]) (by decide) rfl (Nat.le_of_ble_eq_true rfl) ?_
  refine wp_aload_n (i := 0) dX7_copy_0 rfl rfl ?_
  refine wp_iconst (v := 0) dX7_copy_1 (by decide) ?_
  refine wp_putI dX7_copy_2 fl_X7_62 rfl (Or.inl rfl) (st_k hst rfl) ?_
  refine wp_iload_n (i := 1) dX7_copy_5 rfl rfl ?_
  refine wp_iconst (v := 0) dX7_copy_6 (by decide) ?_
  refine wp_iconst (v := 3) dX7_copy_7 (by decide) ?_
  refine wp_S3i dX7_copy_8 mw_267 mw_268 mi_X7_isWithin (Nat.le_of_ble_eq_true rfl) (Nat.le_refl _) (Nat.le_refl _) (c_isWithin _ (a := 0) (b := 3) rfl rfl (fun ga8 gb8 => ?_) (fun gn8 => ?_)) 
  · skip
    refine wp_if_eq1 (tgt := 23) dX7_copy_11 (by decide) ?_
    refine wp_iload_n (i := 3) dX7_copy_14 rfl rfl ?_
    refine wp_iconst (v := 0) dX7_copy_15 (by decide) ?_
    refine wp_iconst (v := 3) dX7_copy_16 (by decide) ?_
    refine wp_S3i dX7_copy_17 mw_267 mw_268 mi_X7_isWithin (Nat.le_of_ble_eq_true rfl) (Nat.le_refl _) (Nat.le_refl _) (c_isWithin _ (a := 0) (b := 3) rfl rfl (fun ga17 gb17 => ?_) (fun gn17 => ?_)) 
    · skip
      refine wp_if_ne1 (tgt := 25) dX7_copy_20 (by decide) ?_
      obtain ⟨j, hj, ej⟩ := nat_yes (x := x) (m := 4) (by omega) ga8 (by omega)
      subst ej
      obtain ⟨o, ho, eo⟩ := nat_yes (x := y) (m := 4) (by omega) ga17 (by omega)
      subst eo
      refine wp_aload_n (i := 0) dX7_copy_25 rfl rfl ?_
      refine wp_getR dX7_copy_26 fl_X7_55 rfl (st_k hst rfl) (st_r hst rfl) ?_
      refine wp_iload_n (i := 1) dX7_copy_29 rfl rfl ?_
      rcases hr30 : R 53 j with _ | ra30
      · refine wp_rld12N (j := j) dX7_copy_30 (st_t hst rfl) rfl (by omega) hr30 ?_
        refine wp_astoreN_8_6 dX7_copy_31 rfl ?_
        refine wp_aload_n (i := 0) dX7_copy_33 rfl rfl ?_
        refine wp_getR dX7_copy_34 fl_X7_55 rfl (st_k hst rfl) (st_r hst rfl) ?_
        refine wp_iload_n (i := 3) dX7_copy_37 rfl rfl ?_
        rcases hr38 : R 53 o with _ | ra38
        · refine wp_rld12N (j := o) dX7_copy_38 (st_t hst rfl) rfl (by omega) hr38 ?_
          refine wp_astoreN_8_7 dX7_copy_39 rfl ?_
          refine wp_aloadN dX7_copy_41 rfl ?_
          refine wp_ifnullN (tgt := 51) dX7_copy_43 (by decide) ?_
          refine wp_aload_n (i := 0) dX7_copy_51 rfl rfl ?_
          refine wp_iconst (v := 1) dX7_copy_52 (by decide) ?_
          refine wp_V1i dX7_copy_53 mw_270 mw_272 ms_0 mi_X7_faulted (Nat.le_of_ble_eq_true rfl) (Nat.le_refl _) (Nat.le_refl _) (st_k hst rfl) (by decide) rfl (c_faulted _ hst (r := -11) (by decide) ?_) 
          exact wp_retI dX7_copy_56 rfl (Nat.le_refl _) (Nat.le_refl _) (h2 j o hj ho rfl rfl (Or.inl hr30))
        · refine wp_rld12 (j := o) dX7_copy_38 (st_t hst rfl) rfl (by omega) hr38 ?_
          refine wp_astore_8_7 dX7_copy_39 rfl ?_
          refine wp_aloadN dX7_copy_41 rfl ?_
          refine wp_ifnullN (tgt := 51) dX7_copy_43 (by decide) ?_
          refine wp_aload_n (i := 0) dX7_copy_51 rfl rfl ?_
          refine wp_iconst (v := 1) dX7_copy_52 (by decide) ?_
          refine wp_V1i dX7_copy_53 mw_270 mw_272 ms_0 mi_X7_faulted (Nat.le_of_ble_eq_true rfl) (Nat.le_refl _) (Nat.le_refl _) (st_k hst rfl) (by decide) rfl (c_faulted _ hst (r := -11) (by decide) ?_) 
          exact wp_retI dX7_copy_56 rfl (Nat.le_refl _) (Nat.le_refl _) (h2 j o hj ho rfl rfl (Or.inl hr30))
      · refine wp_rld12 (j := j) dX7_copy_30 (st_t hst rfl) rfl (by omega) hr30 ?_
        refine wp_astore_8_6 dX7_copy_31 rfl ?_
        refine wp_aload_n (i := 0) dX7_copy_33 rfl rfl ?_
        refine wp_getR dX7_copy_34 fl_X7_55 rfl (st_k hst rfl) (st_r hst rfl) ?_
        refine wp_iload_n (i := 3) dX7_copy_37 rfl rfl ?_
        rcases hr38 : R 53 o with _ | ra38
        · refine wp_rld12N (j := o) dX7_copy_38 (st_t hst rfl) rfl (by omega) hr38 ?_
          refine wp_astoreN_8_7 dX7_copy_39 rfl ?_
          refine wp_aload dX7_copy_41 rfl ?_
          refine wp_ifnull dX7_copy_43 ?_
          refine wp_aloadN dX7_copy_46 rfl ?_
          refine wp_ifnonnullN dX7_copy_48 ?_
          refine wp_aload_n (i := 0) dX7_copy_51 rfl rfl ?_
          refine wp_iconst (v := 1) dX7_copy_52 (by decide) ?_
          refine wp_V1i dX7_copy_53 mw_270 mw_272 ms_0 mi_X7_faulted (Nat.le_of_ble_eq_true rfl) (Nat.le_refl _) (Nat.le_refl _) (st_k hst rfl) (by decide) rfl (c_faulted _ hst (r := -11) (by decide) ?_) 
          exact wp_retI dX7_copy_56 rfl (Nat.le_refl _) (Nat.le_refl _) (h2 j o hj ho rfl rfl (Or.inr hr38))
        · refine wp_rld12 (j := o) dX7_copy_38 (st_t hst rfl) rfl (by omega) hr38 ?_
          refine wp_astore_8_7 dX7_copy_39 rfl ?_
          refine wp_aload dX7_copy_41 rfl ?_
          refine wp_ifnull dX7_copy_43 ?_
          refine wp_aload dX7_copy_46 rfl ?_
          refine wp_ifnonnull (tgt := 57) dX7_copy_48 (by decide) ?_
          obtain ⟨hta, ca, la, hrca, htca, hla⟩ := hsh j ra30 hj hr30
          obtain ⟨htb, cb, lb, hrcb, htcb, hlb⟩ := hsh o ra38 ho hr38
          have haw : (t 4).1 = 7 := st_k hst rfl
          have hane : ra30 ≠ 4 := fun g => by rw [g] at hta; omega
          have hbne : ra38 ≠ 4 := fun g => by rw [g] at htb; omega
          refine wp_aload dX7_copy_57 rfl ?_
          refine wp_getI dX7_copy_59 fl_X7_74 rfl hta ?_
          refine wp_aload dX7_copy_62 rfl ?_
          refine wp_getI dX7_copy_64 fl_X7_74 rfl htb ?_
          rw [eU_o hane, eU_o hbne]
          refine wp_icmp_eq (tgt := 76) dX7_copy_67 (by decide) (fun zq67 => ?_) (fun zq67 => ?_) 
          · refine wp_aload dX7_copy_76 rfl ?_
            refine wp_iload_n (i := 2) dX7_copy_78 rfl rfl ?_
            refine wp_iload dX7_copy_79 rfl ?_
            refine wp_V2i dX7_copy_81 mw_274 mw_275 mw_276 mi_X6_hasCells (Nat.le_of_ble_eq_true rfl) (Nat.le_refl _) (Nat.le_refl _) hta (by decide) rfl (c_hasCells _ hta hrca htca hla (fun i9 v9 hiv ei ev => ?_) (fun gno => ?_)) 
            · skip
              refine wp_if_eq1 (tgt := 99) dX7_copy_84 (by decide) ?_
              refine wp_aload dX7_copy_87 rfl ?_
              refine wp_iload dX7_copy_89 rfl ?_
              refine wp_iload dX7_copy_91 rfl ?_
              refine wp_V2i dX7_copy_93 mw_274 mw_275 mw_276 mi_X6_hasCells (Nat.le_of_ble_eq_true rfl) (Nat.le_refl _) (Nat.le_refl _) htb (by decide) rfl (c_hasCells _ htb hrcb htcb hlb (fun k9 w9 hkw ek ew => ?_) (fun gno2 => ?_)) 
              · skip
                refine wp_if_ne1 (tgt := 105) dX7_copy_96 (by decide) ?_
                subst ei; subst ek; subst ev
                have evw : v9 = w9 := (nI_eq (by omega) (by omega)).mp ew
                subst evw
                refine wp_aload dX7_copy_105 rfl ?_
                refine wp_getR dX7_copy_107 fl_X7_81 rfl hta hrca ?_
                refine wp_iload_n (i := 2) dX7_copy_110 rfl rfl ?_
                refine wp_aload dX7_copy_111 rfl ?_
                refine wp_getR dX7_copy_113 fl_X7_81 rfl htb hrcb ?_
                refine wp_iload dX7_copy_116 rfl ?_
                refine wp_iload dX7_copy_118 rfl ?_
                refine wp_copy dX7_copy_120 mw_693 (by rw [htca]) (by rw [htcb]) (nI_pos (by omega)) (nI_pos (by omega)) (nI_pos (by omega)) (by rw [htca, nI_clamp (by omega), nI_clamp (by omega)]; exact hiv) (by rw [htcb, nI_clamp (by omega), nI_clamp (by omega)]; exact hkw) (Nat.le_of_ble_eq_true rfl) ?_
                rw [nI_clamp (show i9 < 2 ^ 31 by omega), nI_clamp (show k9 < 2 ^ 31 by omega), nI_clamp (show v9 < 2 ^ 31 by omega)]
                refine wp_iload dX7_copy_123 rfl ?_
                exact wp_retI dX7_copy_125 rfl (Nat.le_refl _) (Nat.le_refl _) (h5 j o ra30 ra38 ca cb la lb hj ho rfl rfl hr30 hr38 hrca hrcb htca htcb zq67 i9 k9 v9 hiv hkw rfl rfl rfl)
              · skip
                refine wp_if_ne0 (tgt := 105) dX7_copy_96 (by decide) ?_
                refine wp_aload_n (i := 0) dX7_copy_99 rfl rfl ?_
                refine wp_iconst (v := 3) dX7_copy_100 (by decide) ?_
                refine wp_V1i dX7_copy_101 mw_270 mw_272 ms_0 mi_X7_faulted (Nat.le_of_ble_eq_true rfl) (Nat.le_refl _) (Nat.le_refl _) (st_k hst rfl) (by decide) rfl (c_faulted _ hst (r := -13) (by decide) ?_) 
                exact wp_retI dX7_copy_104 rfl (Nat.le_refl _) (Nat.le_refl _) (by first | exact h4 j o ra30 ra38 ca cb la lb hj ho rfl rfl hr30 hr38 hrca hrcb htca htcb zq67 (fun g => gno g.1) | exact h4 j o ra30 ra38 ca cb la lb hj ho rfl rfl hr30 hr38 hrca hrcb htca htcb zq67 (fun g => gno2 g.2))
            · skip
              refine wp_if_eq0 (tgt := 99) dX7_copy_84 (by decide) ?_
              refine wp_aload_n (i := 0) dX7_copy_99 rfl rfl ?_
              refine wp_iconst (v := 3) dX7_copy_100 (by decide) ?_
              refine wp_V1i dX7_copy_101 mw_270 mw_272 ms_0 mi_X7_faulted (Nat.le_of_ble_eq_true rfl) (Nat.le_refl _) (Nat.le_refl _) (st_k hst rfl) (by decide) rfl (c_faulted _ hst (r := -13) (by decide) ?_) 
              exact wp_retI dX7_copy_104 rfl (Nat.le_refl _) (Nat.le_refl _) (by first | exact h4 j o ra30 ra38 ca cb la lb hj ho rfl rfl hr30 hr38 hrca hrcb htca htcb zq67 (fun g => gno g.1) | exact h4 j o ra30 ra38 ca cb la lb hj ho rfl rfl hr30 hr38 hrca hrcb htca htcb zq67 (fun g => gno2 g.2))
          · refine wp_aload_n (i := 0) dX7_copy_70 rfl rfl ?_
            refine wp_iconst (v := 2) dX7_copy_71 (by decide) ?_
            refine wp_V1i dX7_copy_72 mw_270 mw_272 ms_0 mi_X7_faulted (Nat.le_of_ble_eq_true rfl) (Nat.le_refl _) (Nat.le_refl _) (st_k hst rfl) (by decide) rfl (c_faulted _ hst (r := -12) (by decide) ?_) 
            exact wp_retI dX7_copy_75 rfl (Nat.le_refl _) (Nat.le_refl _) (h3 j o ra30 ra38 hj ho rfl rfl hr30 hr38 zq67)
    · skip
      refine wp_if_ne0 (tgt := 25) dX7_copy_20 (by decide) ?_
      refine wp_iconst (v := (-1)) dX7_copy_23 (by decide) ?_
      exact wp_retI dX7_copy_24 rfl (Nat.le_refl _) (Nat.le_refl _) (h1 (Or.inr (nat_no (m := 4) (by omega) (by omega))))
  · skip
    refine wp_if_eq0 (tgt := 23) dX7_copy_11 (by decide) ?_
    refine wp_iconst (v := (-1)) dX7_copy_23 (by decide) ?_
    exact wp_retI dX7_copy_24 rfl (Nat.le_refl _) (Nat.le_refl _) (h1 (Or.inl (nat_no (m := 4) (by omega) (by omega))))

theorem eG_st {I : eI} {a p : Nat} {v : Int32} {f g : Nat → Int32} (h : ∀ y, f y = g y) : eG (eU I a p v) a f = eG I a g := by
  funext x y
  by_cases hx : x = a
  · subst hx; rw [eG_eq, eG_eq]; exact h y
  · rw [eG_ne hx, eG_ne hx, eU_ne hx]
theorem eG_id {I : eI} {a : Nat} {f : Nat → Int32} (h : ∀ y, f y = I a y) : eG I a f = I := by
  funext x y
  by_cases hx : x = a
  · subst hx; rw [eG_eq]; exact h y
  · rw [eG_ne hx]

theorem lp_c1 (d : Nat) {n : Nat} {t : eT} {R : eR} {Q : eQt} (hst : ST n t R) {j oo i0 k0 v0 la lb : Nat} (hj : j < 4) (ho : oo < 4) (hla : la ≤ 60) (hlb : lb ≤ 60) (hi : i0 + v0 ≤ la) (hk : k0 + v0 ≤ lb) : ∀ (r x : Nat) (I : eI), x + r = v0 → wp yX8_copy cX8_copy 7 (some .int) d 0 0 Q 0 0 141 [.ref 94, .int (nI j), .int (nI i0), .int (nI oo), .int (nI k0), .int (nI v0), .int (nI v0)] [] n t (eG I 127 (fun y => if x ≤ y ∧ y < v0 then I 126 (60 * j + i0 + y) else I 127 y)) R → wp yX8_copy cX8_copy 7 (some .int) d 0 0 Q 0 0 107 [.ref 94, .int (nI j), .int (nI i0), .int (nI oo), .int (nI k0), .int (nI v0), .int (nI x)] [] n t I R := by
  intro r
  induction r with
  | zero =>
    intro x I hx hq
    obtain rfl : x = v0 := by omega
    have e0 : (eG I 127 (fun y => if x ≤ y ∧ y < x then I 126 (60 * j + i0 + y) else I 127 y)) = I := eG_id (fun y => if_neg (by omega))
    rw [e0] at hq
    refine wp_iload dX8_copy_107 rfl ?_
    refine wp_iload dX8_copy_109 rfl ?_
    refine wp_icmp_ge (tgt := 141) dX8_copy_111 (by decide) (fun zq111 => ?_) (fun zq111 => absurd (nI_le (Nat.le_refl _) (by omega)) zq111) 
    exact hq
  | succ r ih =>
    intro x I hx hq
    refine wp_iload dX8_copy_107 rfl ?_
    refine wp_iload dX8_copy_109 rfl ?_
    refine wp_icmp_ge (tgt := 141) dX8_copy_111 (by decide) (fun zq111 => absurd zq111 (nI_ge (show x < v0 by omega) (by omega))) (fun zq111 => ?_) 
    refine wp_aload_n (i := 0) dX8_copy_114 rfl rfl ?_
    refine wp_getR dX8_copy_115 fl_X8_107 rfl (st_k hst rfl) (st_r hst rfl) ?_
    refine wp_iload dX8_copy_118 rfl ?_
    refine wp_aload_n (i := 0) dX8_copy_120 rfl rfl ?_
    refine wp_getR dX8_copy_121 fl_X8_104 rfl (st_k hst rfl) (st_r hst rfl) ?_
    refine wp_bipush (v := 60) dX8_copy_124 (by decide) ?_
    refine wp_iload_n (i := 1) dX8_copy_126 rfl rfl ?_
    refine wp_imul dX8_copy_127 ?_
    refine wp_iload_n (i := 2) dX8_copy_128 rfl rfl ?_
    refine wp_iadd dX8_copy_129 ?_
    refine wp_iload dX8_copy_130 rfl ?_
    refine wp_iadd dX8_copy_132 ?_
    refine wp_ild (j := (((60 * j) + i0) + x)) dX8_copy_133 (st_t hst rfl) (n_add (n_add (n_mul rfl rfl) rfl) rfl) (by omega) ?_
    refine wp_ist (j := x) dX8_copy_134 (st_t hst rfl) rfl (by omega) ?_
    refine wp_iinc_7_6 (v := nI (x + 1)) dX8_copy_135 (n_add rfl rfl) ?_
    refine wp_goto (tgt := 107) dX8_copy_138 (by decide) ?_
    refine ih (x + 1) _ (by omega) ?_
    have e9 : (eG (eU I 127 x (I 126 (60 * j + i0 + x))) 127 (fun y => if x + 1 ≤ y ∧ y < v0 then (eU I 127 x (I 126 (60 * j + i0 + x))) 126 (60 * j + i0 + y) else (eU I 127 x (I 126 (60 * j + i0 + x))) 127 y)) = (eG I 127 (fun y => if x ≤ y ∧ y < v0 then I 126 (60 * j + i0 + y) else I 127 y)) := eG_st (fun y => by
      by_cases h1 : y = x
      · subst h1
        rw [if_neg (by omega), if_pos (by omega), eU_at]
      · by_cases h2 : x + 1 ≤ y ∧ y < v0
        · rw [if_pos h2, if_pos (by omega), eU_o (show (126 : Nat) ≠ 127 by decide)]
        · rw [if_neg h2, if_neg (by omega), eU_c h1])
    rw [e9]
    exact hq

theorem lp_c2 (d : Nat) {n : Nat} {t : eT} {R : eR} {Q : eQt} (hst : ST n t R) {j oo i0 k0 v0 la lb : Nat} (hj : j < 4) (ho : oo < 4) (hla : la ≤ 60) (hlb : lb ≤ 60) (hi : i0 + v0 ≤ la) (hk : k0 + v0 ≤ lb) : ∀ (r x : Nat) (I : eI), x + r = v0 → wp yX8_copy cX8_copy 7 (some .int) d 0 0 Q 0 0 179 [.ref 94, .int (nI j), .int (nI i0), .int (nI oo), .int (nI k0), .int (nI v0), .int (nI v0)] [] n t (eG I 126 (fun y => if 60 * oo + k0 + x ≤ y ∧ y < 60 * oo + k0 + v0 then I 127 (y - (60 * oo + k0)) else I 126 y)) R → wp yX8_copy cX8_copy 7 (some .int) d 0 0 Q 0 0 144 [.ref 94, .int (nI j), .int (nI i0), .int (nI oo), .int (nI k0), .int (nI v0), .int (nI x)] [] n t I R := by
  intro r
  induction r with
  | zero =>
    intro x I hx hq
    obtain rfl : x = v0 := by omega
    have e0 : (eG I 126 (fun y => if 60 * oo + k0 + x ≤ y ∧ y < 60 * oo + k0 + x then I 127 (y - (60 * oo + k0)) else I 126 y)) = I := eG_id (fun y => if_neg (by omega))
    rw [e0] at hq
    refine wp_iload dX8_copy_144 rfl ?_
    refine wp_iload dX8_copy_146 rfl ?_
    refine wp_icmp_ge (tgt := 179) dX8_copy_148 (by decide) (fun zq148 => ?_) (fun zq148 => absurd (nI_le (Nat.le_refl _) (by omega)) zq148) 
    exact hq
  | succ r ih =>
    intro x I hx hq
    refine wp_iload dX8_copy_144 rfl ?_
    refine wp_iload dX8_copy_146 rfl ?_
    refine wp_icmp_ge (tgt := 179) dX8_copy_148 (by decide) (fun zq148 => absurd zq148 (nI_ge (show x < v0 by omega) (by omega))) (fun zq148 => ?_) 
    refine wp_aload_n (i := 0) dX8_copy_151 rfl rfl ?_
    refine wp_getR dX8_copy_152 fl_X8_104 rfl (st_k hst rfl) (st_r hst rfl) ?_
    refine wp_bipush (v := 60) dX8_copy_155 (by decide) ?_
    refine wp_iload_n (i := 3) dX8_copy_157 rfl rfl ?_
    refine wp_imul dX8_copy_158 ?_
    refine wp_iload dX8_copy_159 rfl ?_
    refine wp_iadd dX8_copy_161 ?_
    refine wp_iload dX8_copy_162 rfl ?_
    refine wp_iadd dX8_copy_164 ?_
    refine wp_aload_n (i := 0) dX8_copy_165 rfl rfl ?_
    refine wp_getR dX8_copy_166 fl_X8_107 rfl (st_k hst rfl) (st_r hst rfl) ?_
    refine wp_iload dX8_copy_169 rfl ?_
    refine wp_ild (j := x) dX8_copy_171 (st_t hst rfl) rfl (by omega) ?_
    refine wp_ist (j := (((60 * oo) + k0) + x)) dX8_copy_172 (st_t hst rfl) (n_add (n_add (n_mul rfl rfl) rfl) rfl) (by omega) ?_
    refine wp_iinc_7_6 (v := nI (x + 1)) dX8_copy_173 (n_add rfl rfl) ?_
    refine wp_goto (tgt := 144) dX8_copy_176 (by decide) ?_
    refine ih (x + 1) _ (by omega) ?_
    have e9 : (eG (eU I 126 (60 * oo + k0 + x) (I 127 x)) 126 (fun y => if 60 * oo + k0 + (x + 1) ≤ y ∧ y < 60 * oo + k0 + v0 then (eU I 126 (60 * oo + k0 + x) (I 127 x)) 127 (y - (60 * oo + k0)) else (eU I 126 (60 * oo + k0 + x) (I 127 x)) 126 y)) = (eG I 126 (fun y => if 60 * oo + k0 + x ≤ y ∧ y < 60 * oo + k0 + v0 then I 127 (y - (60 * oo + k0)) else I 126 y)) := eG_st (fun y => by
      by_cases h1 : y = 60 * oo + k0 + x
      · subst h1
        rw [if_neg (by omega), if_pos (by omega), eU_at, show 60 * oo + k0 + x - (60 * oo + k0) = x by omega]
      · by_cases h2 : 60 * oo + k0 + (x + 1) ≤ y ∧ y < 60 * oo + k0 + v0
        · rw [if_pos h2, if_pos (by omega), eU_o (show (127 : Nat) ≠ 126 by decide)]
        · rw [if_neg h2, if_neg (by omega), eU_c h1])
    rw [e9]
    exact hq

theorem c_copyM (d : Nat) {n : Nat} {t : eT} {I : eI} {R : eR} {Q : Int32 → Nat → eT → eI → eR → Prop} (hst : ST n t R) (hsz : ∀ j, j < 4 → I 124 j < 0 ∨ ∃ len, len ≤ 60 ∧ I 124 j = nI len) {x i y k v : Int32} (h1 : ((∀ j, j < 4 → x ≠ nI j) ∨ (∀ j, j < 4 → y ≠ nI j)) → Q (-1) n t (eU I 94 0 0) R) (h2 : ∀ j oo, j < 4 → oo < 4 → x = nI j → y = nI oo → (I 124 j < 0 ∨ I 124 oo < 0) → Q (-11) n t (eU I 94 0 1) R) (h3 : ∀ j oo la lb, j < 4 → oo < 4 → x = nI j → y = nI oo → la ≤ 60 → lb ≤ 60 → I 124 j = nI la → I 124 oo = nI lb → ¬ I 125 j = I 125 oo → Q (-12) n t (eU I 94 0 2) R) (h4 : ∀ j oo la lb, j < 4 → oo < 4 → x = nI j → y = nI oo → la ≤ 60 → lb ≤ 60 → I 124 j = nI la → I 124 oo = nI lb → I 125 j = I 125 oo → ¬ ((0 ≤ i.toInt ∧ 0 ≤ v.toInt ∧ i.toInt + v.toInt ≤ la) ∧ (0 ≤ k.toInt ∧ 0 ≤ v.toInt ∧ k.toInt + v.toInt ≤ lb)) → Q (-13) n t (eU I 94 0 3) R) (h5 : ∀ j oo la lb, j < 4 → oo < 4 → x = nI j → y = nI oo → la ≤ 60 → lb ≤ 60 → I 124 j = nI la → I 124 oo = nI lb → I 125 j = I 125 oo → ∀ i0 k0 v0, i0 + v0 ≤ la → k0 + v0 ≤ lb → i = nI i0 → k = nI k0 → v = nI v0 → Q v n t (eU (eG (eG I 127 (fun y => if 0 ≤ y ∧ y < v0 then I 126 (60 * j + i0 + y) else I 127 y)) 126 (fun y => if 60 * oo + k0 + 0 ≤ y ∧ y < 60 * oo + k0 + v0 then (eG I 127 (fun y => if 0 ≤ y ∧ y < v0 then I 126 (60 * j + i0 + y) else I 127 y)) 127 (y - (60 * oo + k0)) else (eG I 127 (fun y => if 0 ≤ y ∧ y < v0 then I 126 (60 * j + i0 + y) else I 127 y)) 126 y)) 94 0 0) R) : MC yX8_copy cX8_copy 7 (some .int) (d + 2) 0 0 [.ref 94, .int x, .int i, .int y, .int k, .int v] n t I R (qI Q) := by
  refine mc_intro (L0 := [.ref 94, .int x, .int i, .int y, .int k, .int v, vU]) (by decide) rfl (Nat.le_of_ble_eq_true rfl) ?_
  refine wp_iload_n (i := 1) dX8_copy_0 rfl rfl ?_
  refine wp_S1i dX8_copy_1 mw_883 mw_884 mi_X8_noSheet (Nat.le_of_ble_eq_true rfl) (Nat.le_refl _) (Nat.le_refl _) (c_noSheet _ (fun j hj ej => ?_) (fun no => ?_)) 
  · subst ej
    refine wp_if_ne0 (tgt := 14) dX8_copy_4 (by decide) ?_
    refine wp_iload_n (i := 3) dX8_copy_7 rfl rfl ?_
    refine wp_S1i dX8_copy_8 mw_883 mw_884 mi_X8_noSheet (Nat.le_of_ble_eq_true rfl) (Nat.le_refl _) (Nat.le_refl _) (c_noSheet _ (fun oo ho eo => ?_) (fun no2 => ?_)) 
    · subst eo
      refine wp_if_eq0 (tgt := 20) dX8_copy_11 (by decide) ?_
      refine wp_aload_n (i := 0) dX8_copy_20 rfl rfl ?_
      refine wp_getR dX8_copy_21 fl_X8_98 rfl (st_k hst rfl) (st_r hst rfl) ?_
      refine wp_iload_n (i := 1) dX8_copy_24 rfl rfl ?_
      refine wp_ild dX8_copy_25 (st_t hst rfl) rfl (by omega) ?_
      refine wp_if_lt (tgt := 38) dX8_copy_26 (by decide) (fun zq26 => ?_) (fun zq26 => ?_) 
      · refine wp_aload_n (i := 0) dX8_copy_38 rfl rfl ?_
        refine wp_iconst (v := 1) dX8_copy_39 (by decide) ?_
        refine wp_V1i dX8_copy_40 mw_899 mw_901 ms_29 mi_X8_failed (Nat.le_of_ble_eq_true rfl) (Nat.le_refl _) (Nat.le_refl _) (st_k hst rfl) (by decide) rfl (c_failed _ hst (r := -11) (by decide) ?_) 
        exact wp_retI dX8_copy_43 rfl (Nat.le_refl _) (Nat.le_refl _) (h2 j oo hj ho rfl rfl (Or.inl zq26))
      · refine wp_aload_n (i := 0) dX8_copy_29 rfl rfl ?_
        refine wp_getR dX8_copy_30 fl_X8_98 rfl (st_k hst rfl) (st_r hst rfl) ?_
        refine wp_iload_n (i := 3) dX8_copy_33 rfl rfl ?_
        refine wp_ild dX8_copy_34 (st_t hst rfl) rfl (by omega) ?_
        refine wp_if_ge (tgt := 44) dX8_copy_35 (by decide) (fun zq35 => ?_) (fun zq35 => ?_) 
        · obtain ⟨la, hla, ela⟩ := (hsz j hj).resolve_left zq26
          obtain ⟨lb, hlb, elb⟩ := (hsz oo ho).resolve_left (Int32.not_lt.mpr zq35)
          refine wp_aload_n (i := 0) dX8_copy_44 rfl rfl ?_
          refine wp_getR dX8_copy_45 fl_X8_101 rfl (st_k hst rfl) (st_r hst rfl) ?_
          refine wp_iload_n (i := 1) dX8_copy_48 rfl rfl ?_
          refine wp_ild dX8_copy_49 (st_t hst rfl) rfl (by omega) ?_
          refine wp_aload_n (i := 0) dX8_copy_50 rfl rfl ?_
          refine wp_getR dX8_copy_51 fl_X8_101 rfl (st_k hst rfl) (st_r hst rfl) ?_
          refine wp_iload_n (i := 3) dX8_copy_54 rfl rfl ?_
          refine wp_ild dX8_copy_55 (st_t hst rfl) rfl (by omega) ?_
          refine wp_icmp_eq (tgt := 65) dX8_copy_56 (by decide) (fun zq56 => ?_) (fun zq56 => ?_) 
          · refine wp_iload_n (i := 2) dX8_copy_65 rfl rfl ?_
            refine wp_iload dX8_copy_66 rfl ?_
            refine wp_i2l dX8_copy_68 ?_
            refine wp_aload_n (i := 0) dX8_copy_69 rfl rfl ?_
            refine wp_getR dX8_copy_70 fl_X8_98 rfl (st_k hst rfl) (st_r hst rfl) ?_
            refine wp_iload_n (i := 1) dX8_copy_73 rfl rfl ?_
            refine wp_ild dX8_copy_74 (st_t hst rfl) rfl (by omega) ?_
            rw [ela]
            refine wp_S3i dX8_copy_75 mw_903 mw_904 mi_X8_isBeyond (Nat.le_of_ble_eq_true rfl) (Nat.le_refl _) (Nat.le_refl _) (c_isBeyond _ hla (fun i0 v0 hiv ei ev => ?_) (fun gno => ?_)) 
            · subst ei; subst ev
              refine wp_if_ne0 (tgt := 98) dX8_copy_78 (by decide) ?_
              refine wp_iload dX8_copy_81 rfl ?_
              refine wp_iload dX8_copy_83 rfl ?_
              refine wp_i2l dX8_copy_85 ?_
              refine wp_aload_n (i := 0) dX8_copy_86 rfl rfl ?_
              refine wp_getR dX8_copy_87 fl_X8_98 rfl (st_k hst rfl) (st_r hst rfl) ?_
              refine wp_iload_n (i := 3) dX8_copy_90 rfl rfl ?_
              refine wp_ild dX8_copy_91 (st_t hst rfl) rfl (by omega) ?_
              rw [elb]
              refine wp_S3i dX8_copy_92 mw_903 mw_904 mi_X8_isBeyond (Nat.le_of_ble_eq_true rfl) (Nat.le_refl _) (Nat.le_refl _) (c_isBeyond _ hlb (fun k0 w0 hkw ek ew => ?_) (fun gno2 => ?_)) 
              · subst ek
                have evw : v0 = w0 := (nI_eq (by omega) (by omega)).mp ew
                subst evw
                refine wp_if_eq0 (tgt := 104) dX8_copy_95 (by decide) ?_
                refine wp_iconst (v := 0) dX8_copy_104 (by decide) ?_
                refine wp_istore_7_6 dX8_copy_105 rfl ?_
                refine lp_c1 _ hst hj ho hla hlb hiv hkw v0 0 _ (by omega) ?_
                refine wp_iconst (v := 0) dX8_copy_141 (by decide) ?_
                refine wp_istore_7_6 dX8_copy_142 rfl ?_
                refine lp_c2 _ hst hj ho hla hlb hiv hkw v0 0 _ (by omega) ?_
                refine wp_aload_n (i := 0) dX8_copy_179 rfl rfl ?_
                refine wp_iload dX8_copy_180 rfl ?_
                refine wp_V1i dX8_copy_182 mw_890 mw_892 ms_27 mi_X8_refused (Nat.le_of_ble_eq_true rfl) (Nat.le_refl _) (Nat.le_refl _) (st_k hst rfl) (by decide) rfl (c_refused _ hst ?_) 
                exact wp_retI dX8_copy_185 rfl (Nat.le_refl _) (Nat.le_refl _) (h5 j oo la lb hj ho rfl rfl hla hlb ela elb zq56 i0 k0 v0 hiv hkw rfl rfl rfl)
              · skip
                refine wp_if_eq1 (tgt := 104) dX8_copy_95 (by decide) ?_
                refine wp_aload_n (i := 0) dX8_copy_98 rfl rfl ?_
                refine wp_iconst (v := 3) dX8_copy_99 (by decide) ?_
                refine wp_V1i dX8_copy_100 mw_899 mw_901 ms_29 mi_X8_failed (Nat.le_of_ble_eq_true rfl) (Nat.le_refl _) (Nat.le_refl _) (st_k hst rfl) (by decide) rfl (c_failed _ hst (r := -13) (by decide) ?_) 
                exact wp_retI dX8_copy_103 rfl (Nat.le_refl _) (Nat.le_refl _) (h4 j oo la lb hj ho rfl rfl hla hlb ela elb zq56 (fun g => gno2 g.2))
            · skip
              refine wp_if_ne1 (tgt := 98) dX8_copy_78 (by decide) ?_
              refine wp_aload_n (i := 0) dX8_copy_98 rfl rfl ?_
              refine wp_iconst (v := 3) dX8_copy_99 (by decide) ?_
              refine wp_V1i dX8_copy_100 mw_899 mw_901 ms_29 mi_X8_failed (Nat.le_of_ble_eq_true rfl) (Nat.le_refl _) (Nat.le_refl _) (st_k hst rfl) (by decide) rfl (c_failed _ hst (r := -13) (by decide) ?_) 
              exact wp_retI dX8_copy_103 rfl (Nat.le_refl _) (Nat.le_refl _) (h4 j oo la lb hj ho rfl rfl hla hlb ela elb zq56 (fun g => gno g.1))
          · refine wp_aload_n (i := 0) dX8_copy_59 rfl rfl ?_
            refine wp_iconst (v := 2) dX8_copy_60 (by decide) ?_
            refine wp_V1i dX8_copy_61 mw_899 mw_901 ms_29 mi_X8_failed (Nat.le_of_ble_eq_true rfl) (Nat.le_refl _) (Nat.le_refl _) (st_k hst rfl) (by decide) rfl (c_failed _ hst (r := -12) (by decide) ?_) 
            exact wp_retI dX8_copy_64 rfl (Nat.le_refl _) (Nat.le_refl _) (h3 j oo la lb hj ho rfl rfl hla hlb ela elb zq56)
        · refine wp_aload_n (i := 0) dX8_copy_38 rfl rfl ?_
          refine wp_iconst (v := 1) dX8_copy_39 (by decide) ?_
          refine wp_V1i dX8_copy_40 mw_899 mw_901 ms_29 mi_X8_failed (Nat.le_of_ble_eq_true rfl) (Nat.le_refl _) (Nat.le_refl _) (st_k hst rfl) (by decide) rfl (c_failed _ hst (r := -11) (by decide) ?_) 
          exact wp_retI dX8_copy_43 rfl (Nat.le_refl _) (Nat.le_refl _) (h2 j oo hj ho rfl rfl (Or.inr (Int32.not_le.mp zq35)))
    · skip
      refine wp_if_eq1 (tgt := 20) dX8_copy_11 (by decide) ?_
      refine wp_aload_n (i := 0) dX8_copy_14 rfl rfl ?_
      refine wp_iconst (v := (-1)) dX8_copy_15 (by decide) ?_
      refine wp_V1i dX8_copy_16 mw_890 mw_892 ms_27 mi_X8_refused (Nat.le_of_ble_eq_true rfl) (Nat.le_refl _) (Nat.le_refl _) (st_k hst rfl) (by decide) rfl (c_refused _ hst ?_) 
      exact wp_retI dX8_copy_19 rfl (Nat.le_refl _) (Nat.le_refl _) (h1 (Or.inr no2))
  · skip
    refine wp_if_ne1 (tgt := 14) dX8_copy_4 (by decide) ?_
    refine wp_aload_n (i := 0) dX8_copy_14 rfl rfl ?_
    refine wp_iconst (v := (-1)) dX8_copy_15 (by decide) ?_
    refine wp_V1i dX8_copy_16 mw_890 mw_892 ms_27 mi_X8_refused (Nat.le_of_ble_eq_true rfl) (Nat.le_refl _) (Nat.le_refl _) (st_k hst rfl) (by decide) rfl (c_refused _ hst ?_) 
    exact wp_retI dX8_copy_19 rfl (Nat.le_refl _) (Nat.le_refl _) (h1 (Or.inl no))

