theorem c_hasLeave (d : Nat) {n : Nat} {t : eT} {I : eI} {R : eR} {Q : Int32 → Nat → eT → eI → eR → Prop} (hst : ST n t R) {a b e : Nat} (ha : a < 4) (hb : b < 4) (he : e < 2) {w : Int32} (h1 : a = b → Q 1 n t I R) (h2 : a ≠ b → ¬ I (63 + 10 * a) (e * 4 + b) < w → Q 1 n t I R) (h0 : a ≠ b → I (63 + 10 * a) (e * 4 + b) < w → Q 0 n t I R) : MC yX7_hasLeave cX7_hasLeave 5 (some .boolean) d 0 0 [.ref 4, .int (nI b), .int (nI a), .int (nI e), .int w] n t I R (qI Q) := by
  refine mc_intro (L0 := [.ref 4, .int (nI b), .int (nI a), .int (nI e), .int w]) (by decide) rfl (Nat.le_of_ble_eq_true rfl) ?_
  refine wp_iload_n (i := 1) dX7_hasLeave_0 rfl rfl ?_
  refine wp_iload_n (i := 2) dX7_hasLeave_1 rfl rfl ?_
  refine wp_icmp_eq (tgt := 25) dX7_hasLeave_2 (by decide) (fun zq2 => ?_) (fun zq2 => ?_) 
  · refine wp_iconst (v := 1) dX7_hasLeave_25 (by decide) ?_
    refine wp_goto (tgt := 30) dX7_hasLeave_26 (by decide) ?_
    exact wp_retZ dX7_hasLeave_30 rfl rfl (Nat.le_refl _) (Nat.le_refl _) (h1 ((nI_eq (by omega) (by omega)).mp zq2.symm))
  · refine wp_iload dX7_hasLeave_5 rfl ?_
    refine wp_aload_n (i := 0) dX7_hasLeave_7 rfl rfl ?_
    refine wp_getR dX7_hasLeave_8 fl_X7_27 rfl (st_k hst rfl) (st_r hst rfl) ?_
    refine wp_iload_n (i := 2) dX7_hasLeave_11 rfl rfl ?_
    refine wp_rld11 dX7_hasLeave_12 (st_t hst rfl) rfl (by omega) (sp_34 hst (by omega)) ?_
    refine wp_getR dX7_hasLeave_13 fl_X7_250 rfl (sp_k0 hst (by omega)) (sp_r12 hst (by omega)) ?_
    refine wp_iload_n (i := 3) dX7_hasLeave_16 rfl rfl ?_
    refine wp_iconst (v := 4) dX7_hasLeave_17 (by decide) ?_
    refine wp_imul dX7_hasLeave_18 ?_
    refine wp_iload_n (i := 1) dX7_hasLeave_19 rfl rfl ?_
    refine wp_iadd dX7_hasLeave_20 ?_
    refine wp_ild (j := e * 4 + b) dX7_hasLeave_21 (sp_t9 hst (by omega)) (n_linR e 4 b) (by omega) ?_
    refine wp_icmp_gt (tgt := 29) dX7_hasLeave_22 (by decide) (fun zq22 => ?_) (fun zq22 => ?_) 
    · refine wp_iconst (v := 0) dX7_hasLeave_29 (by decide) ?_
      exact wp_retZ dX7_hasLeave_30 rfl rfl (Nat.le_refl _) (Nat.le_refl _) (h0 (fun g => zq2 (by rw [g])) zq22)
    · refine wp_iconst (v := 1) dX7_hasLeave_25 (by decide) ?_
      refine wp_goto (tgt := 30) dX7_hasLeave_26 (by decide) ?_
      exact wp_retZ dX7_hasLeave_30 rfl rfl (Nat.le_refl _) (Nat.le_refl _) (h2 (fun g => zq2 (by rw [g])) zq22)

theorem c_maySee (d : Nat) {n : Nat} {t : eT} {I : eI} {R : eR} {Q : Int32 → Nat → eT → eI → eR → Prop} (hst : ST n t R) {a b e : Nat} (ha : a < 4) (hb : b < 4) (he : e < 2) {w : Int32} (h1 : a = b → Q 1 n t I R) (h2 : a ≠ b → ¬ I 123 (8 * a + 2 * b + e) < w → Q 1 n t I R) (h0 : a ≠ b → I 123 (8 * a + 2 * b + e) < w → Q 0 n t I R) : MC yX8_maySee cX8_maySee 5 (some .boolean) d 0 0 [.ref 94, .int (nI b), .int (nI a), .int (nI e), .int w] n t I R (qI Q) := by
  refine mc_intro (L0 := [.ref 94, .int (nI b), .int (nI a), .int (nI e), .int w]) (by decide) rfl (Nat.le_of_ble_eq_true rfl) ?_
  refine wp_iload_n (i := 2) dX8_maySee_0 rfl rfl ?_
  refine wp_iload_n (i := 1) dX8_maySee_1 rfl rfl ?_
  refine wp_icmp_eq (tgt := 25) dX8_maySee_2 (by decide) (fun zq2 => ?_) (fun zq2 => ?_) 
  · refine wp_iconst (v := 1) dX8_maySee_25 (by decide) ?_
    refine wp_goto (tgt := 30) dX8_maySee_26 (by decide) ?_
    exact wp_retZ dX8_maySee_30 rfl rfl (Nat.le_refl _) (Nat.le_refl _) (h1 ((nI_eq (by omega) (by omega)).mp zq2))
  · refine wp_iload dX8_maySee_5 rfl ?_
    refine wp_aload_n (i := 0) dX8_maySee_7 rfl rfl ?_
    refine wp_getR dX8_maySee_8 fl_X8_95 rfl (st_k hst rfl) (st_r hst rfl) ?_
    refine wp_bipush (v := 8) dX8_maySee_11 (by decide) ?_
    refine wp_iload_n (i := 2) dX8_maySee_13 rfl rfl ?_
    refine wp_imul dX8_maySee_14 ?_
    refine wp_iconst (v := 2) dX8_maySee_15 (by decide) ?_
    refine wp_iload_n (i := 1) dX8_maySee_16 rfl rfl ?_
    refine wp_imul dX8_maySee_17 ?_
    refine wp_iadd dX8_maySee_18 ?_
    refine wp_iload_n (i := 3) dX8_maySee_19 rfl rfl ?_
    refine wp_iadd dX8_maySee_20 ?_
    refine wp_ild (j := 8 * a + 2 * b + e) dX8_maySee_21 (st_t hst rfl) (n_lin3 8 a 2 b e) (by omega) ?_
    refine wp_icmp_gt (tgt := 29) dX8_maySee_22 (by decide) (fun zq22 => ?_) (fun zq22 => ?_) 
    · refine wp_iconst (v := 0) dX8_maySee_29 (by decide) ?_
      exact wp_retZ dX8_maySee_30 rfl rfl (Nat.le_refl _) (Nat.le_refl _) (h0 (fun g => zq2 (by rw [g])) zq22)
    · refine wp_iconst (v := 1) dX8_maySee_25 (by decide) ?_
      refine wp_goto (tgt := 30) dX8_maySee_26 (by decide) ?_
      exact wp_retZ dX8_maySee_30 rfl rfl (Nat.le_refl _) (Nat.le_refl _) (h2 (fun g => zq2 (by rw [g])) zq22)

theorem c_see (d : Nat) {n : Nat} {t : eT} {I : eI} {R : eR} {Q : Int32 → Nat → eT → eI → eR → Prop} (hst : ST n t R) {m : Nat} (hm : I 4 3 = nI m) (hm4 : m ≤ 4) (hly : ∀ j, j < 4 → ∃ a pl, R (54 + 10 * j) 1 = some a ∧ (t a).1 = 0 ∧ R a 1 = some pl ∧ t pl = (9, 10)) {q p g w : Int32} (h1 : (∀ j, j < m → q ≠ nI j) → Q (-1) n t I R) (h1b : (∀ j, j < m → p ≠ nI j) → Q (-1) n t I R) (h1c : ¬ (0 ≤ g.toInt ∧ g.toInt ≤ 11) → Q (-1) n t I R) (h2 : ∀ a b, a < m → b < m → p = nI a → q = nI b → (0 ≤ g.toInt ∧ g.toInt ≤ 11) → ¬ (0 ≤ w.toInt ∧ w.toInt ≤ 9999) → Q (-2) n t I R) (h3 : ∀ a b, a < m → b < m → p = nI a → q = nI b → (0 ≤ g.toInt ∧ g.toInt ≤ 11) → (0 ≤ w.toInt ∧ w.toInt ≤ 9999) → a ≠ b → I (63 + 10 * a) b < w → Q (-3) n t I R) (h4 : ∀ a b, a < m → b < m → p = nI a → q = nI b → (0 ≤ g.toInt ∧ g.toInt ≤ 11) → (0 ≤ w.toInt ∧ w.toInt ≤ 9999) → (a = b ∨ ¬ I (63 + 10 * a) b < w) → ∀ y pl x, R (54 + 10 * a) 1 = some y → R y 1 = some pl → x < 10 → bitAt (I y 0) x → I pl x = g → (∀ z, z < x → ¬ (bitAt (I y 0) z ∧ I pl z = g)) → Q (nI x) n t I R) (h5 : ∀ a b, a < m → b < m → p = nI a → q = nI b → (0 ≤ g.toInt ∧ g.toInt ≤ 11) → (0 ≤ w.toInt ∧ w.toInt ≤ 9999) → (a = b ∨ ¬ I (63 + 10 * a) b < w) → ∀ y pl, R (54 + 10 * a) 1 = some y → R y 1 = some pl → (∀ x, x < 10 → ¬ (bitAt (I y 0) x ∧ I pl x = g)) → Q (-9) n t I R) : MC yX7_see cX7_see 5 (some .int) (d + 3) 0 0 [.ref 4, .int q, .int p, .int g, .int w] n t I R (qI Q) := by
  refine mc_intro (L0 := [.ref 4, .int q, .int p, .int g, .int w]) (by decide) rfl (Nat.le_of_ble_eq_true rfl) ?_
  refine wp_aload_n (i := 0) dX7_see_0 rfl rfl ?_
  refine wp_iload_n (i := 1) dX7_see_1 rfl rfl ?_
  refine wp_V1i dX7_see_2 mw_375 mw_377 ms_7 mi_X7_isPerson (Nat.le_of_ble_eq_true rfl) (Nat.le_refl _) (Nat.le_refl _) (st_k hst rfl) (by decide) rfl (c_isPerson _ hst (by exact hm) hm4 (fun j2 hj2 e2 => ?_) (fun no2 => ?_)) 
  · subst e2
    refine wp_if_eq1 (tgt := 23) dX7_see_5 (by decide) ?_
    refine wp_aload_n (i := 0) dX7_see_8 rfl rfl ?_
    refine wp_iload_n (i := 2) dX7_see_9 rfl rfl ?_
    refine wp_V1i dX7_see_10 mw_375 mw_377 ms_7 mi_X7_isPerson (Nat.le_of_ble_eq_true rfl) (Nat.le_refl _) (Nat.le_refl _) (st_k hst rfl) (by decide) rfl (c_isPerson _ hst (by exact hm) hm4 (fun j10 hj10 e10 => ?_) (fun no10 => ?_)) 
    · subst e10
      refine wp_if_eq1 (tgt := 23) dX7_see_13 (by decide) ?_
      refine wp_iload_n (i := 3) dX7_see_16 rfl rfl ?_
      refine wp_S1i dX7_see_17 mw_497 mw_498 mi_X7_isPlace (Nat.le_of_ble_eq_true rfl) (Nat.le_refl _) (Nat.le_refl _) (c_isPlace _ (fun ga17 gb17 => ?_) (fun gn17 => ?_)) 
      · skip
        refine wp_if_ne1 (tgt := 25) dX7_see_20 (by decide) ?_
        refine wp_iload dX7_see_25 rfl ?_
        refine wp_S1i dX7_see_27 mw_554 mw_555 mi_X7_isTick (Nat.le_of_ble_eq_true rfl) (Nat.le_refl _) (Nat.le_refl _) (c_isTick _ (fun ga27 gb27 => ?_) (fun gn27 => ?_)) 
        · skip
          refine wp_if_ne1 (tgt := 36) dX7_see_30 (by decide) ?_
          refine wp_aload_n (i := 0) dX7_see_36 rfl rfl ?_
          refine wp_iload_n (i := 1) dX7_see_37 rfl rfl ?_
          refine wp_iload_n (i := 2) dX7_see_38 rfl rfl ?_
          refine wp_iconst (v := 0) dX7_see_39 (by decide) ?_
          refine wp_iload dX7_see_40 rfl ?_
          refine wp_V4i dX7_see_42 mw_647 mw_649 ms_20 mi_X7_hasLeave (Nat.le_of_ble_eq_true rfl) (Nat.le_refl _) (Nat.le_refl _) (st_k hst rfl) (by decide) rfl (c_hasLeave _ hst (a := j10) (b := j2) (e := 0) (by omega) (by omega) (by decide) (fun v1 => ?_) (fun v1 v2 => ?_) (fun v1 v2 => ?_)) 
          · have vv : j10 = j2 ∨ ¬ I (63 + 10 * j10) j2 < w := Or.inl v1
            refine wp_if_ne1 (tgt := 51) dX7_see_45 (by decide) ?_
            obtain ⟨ya, pl, hy1, hy2, hy3, hy4⟩ := hly j10 (by omega)
            refine wp_aload_n (i := 0) dX7_see_51 rfl rfl ?_
            refine wp_getR dX7_see_52 fl_X7_27 rfl (st_k hst rfl) (st_r hst rfl) ?_
            refine wp_iload_n (i := 2) dX7_see_55 rfl rfl ?_
            refine wp_rld11 dX7_see_56 (st_t hst rfl) rfl (by omega) (sp_34 hst (by omega)) ?_
            refine wp_getR dX7_see_57 fl_X7_147 rfl (sp_k0 hst (by omega)) hy1 ?_
            refine wp_iload_n (i := 3) dX7_see_60 rfl rfl ?_
            refine wp_V1i dX7_see_61 mw_500 mw_501 mw_502 mi_X0_partAt (Nat.le_of_ble_eq_true rfl) (Nat.le_refl _) (Nat.le_refl _) hy2 (by decide) rfl (c_partAt _ hy2 hy3 hy4 (fun x hx u1 u2 u3 => ?_) (fun u1 => ?_)) 
            · exact wp_retI dX7_see_64 rfl (Nat.le_refl _) (Nat.le_refl _) (h4 j10 j2 hj10 hj2 rfl rfl ⟨ga17, gb17⟩ ⟨ga27, gb27⟩ vv ya pl x hy1 hy3 hx u1 u2 u3)
            · exact wp_retI dX7_see_64 rfl (Nat.le_refl _) (Nat.le_refl _) (h5 j10 j2 hj10 hj2 rfl rfl ⟨ga17, gb17⟩ ⟨ga27, gb27⟩ vv ya pl hy1 hy3 u1)
          · have vv : j10 = j2 ∨ ¬ I (63 + 10 * j10) j2 < w := Or.inr (by rw [show 0 * 4 + j2 = j2 by omega] at v2; exact v2)
            refine wp_if_ne1 (tgt := 51) dX7_see_45 (by decide) ?_
            obtain ⟨ya, pl, hy1, hy2, hy3, hy4⟩ := hly j10 (by omega)
            refine wp_aload_n (i := 0) dX7_see_51 rfl rfl ?_
            refine wp_getR dX7_see_52 fl_X7_27 rfl (st_k hst rfl) (st_r hst rfl) ?_
            refine wp_iload_n (i := 2) dX7_see_55 rfl rfl ?_
            refine wp_rld11 dX7_see_56 (st_t hst rfl) rfl (by omega) (sp_34 hst (by omega)) ?_
            refine wp_getR dX7_see_57 fl_X7_147 rfl (sp_k0 hst (by omega)) hy1 ?_
            refine wp_iload_n (i := 3) dX7_see_60 rfl rfl ?_
            refine wp_V1i dX7_see_61 mw_500 mw_501 mw_502 mi_X0_partAt (Nat.le_of_ble_eq_true rfl) (Nat.le_refl _) (Nat.le_refl _) hy2 (by decide) rfl (c_partAt _ hy2 hy3 hy4 (fun x hx u1 u2 u3 => ?_) (fun u1 => ?_)) 
            · exact wp_retI dX7_see_64 rfl (Nat.le_refl _) (Nat.le_refl _) (h4 j10 j2 hj10 hj2 rfl rfl ⟨ga17, gb17⟩ ⟨ga27, gb27⟩ vv ya pl x hy1 hy3 hx u1 u2 u3)
            · exact wp_retI dX7_see_64 rfl (Nat.le_refl _) (Nat.le_refl _) (h5 j10 j2 hj10 hj2 rfl rfl ⟨ga17, gb17⟩ ⟨ga27, gb27⟩ vv ya pl hy1 hy3 u1)
          · rw [show 0 * 4 + j2 = j2 by omega] at v2
            refine wp_if_ne0 (tgt := 51) dX7_see_45 (by decide) ?_
            refine wp_bipush (v := (-3)) dX7_see_48 (by decide) ?_
            exact wp_retI dX7_see_50 rfl (Nat.le_refl _) (Nat.le_refl _) (h3 j10 j2 hj10 hj2 rfl rfl ⟨ga17, gb17⟩ ⟨ga27, gb27⟩ v1 v2)
        · skip
          refine wp_if_ne0 (tgt := 36) dX7_see_30 (by decide) ?_
          refine wp_bipush (v := (-2)) dX7_see_33 (by decide) ?_
          exact wp_retI dX7_see_35 rfl (Nat.le_refl _) (Nat.le_refl _) (h2 j10 j2 hj10 hj2 rfl rfl ⟨ga17, gb17⟩ gn27)
      · skip
        refine wp_if_ne0 (tgt := 25) dX7_see_20 (by decide) ?_
        refine wp_iconst (v := (-1)) dX7_see_23 (by decide) ?_
        exact wp_retI dX7_see_24 rfl (Nat.le_refl _) (Nat.le_refl _) (h1c gn17)
    · skip
      refine wp_if_eq0 (tgt := 23) dX7_see_13 (by decide) ?_
      refine wp_iconst (v := (-1)) dX7_see_23 (by decide) ?_
      exact wp_retI dX7_see_24 rfl (Nat.le_refl _) (Nat.le_refl _) (h1b no10)
  · skip
    refine wp_if_eq0 (tgt := 23) dX7_see_5 (by decide) ?_
    refine wp_iconst (v := (-1)) dX7_see_23 (by decide) ?_
    exact wp_retI dX7_see_24 rfl (Nat.le_refl _) (Nat.le_refl _) (h1 no2)

theorem c_seeM (d : Nat) {n : Nat} {t : eT} {I : eI} {R : eR} {Q : Int32 → Nat → eT → eI → eR → Prop} (hst : ST n t R) {m : Nat} (hmM : I 94 9 = nI m) (hm4 : m ≤ 4) {k : Nat} (hkM : I 94 1 = nI k) (hk4 : k ≤ 10) {q p g w : Int32} (h1 : (∀ j, j < m → q ≠ nI j) → Q (-1) n t I R) (h1b : (∀ j, j < m → p ≠ nI j) → Q (-1) n t I R) (h1c : ¬ (0 ≤ g.toInt ∧ g.toInt ≤ 11) → Q (-1) n t I R) (h2 : ∀ a b, a < m → b < m → p = nI a → q = nI b → (0 ≤ g.toInt ∧ g.toInt ≤ 11) → ¬ (0 ≤ w.toInt ∧ w.toInt ≤ 9999) → Q (-2) n t I R) (h3 : ∀ a b, a < m → b < m → p = nI a → q = nI b → (0 ≤ g.toInt ∧ g.toInt ≤ 11) → (0 ≤ w.toInt ∧ w.toInt ≤ 9999) → a ≠ b → I 123 (8 * a + 2 * b) < w → Q (-3) n t I R) (h4 : ∀ a b, a < m → b < m → p = nI a → q = nI b → (0 ≤ g.toInt ∧ g.toInt ≤ 11) → (0 ≤ w.toInt ∧ w.toInt ≤ 9999) → (a = b ∨ ¬ I 123 (8 * a + 2 * b) < w) → ∀ x, x < k → I 106 (10 * a + x) = g → (∀ z, z < x → ¬ I 106 (10 * a + z) = g) → Q (nI x) n t I R) (h5 : ∀ a b, a < m → b < m → p = nI a → q = nI b → (0 ≤ g.toInt ∧ g.toInt ≤ 11) → (0 ≤ w.toInt ∧ w.toInt ≤ 9999) → (a = b ∨ ¬ I 123 (8 * a + 2 * b) < w) → (∀ x, x < k → ¬ I 106 (10 * a + x) = g) → Q (-9) n t I R) : MC yX8_see cX8_see 5 (some .int) (d + 3) 0 0 [.ref 94, .int q, .int p, .int g, .int w] n t I R (qI Q) := by
  refine mc_intro (L0 := [.ref 94, .int q, .int p, .int g, .int w]) (by decide) rfl (Nat.le_of_ble_eq_true rfl) ?_
  refine wp_aload_n (i := 0) dX8_see_0 rfl rfl ?_
  refine wp_iload_n (i := 1) dX8_see_1 rfl rfl ?_
  refine wp_V1i dX8_see_2 mw_942 mw_944 ms_32 mi_X8_noPerson (Nat.le_of_ble_eq_true rfl) (Nat.le_refl _) (Nat.le_refl _) (st_k hst rfl) (by decide) rfl (c_noPerson _ hst (by exact hmM) hm4 (fun j2 hj2 e2 => ?_) (fun no2 => ?_)) 
  · subst e2
    refine wp_if_ne0 (tgt := 23) dX8_see_5 (by decide) ?_
    refine wp_aload_n (i := 0) dX8_see_8 rfl rfl ?_
    refine wp_iload_n (i := 2) dX8_see_9 rfl rfl ?_
    refine wp_V1i dX8_see_10 mw_942 mw_944 ms_32 mi_X8_noPerson (Nat.le_of_ble_eq_true rfl) (Nat.le_refl _) (Nat.le_refl _) (st_k hst rfl) (by decide) rfl (c_noPerson _ hst (by exact hmM) hm4 (fun j10 hj10 e10 => ?_) (fun no10 => ?_)) 
    · subst e10
      refine wp_if_ne0 (tgt := 23) dX8_see_13 (by decide) ?_
      refine wp_iload_n (i := 3) dX8_see_16 rfl rfl ?_
      refine wp_S1i dX8_see_17 mw_1024 mw_1025 mi_X8_isPlace (Nat.le_of_ble_eq_true rfl) (Nat.le_refl _) (Nat.le_refl _) (c_isPlaceM _ (fun ga17 gb17 => ?_) (fun gn17 => ?_)) 
      · skip
        refine wp_if_ne1 (tgt := 25) dX8_see_20 (by decide) ?_
        refine wp_iload dX8_see_25 rfl ?_
        refine wp_i2l dX8_see_27 ?_
        refine wp_lconst (v := 0) dX8_see_28 (by decide) ?_
        refine wp_ldc2 (v := 9999) dX8_see_29 mw_1007 ?_
        refine wp_S3i dX8_see_32 mw_887 mw_888 mi_X8_in (Nat.le_of_ble_eq_true rfl) (Nat.le_refl _) (Nat.le_refl _) (c_in _ (a := 0) (b := 9999) rfl rfl (fun ga32 gb32 => ?_) (fun gn32 => ?_)) 
        · skip
          refine wp_if_ne1 (tgt := 41) dX8_see_35 (by decide) ?_
          refine wp_aload_n (i := 0) dX8_see_41 rfl rfl ?_
          refine wp_iload_n (i := 1) dX8_see_42 rfl rfl ?_
          refine wp_iload_n (i := 2) dX8_see_43 rfl rfl ?_
          refine wp_iconst (v := 0) dX8_see_44 (by decide) ?_
          refine wp_iload dX8_see_45 rfl ?_
          refine wp_V4i dX8_see_47 mw_1134 mw_1136 ms_51 mi_X8_maySee (Nat.le_of_ble_eq_true rfl) (Nat.le_refl _) (Nat.le_refl _) (st_k hst rfl) (by decide) rfl (c_maySee _ hst (a := j10) (b := j2) (e := 0) (by omega) (by omega) (by decide) (fun v1 => ?_) (fun v1 v2 => ?_) (fun v1 v2 => ?_)) 
          · have vv : j10 = j2 ∨ ¬ I 123 (8 * j10 + 2 * j2) < w := Or.inl v1
            refine wp_if_eq1 (tgt := 62) dX8_see_50 (by decide) ?_
            refine wp_aload_n (i := 0) dX8_see_53 rfl rfl ?_
            refine wp_iload_n (i := 2) dX8_see_54 rfl rfl ?_
            refine wp_iload_n (i := 3) dX8_see_55 rfl rfl ?_
            refine wp_V2i dX8_see_56 mw_1028 mw_1030 ms_42 mi_X8_partIn (Nat.le_of_ble_eq_true rfl) (Nat.le_refl _) (Nat.le_refl _) (st_k hst rfl) (by decide) rfl (c_partIn _ hst hkM hk4 (by omega) (fun x hx u1 u2 => ?_) (fun u1 => ?_)) 
            · refine wp_goto (tgt := 64) dX8_see_59 (by decide) ?_
              exact wp_retI dX8_see_64 rfl (Nat.le_refl _) (Nat.le_refl _) (h4 j10 j2 hj10 hj2 rfl rfl ⟨ga17, gb17⟩ ⟨ga32, gb32⟩ vv x hx u1 u2)
            · refine wp_goto (tgt := 64) dX8_see_59 (by decide) ?_
              exact wp_retI dX8_see_64 rfl (Nat.le_refl _) (Nat.le_refl _) (h5 j10 j2 hj10 hj2 rfl rfl ⟨ga17, gb17⟩ ⟨ga32, gb32⟩ vv u1)
          · have vv : j10 = j2 ∨ ¬ I 123 (8 * j10 + 2 * j2) < w := Or.inr v2
            refine wp_if_eq1 (tgt := 62) dX8_see_50 (by decide) ?_
            refine wp_aload_n (i := 0) dX8_see_53 rfl rfl ?_
            refine wp_iload_n (i := 2) dX8_see_54 rfl rfl ?_
            refine wp_iload_n (i := 3) dX8_see_55 rfl rfl ?_
            refine wp_V2i dX8_see_56 mw_1028 mw_1030 ms_42 mi_X8_partIn (Nat.le_of_ble_eq_true rfl) (Nat.le_refl _) (Nat.le_refl _) (st_k hst rfl) (by decide) rfl (c_partIn _ hst hkM hk4 (by omega) (fun x hx u1 u2 => ?_) (fun u1 => ?_)) 
            · refine wp_goto (tgt := 64) dX8_see_59 (by decide) ?_
              exact wp_retI dX8_see_64 rfl (Nat.le_refl _) (Nat.le_refl _) (h4 j10 j2 hj10 hj2 rfl rfl ⟨ga17, gb17⟩ ⟨ga32, gb32⟩ vv x hx u1 u2)
            · refine wp_goto (tgt := 64) dX8_see_59 (by decide) ?_
              exact wp_retI dX8_see_64 rfl (Nat.le_refl _) (Nat.le_refl _) (h5 j10 j2 hj10 hj2 rfl rfl ⟨ga17, gb17⟩ ⟨ga32, gb32⟩ vv u1)
          · skip
            refine wp_if_eq0 (tgt := 62) dX8_see_50 (by decide) ?_
            refine wp_bipush (v := (-3)) dX8_see_62 (by decide) ?_
            exact wp_retI dX8_see_64 rfl (Nat.le_refl _) (Nat.le_refl _) (h3 j10 j2 hj10 hj2 rfl rfl ⟨ga17, gb17⟩ ⟨ga32, gb32⟩ v1 v2)
        · skip
          refine wp_if_ne0 (tgt := 41) dX8_see_35 (by decide) ?_
          refine wp_bipush (v := (-2)) dX8_see_38 (by decide) ?_
          exact wp_retI dX8_see_40 rfl (Nat.le_refl _) (Nat.le_refl _) (h2 j10 j2 hj10 hj2 rfl rfl ⟨ga17, gb17⟩ gn32)
      · skip
        refine wp_if_ne0 (tgt := 25) dX8_see_20 (by decide) ?_
        refine wp_iconst (v := (-1)) dX8_see_23 (by decide) ?_
        exact wp_retI dX8_see_24 rfl (Nat.le_refl _) (Nat.le_refl _) (h1c gn17)
    · skip
      refine wp_if_ne1 (tgt := 23) dX8_see_13 (by decide) ?_
      refine wp_iconst (v := (-1)) dX8_see_23 (by decide) ?_
      exact wp_retI dX8_see_24 rfl (Nat.le_refl _) (Nat.le_refl _) (h1b no10)
  · skip
    refine wp_if_ne1 (tgt := 23) dX8_see_5 (by decide) ?_
    refine wp_iconst (v := (-1)) dX8_see_23 (by decide) ?_
    exact wp_retI dX8_see_24 rfl (Nat.le_refl _) (Nat.le_refl _) (h1 no2)

