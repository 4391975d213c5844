theorem n_zero {c : Nat} (hc : c < 2 ^ 31) (h : nI c = 0) : c = 0 := (nI_eq hc (by decide)).mp h
theorem n_pos {c : Nat} (hc : c < 2 ^ 31) (h : ¬ nI c = 0) : 0 < c := by
  rcases Nat.eq_zero_or_pos c with e | e
  · exact absurd (by rw [e]; rfl) h
  · exact e
theorem c_takeBack (d : Nat) {n : Nat} {t : eT} {I : eI} {R : eR} {Q : Int32 → Nat → eT → eI → eR → Prop} (hst : ST n t R) {j : Nat} (hj : j < 4) {c e : Nat} (hl : I (54 + 10 * j) 9 = nI (c + 1)) (hc : c < 12) (he : I (61 + 10 * j) c = nI e) (he3 : e < 3) (hq : Q (nI e) n t (eU (eU I (54 + 10 * j) 9 (nI c)) (60 + 10 * j) e (I (60 + 10 * j) e - 1)) R) : MC yX3_takeBack cX3_takeBack 2 (some .int) d 0 0 [.ref (54 + 10 * j)] n t I R (qI Q) := by
  refine mc_intro (L0 := [.ref (54 + 10 * j), vU]) (by decide) rfl (Nat.le_of_ble_eq_true rfl) ?_
  refine wp_aload_n (i := 0) dX3_takeBack_0 rfl rfl ?_
  refine wp_dup dX3_takeBack_1 rfl ?_
  refine wp_getI dX3_takeBack_2 fl_X3_44 rfl (sp_k0 hst (by omega)) ?_
  refine wp_iconst (v := 1) dX3_takeBack_5 (by decide) ?_
  refine wp_isub dX3_takeBack_6 ?_
  rw [hl, nI_pred]
  refine wp_putI dX3_takeBack_7 fl_X3_44 rfl (Or.inl rfl) (sp_k0 hst (by omega)) ?_
  refine wp_aload_n (i := 0) dX3_takeBack_10 rfl rfl ?_
  refine wp_getR dX3_takeBack_11 fl_X3_41 rfl (sp_k0 hst (by omega)) (sp_r8 hst (by omega)) ?_
  refine wp_aload_n (i := 0) dX3_takeBack_14 rfl rfl ?_
  refine wp_getI dX3_takeBack_15 fl_X3_44 rfl (sp_k0 hst (by omega)) ?_
  refine wp_ild (j := c) dX3_takeBack_18 (sp_t7 hst (by omega)) (by rw [eU_at]) (by omega) ?_
  rw [eU_o (show 61 + 10 * j ≠ 54 + 10 * j by omega), he]
  refine wp_istore_2_1 dX3_takeBack_19 rfl ?_
  refine wp_aload_n (i := 0) dX3_takeBack_20 rfl rfl ?_
  refine wp_getR dX3_takeBack_21 fl_X3_38 rfl (sp_k0 hst (by omega)) (sp_r7 hst (by omega)) ?_
  refine wp_iload_n (i := 1) dX3_takeBack_24 rfl rfl ?_
  refine wp_dup2 dX3_takeBack_25 rfl rfl ?_
  refine wp_ild (j := e) dX3_takeBack_26 (sp_t6 hst (by omega)) rfl (by omega) ?_
  refine wp_iconst (v := 1) dX3_takeBack_27 (by decide) ?_
  refine wp_isub dX3_takeBack_28 ?_
  rw [eU_o (show 60 + 10 * j ≠ 54 + 10 * j by omega)]
  refine wp_ist (j := e) dX3_takeBack_29 (sp_t6 hst (by omega)) rfl (by omega) ?_
  refine wp_iload_n (i := 1) dX3_takeBack_30 rfl rfl ?_
  exact wp_retI dX3_takeBack_31 rfl (Nat.le_refl _) (Nat.le_refl _) hq

theorem c_undo (d : Nat) {n : Nat} {t : eT} {I : eI} {R : eR} {Q : Int32 → Nat → eT → eI → eR → Prop} (hst : ST n t R) {m : Nat} (hm : I 4 3 = nI m) (hm4 : m ≤ 4) {cF : Nat → Nat} {eF : Nat → Nat → Nat} (hl : ∀ j, j < 4 → I (54 + 10 * j) 9 = nI (cF j) ∧ cF j ≤ 12) (he : ∀ j c, j < 4 → c < cF j → I (61 + 10 * j) c = nI (eF j c) ∧ eF j c < 3) {p : Int32} (h1 : (∀ j, j < m → p ≠ nI j) → Q (-1) n t I R) (h2 : ∀ j, j < m → p = nI j → cF j = 0 → Q (-3) n t I R) (h3 : ∀ j c, j < m → p = nI j → cF j = c + 1 → Q (nI (eF j c)) n t (eU (eU I (54 + 10 * j) 9 (nI c)) (60 + 10 * j) (eF j c) (I (60 + 10 * j) (eF j c) - 1)) R) : MC yX7_undo cX7_undo 2 (some .int) (d + 2) 0 0 [.ref 4, .int p] n t I R (qI Q) := by
  refine mc_intro (L0 := [.ref 4, .int p]) (by decide) rfl (Nat.le_of_ble_eq_true rfl) ?_
  refine wp_aload_n (i := 0) dX7_undo_0 rfl rfl ?_
  refine wp_iload_n (i := 1) dX7_undo_1 rfl rfl ?_
  refine wp_V1i dX7_undo_2 mw_375 mw_377 ms_7 mi_X7_isPerson (Nat.le_of_ble_eq_true rfl) (Nat.le_refl _) (Nat.le_refl _) (st_k hst rfl) (by decide) rfl (c_isPerson _ hst (by exact hm) hm4 (fun j2 hj2 e2 => ?_) (fun no2 => ?_)) 
  · subst e2
    refine wp_if_ne1 (tgt := 10) dX7_undo_5 (by decide) ?_
    obtain ⟨g1, g2⟩ := hl j2 (by omega)
    refine wp_aload_n (i := 0) dX7_undo_10 rfl rfl ?_
    refine wp_getR dX7_undo_11 fl_X7_27 rfl (st_k hst rfl) (st_r hst rfl) ?_
    refine wp_iload_n (i := 1) dX7_undo_14 rfl rfl ?_
    refine wp_rld11 dX7_undo_15 (st_t hst rfl) rfl (by omega) (sp_34 hst (by omega)) ?_
    refine wp_getI dX7_undo_16 fl_X7_219 rfl (sp_k0 hst (by omega)) ?_
    refine wp_if_ne (tgt := 25) dX7_undo_19 (by decide) (fun zq19 => ?_) (fun zq19 => ?_) 
    · obtain ⟨c0, hc0⟩ : ∃ c0, cF j2 = c0 + 1 := ⟨cF j2 - 1, by have := n_pos (by omega) (show ¬ nI (cF j2) = 0 by rw [← g1]; exact zq19); omega⟩
      obtain ⟨hl3, hl4⟩ := he j2 c0 (by omega) (by omega)
      have hl1 : I (54 + 10 * j2) 9 = nI (c0 + 1) := by rw [g1, hc0]
      have hl2 : c0 < 12 := by omega
      refine wp_aload_n (i := 0) dX7_undo_25 rfl rfl ?_
      refine wp_getR dX7_undo_26 fl_X7_27 rfl (st_k hst rfl) (st_r hst rfl) ?_
      refine wp_iload_n (i := 1) dX7_undo_29 rfl rfl ?_
      refine wp_rld11 dX7_undo_30 (st_t hst rfl) rfl (by omega) (sp_34 hst (by omega)) ?_
      refine wp_V0i dX7_undo_31 mw_594 mw_595 mw_596 mi_X3_takeBack (Nat.le_of_ble_eq_true rfl) (Nat.le_refl _) (Nat.le_refl _) (sp_k0 hst (by omega)) (by decide) rfl (c_takeBack _ hst (by omega) hl1 hl2 hl3 hl4 ?_) 
      exact wp_retI dX7_undo_34 rfl (Nat.le_refl _) (Nat.le_refl _) (h3 j2 c0 hj2 rfl hc0)
    · refine wp_bipush (v := (-3)) dX7_undo_22 (by decide) ?_
      exact wp_retI dX7_undo_24 rfl (Nat.le_refl _) (Nat.le_refl _) (h2 j2 hj2 rfl (n_zero (by omega) (by rw [← g1]; exact zq19)))
  · skip
    refine wp_if_ne0 (tgt := 10) dX7_undo_5 (by decide) ?_
    refine wp_iconst (v := (-1)) dX7_undo_8 (by decide) ?_
    exact wp_retI dX7_undo_9 rfl (Nat.le_refl _) (Nat.le_refl _) (by first | assumption | solve_by_elim [rfl])

theorem c_undoM (d : Nat) {n : Nat} {t : eT} {I : eI} {R : eR} {Q : Int32 → Nat → eT → eI → eR → Prop} (hst : ST n t R) {m : Nat} (hmM : I 94 9 = nI m) (hm4 : m ≤ 4) {cF : Nat → Nat} {eF : Nat → Nat → Nat} (hl : ∀ j, j < 4 → I 119 j = nI (cF j) ∧ cF j ≤ 12) (he : ∀ j c, j < 4 → c < cF j → I 120 (12 * j + c) = nI (eF j c) ∧ eF j c < 3) {p : Int32} (h1 : (∀ j, j < m → p ≠ nI j) → Q (-1) n t I R) (h2 : ∀ j, j < m → p = nI j → cF j = 0 → Q (-3) n t I R) (h3 : ∀ j c, j < m → p = nI j → cF j = c + 1 → Q (nI (eF j c)) n t (eU (eU I 119 j (nI c)) 118 (3 * j + eF j c) (I 118 (3 * j + eF j c) - 1)) R) : MC yX8_undo cX8_undo 3 (some .int) (d + 2) 0 0 [.ref 94, .int p] n t I R (qI Q) := by
  refine mc_intro (L0 := [.ref 94, .int p, vU]) (by decide) rfl (Nat.le_of_ble_eq_true rfl) ?_
  refine wp_aload_n (i := 0) dX8_undo_0 rfl rfl ?_
  refine wp_iload_n (i := 1) dX8_undo_1 rfl rfl ?_
  refine wp_V1i dX8_undo_2 mw_942 mw_944 ms_32 mi_X8_noPerson (Nat.le_of_ble_eq_true rfl) (Nat.le_refl _) (Nat.le_refl _) (st_k hst rfl) (by decide) rfl (c_noPerson _ hst (by exact hmM) hm4 (fun j2 hj2 e2 => ?_) (fun no2 => ?_)) 
  · subst e2
    refine wp_if_eq0 (tgt := 10) dX8_undo_5 (by decide) ?_
    obtain ⟨g1, g2⟩ := hl j2 (by omega)
    refine wp_aload_n (i := 0) dX8_undo_10 rfl rfl ?_
    refine wp_getR dX8_undo_11 fl_X8_83 rfl (st_k hst rfl) (st_r hst rfl) ?_
    refine wp_iload_n (i := 1) dX8_undo_14 rfl rfl ?_
    refine wp_ild dX8_undo_15 (st_t hst rfl) rfl (by omega) ?_
    refine wp_if_ne (tgt := 22) dX8_undo_16 (by decide) (fun zq16 => ?_) (fun zq16 => ?_) 
    · obtain ⟨c0, hc0⟩ : ∃ c0, cF j2 = c0 + 1 := ⟨cF j2 - 1, by have := n_pos (by omega) (show ¬ nI (cF j2) = 0 by rw [← g1]; exact zq16); omega⟩
      obtain ⟨hl3, hl4⟩ := he j2 c0 (by omega) (by omega)
      have hl1 : I 119 j2 = nI (c0 + 1) := by rw [g1, hc0]
      have hl2 : c0 < 12 := by omega
      refine wp_aload_n (i := 0) dX8_undo_22 rfl rfl ?_
      refine wp_getR dX8_undo_23 fl_X8_83 rfl (st_k hst rfl) (st_r hst rfl) ?_
      refine wp_iload_n (i := 1) dX8_undo_26 rfl rfl ?_
      refine wp_dup2 dX8_undo_27 rfl rfl ?_
      refine wp_ild dX8_undo_28 (st_t hst rfl) rfl (by omega) ?_
      refine wp_iconst (v := 1) dX8_undo_29 (by decide) ?_
      refine wp_isub dX8_undo_30 ?_
      rw [hl1, nI_pred]
      refine wp_ist dX8_undo_31 (st_t hst rfl) rfl (by omega) ?_
      refine wp_aload_n (i := 0) dX8_undo_32 rfl rfl ?_
      refine wp_getR dX8_undo_33 fl_X8_86 rfl (st_k hst rfl) (st_r hst rfl) ?_
      refine wp_bipush (v := 12) dX8_undo_36 (by decide) ?_
      refine wp_iload_n (i := 1) dX8_undo_38 rfl rfl ?_
      refine wp_imul dX8_undo_39 ?_
      refine wp_aload_n (i := 0) dX8_undo_40 rfl rfl ?_
      refine wp_getR dX8_undo_41 fl_X8_83 rfl (st_k hst rfl) (st_r hst rfl) ?_
      refine wp_iload_n (i := 1) dX8_undo_44 rfl rfl ?_
      refine wp_ild dX8_undo_45 (st_t hst rfl) rfl (by omega) ?_
      refine wp_iadd dX8_undo_46 ?_
      refine wp_ild (j := 12 * j2 + c0) dX8_undo_47 (st_t hst rfl) (by rw [eU_at]; exact n_lin 12 j2 c0) (by omega) ?_
      rw [eU_o (show (120 : Nat) ≠ 119 by decide), hl3]
      refine wp_istore_3_2 dX8_undo_48 rfl ?_
      refine wp_aload_n (i := 0) dX8_undo_49 rfl rfl ?_
      refine wp_getR dX8_undo_50 fl_X8_80 rfl (st_k hst rfl) (st_r hst rfl) ?_
      refine wp_iconst (v := 3) dX8_undo_53 (by decide) ?_
      refine wp_iload_n (i := 1) dX8_undo_54 rfl rfl ?_
      refine wp_imul dX8_undo_55 ?_
      refine wp_iload_n (i := 2) dX8_undo_56 rfl rfl ?_
      refine wp_iadd dX8_undo_57 ?_
      refine wp_dup2 dX8_undo_58 rfl rfl ?_
      refine wp_ild (j := 3 * j2 + eF j2 c0) dX8_undo_59 (st_t hst rfl) (n_lin 3 j2 (eF j2 c0)) (by omega) ?_
      refine wp_iconst (v := 1) dX8_undo_60 (by decide) ?_
      refine wp_isub dX8_undo_61 ?_
      rw [eU_o (show (118 : Nat) ≠ 119 by decide)]
      refine wp_ist (j := 3 * j2 + eF j2 c0) dX8_undo_62 (st_t hst rfl) (n_lin 3 j2 (eF j2 c0)) (by omega) ?_
      refine wp_iload_n (i := 2) dX8_undo_63 rfl rfl ?_
      exact wp_retI dX8_undo_64 rfl (Nat.le_refl _) (Nat.le_refl _) (h3 j2 c0 hj2 rfl hc0)
    · refine wp_bipush (v := (-3)) dX8_undo_19 (by decide) ?_
      exact wp_retI dX8_undo_21 rfl (Nat.le_refl _) (Nat.le_refl _) (h2 j2 hj2 rfl (n_zero (by omega) (by rw [← g1]; exact zq16)))
  · skip
    refine wp_if_eq1 (tgt := 10) dX8_undo_5 (by decide) ?_
    refine wp_iconst (v := (-1)) dX8_undo_8 (by decide) ?_
    exact wp_retI dX8_undo_9 rfl (Nat.le_refl _) (Nat.le_refl _) (by first | assumption | solve_by_elim [rfl])

