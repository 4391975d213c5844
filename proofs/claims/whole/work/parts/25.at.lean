def bitAt (s : Int32) (x : Nat) : Prop := (s >>> (nI x &&& 31)) &&& 1 = 1
theorem c_hasPart (d : Nat) {n : Nat} {t : eT} {I : eI} {R : eR} {Q : Int32 → Nat → eT → eI → eR → Prop} {a x : Nat} (hta : (t a).1 = 0) (h1 : bitAt (I a 0) x → Q 1 n t I R) (h0 : ¬ bitAt (I a 0) x → Q 0 n t I R) : MC yX0_hasPart cX0_hasPart 2 (some .boolean) d 0 0 [.ref a, .int (nI x)] n t I R (qI Q) := by
  refine mc_intro (L0 := [.ref a, .int (nI x)]) (by decide) rfl (Nat.le_of_ble_eq_true rfl) ?_
  refine wp_aload_n (i := 0) dX0_hasPart_0 rfl rfl ?_
  refine wp_getI dX0_hasPart_1 fl_X0_9 rfl (by assumption) ?_
  refine wp_iload_n (i := 1) dX0_hasPart_4 rfl rfl ?_
  refine wp_ishr dX0_hasPart_5 ?_
  refine wp_iconst (v := 1) dX0_hasPart_6 (by decide) ?_
  refine wp_iand dX0_hasPart_7 ?_
  refine wp_iconst (v := 1) dX0_hasPart_8 (by decide) ?_
  refine wp_icmp_ne (tgt := 16) dX0_hasPart_9 (by decide) (fun zq9 => ?_) (fun zq9 => ?_) 
  · refine wp_iconst (v := 0) dX0_hasPart_16 (by decide) ?_
    exact wp_retZ dX0_hasPart_17 rfl rfl (Nat.le_refl _) (Nat.le_refl _) (h0 zq9)
  · refine wp_iconst (v := 1) dX0_hasPart_12 (by decide) ?_
    refine wp_goto (tgt := 17) dX0_hasPart_13 (by decide) ?_
    exact wp_retZ dX0_hasPart_17 rfl rfl (Nat.le_refl _) (Nat.le_refl _) (h1 zq9)

theorem c_hasBit (d : Nat) {n : Nat} {t : eT} {I : eI} {R : eR} {Q : Int32 → Nat → eT → eI → eR → Prop} {s : Int32} {x : Nat} (h1 : bitAt s x → Q 1 n t I R) (h0 : ¬ bitAt s x → Q 0 n t I R) : MC yX8_hasBit cX8_hasBit 2 (some .boolean) d 0 0 [.int s, .int (nI x)] n t I R (qI Q) := by
  refine mc_intro (L0 := [.int s, .int (nI x)]) (by decide) rfl (Nat.le_of_ble_eq_true rfl) ?_
  refine wp_iload_n (i := 0) dX8_hasBit_0 rfl rfl ?_
  refine wp_iload_n (i := 1) dX8_hasBit_1 rfl rfl ?_
  refine wp_ishr dX8_hasBit_2 ?_
  refine wp_iconst (v := 1) dX8_hasBit_3 (by decide) ?_
  refine wp_iand dX8_hasBit_4 ?_
  refine wp_iconst (v := 1) dX8_hasBit_5 (by decide) ?_
  refine wp_icmp_ne (tgt := 13) dX8_hasBit_6 (by decide) (fun zq6 => ?_) (fun zq6 => ?_) 
  · refine wp_iconst (v := 0) dX8_hasBit_13 (by decide) ?_
    exact wp_retZ dX8_hasBit_14 rfl rfl (Nat.le_refl _) (Nat.le_refl _) (by first | exact h1 (by assumption) | exact h0 (by assumption))
  · refine wp_iconst (v := 1) dX8_hasBit_9 (by decide) ?_
    refine wp_goto (tgt := 14) dX8_hasBit_10 (by decide) ?_
    exact wp_retZ dX8_hasBit_14 rfl rfl (Nat.le_refl _) (Nat.le_refl _) (by first | exact h1 (by assumption) | exact h0 (by assumption))

theorem lp_partAt (d : Nat) {n : Nat} {t : eT} {I : eI} {R : eR} {Q : Int32 → Nat → eT → eI → eR → Prop} {a pl : Nat} {q : Int32} (hta : (t a).1 = 0) (hpl : R a 1 = some pl) (htp : t pl = (9, 10)) (h1 : ∀ x, x < 10 → bitAt (I a 0) x → I pl x = q → (∀ y, y < x → ¬ (bitAt (I a 0) y ∧ I pl y = q)) → Q (nI x) n t I R) (h0 : (∀ x, x < 10 → ¬ (bitAt (I a 0) x ∧ I pl x = q)) → Q (-9) n t I R) : ∀ (r k : Nat), k + r = 10 → (∀ y, y < k → ¬ (bitAt (I a 0) y ∧ I pl y = q)) → wp yX0_partAt cX0_partAt 3 (some .int) (d + 1) 0 0 (qI Q) 0 0 2 [.ref a, .int q, .int (nI k)] [] n t I R := by
  intro r
  induction r with
  | zero =>
    intro k hk hp
    refine wp_iload_n (i := 2) dX0_partAt_2 rfl rfl ?_
    refine wp_bipush (v := 10) dX0_partAt_3 (by decide) ?_
    refine wp_icmp_ge (tgt := 34) dX0_partAt_5 (by decide) (fun zq5 => ?_) (fun zq5 => absurd (nI_le (show 10 ≤ k by omega) (by omega)) zq5) 
    refine wp_bipush (v := (-9)) dX0_partAt_34 (by decide) ?_
    exact wp_retI dX0_partAt_36 rfl (Nat.le_refl _) (Nat.le_refl _) (h0 (fun x hx => hp x (by omega)))
  | succ r ih =>
    intro k hk hp
    refine wp_iload_n (i := 2) dX0_partAt_2 rfl rfl ?_
    refine wp_bipush (v := 10) dX0_partAt_3 (by decide) ?_
    refine wp_icmp_ge (tgt := 34) dX0_partAt_5 (by decide) (fun zq5 => absurd zq5 (nI_ge (show k < 10 by omega) (by decide))) (fun zq5 => ?_) 
    refine wp_aload_n (i := 0) dX0_partAt_8 rfl rfl ?_
    refine wp_iload_n (i := 2) dX0_partAt_9 rfl rfl ?_
    refine wp_V1i dX0_partAt_10 mw_452 mw_453 mw_454 mi_X0_hasPart (Nat.le_of_ble_eq_true rfl) (Nat.le_refl _) (Nat.le_refl _) (by assumption) (by decide) rfl (c_hasPart _ hta (fun gb => ?_) (fun gb => ?_)) 
    · skip
      refine wp_if_eq1 (tgt := 28) dX0_partAt_13 (by decide) ?_
      refine wp_aload_n (i := 0) dX0_partAt_16 rfl rfl ?_
      refine wp_getR dX0_partAt_17 fl_X0_15 rfl hta hpl ?_
      refine wp_iload_n (i := 2) dX0_partAt_20 rfl rfl ?_
      refine wp_ild (j := k) dX0_partAt_21 htp rfl (by omega) ?_
      refine wp_iload_n (i := 1) dX0_partAt_22 rfl rfl ?_
      refine wp_icmp_ne (tgt := 28) dX0_partAt_23 (by decide) (fun zq23 => ?_) (fun zq23 => ?_) 
      · refine wp_iinc_3_2 (v := nI (k + 1)) dX0_partAt_28 (nI_1 k) ?_
        refine wp_goto (tgt := 2) dX0_partAt_31 (by decide) ?_
        exact ih (k + 1) (by omega) (lt_s hp (fun g => zq23 g.2))
      · refine wp_iload_n (i := 2) dX0_partAt_26 rfl rfl ?_
        exact wp_retI dX0_partAt_27 rfl (Nat.le_refl _) (Nat.le_refl _) (h1 k (by omega) gb zq23 hp)
    · skip
      refine wp_if_eq0 (tgt := 28) dX0_partAt_13 (by decide) ?_
      refine wp_iinc_3_2 (v := nI (k + 1)) dX0_partAt_28 (nI_1 k) ?_
      refine wp_goto (tgt := 2) dX0_partAt_31 (by decide) ?_
      exact ih (k + 1) (by omega) (lt_s hp (fun g => gb g.1))

theorem c_partAt (d : Nat) {n : Nat} {t : eT} {I : eI} {R : eR} {Q : Int32 → Nat → eT → eI → eR → Prop} {a pl : Nat} {q : Int32} (hta : (t a).1 = 0) (hpl : R a 1 = some pl) (htp : t pl = (9, 10)) (h1 : ∀ x, x < 10 → bitAt (I a 0) x → I pl x = q → (∀ y, y < x → ¬ (bitAt (I a 0) y ∧ I pl y = q)) → Q (nI x) n t I R) (h0 : (∀ x, x < 10 → ¬ (bitAt (I a 0) x ∧ I pl x = q)) → Q (-9) n t I R)  : MC yX0_partAt cX0_partAt 3 (some .int) (d + 1) 0 0 [.ref a, .int q] n t I R (qI Q) := by
  refine mc_intro (L0 := [.ref a, .int q, vU]) (by decide) rfl (Nat.le_of_ble_eq_true rfl) ?_
  refine wp_iconst (v := 0) dX0_partAt_0 (by decide) ?_
  refine wp_istore_3_2 dX0_partAt_1 rfl ?_
  exact lp_partAt d hta hpl htp h1 h0 10 0 rfl (fun y hy => absurd hy (Nat.not_lt_zero y))

theorem lp_partIn (d : Nat) {n : Nat} {t : eT} {I : eI} {R : eR} {Q : Int32 → Nat → eT → eI → eR → Prop} (hst : ST n t R) {k j : Nat} (hkM : I 94 1 = nI k) (hk4 : k ≤ 10) (hj : j < 4) {q : Int32} (h1 : ∀ x, x < k → I 106 (10 * j + x) = q → (∀ y, y < x → ¬ I 106 (10 * j + y) = q) → Q (nI x) n t I R) (h0 : (∀ x, x < k → ¬ I 106 (10 * j + x) = q) → Q (-9) n t I R) : ∀ (r c : Nat), c + r = k → (∀ y, y < c → ¬ I 106 (10 * j + y) = q) → wp yX8_partIn cX8_partIn 4 (some .int) d 0 0 (qI Q) 0 0 2 [.ref 94, .int (nI j), .int q, .int (nI c)] [] n t I R := by
  intro r
  induction r with
  | zero =>
    intro c hk hp
    refine wp_iload_n (i := 3) dX8_partIn_2 rfl rfl ?_
    refine wp_aload_n (i := 0) dX8_partIn_3 rfl rfl ?_
    refine wp_getI dX8_partIn_4 fl_X8_143 rfl (st_k hst rfl) ?_
    refine wp_icmp_ge (tgt := 33) dX8_partIn_7 (by decide) (fun zq7 => ?_) (fun zq7 => absurd (by rw [hkM]; exact nI_le (show k ≤ c by omega) (by omega)) zq7) 
    refine wp_bipush (v := (-9)) dX8_partIn_33 (by decide) ?_
    exact wp_retI dX8_partIn_35 rfl (Nat.le_refl _) (Nat.le_refl _) (h0 (fun x hx => hp x (by omega)))
  | succ r ih =>
    intro c hk hp
    refine wp_iload_n (i := 3) dX8_partIn_2 rfl rfl ?_
    refine wp_aload_n (i := 0) dX8_partIn_3 rfl rfl ?_
    refine wp_getI dX8_partIn_4 fl_X8_143 rfl (st_k hst rfl) ?_
    refine wp_icmp_ge (tgt := 33) dX8_partIn_7 (by decide) (fun zq7 => absurd (by rw [hkM] at zq7; exact zq7) (nI_ge (show c < k by omega) (by omega))) (fun zq7 => ?_) 
    refine wp_aload_n (i := 0) dX8_partIn_10 rfl rfl ?_
    refine wp_getR dX8_partIn_11 fl_X8_44 rfl (st_k hst rfl) (st_r hst rfl) ?_
    refine wp_bipush (v := 10) dX8_partIn_14 (by decide) ?_
    refine wp_iload_n (i := 1) dX8_partIn_16 rfl rfl ?_
    refine wp_imul dX8_partIn_17 ?_
    refine wp_iload_n (i := 3) dX8_partIn_18 rfl rfl ?_
    refine wp_iadd dX8_partIn_19 ?_
    refine wp_ild (j := 10 * j + c) dX8_partIn_20 (st_t hst rfl) (n_lin 10 j c) (by omega) ?_
    refine wp_iload_n (i := 2) dX8_partIn_21 rfl rfl ?_
    refine wp_icmp_ne (tgt := 27) dX8_partIn_22 (by decide) (fun zq22 => ?_) (fun zq22 => ?_) 
    · refine wp_iinc_4_3 (v := nI (c + 1)) dX8_partIn_27 (nI_1 c) ?_
      refine wp_goto (tgt := 2) dX8_partIn_30 (by decide) ?_
      exact ih (c + 1) (by omega) (lt_s hp zq22)
    · refine wp_iload_n (i := 3) dX8_partIn_25 rfl rfl ?_
      exact wp_retI dX8_partIn_26 rfl (Nat.le_refl _) (Nat.le_refl _) (h1 c (by omega) zq22 hp)

theorem c_partIn (d : Nat) {n : Nat} {t : eT} {I : eI} {R : eR} {Q : Int32 → Nat → eT → eI → eR → Prop} (hst : ST n t R) {k j : Nat} (hkM : I 94 1 = nI k) (hk4 : k ≤ 10) (hj : j < 4) {q : Int32} (h1 : ∀ x, x < k → I 106 (10 * j + x) = q → (∀ y, y < x → ¬ I 106 (10 * j + y) = q) → Q (nI x) n t I R) (h0 : (∀ x, x < k → ¬ I 106 (10 * j + x) = q) → Q (-9) n t I R)  : MC yX8_partIn cX8_partIn 4 (some .int) d 0 0 [.ref 94, .int (nI j), .int q] n t I R (qI Q) := by
  refine mc_intro (L0 := [.ref 94, .int (nI j), .int q, vU]) (by decide) rfl (Nat.le_of_ble_eq_true rfl) ?_
  refine wp_iconst (v := 0) dX8_partIn_0 (by decide) ?_
  refine wp_istore_4_3 dX8_partIn_1 rfl ?_
  exact lp_partIn d hst hkM hk4 hj h1 h0 k 0 (by omega) (fun y hy => absurd hy (Nat.not_lt_zero y))

theorem c_at (d : Nat) {n : Nat} {t : eT} {I : eI} {R : eR} {Q : Int32 → Nat → eT → eI → eR → Prop} (hst : ST n t R) {m : Nat} (hm : I 4 3 = nI m) (hm4 : m ≤ 4) (hly : ∀ j, j < 4 → ∃ a pl, R (54 + 10 * j) 1 = some a ∧ (t a).1 = 0 ∧ R a 1 = some pl ∧ t pl = (9, 10)) {p q : Int32} (h1 : (∀ j, j < m → p ≠ nI j) → Q (-1) n t I R) (h1b : ∀ j, j < m → p = nI j → ¬ (0 ≤ q.toInt ∧ q.toInt ≤ 11) → Q (-1) n t I R) (h2 : ∀ j a pl x, j < m → p = nI j → 0 ≤ q.toInt → q.toInt ≤ 11 → R (54 + 10 * j) 1 = some a → R a 1 = some pl → x < 10 → bitAt (I a 0) x → I pl x = q → (∀ y, y < x → ¬ (bitAt (I a 0) y ∧ I pl y = q)) → Q (nI x) n t I R) (h3 : ∀ j a pl, j < m → p = nI j → 0 ≤ q.toInt → q.toInt ≤ 11 → R (54 + 10 * j) 1 = some a → R a 1 = some pl → (∀ x, x < 10 → ¬ (bitAt (I a 0) x ∧ I pl x = q)) → Q (-9) n t I R) : MC yX7_at cX7_at 3 (some .int) (d + 2) 0 0 [.ref 4, .int p, .int q] n t I R (qI Q) := by
  refine mc_intro (L0 := [.ref 4, .int p, .int q]) (by decide) rfl (Nat.le_of_ble_eq_true rfl) ?_
  refine wp_aload_n (i := 0) dX7_at_0 rfl rfl ?_
  refine wp_iload_n (i := 1) dX7_at_1 rfl rfl ?_
  refine wp_V1i dX7_at_2 mw_375 mw_377 ms_7 mi_X7_isPerson (Nat.le_of_ble_eq_true rfl) (Nat.le_refl _) (Nat.le_refl _) (st_k hst rfl) (by decide) rfl (c_isPerson _ hst (by exact hm) hm4 (fun j2 hj2 e2 => ?_) (fun no2 => ?_)) 
  · subst e2
    refine wp_if_eq1 (tgt := 15) dX7_at_5 (by decide) ?_
    refine wp_iload_n (i := 2) dX7_at_8 rfl rfl ?_
    refine wp_S1i dX7_at_9 mw_497 mw_498 mi_X7_isPlace (Nat.le_of_ble_eq_true rfl) (Nat.le_refl _) (Nat.le_refl _) (c_isPlace _ (fun ga9 gb9 => ?_) (fun gn9 => ?_)) 
    · skip
      refine wp_if_ne1 (tgt := 17) dX7_at_12 (by decide) ?_
      obtain ⟨a, pl, hy1, hy2, hy3, hy4⟩ := hly j2 (by omega)
      refine wp_aload_n (i := 0) dX7_at_17 rfl rfl ?_
      refine wp_getR dX7_at_18 fl_X7_27 rfl (st_k hst rfl) (st_r hst rfl) ?_
      refine wp_iload_n (i := 1) dX7_at_21 rfl rfl ?_
      refine wp_rld11 dX7_at_22 (st_t hst rfl) rfl (by omega) (sp_34 hst (by omega)) ?_
      refine wp_getR dX7_at_23 fl_X7_147 rfl (sp_k0 hst (by omega)) hy1 ?_
      refine wp_iload_n (i := 2) dX7_at_26 rfl rfl ?_
      refine wp_V1i dX7_at_27 mw_500 mw_501 mw_502 mi_X0_partAt (Nat.le_of_ble_eq_true rfl) (Nat.le_refl _) (Nat.le_refl _) hy2 (by decide) rfl (c_partAt _ hy2 hy3 hy4 (fun x hx g1 g2 g3 => ?_) (fun g1 => ?_)) 
      · skip
        exact wp_retI dX7_at_30 rfl (Nat.le_refl _) (Nat.le_refl _) (h2 j2 a pl x hj2 rfl ga9 gb9 hy1 hy3 hx g1 g2 g3)
      · skip
        exact wp_retI dX7_at_30 rfl (Nat.le_refl _) (Nat.le_refl _) (h3 j2 a pl hj2 rfl ga9 gb9 hy1 hy3 g1)
    · skip
      refine wp_if_ne0 (tgt := 17) dX7_at_12 (by decide) ?_
      refine wp_iconst (v := (-1)) dX7_at_15 (by decide) ?_
      exact wp_retI dX7_at_16 rfl (Nat.le_refl _) (Nat.le_refl _) (h1b j2 hj2 rfl gn9)
  · skip
    refine wp_if_eq0 (tgt := 15) dX7_at_5 (by decide) ?_
    refine wp_iconst (v := (-1)) dX7_at_15 (by decide) ?_
    exact wp_retI dX7_at_16 rfl (Nat.le_refl _) (Nat.le_refl _) (h1 no2)

theorem c_atM (d : Nat) {n : Nat} {t : eT} {I : eI} {R : eR} {Q : Int32 → Nat → eT → eI → eR → Prop} (hst : ST n t R) {m : Nat} (hmM : I 94 9 = nI m) (hm4 : m ≤ 4) {k : Nat} (hkM : I 94 1 = nI k) (hk4 : k ≤ 10) {p q : Int32} (h1 : (∀ j, j < m → p ≠ nI j) → Q (-1) n t I R) (h1b : ∀ j, j < m → p = nI j → ¬ (0 ≤ q.toInt ∧ q.toInt ≤ 11) → Q (-1) n t I R) (h2 : ∀ j x, j < m → p = nI j → 0 ≤ q.toInt → q.toInt ≤ 11 → x < k → I 106 (10 * j + x) = q → (∀ y, y < x → ¬ I 106 (10 * j + y) = q) → Q (nI x) n t I R) (h3 : ∀ j, j < m → p = nI j → 0 ≤ q.toInt → q.toInt ≤ 11 → (∀ x, x < k → ¬ I 106 (10 * j + x) = q) → Q (-9) n t I R) : MC yX8_at cX8_at 3 (some .int) (d + 2) 0 0 [.ref 94, .int p, .int q] n t I R (qI Q) := by
  refine mc_intro (L0 := [.ref 94, .int p, .int q]) (by decide) rfl (Nat.le_of_ble_eq_true rfl) ?_
  refine wp_aload_n (i := 0) dX8_at_0 rfl rfl ?_
  refine wp_iload_n (i := 1) dX8_at_1 rfl rfl ?_
  refine wp_V1i dX8_at_2 mw_942 mw_944 ms_32 mi_X8_noPerson (Nat.le_of_ble_eq_true rfl) (Nat.le_refl _) (Nat.le_refl _) (st_k hst rfl) (by decide) rfl (c_noPerson _ hst (by exact hmM) hm4 (fun j2 hj2 e2 => ?_) (fun no2 => ?_)) 
  · subst e2
    refine wp_if_ne0 (tgt := 15) dX8_at_5 (by decide) ?_
    refine wp_iload_n (i := 2) dX8_at_8 rfl rfl ?_
    refine wp_S1i dX8_at_9 mw_1024 mw_1025 mi_X8_isPlace (Nat.le_of_ble_eq_true rfl) (Nat.le_refl _) (Nat.le_refl _) (c_isPlaceM _ (fun ga9 gb9 => ?_) (fun gn9 => ?_)) 
    · skip
      refine wp_if_ne1 (tgt := 19) dX8_at_12 (by decide) ?_
      refine wp_aload_n (i := 0) dX8_at_19 rfl rfl ?_
      refine wp_iload_n (i := 1) dX8_at_20 rfl rfl ?_
      refine wp_iload_n (i := 2) dX8_at_21 rfl rfl ?_
      refine wp_V2i dX8_at_22 mw_1028 mw_1030 ms_42 mi_X8_partIn (Nat.le_of_ble_eq_true rfl) (Nat.le_refl _) (Nat.le_refl _) (st_k hst rfl) (by decide) rfl (c_partIn _ hst hkM hk4 (by omega) (fun x hx g1 g2 => ?_) (fun g1 => ?_)) 
      · skip
        exact wp_retI dX8_at_25 rfl (Nat.le_refl _) (Nat.le_refl _) (h2 j2 x hj2 rfl ga9 gb9 hx g1 g2)
      · skip
        exact wp_retI dX8_at_25 rfl (Nat.le_refl _) (Nat.le_refl _) (h3 j2 hj2 rfl ga9 gb9 g1)
    · skip
      refine wp_if_ne0 (tgt := 19) dX8_at_12 (by decide) ?_
      refine wp_iconst (v := (-1)) dX8_at_15 (by decide) ?_
      refine wp_goto (tgt := 25) dX8_at_16 (by decide) ?_
      exact wp_retI dX8_at_25 rfl (Nat.le_refl _) (Nat.le_refl _) (h1b j2 hj2 rfl gn9)
  · skip
    refine wp_if_ne1 (tgt := 15) dX8_at_5 (by decide) ?_
    refine wp_iconst (v := (-1)) dX8_at_15 (by decide) ?_
    refine wp_goto (tgt := 25) dX8_at_16 (by decide) ?_
    exact wp_retI dX8_at_25 rfl (Nat.le_refl _) (Nat.le_refl _) (h1 no2)

