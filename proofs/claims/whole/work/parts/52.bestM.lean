theorem RcM.fr {I I2 I3 : eI} {j : Nat} {sel : Nat → Bool} {q : Nat × (Nat → Nat)} (h : FrZ I I2) (h2 : RcM I2 I3 j sel q) : RcM I I3 j sel q := by
  have r106 := h.1 106 (by decide) (by decide) (by decide) (by decide)
  have r107 := h.1 107 (by decide) (by decide) (by decide) (by decide)
  have r104 := h.1 104 (by decide) (by decide) (by decide) (by decide)
  have r105 := h.1 105 (by decide) (by decide) (by decide) (by decide)
  have r114 := h.1 114 (by decide) (by decide) (by decide) (by decide)
  obtain ⟨a1, a2, a3, a4, a5, a6, a7, a8, a9⟩ := h2
  rw [r106] at a2
  rw [r104] at a4
  rw [r106, r107] at a6
  rw [r104, r105, r114] at a7
  exact ⟨a1, a2, a3, a4, a5, a6, a7, fun a ha => (a8 a ha).trans (h.1 a (by omega) (by omega) (by omega) (by omega)), fun f f1 f2 => (a9 f f1 f2).trans (h.2 f f1 f2)⟩
theorem lp_tk1 (d : Nat) {n : Nat} {t : eT} {R : eR} {Q : eQt} (hst : ST n t R) {j : Nat} (hj : j < 4) : ∀ (r x : Nat) (I : eI), x + r = 10 → (∀ I2 : eI, (∀ y, x ≤ y → y < 10 → I2 107 (10 * j + y) = I 106 (10 * j + y) ∧ I2 106 (10 * j + y) = -9) → (∀ y, ¬ (10 * j + x ≤ y ∧ y < 10 * j + 10) → I2 106 y = I 106 y ∧ I2 107 y = I 107 y) → (∀ a, a ≠ 106 → a ≠ 107 → I2 a = I a) → wp yX8_take cX8_take 3 none d 0 0 Q 0 0 61 [.ref 94, .int (nI j), .int (nI 10)] [] n t I2 R) → wp yX8_take cX8_take 3 none d 0 0 Q 0 0 14 [.ref 94, .int (nI j), .int (nI x)] [] n t I R := by
  intro r
  induction r with
  | zero =>
    intro x I hx hq
    obtain rfl : x = 10 := by omega
    refine wp_iload_n (i := 2) dX8_take_14 rfl rfl ?_
    refine wp_bipush (v := 10) dX8_take_15 (by decide) ?_
    refine wp_icmp_ge (tgt := 61) dX8_take_17 (by decide) (fun zq17 => ?_) (fun zq17 => absurd (nI_le (show 10 ≤ 10 by decide) (by decide)) zq17) 
    exact hq I (fun y h1 h2 => by omega) (fun _ _ => ⟨rfl, rfl⟩) (fun _ _ _ => rfl)
  | succ r ih =>
    intro x I hx hq
    refine wp_iload_n (i := 2) dX8_take_14 rfl rfl ?_
    refine wp_bipush (v := 10) dX8_take_15 (by decide) ?_
    refine wp_icmp_ge (tgt := 61) dX8_take_17 (by decide) (fun zq17 => absurd zq17 (nI_ge (show x < 10 by omega) (by decide))) (fun zq17 => ?_) 
    refine wp_aload_n (i := 0) dX8_take_20 rfl rfl ?_
    refine wp_getR dX8_take_21 fl_X8_47 rfl (st_k hst rfl) (st_r hst rfl) ?_
    refine wp_bipush (v := 10) dX8_take_24 (by decide) ?_
    refine wp_iload_n (i := 1) dX8_take_26 rfl rfl ?_
    refine wp_imul dX8_take_27 ?_
    refine wp_iload_n (i := 2) dX8_take_28 rfl rfl ?_
    refine wp_iadd dX8_take_29 ?_
    refine wp_aload_n (i := 0) dX8_take_30 rfl rfl ?_
    refine wp_getR dX8_take_31 fl_X8_44 rfl (st_k hst rfl) (st_r hst rfl) ?_
    refine wp_bipush (v := 10) dX8_take_34 (by decide) ?_
    refine wp_iload_n (i := 1) dX8_take_36 rfl rfl ?_
    refine wp_imul dX8_take_37 ?_
    refine wp_iload_n (i := 2) dX8_take_38 rfl rfl ?_
    refine wp_iadd dX8_take_39 ?_
    refine wp_ild (j := ((10 * j) + x)) dX8_take_40 (st_t hst rfl) (n_add (n_mul rfl rfl) rfl) (by omega) ?_
    refine wp_ist (j := ((10 * j) + x)) dX8_take_41 (st_t hst rfl) (n_add (n_mul rfl rfl) rfl) (by omega) ?_
    refine wp_aload_n (i := 0) dX8_take_42 rfl rfl ?_
    refine wp_getR dX8_take_43 fl_X8_44 rfl (st_k hst rfl) (st_r hst rfl) ?_
    refine wp_bipush (v := 10) dX8_take_46 (by decide) ?_
    refine wp_iload_n (i := 1) dX8_take_48 rfl rfl ?_
    refine wp_imul dX8_take_49 ?_
    refine wp_iload_n (i := 2) dX8_take_50 rfl rfl ?_
    refine wp_iadd dX8_take_51 ?_
    refine wp_bipush (v := (-9)) dX8_take_52 (by decide) ?_
    refine wp_ist (j := ((10 * j) + x)) dX8_take_54 (st_t hst rfl) (n_add (n_mul rfl rfl) rfl) (by omega) ?_
    refine wp_iinc_3_2 (v := nI (x + 1)) dX8_take_55 (n_add rfl rfl) ?_
    refine wp_goto (tgt := 14) dX8_take_58 (by decide) ?_
    refine ih (x + 1) (eU (eU I 107 (10 * j + x) (I 106 (10 * j + x))) 106 (10 * j + x) (-9)) (by omega) (fun I2 g1 g2 g3 => hq I2 (fun y h1 h2 => ?_) (fun y hy => ?_) (fun a a1 a2 => by rw [g3 a a1 a2, eU_ne a1, eU_ne a2]))
    · by_cases e : y = x
      · subst e
        rw [(g2 (10 * j + y) (by omega)).1, (g2 (10 * j + y) (by omega)).2, eU_at]
        refine ⟨?_, rfl⟩
        rw [eU_o (show (107 : Nat) ≠ 106 by decide), eU_at]
      · have e1 := g1 y (by omega) h2
        rw [e1.1, e1.2]
        refine ⟨?_, rfl⟩
        rw [eU_c (by omega), eU_o (show (106 : Nat) ≠ 107 by decide)]
    · rw [(g2 y (by omega)).1, (g2 y (by omega)).2, eU_c (show y ≠ 10 * j + x by omega), eU_o (show (106 : Nat) ≠ 107 by decide), eU_o (show (107 : Nat) ≠ 106 by decide), eU_c (show y ≠ 10 * j + x by omega)]
      exact ⟨rfl, rfl⟩

theorem lp_tk2 (d : Nat) {n : Nat} {t : eT} {R : eR} {Q : eQt} (hst : ST n t R) {j : Nat} (hj : j < 4) {c : Nat} (hc : c ≤ 5) {ch : Nat → Nat} (hch : ∀ i, i < c → ch i < 10) (hinj : ∀ i i2, i < c → i2 < c → ch i = ch i2 → i = i2) {ps : Nat → Nat} : ∀ (r i : Nat) (I : eI), i + r = c → I 94 17 = nI c → (∀ i, i < c → I 108 i = nI (ch i)) → (∀ i, i < c → I 110 i = nI (ps i)) → (∀ (I2 : eI) (z2 : Value), (∀ i2, i ≤ i2 → i2 < c → I2 106 (10 * j + ch i2) = nI (ps i2)) → (∀ y, (∀ i2, i ≤ i2 → i2 < c → y ≠ 10 * j + ch i2) → I2 106 y = I 106 y) → (∀ a, a ≠ 106 → I2 a = I a) → wp yX8_take cX8_take 3 none d 0 0 Q 0 0 99 [.ref 94, .int (nI j), z2] [] n t I2 R) → wp yX8_take cX8_take 3 none d 0 0 Q 0 0 63 [.ref 94, .int (nI j), .int (nI i)] [] n t I R := by
  intro r
  induction r with
  | zero =>
    intro i I hi hn h8 h10 hq
    refine wp_iload_n (i := 2) dX8_take_63 rfl rfl ?_
    refine wp_aload_n (i := 0) dX8_take_64 rfl rfl ?_
    refine wp_getI dX8_take_65 fl_X8_198 rfl (st_k hst rfl) ?_
    refine wp_icmp_ge (tgt := 99) dX8_take_68 (by decide) (fun zq68 => ?_) (fun zq68 => absurd (show I 94 17 ≤ nI i by rw [hn]; exact nI_le (by omega) (by omega)) zq68) 
    exact hq I _ (fun i2 h1 h2 => by omega) (fun _ _ => rfl) (fun _ _ => rfl)
  | succ r ih =>
    intro i I hi hn h8 h10 hq
    refine wp_iload_n (i := 2) dX8_take_63 rfl rfl ?_
    refine wp_aload_n (i := 0) dX8_take_64 rfl rfl ?_
    refine wp_getI dX8_take_65 fl_X8_198 rfl (st_k hst rfl) ?_
    refine wp_icmp_ge (tgt := 99) dX8_take_68 (by decide) (fun zq68 => absurd (show I 94 17 ≤ nI i from zq68) (by rw [hn]; exact nI_ge (show i < c by omega) (by omega))) (fun zq68 => ?_) 
    have hci := hch i (by omega)
    refine wp_aload_n (i := 0) dX8_take_71 rfl rfl ?_
    refine wp_getR dX8_take_72 fl_X8_44 rfl (st_k hst rfl) (st_r hst rfl) ?_
    refine wp_bipush (v := 10) dX8_take_75 (by decide) ?_
    refine wp_iload_n (i := 1) dX8_take_77 rfl rfl ?_
    refine wp_imul dX8_take_78 ?_
    refine wp_aload_n (i := 0) dX8_take_79 rfl rfl ?_
    refine wp_getR dX8_take_80 fl_X8_50 rfl (st_k hst rfl) (st_r hst rfl) ?_
    refine wp_iload_n (i := 2) dX8_take_83 rfl rfl ?_
    refine wp_ild (j := i) dX8_take_84 (st_t hst rfl) rfl (by omega) ?_
    refine wp_iadd dX8_take_85 ?_
    refine wp_aload_n (i := 0) dX8_take_86 rfl rfl ?_
    refine wp_getR dX8_take_87 fl_X8_56 rfl (st_k hst rfl) (st_r hst rfl) ?_
    refine wp_iload_n (i := 2) dX8_take_90 rfl rfl ?_
    refine wp_ild (j := i) dX8_take_91 (st_t hst rfl) rfl (by omega) ?_
    rw [show I 110 i = nI (ps i) from h10 i (by omega)]
    refine wp_ist (j := ((10 * j) + (ch i))) dX8_take_92 (st_t hst rfl) (n_add (n_mul rfl rfl) (h8 i (by omega))) (by omega) ?_
    refine wp_iinc_3_2 (v := nI (i + 1)) dX8_take_93 (n_add rfl rfl) ?_
    refine wp_goto (tgt := 63) dX8_take_96 (by decide) ?_
    refine ih (i + 1) (eU I 106 (10 * j + ch i) (nI (ps i))) (by omega) hn h8 h10 (fun I2 z2 g1 g2 g3 => hq I2 z2 (fun i2 h1 h2 => ?_) (fun y hy => ?_) (fun a ha => (g3 a ha).trans (eU_ne ha)))
    · by_cases e : i2 = i
      · subst e
        rw [g2 (10 * j + ch i2) (fun i3 h3 h4 g => by have := hinj i2 i3 (by omega) h4 (by omega); omega), eU_at]
      · exact g1 i2 (by omega) h2
    · rw [g2 y (fun i3 h3 h4 => hy i3 (by omega) h4), eU_c (hy i (Nat.le_refl _) (by omega))]

theorem c_takeLM (d : Nat) {n : Nat} {t : eT} {I : eI} {R : eR} {Q : Nat → eT → eI → eR → Prop} (hst : ST n t R) {j : Nat} (hj : j < 4) {sel : Nat → Bool} (hc5 : ci sel 10 ≤ 5) {q : Nat × (Nat → Nat)} (hB : BM I (ci sel 10) (some q)) (hn : I 94 17 = nI (ci sel 10)) (hch : ∀ i, i < ci sel 10 → I 108 i = nI (chv sel i)) (hz : narrow .boolean (.int (I 104 j)) = .int (I 104 j)) (hq : ∀ I2 : eI, RcM I I2 j sel q → (∀ f, I2 94 f = I 94 f) → Q n t I2 R) : MC yX8_take cX8_take 3 none d 0 0 [.ref 94, .int (nI j)] n t I R (qV Q) := by
  refine mc_intro (L0 := [.ref 94, .int (nI j), vU]) (by decide) rfl (Nat.le_of_ble_eq_true rfl) ?_
  refine wp_aload_n (i := 0) dX8_take_0 rfl rfl ?_
  refine wp_getR dX8_take_1 fl_X8_41 rfl (st_k hst rfl) (st_r hst rfl) ?_
  refine wp_iload_n (i := 1) dX8_take_4 rfl rfl ?_
  refine wp_aload_n (i := 0) dX8_take_5 rfl rfl ?_
  refine wp_getR dX8_take_6 fl_X8_37 rfl (st_k hst rfl) (st_r hst rfl) ?_
  refine wp_iload_n (i := 1) dX8_take_9 rfl rfl ?_
  refine wp_zld (j := j) dX8_take_10 (st_t hst rfl) rfl (by omega) ?_
  refine wp_zst (j := j) dX8_take_11 (st_t hst rfl) rfl (by omega) hz ?_
  refine wp_iconst (v := 0) dX8_take_12 (by decide) ?_
  refine wp_istore_3_2 dX8_take_13 rfl ?_
  refine lp_tk1 _ hst hj 10 0 _ rfl (fun I2 g1 g2 g3 => ?_)
  refine wp_iconst (v := 0) dX8_take_61 (by decide) ?_
  refine wp_istore_3_2 dX8_take_62 rfl ?_
  refine lp_tk2 _ hst hj hc5 (ch := chv sel) (fun i hi => (ch_s (sel := sel) 10 i hi).1) ch_inj (ps := q.2) (ci sel 10) 0 I2 (by omega) (by rw [g3 94 (by decide) (by decide)]; exact hn) (fun i hi => by rw [g3 108 (by decide) (by decide)]; exact hch i hi) (fun i hi => by rw [g3 110 (by decide) (by decide)]; exact (hB.2.2 i hi).1) (fun I3 z2 p1 p2 p3 => ?_)
  refine wp_aload_n (i := 0) dX8_take_99 rfl rfl ?_
  refine wp_getR dX8_take_100 fl_X8_37 rfl (st_k hst rfl) (st_r hst rfl) ?_
  refine wp_iload_n (i := 1) dX8_take_103 rfl rfl ?_
  refine wp_iconst (v := 1) dX8_take_104 (by decide) ?_
  refine wp_zst (j := j) dX8_take_105 (st_t hst rfl) rfl (by omega) rfl ?_
  refine wp_aload_n (i := 0) dX8_take_106 rfl rfl ?_
  refine wp_getR dX8_take_107 fl_X8_68 rfl (st_k hst rfl) (st_r hst rfl) ?_
  refine wp_iload_n (i := 1) dX8_take_110 rfl rfl ?_
  refine wp_bipush (v := (-9)) dX8_take_111 (by decide) ?_
  refine wp_ist (j := j) dX8_take_113 (st_t hst rfl) rfl (by omega) ?_
  refine wp_retV dX8_take_114 rfl (Nat.le_refl _) (Nat.le_refl _) (hq _ ⟨fun x hx => ?_, fun x hx => ?_, ?_, ?_, eU_at _ _ _ _, fun y hy => ?_, fun y hy => ?_, fun a ha => ?_, fun f f1 f2 => ?_⟩ (fun f => ?_))
  · show I3 106 _ = _
    by_cases hs : sel x = true
    · rw [if_pos hs]
      have hci := ch_i (sel := sel) 10 x hx hs
      have e1 := p1 (ci sel x) (by omega) hci.2
      rw [show chv sel (ci sel x) = x from hci.1] at e1
      exact e1
    · rw [if_neg hs, p2 (10 * j + x) (fun i2 h3 h4 g => hs (by have e2 : chv sel i2 = x := by omega
                                                               rw [← e2]; exact (ch_s (sel := sel) 10 i2 h4).2.1))]
      exact (g1 x (by omega) hx).2
  · show I3 107 _ = _
    rw [p3 107 (by decide)]
    exact (g1 x (by omega) hx).1
  · exact eU_at _ _ _ _
  · show I3 105 j = _
    rw [p3 105 (by decide), g3 105 (by decide) (by decide)]
    exact eU_at _ _ _ _
  · show I3 106 y = _ ∧ I3 107 y = _
    rw [p3 107 (by decide), p2 y (fun i2 h3 h4 g => by have := (ch_s (sel := sel) 10 i2 h4).1; have e2 : chv sel i2 < 10 := this; omega)]
    exact g2 y (by omega)
  · show (eU I3 104 j 1) 104 y = _ ∧ I3 105 y = _ ∧ (eU (eU I3 104 j 1) 114 j (-9)) 114 y = _
    rw [eU_c hy, eU_c hy, eU_o (show (114 : Nat) ≠ 104 by decide), p3 104 (by decide), p3 105 (by decide), p3 114 (by decide), g3 104 (by decide) (by decide), g3 105 (by decide) (by decide), g3 114 (by decide) (by decide)]
    exact ⟨rfl, eU_c hy, rfl⟩
  · rw [eU_ne (by omega), eU_ne (by omega), p3 a (by omega), g3 a (by omega) (by omega), eU_ne (by omega)]
  · show I3 94 f = _
    rw [p3 94 (by decide), g3 94 (by decide) (by decide)]
    rfl
  · show I3 94 f = _
    rw [p3 94 (by decide), g3 94 (by decide) (by decide)]
    rfl
  skip

theorem lp_set (d : Nat) {n : Nat} {t : eT} {I : eI} {R : eR} {Q : Int32 → Nat → eT → eI → eR → Prop} (hst : ST n t R) {j : Nat} (hj : j < 4) {sel : Nat → Bool} (hL : ∀ x, x < 10 → (sel x = true ↔ ¬ I 106 (10 * j + x) < 0)) (hq : ∀ sv : Int32, (∀ x, x < 10 → bt sv x = sel x) → Q sv n t I R) : ∀ (r x : Nat) (sv : Int32), x + r = 10 → (∀ y, y < 12 → bt sv y = (decide (y < x) && sel y)) → wp yX8_setOf cX8_setOf 4 (some .int) d 0 0 (qI Q) 0 0 4 [.ref 94, .int (nI j), .int sv, .int (nI x)] [] n t I R := by
  intro r
  induction r with
  | zero =>
    intro x sv hx hb
    obtain rfl : x = 10 := by omega
    refine wp_iload_n (i := 3) dX8_setOf_4 rfl rfl ?_
    refine wp_bipush (v := 10) dX8_setOf_5 (by decide) ?_
    refine wp_icmp_ge (tgt := 40) dX8_setOf_7 (by decide) (fun zq7 => ?_) (fun zq7 => absurd (nI_le (show 10 ≤ 10 by decide) (by decide)) zq7) 
    refine wp_iload_n (i := 2) dX8_setOf_40 rfl rfl ?_
    exact wp_retI dX8_setOf_41 rfl (Nat.le_refl _) (Nat.le_refl _) (hq sv (fun y hy => by rw [hb y (by omega), decide_eq_true (by omega), Bool.true_and]))
  | succ r ih =>
    intro x sv hx hb
    refine wp_iload_n (i := 3) dX8_setOf_4 rfl rfl ?_
    refine wp_bipush (v := 10) dX8_setOf_5 (by decide) ?_
    refine wp_icmp_ge (tgt := 40) dX8_setOf_7 (by decide) (fun zq7 => absurd zq7 (nI_ge (show x < 10 by omega) (by decide))) (fun zq7 => ?_) 
    refine wp_iload_n (i := 2) dX8_setOf_10 rfl rfl ?_
    refine wp_aload_n (i := 0) dX8_setOf_11 rfl rfl ?_
    refine wp_getR dX8_setOf_12 fl_X8_44 rfl (st_k hst rfl) (st_r hst rfl) ?_
    refine wp_bipush (v := 10) dX8_setOf_15 (by decide) ?_
    refine wp_iload_n (i := 1) dX8_setOf_17 rfl rfl ?_
    refine wp_imul dX8_setOf_18 ?_
    refine wp_iload_n (i := 3) dX8_setOf_19 rfl rfl ?_
    refine wp_iadd dX8_setOf_20 ?_
    refine wp_ild (j := ((10 * j) + x)) dX8_setOf_21 (st_t hst rfl) (n_add (n_mul rfl rfl) rfl) (by omega) ?_
    refine wp_if_ge (tgt := 29) dX8_setOf_22 (by decide) (fun zq22 => ?_) (fun zq22 => ?_) 
    · refine wp_iconst (v := 1) dX8_setOf_29 (by decide) ?_
      refine wp_iload_n (i := 3) dX8_setOf_30 rfl rfl ?_
      refine wp_ishl dX8_setOf_31 ?_
      refine wp_ior dX8_setOf_32 ?_
      refine wp_istore_4_2 dX8_setOf_33 rfl ?_
      refine wp_iinc_4_3 (v := nI (x + 1)) dX8_setOf_34 (n_add rfl rfl) ?_
      refine wp_goto (tgt := 4) dX8_setOf_37 (by decide) ?_
      have hs : sel x = true := (hL x (by omega)).mpr (Int32.not_lt.mpr zq22)
      refine ih (x + 1) _ (by omega) (fun y hy => ?_)
      rw [bt_or, bt_shl x (by omega) y hy, hb y hy]
      by_cases e : y = x
      · subst e; rw [hs, decide_eq_true (rfl : y = y), decide_eq_true (show y < y + 1 by omega), Bool.or_true]; rfl
      · rw [decide_eq_false e, Bool.or_false]; congr 1; exact decide_eq_decide.mpr (by omega)
    · refine wp_iconst (v := 0) dX8_setOf_25 (by decide) ?_
      refine wp_goto (tgt := 32) dX8_setOf_26 (by decide) ?_
      refine wp_ior dX8_setOf_32 ?_
      refine wp_istore_4_2 dX8_setOf_33 rfl ?_
      refine wp_iinc_4_3 (v := nI (x + 1)) dX8_setOf_34 (n_add rfl rfl) ?_
      refine wp_goto (tgt := 4) dX8_setOf_37 (by decide) ?_
      have hs : sel x = false := by
        cases hs : sel x with
        | false => rfl
        | true => exact absurd (Int32.not_lt.mp ((hL x (by omega)).mp hs)) zq22
      refine ih (x + 1) _ (by omega) (fun y hy => ?_)
      rw [bt_or, bt_0, Bool.or_false, hb y hy]
      by_cases e : y = x
      · subst e; rw [hs, Bool.and_false, Bool.and_false]
      · congr 1; exact decide_eq_decide.mpr (by omega)

theorem c_setOf (d : Nat) {n : Nat} {t : eT} {I : eI} {R : eR} {Q : Int32 → Nat → eT → eI → eR → Prop} (hst : ST n t R) {j : Nat} (hj : j < 4) {sel : Nat → Bool} (hL : ∀ x, x < 10 → (sel x = true ↔ ¬ I 106 (10 * j + x) < 0)) (hq : ∀ sv : Int32, (∀ x, x < 10 → bt sv x = sel x) → Q sv n t I R) : MC yX8_setOf cX8_setOf 4 (some .int) d 0 0 [.ref 94, .int (nI j)] n t I R (qI Q) := by
  refine mc_intro (L0 := [.ref 94, .int (nI j), vU, vU]) (by decide) rfl (Nat.le_of_ble_eq_true rfl) ?_
  refine wp_iconst (v := 0) dX8_setOf_0 (by decide) ?_
  refine wp_istore_4_2 dX8_setOf_1 rfl ?_
  refine wp_iconst (v := 0) dX8_setOf_2 (by decide) ?_
  refine wp_istore_4_3 dX8_setOf_3 rfl ?_
  exact lp_set d hst hj hL hq 10 0 0 rfl (fun y hy => by rw [bt_0, decide_eq_false (Nat.not_lt_zero y)]; rfl)

def fnd (ch ps : Nat → Nat) (x : Int32) : Nat → Int32
  | 0 => -9
  | i + 1 => if nI (ch i) = x then nI (ps i) else fnd ch ps x i
theorem fnd_no {ch ps : Nat → Nat} {x : Int32} : ∀ c, (∀ i, i < c → ¬ nI (ch i) = x) → fnd ch ps x c = -9
  | 0, _ => rfl
  | c + 1, h => by
    show (if nI (ch c) = x then nI (ps c) else fnd ch ps x c) = -9
    rw [if_neg (h c (by omega))]
    exact fnd_no c (fun i hi => h i (by omega))
theorem fnd_yes {ch ps : Nat → Nat} {x : Int32} {i : Nat} : ∀ c, i < c → nI (ch i) = x → (∀ i2, i2 < c → nI (ch i2) = x → i2 = i) → fnd ch ps x c = nI (ps i)
  | 0, h, _, _ => absurd h (Nat.not_lt_zero i)
  | c + 1, h, he, hu => by
    show (if nI (ch c) = x then nI (ps c) else fnd ch ps x c) = nI (ps i)
    by_cases g : nI (ch c) = x
    · rw [if_pos g, hu c (by omega) g]
    · rw [if_neg g]
      exact fnd_yes c (Nat.lt_of_le_of_ne (by omega) (fun e => g (by rw [← e]; exact he))) he (fun i2 h2 h3 => hu i2 (by omega) h3)
theorem fnd_at {sel : Nat → Bool} {q : Nat × (Nat → Nat)} {i : Nat} (hi : i < 10) : fnd (chv sel) q.2 (nI i) (ci sel 10) = atB sel (some q) i := by
  have hb : ∀ i2, i2 < ci sel 10 → chv sel i2 < 10 := fun i2 h => (ch_s (sel := sel) 10 i2 h).1
  show _ = if sel i = true then nI (q.2 (ci sel i)) else -9
  by_cases hs : sel i = true
  · rw [if_pos hs]
    have hci := ch_i (sel := sel) 10 i hi hs
    refine fnd_yes _ hci.2 (congrArg nI hci.1) (fun i2 h2 h3 => ?_)
    have e := (nI_eq (by have := hb i2 h2; omega) (by omega)).mp h3
    exact ch_inj i2 (ci sel i) h2 hci.2 (e.trans (show chv sel (ci sel i) = i from hci.1).symm)
  · rw [if_neg hs]
    refine fnd_no _ (fun i2 h2 h3 => hs ?_)
    have e := (nI_eq (by have := hb i2 h2; omega) (by omega)).mp h3
    rw [← e]
    exact (ch_s (sel := sel) 10 i2 h2).2.1

theorem lp_bm (d : Nat) {n : Nat} {t : eT} {I : eI} {R : eR} {Q : eQt} (hst : ST n t R) {c : Nat} (hc : c ≤ 5) {ch ps : Nat → Nat} (hn : I 94 17 = nI c) (h8 : ∀ i, i < c → I 108 i = nI (ch i)) (h10 : ∀ i, i < c → I 110 i = nI (ps i)) {x1 x2 : Value} {x : Int32} : ∀ (r i : Nat), i + r = c → wp yX8_best cX8_best 6 (some .int) d 0 0 Q 0 0 98 [.ref 94, x1, x2, .int x, .int (fnd ch ps x c), .int (nI c)] [] n t I R → wp yX8_best cX8_best 6 (some .int) d 0 0 Q 0 0 58 [.ref 94, x1, x2, .int x, .int (fnd ch ps x i), .int (nI i)] [] n t I R := by
  intro r
  induction r with
  | zero =>
    intro i hi hq
    obtain rfl : i = c := by omega
    refine wp_iload dX8_best_58 rfl ?_
    refine wp_aload_n (i := 0) dX8_best_60 rfl rfl ?_
    refine wp_getI dX8_best_61 fl_X8_198 rfl (st_k hst rfl) ?_
    refine wp_icmp_ge (tgt := 98) dX8_best_64 (by decide) (fun zq64 => ?_) (fun zq64 => absurd (by rw [hn]; exact nI_le (Nat.le_refl _) (by omega)) zq64) 
    exact hq
  | succ r ih =>
    intro i hi hq
    refine wp_iload dX8_best_58 rfl ?_
    refine wp_aload_n (i := 0) dX8_best_60 rfl rfl ?_
    refine wp_getI dX8_best_61 fl_X8_198 rfl (st_k hst rfl) ?_
    refine wp_icmp_ge (tgt := 98) dX8_best_64 (by decide) (fun zq64 => absurd (show I 94 17 ≤ nI i from zq64) (by rw [hn]; exact nI_ge (show i < c by omega) (by omega))) (fun zq64 => ?_) 
    refine wp_aload_n (i := 0) dX8_best_67 rfl rfl ?_
    refine wp_getR dX8_best_68 fl_X8_50 rfl (st_k hst rfl) (st_r hst rfl) ?_
    refine wp_iload dX8_best_71 rfl ?_
    refine wp_ild (j := i) dX8_best_73 (st_t hst rfl) rfl (by omega) ?_
    refine wp_iload_n (i := 3) dX8_best_74 rfl rfl ?_
    rw [h8 i (by omega)]
    refine wp_icmp_ne (tgt := 88) dX8_best_75 (by decide) (fun zq75 => ?_) (fun zq75 => ?_) 
    · refine wp_iload dX8_best_88 rfl ?_
      have e9 : fnd ch ps x i = fnd ch ps x (i + 1) := (if_neg zq75).symm
      rw [e9]
      refine wp_istore_6_4 dX8_best_90 rfl ?_
      refine wp_iinc_6_5 (v := nI (i + 1)) dX8_best_92 (n_add rfl rfl) ?_
      refine wp_goto (tgt := 58) dX8_best_95 (by decide) ?_
      exact ih (i + 1) (by omega) hq
    · refine wp_aload_n (i := 0) dX8_best_78 rfl rfl ?_
      refine wp_getR dX8_best_79 fl_X8_56 rfl (st_k hst rfl) (st_r hst rfl) ?_
      refine wp_iload dX8_best_82 rfl ?_
      refine wp_ild (j := i) dX8_best_84 (st_t hst rfl) rfl (by omega) ?_
      refine wp_goto (tgt := 90) dX8_best_85 (by decide) ?_
      rw [show I 110 i = nI (ps i) from h10 i (by omega), show nI (ps i) = fnd ch ps x (i + 1) from (if_pos zq75).symm]
      refine wp_istore_6_4 dX8_best_90 rfl ?_
      refine wp_iinc_6_5 (v := nI (i + 1)) dX8_best_92 (n_add rfl rfl) ?_
      refine wp_goto (tgt := 58) dX8_best_95 (by decide) ?_
      exact ih (i + 1) (by omega) hq

theorem c_bestM (d : Nat) {n : Nat} {t : eT} {I : eI} {R : eR} {Q : Int32 → Nat → eT → eI → eR → Prop} (hst : ST n t R) {m : Nat} (hmM : I 94 9 = nI m) (hm4 : m ≤ 4) {k : Nat} (hkM : I 94 1 = nI k) (hk4 : k ≤ 10) {j : Nat} (hjm : j < m) {fv : Nat → Nat → Nat} (hfb : ∀ x y, fv x y ≤ 99) {w hd : Nat} (hw2 : w ≤ 2) (hd10 : hd ≤ 10) {rv : Int32} (hF : ∀ x y, x < k → y < k → I 97 (10 * x + y) = nI (fv x y)) (hw0 : I 101 j = nI w) (hrv : I 102 j = rv) (hhd : I 103 j = nI hd) {v x : Int32} (h1 : (∀ i, i < k → x ≠ nI i) → x ≠ -1 → Q (-1) n t I R) (h2 : ((∃ i, i < k ∧ x = nI i) ∨ x = -1) → ¬ (0 < v.toInt ∧ v.toInt < 2 ^ k) → Q (-2) n t I R) (h2b : ((∃ i, i < k ∧ x = nI i) ∨ x = -1) → ∀ sm, 0 < sm → sm < 2 ^ k → v = nI sm → ¬ ci (selF k sm) 10 ≤ 5 → Q (-2) n t I R) (h3 : x = -1 → ∀ sm, 0 < sm → sm < 2 ^ k → v = nI sm → ci (selF k sm) 10 ≤ 5 → ∀ I2, FrZ I I2 → Q (bsI (seekB (selF k sm) fv w hd rv)) n t I2 R) (h4 : ∀ i, i < k → x = nI i → ∀ sm, 0 < sm → sm < 2 ^ k → v = nI sm → ci (selF k sm) 10 ≤ 5 → ∀ I2, FrZ I I2 → Q (atB (selF k sm) (seekB (selF k sm) fv w hd rv) i) n t I2 R) : MC yX8_best cX8_best 6 (some .int) (d + 5) 0 0 [.ref 94, .int (nI j), .int v, .int x] n t I R (qI Q) := by
  refine mc_intro (L0 := [.ref 94, .int (nI j), .int v, .int x, vU, vU]) (by decide) rfl (Nat.le_of_ble_eq_true rfl) ?_
  refine wp_aload_n (i := 0) dX8_best_0 rfl rfl ?_
  refine wp_iload_n (i := 1) dX8_best_1 rfl rfl ?_
  refine wp_V1i dX8_best_2 mw_942 mw_944 ms_32 mi_X8_noPerson (Nat.le_of_ble_eq_true rfl) (Nat.le_refl _) (Nat.le_refl _) (st_k hst rfl) (by decide) rfl (c_noPerson _ hst (by exact hmM) hm4 (fun _ _ _ => ?_) (fun no => absurd rfl (no j hjm))) 
  · skip
    refine wp_if_ne0 (tgt := 26) dX8_best_5 (by decide) ?_
    refine wp_iload_n (i := 3) dX8_best_8 rfl rfl ?_
    refine wp_i2l dX8_best_9 ?_
    refine wp_ldc2 (v := (-1)) dX8_best_10 mw_952 ?_
    refine wp_aload_n (i := 0) dX8_best_13 rfl rfl ?_
    refine wp_getI dX8_best_14 fl_X8_143 rfl (st_k hst rfl) ?_
    refine wp_i2l dX8_best_17 ?_
    refine wp_lconst (v := 1) dX8_best_18 (by decide) ?_
    refine wp_lsub dX8_best_19 ?_
    rw [hkM]
    refine wp_S3i dX8_best_20 mw_887 mw_888 mi_X8_in (Nat.le_of_ble_eq_true rfl) (Nat.le_refl _) (Nat.le_refl _) (c_in _ (a := -1) (b := (k : Int) - 1) rfl (nI_subL (by omega)) (fun ga gb => ?_) (fun gn => ?_)) 
    · obtain hxx : (∃ i, i < k ∧ x = nI i) ∨ x = -1 := by
        rcases (show 0 ≤ x.toInt ∨ x.toInt = -1 by omega) with g | g
        · exact Or.inl (nat_yes (x := x) (m := k) (by omega) g gb)
        · exact Or.inr (Int32.toInt_inj.mp (by rw [g, im1]))
      refine wp_if_ne1 (tgt := 28) dX8_best_23 (by decide) ?_
      refine wp_aload_n (i := 0) dX8_best_28 rfl rfl ?_
      refine wp_iload_n (i := 2) dX8_best_29 rfl rfl ?_
      refine wp_V1i dX8_best_30 mw_953 mw_955 ms_33 mi_X8_isFew (Nat.le_of_ble_eq_true rfl) (Nat.le_refl _) (Nat.le_refl _) (st_k hst rfl) (by decide) rfl (c_isFew _ hst hkM hk4 (fun sm hsp hsl esm hfew => ?_) (fun sm hsp hsl esm hfew => ?_) (fun gs => ?_)) 
      · subst esm
        have hpb := pow_b k hk4
        refine wp_if_ne1 (tgt := 39) dX8_best_33 (by decide) ?_
        refine wp_aload_n (i := 0) dX8_best_39 rfl rfl ?_
        refine wp_iload_n (i := 1) dX8_best_40 rfl rfl ?_
        refine wp_iload_n (i := 2) dX8_best_41 rfl rfl ?_
        refine wp_V2i dX8_best_42 mw_960 mw_962 ms_34 mi_X8_findBest (Nat.le_of_ble_eq_true rfl) (Nat.le_refl _) (Nat.le_refl _) (st_k hst rfl) (by decide) rfl (c_findBest _ hst (sel := (selF k sm)) hfew (ci_pos10 hk4 hsl hsp) hk4 (fun x hx => (selF_t.mp hx).1) hfb (show j < 4 by omega) hw2 hd10 (selF_bt hk4 hsl) hkM hF hw0 hrv hhd (fun I2 hB hn hch hf => ?_)) 
        have hh3 := fun e => h3 e sm hsp hsl rfl hfew I2 hf
        have hh4 := fun i hi e => h4 i hi e sm hsp hsl rfl hfew I2 hf
        generalize (seekB (selF k sm) fv w hd rv) = b at hB hh3 hh4 ⊢
        rcases b with _ | q
        · skip
          refine wp_if_ne (tgt := 51) dX8_best_45 (by decide) (fun zq45 => absurd rfl zq45) (fun zq45 => ?_) 
          refine wp_bipush (v := (-9)) dX8_best_48 (by decide) ?_
          exact wp_retI dX8_best_50 rfl (Nat.le_refl _) (Nat.le_refl _) (by rcases hxx with ⟨i, hi, e⟩ | e; exact hh4 i hi e; exact hh3 e)
        · skip
          refine wp_if_ne (tgt := 51) dX8_best_45 (by decide) (fun zq45 => ?_) (fun zq45 => absurd (show (1 : Int32) = 0 from zq45) (by decide)) 
          refine wp_bipush (v := (-9)) dX8_best_51 (by decide) ?_
          refine wp_istore_6_4 dX8_best_53 rfl ?_
          refine wp_iconst (v := 0) dX8_best_55 (by decide) ?_
          refine wp_istore_6_5 dX8_best_56 rfl ?_
          refine lp_bm _ hst hfew (ch := chv (selF k sm)) (ps := q.2) hn hch (fun i hi => (hB.2.2 i hi).1) (ci (selF k sm) 10) 0 (by omega) ?_
          refine wp_iload_n (i := 3) dX8_best_98 rfl rfl ?_
          refine wp_if_ge (tgt := 109) dX8_best_99 (by decide) (fun zq99 => ?_) (fun zq99 => ?_) 
          · refine wp_iload dX8_best_109 rfl ?_
            obtain ⟨i, hi, e⟩ : ∃ i, i < k ∧ x = nI i := by
              rcases hxx with g | e
              · exact g
              · subst e; exact absurd zq99 (by decide)
            have hhi := hh4 i hi e
            subst e
            rw [fnd_at (show i < 10 by omega)]
            exact wp_retI dX8_best_111 rfl (Nat.le_refl _) (Nat.le_refl _) hhi
          · refine wp_aload_n (i := 0) dX8_best_102 rfl rfl ?_
            refine wp_getI dX8_best_103 fl_X8_204 rfl (st_k hst rfl) ?_
            refine wp_goto (tgt := 111) dX8_best_106 (by decide) ?_
            rw [show I2 94 21 = nI q.1 from hB.1]
            have e1 : x = -1 := by
              rcases hxx with ⟨i, hi, e⟩ | e
              · subst e; exact absurd (nI_pos' (by omega)) zq99
              · exact e
            exact wp_retI dX8_best_111 rfl (Nat.le_refl _) (Nat.le_refl _) (hh3 e1)
      · subst esm
        refine wp_if_ne0 (tgt := 39) dX8_best_33 (by decide) ?_
        refine wp_bipush (v := (-2)) dX8_best_36 (by decide) ?_
        exact wp_retI dX8_best_38 rfl (Nat.le_refl _) (Nat.le_refl _) (h2b hxx sm hsp hsl rfl hfew)
      · skip
        refine wp_if_ne0 (tgt := 39) dX8_best_33 (by decide) ?_
        refine wp_bipush (v := (-2)) dX8_best_36 (by decide) ?_
        exact wp_retI dX8_best_38 rfl (Nat.le_refl _) (Nat.le_refl _) (h2 hxx gs)
    · skip
      refine wp_if_ne0 (tgt := 28) dX8_best_23 (by decide) ?_
      refine wp_iconst (v := (-1)) dX8_best_26 (by decide) ?_
      exact wp_retI dX8_best_27 rfl (Nat.le_refl _) (Nat.le_refl _) (h1 (fun i hi e => gn (by rw [e, nI_toInt (by omega)]; omega)) (fun e => gn (by rw [e, im1]; omega)))

theorem c_layM (d : Nat) {n : Nat} {t : eT} {I : eI} {R : eR} {Q : Int32 → Nat → eT → eI → eR → Prop} (hst : ST n t R) {m : Nat} (hmM : I 94 9 = nI m) (hm4 : m ≤ 4) {k : Nat} (hkM : I 94 1 = nI k) (hk4 : k ≤ 10) {j : Nat} (hjm : j < m) {fv : Nat → Nat → Nat} (hfb : ∀ x y, fv x y ≤ 99) {w hd : Nat} (hw2 : w ≤ 2) (hd10 : hd ≤ 10) {rv : Int32} (hF : ∀ x y, x < k → y < k → I 97 (10 * x + y) = nI (fv x y)) (hw0 : I 101 j = nI w) (hrv : I 102 j = rv) (hhd : I 103 j = nI hd) (hz : narrow .boolean (.int (I 104 j)) = .int (I 104 j)) {v : Int32} (h2 : ¬ (0 < v.toInt ∧ v.toInt < 2 ^ k) → Q (-2) n t I R) (h2b : ∀ sm, 0 < sm → sm < 2 ^ k → v = nI sm → ¬ ci (selF k sm) 10 ≤ 5 → Q (-2) n t I R) (h3 : ∀ sm, 0 < sm → sm < 2 ^ k → v = nI sm → ci (selF k sm) 10 ≤ 5 → (seekB (selF k sm) fv w hd rv) = none → ∀ I2, FrZ I I2 → Q (-9) n t I2 R) (h4 : ∀ sm, 0 < sm → sm < 2 ^ k → v = nI sm → ci (selF k sm) 10 ≤ 5 → ∀ q, (seekB (selF k sm) fv w hd rv) = some q → ∀ I2, RcM I I2 j (selF k sm) q → Q (nI q.1) n t I2 R) : MC yX8_lay cX8_lay 3 (some .int) (d + 5) 0 0 [.ref 94, .int (nI j), .int v] n t I R (qI Q) := by
  refine mc_intro (L0 := [.ref 94, .int (nI j), .int v]) (by decide) rfl (Nat.le_of_ble_eq_true rfl) ?_
  refine wp_aload_n (i := 0) dX8_lay_0 rfl rfl ?_
  refine wp_iload_n (i := 1) dX8_lay_1 rfl rfl ?_
  refine wp_V1i dX8_lay_2 mw_942 mw_944 ms_32 mi_X8_noPerson (Nat.le_of_ble_eq_true rfl) (Nat.le_refl _) (Nat.le_refl _) (st_k hst rfl) (by decide) rfl (c_noPerson _ hst (by exact hmM) hm4 (fun _ _ _ => ?_) (fun no => absurd rfl (no j hjm))) 
  · skip
    refine wp_if_eq0 (tgt := 10) dX8_lay_5 (by decide) ?_
    refine wp_aload_n (i := 0) dX8_lay_10 rfl rfl ?_
    refine wp_iload_n (i := 2) dX8_lay_11 rfl rfl ?_
    refine wp_V1i dX8_lay_12 mw_953 mw_955 ms_33 mi_X8_isFew (Nat.le_of_ble_eq_true rfl) (Nat.le_refl _) (Nat.le_refl _) (st_k hst rfl) (by decide) rfl (c_isFew _ hst hkM hk4 (fun sm hsp hsl esm hfew => ?_) (fun sm hsp hsl esm hfew => ?_) (fun gs => ?_)) 
    · subst esm
      have hpb := pow_b k hk4
      refine wp_if_ne1 (tgt := 21) dX8_lay_15 (by decide) ?_
      refine wp_aload_n (i := 0) dX8_lay_21 rfl rfl ?_
      refine wp_iload_n (i := 1) dX8_lay_22 rfl rfl ?_
      refine wp_iload_n (i := 2) dX8_lay_23 rfl rfl ?_
      refine wp_V2i dX8_lay_24 mw_960 mw_962 ms_34 mi_X8_findBest (Nat.le_of_ble_eq_true rfl) (Nat.le_refl _) (Nat.le_refl _) (st_k hst rfl) (by decide) rfl (c_findBest _ hst (sel := (selF k sm)) hfew (ci_pos10 hk4 hsl hsp) hk4 (fun x hx => (selF_t.mp hx).1) hfb (show j < 4 by omega) hw2 hd10 (selF_bt hk4 hsl) hkM hF hw0 hrv hhd (fun I2 hB hn hch hf => ?_)) 
      have hh3 := h3 sm hsp hsl rfl hfew
      have hh4 := h4 sm hsp hsl rfl hfew
      generalize (seekB (selF k sm) fv w hd rv) = b at hB hh3 hh4 ⊢
      rcases b with _ | q
      · skip
        refine wp_if_ne (tgt := 33) dX8_lay_27 (by decide) (fun zq27 => absurd rfl zq27) (fun zq27 => ?_) 
        refine wp_bipush (v := (-9)) dX8_lay_30 (by decide) ?_
        exact wp_retI dX8_lay_32 rfl (Nat.le_refl _) (Nat.le_refl _) (hh3 rfl I2 hf)
      · skip
        refine wp_if_ne (tgt := 33) dX8_lay_27 (by decide) (fun zq27 => ?_) (fun zq27 => absurd (show (1 : Int32) = 0 from zq27) (by decide)) 
        refine wp_aload_n (i := 0) dX8_lay_33 rfl rfl ?_
        refine wp_iload_n (i := 1) dX8_lay_34 rfl rfl ?_
        refine wp_V1v dX8_lay_35 mw_999 mw_1001 ms_39 mi_X8_take (Nat.le_of_ble_eq_true rfl) (Nat.le_refl _) (Nat.le_refl _) (st_k hst rfl) (by decide) rfl (c_takeLM _ hst (show j < 4 by omega) hfew hB hn hch (by rw [hf.1 104 (by decide) (by decide) (by decide) (by decide)]; exact hz) (fun I3 hT hT2 => ?_)) 
        refine wp_aload_n (i := 0) dX8_lay_38 rfl rfl ?_
        refine wp_getI dX8_lay_39 fl_X8_204 rfl (st_k hst rfl) ?_
        rw [show I3 94 21 = nI q.1 by rw [hT2 21]; exact hB.1]
        exact wp_retI dX8_lay_42 rfl (Nat.le_refl _) (Nat.le_refl _) (hh4 q rfl I3 (RcM.fr hf hT))
    · subst esm
      refine wp_if_ne0 (tgt := 21) dX8_lay_15 (by decide) ?_
      refine wp_bipush (v := (-2)) dX8_lay_18 (by decide) ?_
      exact wp_retI dX8_lay_20 rfl (Nat.le_refl _) (Nat.le_refl _) (h2b sm hsp hsl rfl hfew)
    · skip
      refine wp_if_ne0 (tgt := 21) dX8_lay_15 (by decide) ?_
      refine wp_bipush (v := (-2)) dX8_lay_18 (by decide) ?_
      exact wp_retI dX8_lay_20 rfl (Nat.le_refl _) (Nat.le_refl _) (h2 gs)

theorem c_offerM (d : Nat) {n : Nat} {t : eT} {I : eI} {R : eR} {Q : Int32 → Nat → eT → eI → eR → Prop} (hst : ST n t R) {m : Nat} (hmM : I 94 9 = nI m) (hm4 : m ≤ 4) {k : Nat} (hkM : I 94 1 = nI k) (hk4 : k ≤ 10) {j : Nat} (hjm : j < m) {fv : Nat → Nat → Nat} (hfb : ∀ x y, fv x y ≤ 99) {w hd : Nat} (hw2 : w ≤ 2) (hd10 : hd ≤ 10) {rv : Int32} (hF : ∀ x y, x < k → y < k → I 97 (10 * x + y) = nI (fv x y)) (hw0 : I 101 j = nI w) (hrv : I 102 j = rv) (hhd : I 103 j = nI hd) (hz : narrow .boolean (.int (I 104 j)) = .int (I 104 j)) {sel : Nat → Bool} (hc5 : ci sel 10 ≤ 5) (hsk : ∀ x, sel x = true → x < k) (hL : ∀ x, x < 10 → (sel x = true ↔ ¬ I 106 (10 * j + x) < 0)) (hne : ¬ I 104 j = 0 → 1 ≤ ci sel 10) {g : Int32} (h2 : ¬ (0 ≤ g.toInt ∧ g.toInt ≤ 9999) → Q (-2) n t I R) (h3 : (0 ≤ g.toInt ∧ g.toInt ≤ 9999) → I 104 j = 0 → Q (-3) n t I R) (h4 : (0 ≤ g.toInt ∧ g.toInt ≤ 9999) → ¬ I 104 j = 0 → (seekB sel fv w hd rv) = none → ∀ I2, FrZ I I2 → Q (-9) n t I2 R) (h5 : (0 ≤ g.toInt ∧ g.toInt ≤ 9999) → ¬ I 104 j = 0 → ∀ q, (seekB sel fv w hd rv) = some q → addO (tM I j) k - nI q.1 < g → ∀ I2, FrZ I I2 → Q 0 n t I2 R) (h6 : (0 ≤ g.toInt ∧ g.toInt ≤ 9999) → ¬ I 104 j = 0 → ∀ q, (seekB sel fv w hd rv) = some q → ¬ addO (tM I j) k - nI q.1 < g → ∀ I2, RcM I I2 j sel q → Q 1 n t I2 R) : MC yX8_offer cX8_offer 3 (some .int) (d + 5) 0 0 [.ref 94, .int (nI j), .int g] n t I R (qI Q) := by
  refine mc_intro (L0 := [.ref 94, .int (nI j), .int g]) (by decide) rfl (Nat.le_of_ble_eq_true rfl) ?_
  refine wp_aload_n (i := 0) dX8_offer_0 rfl rfl ?_
  refine wp_iload_n (i := 1) dX8_offer_1 rfl rfl ?_
  refine wp_V1i dX8_offer_2 mw_942 mw_944 ms_32 mi_X8_noPerson (Nat.le_of_ble_eq_true rfl) (Nat.le_refl _) (Nat.le_refl _) (st_k hst rfl) (by decide) rfl (c_noPerson _ hst (by exact hmM) hm4 (fun _ _ _ => ?_) (fun no => absurd rfl (no j hjm))) 
  · skip
    refine wp_if_eq0 (tgt := 10) dX8_offer_5 (by decide) ?_
    refine wp_iload_n (i := 2) dX8_offer_10 rfl rfl ?_
    refine wp_i2l dX8_offer_11 ?_
    refine wp_lconst (v := 0) dX8_offer_12 (by decide) ?_
    refine wp_ldc2 (v := 9999) dX8_offer_13 mw_1007 ?_
    refine wp_S3i dX8_offer_16 mw_887 mw_888 mi_X8_in (Nat.le_of_ble_eq_true rfl) (Nat.le_refl _) (Nat.le_refl _) (c_in _ (a := 0) (b := 9999) rfl rfl (fun ga16 gb16 => ?_) (fun gn16 => ?_)) 
    · skip
      refine wp_if_ne1 (tgt := 25) dX8_offer_19 (by decide) ?_
      refine wp_aload_n (i := 0) dX8_offer_25 rfl rfl ?_
      refine wp_getR dX8_offer_26 fl_X8_37 rfl (st_k hst rfl) (st_r hst rfl) ?_
      refine wp_iload_n (i := 1) dX8_offer_29 rfl rfl ?_
      refine wp_zld (j := j) dX8_offer_30 (st_t hst rfl) rfl (by omega) ?_
      refine wp_if_ne (tgt := 37) dX8_offer_31 (by decide) (fun zq31 => ?_) (fun zq31 => ?_) 
      · refine wp_aload_n (i := 0) dX8_offer_37 rfl rfl ?_
        refine wp_iload_n (i := 1) dX8_offer_38 rfl rfl ?_
        refine wp_aload_n (i := 0) dX8_offer_39 rfl rfl ?_
        refine wp_iload_n (i := 1) dX8_offer_40 rfl rfl ?_
        refine wp_V1i dX8_offer_41 mw_1008 mw_1010 ms_40 mi_X8_setOf (Nat.le_of_ble_eq_true rfl) (Nat.le_refl _) (Nat.le_refl _) (st_k hst rfl) (by decide) rfl (c_setOf _ hst (show j < 4 by omega) hL (fun sv hsel => ?_)) 
        have hc1 : 1 ≤ ci sel 10 := hne zq31
        refine wp_V2i dX8_offer_44 mw_960 mw_962 ms_34 mi_X8_findBest (Nat.le_of_ble_eq_true rfl) (Nat.le_refl _) (Nat.le_refl _) (st_k hst rfl) (by decide) rfl (c_findBest _ hst (sel := sel) hc5 hc1 hk4 hsk hfb (show j < 4 by omega) hw2 hd10 hsel hkM hF hw0 hrv hhd (fun I2 hB hn hch hf => ?_)) 
        have hh4 := h4 ⟨ga16, gb16⟩ zq31
        have hh5 := h5 ⟨ga16, gb16⟩ zq31
        have hh6 := h6 ⟨ga16, gb16⟩ zq31
        generalize (seekB sel fv w hd rv) = b at hB hh4 hh5 hh6 ⊢
        rcases b with _ | q
        · skip
          refine wp_if_ne (tgt := 53) dX8_offer_47 (by decide) (fun zq47 => absurd rfl zq47) (fun zq47 => ?_) 
          refine wp_bipush (v := (-9)) dX8_offer_50 (by decide) ?_
          exact wp_retI dX8_offer_52 rfl (Nat.le_refl _) (Nat.le_refl _) (hh4 rfl I2 hf)
        · skip
          refine wp_if_ne (tgt := 53) dX8_offer_47 (by decide) (fun zq47 => ?_) (fun zq47 => absurd (show (1 : Int32) = 0 from zq47) (by decide)) 
          refine wp_aload_n (i := 0) dX8_offer_53 rfl rfl ?_
          refine wp_iload_n (i := 1) dX8_offer_54 rfl rfl ?_
          refine wp_V1i dX8_offer_55 mw_1012 mw_1014 ms_41 mi_X8_priceOf (Nat.le_of_ble_eq_true rfl) (Nat.le_refl _) (Nat.le_refl _) (st_k hst rfl) (by decide) rfl (c_priceOf _ hst (show I2 94 1 = nI k by rw [hf.2 1 (by decide) (by decide)]; exact hkM) hk4 (show j < 4 by omega) ?_) 
          rw [show tM I2 j = tM I j by unfold tM; simp only [hf.1 106 (by decide) (by decide) (by decide) (by decide), hf.1 97 (by decide) (by decide) (by decide) (by decide)]]
          refine wp_aload_n (i := 0) dX8_offer_58 rfl rfl ?_
          refine wp_getI dX8_offer_59 fl_X8_204 rfl (st_k hst rfl) ?_
          rw [show I2 94 21 = nI q.1 from hB.1]
          refine wp_isub dX8_offer_62 ?_
          refine wp_iload_n (i := 2) dX8_offer_63 rfl rfl ?_
          refine wp_icmp_ge (tgt := 69) dX8_offer_64 (by decide) (fun zq64 => ?_) (fun zq64 => ?_) 
          · refine wp_aload_n (i := 0) dX8_offer_69 rfl rfl ?_
            refine wp_iload_n (i := 1) dX8_offer_70 rfl rfl ?_
            refine wp_V1v dX8_offer_71 mw_999 mw_1001 ms_39 mi_X8_take (Nat.le_of_ble_eq_true rfl) (Nat.le_refl _) (Nat.le_refl _) (st_k hst rfl) (by decide) rfl (c_takeLM _ hst (show j < 4 by omega) hc5 hB hn hch (by rw [hf.1 104 (by decide) (by decide) (by decide) (by decide)]; exact hz) (fun I3 hT hT2 => ?_)) 
            refine wp_iconst (v := 1) dX8_offer_74 (by decide) ?_
            exact wp_retI dX8_offer_75 rfl (Nat.le_refl _) (Nat.le_refl _) (hh6 q rfl (Int32.not_lt.mpr zq64) I3 (RcM.fr hf hT))
          · refine wp_iconst (v := 0) dX8_offer_67 (by decide) ?_
            exact wp_retI dX8_offer_68 rfl (Nat.le_refl _) (Nat.le_refl _) (hh5 q rfl (Int32.not_le.mp zq64) I2 hf)
      · refine wp_bipush (v := (-3)) dX8_offer_34 (by decide) ?_
        exact wp_retI dX8_offer_36 rfl (Nat.le_refl _) (Nat.le_refl _) (h3 ⟨ga16, gb16⟩ zq31)
    · skip
      refine wp_if_ne0 (tgt := 25) dX8_offer_19 (by decide) ?_
      refine wp_bipush (v := (-2)) dX8_offer_22 (by decide) ?_
      exact wp_retI dX8_offer_24 rfl (Nat.le_refl _) (Nat.le_refl _) (h2 gn16)

