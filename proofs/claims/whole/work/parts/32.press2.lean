theorem c_press (d : Nat) {n : Nat} {t : eT} {I : eI} {R : eR} {Q : Int32 → Nat → eT → eI → eR → Prop} (hst : ST n t R) {m : Nat} (hm : I 4 3 = nI m) (hm4 : m ≤ 4) {j : Nat} (hjm : j < m) {x y w : Int32} (h2 : ¬ ((0 ≤ x.toInt ∧ x.toInt ≤ 39) ∧ (0 ≤ y.toInt ∧ y.toInt ≤ 29) ∧ (0 ≤ w.toInt ∧ w.toInt ≤ 9999)) → Q (-2) n t I R) (h3 : ((0 ≤ x.toInt ∧ x.toInt ≤ 39) ∧ (0 ≤ y.toInt ∧ y.toInt ≤ 29) ∧ (0 ≤ w.toInt ∧ w.toInt ≤ 9999)) → w < I (54 + 10 * j) 3 → Q (-3) n t I R) (h4 : ∀ px py, px < 40 → py < 30 → x = nI px → y = nI py → (0 ≤ w.toInt ∧ w.toInt ≤ 9999) → ¬ w < I (54 + 10 * j) 3 → MC yX7_pressFor cX7_pressFor 11 (some .int) (d + 3) 0 0 [.ref 4, .ref (54 + 10 * j), .int (nI px), .int (nI py), .int w] n t (eU I (54 + 10 * j) 3 w) R (qI Q)) : MC yX7_press cX7_press 6 (some .int) (d + 4) 0 0 [.ref 4, .int (nI j), .int x, .int y, .int w] n t I R (qI Q) := by
  refine mc_intro (L0 := [.ref 4, .int (nI j), .int x, .int y, .int w, vU]) (by decide) rfl (Nat.le_of_ble_eq_true rfl) ?_
  refine wp_aload_n (i := 0) dX7_press_0 rfl rfl ?_
  refine wp_iload_n (i := 1) dX7_press_1 rfl rfl ?_
  refine wp_V1i dX7_press_2 mw_375 mw_377 ms_7 mi_X7_isPerson (Nat.le_of_ble_eq_true rfl) (Nat.le_refl _) (Nat.le_refl _) (st_k hst rfl) (by decide) rfl (c_isPerson _ hst (by exact hm) hm4 (fun _ _ _ => ?_) (fun no => absurd rfl (no j hjm))) 
  · skip
    refine wp_if_ne1 (tgt := 10) dX7_press_5 (by decide) ?_
    refine wp_iload_n (i := 2) dX7_press_10 rfl rfl ?_
    refine wp_iconst (v := 0) dX7_press_11 (by decide) ?_
    refine wp_bipush (v := 39) dX7_press_12 (by decide) ?_
    refine wp_S3i dX7_press_14 mw_267 mw_268 mi_X7_isWithin (Nat.le_of_ble_eq_true rfl) (Nat.le_refl _) (Nat.le_refl _) (c_isWithin _ (a := 0) (b := 39) rfl rfl (fun ga14 gb14 => ?_) (fun gn14 => ?_)) 
    · skip
      refine wp_if_eq1 (tgt := 38) dX7_press_17 (by decide) ?_
      refine wp_iload_n (i := 3) dX7_press_20 rfl rfl ?_
      refine wp_iconst (v := 0) dX7_press_21 (by decide) ?_
      refine wp_bipush (v := 29) dX7_press_22 (by decide) ?_
      refine wp_S3i dX7_press_24 mw_267 mw_268 mi_X7_isWithin (Nat.le_of_ble_eq_true rfl) (Nat.le_refl _) (Nat.le_refl _) (c_isWithin _ (a := 0) (b := 29) rfl rfl (fun ga24 gb24 => ?_) (fun gn24 => ?_)) 
      · skip
        refine wp_if_eq1 (tgt := 38) dX7_press_27 (by decide) ?_
        refine wp_iload dX7_press_30 rfl ?_
        refine wp_S1i dX7_press_32 mw_554 mw_555 mi_X7_isTick (Nat.le_of_ble_eq_true rfl) (Nat.le_refl _) (Nat.le_refl _) (c_isTick _ (fun ga32 gb32 => ?_) (fun gn32 => ?_)) 
        · skip
          refine wp_if_ne1 (tgt := 41) dX7_press_35 (by decide) ?_
          refine wp_aload_n (i := 0) dX7_press_41 rfl rfl ?_
          refine wp_getR dX7_press_42 fl_X7_27 rfl (st_k hst rfl) (st_r hst rfl) ?_
          refine wp_iload_n (i := 1) dX7_press_45 rfl rfl ?_
          refine wp_rld11 (j := j) dX7_press_46 (st_t hst rfl) rfl (by omega) (sp_34 hst (by omega)) ?_
          refine wp_astore_6_5 dX7_press_47 rfl ?_
          refine wp_iload dX7_press_49 rfl ?_
          refine wp_aload dX7_press_51 rfl ?_
          refine wp_getI dX7_press_53 fl_X7_202 rfl (sp_k0 hst (by omega)) ?_
          refine wp_icmp_ge (tgt := 62) dX7_press_56 (by decide) (fun zq56 => ?_) (fun zq56 => ?_) 
          · obtain ⟨px, hpx, epx⟩ := nat_yes (x := x) (m := 40) (by omega) ga14 (by omega)
            subst epx
            obtain ⟨py, hpy, epy⟩ := nat_yes (x := y) (m := 30) (by omega) ga24 (by omega)
            subst epy
            refine wp_aload dX7_press_62 rfl ?_
            refine wp_iload dX7_press_64 rfl ?_
            refine wp_putI dX7_press_66 fl_X7_202 rfl (Or.inl rfl) (sp_k0 hst (by omega)) ?_
            refine wp_aload_n (i := 0) dX7_press_69 rfl rfl ?_
            refine wp_aload dX7_press_70 rfl ?_
            refine wp_iload_n (i := 2) dX7_press_72 rfl rfl ?_
            refine wp_iload_n (i := 3) dX7_press_73 rfl rfl ?_
            refine wp_iload dX7_press_74 rfl ?_
            refine wp_V4i dX7_press_76 mw_557 mw_559 ms_18 mi_X7_pressFor (Nat.le_of_ble_eq_true rfl) (Nat.le_refl _) (Nat.le_refl _) (st_k hst rfl) (by decide) rfl (MC.monoI (h4 px py hpx hpy rfl rfl ⟨ga32, gb32⟩ (Int32.not_lt.mpr zq56)) (fun r9 n9 t9 I9 R9 hQ => ?_)) 
            exact wp_retI dX7_press_79 rfl (Nat.le_refl _) (Nat.le_refl _) hQ
          · refine wp_bipush (v := (-3)) dX7_press_59 (by decide) ?_
            exact wp_retI dX7_press_61 rfl (Nat.le_refl _) (Nat.le_refl _) (h3 ⟨⟨ga14, gb14⟩, ⟨ga24, gb24⟩, ⟨ga32, gb32⟩⟩ (Int32.not_le.mp zq56))
        · skip
          refine wp_if_ne0 (tgt := 41) dX7_press_35 (by decide) ?_
          refine wp_bipush (v := (-2)) dX7_press_38 (by decide) ?_
          exact wp_retI dX7_press_40 rfl (Nat.le_refl _) (Nat.le_refl _) (h2 (fun g => gn32 g.2.2))
      · skip
        refine wp_if_eq0 (tgt := 38) dX7_press_27 (by decide) ?_
        refine wp_bipush (v := (-2)) dX7_press_38 (by decide) ?_
        exact wp_retI dX7_press_40 rfl (Nat.le_refl _) (Nat.le_refl _) (h2 (fun g => gn24 g.2.1))
    · skip
      refine wp_if_eq0 (tgt := 38) dX7_press_17 (by decide) ?_
      refine wp_bipush (v := (-2)) dX7_press_38 (by decide) ?_
      exact wp_retI dX7_press_40 rfl (Nat.le_refl _) (Nat.le_refl _) (h2 (fun g => gn14 g.1))

theorem lp_pm (d : Nat) {n : Nat} {t : eT} {I : eI} {R : eR} {Q : eQt} (hst : ST n t R) {k : Nat} (hkM : I 94 1 = nI k) (hk4 : k ≤ 10) {j : Nat} (hj : j < 4) {wv cv : Nat → Nat} (hW : ∀ a, a < k → I 96 a = nI (wv a) ∧ wv a ≤ 999) (hC : ∀ e, e < 3 → I 118 (3 * j + e) = nI (cv e) ∧ cv e ≤ 512) {lay : Nat → Option Nat} (hL : LayM I 106 j lay) {px py : Nat} (hpx : px < 40) (hpy : py < 30) {w : Int32} : ∀ (r a : Nat), a + r = k → ∀ (x11 x12 x13 : Value), sec x11 = false → sec x12 = false → (∀ y11 y12 y13 : Value, sec y11 = false → sec y12 = false → wp yX8_press cX8_press 14 (some .int) (d + 2) 0 0 Q 0 0 185 [.ref 94, .int (nI j), .int (nI px), .int (nI py), .int w, .int (pAcc (wtN wv cv lay px py) k).1, .long (lN (pAcc (wtN wv cv lay px py) k).2.1), vM, .long (lN (pAcc (wtN wv cv lay px py) k).2.2), vM, .int (nI k), y11, y12, y13] [] n t I R) → wp yX8_press cX8_press 14 (some .int) (d + 2) 0 0 Q 0 0 85 [.ref 94, .int (nI j), .int (nI px), .int (nI py), .int w, .int (pAcc (wtN wv cv lay px py) a).1, .long (lN (pAcc (wtN wv cv lay px py) a).2.1), vM, .long (lN (pAcc (wtN wv cv lay px py) a).2.2), vM, .int (nI a), x11, x12, x13] [] n t I R := by
  intro r
  induction r with
  | zero =>
    intro a ha x11 x12 x13 hx11 hx12 hq
    obtain rfl : a = k := by omega
    refine wp_iload dX8_press_85 rfl ?_
    refine wp_aload_n (i := 0) dX8_press_87 rfl rfl ?_
    refine wp_getI dX8_press_88 fl_X8_143 rfl (st_k hst rfl) ?_
    refine wp_icmp_ge (tgt := 185) dX8_press_91 (by decide) (fun zq91 => ?_) (fun zq91 => absurd (by rw [hkM]; exact nI_le (Nat.le_refl _) (by omega)) zq91) 
    exact hq x11 x12 x13 hx11 hx12
  | succ r ih =>
    intro a ha x11 x12 x13 hx11 hx12 hq
    refine wp_iload dX8_press_85 rfl ?_
    refine wp_aload_n (i := 0) dX8_press_87 rfl rfl ?_
    refine wp_getI dX8_press_88 fl_X8_143 rfl (st_k hst rfl) ?_
    refine wp_icmp_ge (tgt := 185) dX8_press_91 (by decide) (fun zq91 => absurd (show I 94 1 ≤ nI a from zq91) (by rw [hkM]; exact nI_ge (show a < k by omega) (by omega))) (fun zq91 => ?_) 
    have hwa := hW a (show a < k by omega)
    have hb := pAcc_b (w := (wtN wv cv lay px py)) (M := 513000) a (fun z hz => wtN_b (hW z (by omega)).2 (fun e he => (hC e he).2))
    have hb2 : (wtN wv cv lay px py) a ≤ 513000 := wtN_b (hW a (by omega)).2 (fun e he => (hC e he).2)
    have hb3 : 513000 * a ≤ 513000 * 10 := Nat.mul_le_mul_left _ (by omega)
    refine wp_aload_n (i := 0) dX8_press_94 rfl rfl ?_
    refine wp_iload_n (i := 1) dX8_press_95 rfl rfl ?_
    refine wp_iload dX8_press_96 rfl ?_
    refine wp_iload_n (i := 2) dX8_press_98 rfl rfl ?_
    refine wp_iload_n (i := 3) dX8_press_99 rfl rfl ?_
    refine wp_V4i dX8_press_100 mw_1071 mw_1073 ms_47 mi_X8_errorOf (Nat.le_of_ble_eq_true rfl) (Nat.le_refl _) (Nat.le_refl _) (st_k hst rfl) (by decide) rfl (c_errorOfM _ hst hj hL (show a < 10 by omega) hpx hpy (fun hn => ?_) (fun pl hpl hsome => ?_)) 
    · have e9 := pAcc_0 (w := (wtN wv cv lay px py)) (k := a) (by unfold wtN; rw [hn])
      refine wp_istore_14_11 dX8_press_103 (by first | rfl | assumption) ?_
      refine wp_iload dX8_press_105 rfl ?_
      refine wp_iconst (v := 3) dX8_press_107 (by decide) ?_
      refine wp_icmp_ge (tgt := 179) dX8_press_108 (by decide) (fun zq108 => ?_) (fun zq108 => absurd (by decide) zq108) 
      refine wp_iinc_14_10 (v := nI (a + 1)) dX8_press_179 (n_add rfl rfl) ?_
      refine wp_goto (tgt := 85) dX8_press_182 (by decide) ?_
      have ih2 := ih (a + 1) (by omega) (.int 99) x12 x13 rfl hx12 hq
      rw [e9] at ih2
      exact ih2
    · have hlt := err_lt hpl hpx hpy
      refine wp_istore_14_11 dX8_press_103 (by first | rfl | assumption) ?_
      refine wp_iload dX8_press_105 rfl ?_
      refine wp_iconst (v := 3) dX8_press_107 (by decide) ?_
      refine wp_icmp_ge (tgt := 179) dX8_press_108 (by decide) (fun zq108 => ?_) (fun zq108 => ?_) 
      · have hne : ¬ errN pl px py < 3 := fun g => absurd zq108 (nI_ge g (by decide))
        have e9 := pAcc_0 (w := (wtN wv cv lay px py)) (k := a) (by unfold wtN; rw [hsome]; exact if_neg hne)
        refine wp_iinc_14_10 (v := nI (a + 1)) dX8_press_179 (n_add rfl rfl) ?_
        refine wp_goto (tgt := 85) dX8_press_182 (by decide) ?_
        have ih2 := ih (a + 1) (by omega) (.int (nI (errN pl px py))) x12 x13 rfl hx12 hq
        rw [e9] at ih2
        exact ih2
      · have he : errN pl px py < 3 := Nat.lt_of_not_le (fun g => zq108 (nI_le g (by omega)))
        have hce := hC (errN pl px py) he
        have hwt : (wtN wv cv lay px py) a = (wv a + 1) * (cv (errN pl px py) + 1) := by unfold wtN; rw [hsome]; exact if_pos he
        refine wp_aload_n (i := 0) dX8_press_111 rfl rfl ?_
        refine wp_getR dX8_press_112 fl_X8_13 rfl (st_k hst rfl) (st_r hst rfl) ?_
        refine wp_iload dX8_press_115 rfl ?_
        refine wp_ild (j := a) dX8_press_117 (st_t hst rfl) rfl (by omega) ?_
        refine wp_i2l dX8_press_118 ?_
        refine wp_lconst (v := 1) dX8_press_119 (by decide) ?_
        refine wp_ladd dX8_press_120 ?_
        refine wp_aload_n (i := 0) dX8_press_121 rfl rfl ?_
        refine wp_getR dX8_press_122 fl_X8_80 rfl (st_k hst rfl) (st_r hst rfl) ?_
        refine wp_iconst (v := 3) dX8_press_125 (by decide) ?_
        refine wp_iload_n (i := 1) dX8_press_126 rfl rfl ?_
        refine wp_imul dX8_press_127 ?_
        refine wp_iload dX8_press_128 rfl ?_
        refine wp_iadd dX8_press_130 ?_
        refine wp_ild (j := ((3 * j) + (errN pl px py))) dX8_press_131 (st_t hst rfl) (n_add (n_mul rfl rfl) rfl) (by omega) ?_
        refine wp_i2l dX8_press_132 ?_
        refine wp_lconst (v := 1) dX8_press_133 (by decide) ?_
        refine wp_ladd dX8_press_134 ?_
        refine wp_lmul dX8_press_135 ?_
        refine wp_topL (v2 := lN ((wtN wv cv lay px py) a)) (Eq.trans (l_mul (l_add (n_i2l hwa.1 (by omega)) rfl) (l_add (n_i2l hce.1 (by omega)) rfl)) (congrArg lN hwt.symm)) ?_
        refine wp_lstore_14_12 dX8_press_136 (by first | rfl | assumption) ?_
        refine wp_lload dX8_press_138 rfl ?_
        refine wp_lload dX8_press_140 rfl ?_
        refine wp_ladd dX8_press_142 ?_
        refine wp_topL (v2 := lN ((pAcc (wtN wv cv lay px py) a).2.2 + ((wtN wv cv lay px py) a))) (l_add rfl rfl) ?_
        refine wp_lstore_14_8 dX8_press_143 (by first | rfl | assumption) ?_
        refine wp_lload dX8_press_145 rfl ?_
        refine wp_lload dX8_press_147 rfl ?_
        refine wp_lcmp dX8_press_149 ?_
        refine wp_if_le (tgt := 158) dX8_press_150 (by decide) (fun zq150 => ?_) (fun zq150 => ?_) 
        · have hle : ¬ (pAcc (wtN wv cv lay px py) a).2.1 < (wtN wv cv lay px py) a := by rw [lg_cmp_le, lN_le (by omega) (by omega)] at zq150; omega
          have e9 := pAcc_le (w := (wtN wv cv lay px py)) (k := a) hle
          refine wp_iload dX8_press_158 rfl ?_
          refine wp_istore_14_5 dX8_press_160 (by first | rfl | assumption) ?_
          refine wp_lload dX8_press_162 rfl ?_
          refine wp_lload dX8_press_164 rfl ?_
          refine wp_lcmp dX8_press_166 ?_
          refine wp_if_le (tgt := 175) dX8_press_167 (by decide) (fun zq167 => ?_) (fun zq167 => absurd zq150 zq167) 
          refine wp_lload dX8_press_175 rfl ?_
          refine wp_lstore_14_6 dX8_press_177 (by first | rfl | assumption) ?_
          refine wp_iinc_14_10 (v := nI (a + 1)) dX8_press_179 (n_add rfl rfl) ?_
          refine wp_goto (tgt := 85) dX8_press_182 (by decide) ?_
          have ih2 := ih (a + 1) (by omega) (.int (nI (errN pl px py))) (.long (lN ((wtN wv cv lay px py) a))) vM rfl rfl hq
          rw [e9] at ih2
          exact ih2
        · have hgt : (pAcc (wtN wv cv lay px py) a).2.1 < (wtN wv cv lay px py) a := by rw [lg_cmp_le, lN_le (by omega) (by omega)] at zq150; omega
          have e9 := pAcc_gt (w := (wtN wv cv lay px py)) (k := a) hgt
          refine wp_iload dX8_press_153 rfl ?_
          refine wp_goto (tgt := 160) dX8_press_155 (by decide) ?_
          refine wp_istore_14_5 dX8_press_160 (by first | rfl | assumption) ?_
          refine wp_lload dX8_press_162 rfl ?_
          refine wp_lload dX8_press_164 rfl ?_
          refine wp_lcmp dX8_press_166 ?_
          refine wp_if_le (tgt := 175) dX8_press_167 (by decide) (fun zq167 => absurd zq167 zq150) (fun zq167 => ?_) 
          refine wp_lload dX8_press_170 rfl ?_
          refine wp_goto (tgt := 177) dX8_press_172 (by decide) ?_
          refine wp_lstore_14_6 dX8_press_177 (by first | rfl | assumption) ?_
          refine wp_iinc_14_10 (v := nI (a + 1)) dX8_press_179 (n_add rfl rfl) ?_
          refine wp_goto (tgt := 85) dX8_press_182 (by decide) ?_
          have ih2 := ih (a + 1) (by omega) (.int (nI (errN pl px py))) (.long (lN ((wtN wv cv lay px py) a))) vM rfl rfl hq
          rw [e9] at ih2
          exact ih2

theorem c_pressM (d : Nat) {n : Nat} {t : eT} {I : eI} {R : eR} {Q : Int32 → Nat → eT → eI → eR → Prop} (hst : ST n t R) {m : Nat} (hmM : I 94 9 = nI m) (hm4 : m ≤ 4) {k : Nat} (hkM : I 94 1 = nI k) (hk4 : k ≤ 10) {j : Nat} (hjm : j < m) {wv cv : Nat → Nat} (hW : ∀ a, a < k → I 96 a = nI (wv a) ∧ wv a ≤ 999) (hC : ∀ e, e < 3 → I 118 (3 * j + e) = nI (cv e) ∧ cv e ≤ 512) {lay : Nat → Option Nat} (hL : LayM I 106 j lay) {su c : Nat} (hsu : I 94 26 = nI su) (hsu2 : su ≤ 10) (hl : I 119 j = nI c) (hc : c ≤ 12) {x y w : Int32} (h2 : ¬ ((0 ≤ x.toInt ∧ x.toInt ≤ 39) ∧ (0 ≤ y.toInt ∧ y.toInt ≤ 29) ∧ (0 ≤ w.toInt ∧ w.toInt ≤ 9999)) → Q (-2) n t I R) (h3 : ((0 ≤ x.toInt ∧ x.toInt ≤ 39) ∧ (0 ≤ y.toInt ∧ y.toInt ≤ 29) ∧ (0 ≤ w.toInt ∧ w.toInt ≤ 9999)) → w < I 117 j → Q (-3) n t I R) (h4 : ∀ px py, px < 40 → py < 30 → x = nI px → y = nI py → (0 ≤ w.toInt ∧ w.toInt ≤ 9999) → ¬ w < I 117 j → (∀ a, a < k → (wtN wv cv lay px py) a = 0) → Q (-9) n t (eU I 117 j w) R) (h5 : ∀ px py, px < 40 → py < 30 → x = nI px → y = nI py → (0 ≤ w.toInt ∧ w.toInt ≤ 9999) → ¬ w < I 117 j → ∀ a pl, a < k → lay a = some pl → errN pl px py < 3 → (pAcc (wtN wv cv lay px py) k).1 = nI a → (¬ 10 * (pAcc (wtN wv cv lay px py) k).2.1 < su * (pAcc (wtN wv cv lay px py) k).2.2 ∧ (¬ I 95 a = 2 ∨ (I 114 j = nI a ∧ w - I 115 j ≤ I 94 27))) → Q (nI a) n t (tkM (eU I 117 j w) j c (errN pl px py)) R) (h6 : ∀ px py, px < 40 → py < 30 → x = nI px → y = nI py → (0 ≤ w.toInt ∧ w.toInt ≤ 9999) → ¬ w < I 117 j → ∀ a pl, a < k → lay a = some pl → errN pl px py < 3 → (pAcc (wtN wv cv lay px py) k).1 = nI a → ¬ (¬ 10 * (pAcc (wtN wv cv lay px py) k).2.1 < su * (pAcc (wtN wv cv lay px py) k).2.2 ∧ (¬ I 95 a = 2 ∨ (I 114 j = nI a ∧ w - I 115 j ≤ I 94 27))) → Q (100 + nI a) n t (eU (eU (eU (eU I 117 j w) 114 j (nI a)) 115 j w) 116 j (nI (errN pl px py))) R) : MC yX8_press cX8_press 14 (some .int) (d + 2) 0 0 [.ref 94, .int (nI j), .int x, .int y, .int w] n t I R (qI Q) := by
  refine mc_intro (L0 := [.ref 94, .int (nI j), .int x, .int y, .int w, vU, vU, vU, vU, vU, vU, vU, vU, vU]) (by decide) rfl (Nat.le_of_ble_eq_true rfl) ?_
  refine wp_aload_n (i := 0) dX8_press_0 rfl rfl ?_
  refine wp_iload_n (i := 1) dX8_press_1 rfl rfl ?_
  refine wp_V1i dX8_press_2 mw_942 mw_944 ms_32 mi_X8_noPerson (Nat.le_of_ble_eq_true rfl) (Nat.le_refl _) (Nat.le_refl _) (st_k hst rfl) (by decide) rfl (c_noPerson _ hst (by exact hmM) hm4 (fun _ _ _ => ?_) (fun no => absurd rfl (no j hjm))) 
  · skip
    refine wp_if_eq0 (tgt := 10) dX8_press_5 (by decide) ?_
    refine wp_iload_n (i := 2) dX8_press_10 rfl rfl ?_
    refine wp_i2l dX8_press_11 ?_
    refine wp_lconst (v := 0) dX8_press_12 (by decide) ?_
    refine wp_ldc2 (v := 39) dX8_press_13 mw_1069 ?_
    refine wp_S3i dX8_press_16 mw_887 mw_888 mi_X8_in (Nat.le_of_ble_eq_true rfl) (Nat.le_refl _) (Nat.le_refl _) (c_in _ (a := 0) (b := 39) rfl rfl (fun ga16 gb16 => ?_) (fun gn16 => ?_)) 
    · skip
      refine wp_if_eq1 (tgt := 47) dX8_press_19 (by decide) ?_
      refine wp_iload_n (i := 3) dX8_press_22 rfl rfl ?_
      refine wp_i2l dX8_press_23 ?_
      refine wp_lconst (v := 0) dX8_press_24 (by decide) ?_
      refine wp_ldc2 (v := 29) dX8_press_25 mw_1070 ?_
      refine wp_S3i dX8_press_28 mw_887 mw_888 mi_X8_in (Nat.le_of_ble_eq_true rfl) (Nat.le_refl _) (Nat.le_refl _) (c_in _ (a := 0) (b := 29) rfl rfl (fun ga28 gb28 => ?_) (fun gn28 => ?_)) 
      · skip
        refine wp_if_eq1 (tgt := 47) dX8_press_31 (by decide) ?_
        refine wp_iload dX8_press_34 rfl ?_
        refine wp_i2l dX8_press_36 ?_
        refine wp_lconst (v := 0) dX8_press_37 (by decide) ?_
        refine wp_ldc2 (v := 9999) dX8_press_38 mw_1007 ?_
        refine wp_S3i dX8_press_41 mw_887 mw_888 mi_X8_in (Nat.le_of_ble_eq_true rfl) (Nat.le_refl _) (Nat.le_refl _) (c_in _ (a := 0) (b := 9999) rfl rfl (fun ga41 gb41 => ?_) (fun gn41 => ?_)) 
        · skip
          refine wp_if_ne1 (tgt := 50) dX8_press_44 (by decide) ?_
          refine wp_iload dX8_press_50 rfl ?_
          refine wp_aload_n (i := 0) dX8_press_52 rfl rfl ?_
          refine wp_getR dX8_press_53 fl_X8_77 rfl (st_k hst rfl) (st_r hst rfl) ?_
          refine wp_iload_n (i := 1) dX8_press_56 rfl rfl ?_
          refine wp_ild (j := j) dX8_press_57 (st_t hst rfl) rfl (by omega) ?_
          refine wp_icmp_ge (tgt := 64) dX8_press_58 (by decide) (fun zq58 => ?_) (fun zq58 => ?_) 
          · obtain ⟨px, hpx, epx⟩ := nat_yes (x := x) (m := 40) (by omega) ga16 (by omega)
            subst epx
            obtain ⟨py, hpy, epy⟩ := nat_yes (x := y) (m := 30) (by omega) ga28 (by omega)
            subst epy
            refine wp_aload_n (i := 0) dX8_press_64 rfl rfl ?_
            refine wp_getR dX8_press_65 fl_X8_77 rfl (st_k hst rfl) (st_r hst rfl) ?_
            refine wp_iload_n (i := 1) dX8_press_68 rfl rfl ?_
            refine wp_iload dX8_press_69 rfl ?_
            refine wp_ist (j := j) dX8_press_71 (st_t hst rfl) rfl (by omega) ?_
            refine wp_bipush (v := (-9)) dX8_press_72 (by decide) ?_
            refine wp_istore_14_5 dX8_press_74 (by first | rfl | assumption) ?_
            refine wp_lconst (v := 0) dX8_press_76 (by decide) ?_
            refine wp_lstore_14_6 dX8_press_77 (by first | rfl | assumption) ?_
            refine wp_lconst (v := 0) dX8_press_79 (by decide) ?_
            refine wp_lstore_14_8 dX8_press_80 (by first | rfl | assumption) ?_
            refine wp_iconst (v := 0) dX8_press_82 (by decide) ?_
            refine wp_istore_14_10 dX8_press_83 (by first | rfl | assumption) ?_
            refine lp_pm _ hst (by exact hkM) hk4 (show j < 4 by omega) (wv := wv) (cv := cv) (by exact hW) (by exact hC) (lay := lay) (by exact hL) hpx hpy k 0 (by omega) vU vU vU rfl rfl (fun y11 y12 y13 hy11 hy12 => ?_)
            have hb := pAcc_b (w := (wtN wv cv lay px py)) (M := 513000) k (fun z hz => wtN_b (hW z (by omega)).2 (fun e he => (hC e he).2))
            have hb3 : su * (pAcc (wtN wv cv lay px py) k).2.2 ≤ 10 * (513000 * k) := Nat.mul_le_mul hsu2 hb.2
            refine wp_iload dX8_press_185 rfl ?_
            rcases pAcc_s (w := (wtN wv cv lay px py)) k with ⟨ha1, -, ha3⟩ | ⟨a, hak, ha1, hapos⟩
            · rw [ha1]
              refine wp_if_ge (tgt := 193) dX8_press_187 (by decide) (fun zq187 => absurd zq187 (by decide)) (fun zq187 => ?_) 
              refine wp_bipush (v := (-9)) dX8_press_190 (by decide) ?_
              exact wp_retI dX8_press_192 rfl (Nat.le_refl _) (Nat.le_refl _) (h4 px py hpx hpy rfl rfl ⟨ga41, gb41⟩ (Int32.not_lt.mpr zq58) ha3)
            · obtain ⟨pl, hsome, he3⟩ := wtN_p hapos
              rw [ha1]
              refine wp_if_ge (tgt := 193) dX8_press_187 (by decide) (fun zq187 => ?_) (fun zq187 => absurd (nI_pos' (by omega)) zq187) 
              refine wp_aload_n (i := 0) dX8_press_193 rfl rfl ?_
              refine wp_iload_n (i := 1) dX8_press_194 rfl rfl ?_
              refine wp_iload dX8_press_195 rfl ?_
              refine wp_iload_n (i := 2) dX8_press_197 rfl rfl ?_
              refine wp_iload_n (i := 3) dX8_press_198 rfl rfl ?_
              refine wp_V4i dX8_press_199 mw_1071 mw_1073 ms_47 mi_X8_errorOf (Nat.le_of_ble_eq_true rfl) (Nat.le_refl _) (Nat.le_refl _) (st_k hst rfl) (by decide) rfl (c_errorOfM _ hst (show j < 4 by omega) (by exact hL) (show a < 10 by omega) hpx hpy (fun hn => absurd hn (by rw [hsome]; exact fun z => by cases z)) (fun p2 hp2 hs2 => ?_)) 
              · obtain rfl : p2 = pl := by rw [hsome] at hs2; exact (Option.some.inj hs2).symm
                refine wp_istore_14_10 dX8_press_202 (by first | rfl | assumption) ?_
                refine wp_aload_n (i := 0) dX8_press_204 rfl rfl ?_
                refine wp_getR dX8_press_205 fl_X8_68 rfl (st_k hst rfl) (st_r hst rfl) ?_
                refine wp_iload_n (i := 1) dX8_press_208 rfl rfl ?_
                refine wp_ild (j := j) dX8_press_209 (st_t hst rfl) rfl (by omega) ?_
                refine wp_iload dX8_press_210 rfl ?_
                refine wp_icmp_ne (tgt := 235) dX8_press_212 (by decide) (fun zq212 => ?_) (fun zq212 => ?_) 
                · refine wp_iconst (v := 0) dX8_press_235 (by decide) ?_
                  refine wp_istore_14_11 dX8_press_236 (by first | rfl | assumption) ?_
                  refine wp_ldc2 (v := 10) dX8_press_238 mw_947 ?_
                  refine wp_lload dX8_press_241 rfl ?_
                  refine wp_lmul dX8_press_243 ?_
                  refine wp_topL (v2 := lN (10 * (pAcc (wtN wv cv lay px py) k).2.1)) (l_mul rfl rfl) ?_
                  refine wp_aload_n (i := 0) dX8_press_244 rfl rfl ?_
                  refine wp_getI dX8_press_245 fl_X8_110 rfl (st_k hst rfl) ?_
                  refine wp_i2l dX8_press_248 ?_
                  refine wp_lload dX8_press_249 rfl ?_
                  refine wp_lmul dX8_press_251 ?_
                  refine wp_topL (v2 := lN (su * (pAcc (wtN wv cv lay px py) k).2.2)) (l_mul (n_i2l hsu (by omega)) rfl) ?_
                  refine wp_lcmp dX8_press_252 ?_
                  refine wp_if_lt (tgt := 272) dX8_press_253 (by decide) (fun zs => ?_) (fun zs => ?_) 
                  · refine wp_aload_n (i := 0) dX8_press_272 rfl rfl ?_
                    refine wp_getR dX8_press_273 fl_X8_68 rfl (st_k hst rfl) (st_r hst rfl) ?_
                    refine wp_iload_n (i := 1) dX8_press_276 rfl rfl ?_
                    refine wp_iload dX8_press_277 rfl ?_
                    refine wp_ist (j := j) dX8_press_279 (st_t hst rfl) rfl (by omega) ?_
                    refine wp_aload_n (i := 0) dX8_press_280 rfl rfl ?_
                    refine wp_getR dX8_press_281 fl_X8_71 rfl (st_k hst rfl) (st_r hst rfl) ?_
                    refine wp_iload_n (i := 1) dX8_press_284 rfl rfl ?_
                    refine wp_iload dX8_press_285 rfl ?_
                    refine wp_ist (j := j) dX8_press_287 (st_t hst rfl) rfl (by omega) ?_
                    refine wp_aload_n (i := 0) dX8_press_288 rfl rfl ?_
                    refine wp_getR dX8_press_289 fl_X8_74 rfl (st_k hst rfl) (st_r hst rfl) ?_
                    refine wp_iload_n (i := 1) dX8_press_292 rfl rfl ?_
                    refine wp_iload dX8_press_293 rfl ?_
                    refine wp_ist (j := j) dX8_press_295 (st_t hst rfl) rfl (by omega) ?_
                    refine wp_bipush (v := 100) dX8_press_296 (by decide) ?_
                    refine wp_iload dX8_press_298 rfl ?_
                    refine wp_iadd dX8_press_300 ?_
                    exact wp_retI dX8_press_301 rfl (Nat.le_refl _) (Nat.le_refl _) (h6 px py hpx hpy rfl rfl ⟨ga41, gb41⟩ (Int32.not_lt.mpr zq58) a p2 hak hsome he3 ha1 (fun g => g.1 (by rw [lg_cmp_lt, lN_lt (by omega) (by omega)] at zs; exact zs)))
                  · refine wp_aload_n (i := 0) dX8_press_256 rfl rfl ?_
                    refine wp_getR dX8_press_257 fl_X8_7 rfl (st_k hst rfl) (st_r hst rfl) ?_
                    refine wp_iload dX8_press_260 rfl ?_
                    refine wp_ild (j := a) dX8_press_262 (st_t hst rfl) rfl (by omega) ?_
                    refine wp_iconst (v := 2) dX8_press_263 (by decide) ?_
                    refine wp_icmp_ne (tgt := 302) dX8_press_264 (by decide) (fun zk => ?_) (fun zk => ?_) 
                    · refine wp_aload_n (i := 0) dX8_press_302 rfl rfl ?_
                      refine wp_iload_n (i := 1) dX8_press_303 rfl rfl ?_
                      refine wp_iload dX8_press_304 rfl ?_
                      refine wp_V2v dX8_press_306 mw_1075 mw_1077 ms_48 mi_X8_takePress (Nat.le_of_ble_eq_true rfl) (Nat.le_refl _) (Nat.le_refl _) (st_k hst rfl) (by decide) rfl (c_takeTM _ hst (show j < 4 by omega) (by exact hl) hc he3 ?_) 
                      refine wp_iload dX8_press_309 rfl ?_
                      exact wp_retI dX8_press_311 rfl (Nat.le_refl _) (Nat.le_refl _) (h5 px py hpx hpy rfl rfl ⟨ga41, gb41⟩ (Int32.not_lt.mpr zq58) a p2 hak hsome he3 ha1 ⟨(by intro g; rw [lg_cmp_lt, lN_lt (by omega) (by omega)] at zs; exact zs g), Or.inl zk⟩)
                    · refine wp_iload dX8_press_267 rfl ?_
                      refine wp_if_ne0 (tgt := 302) dX8_press_269 (by decide) ?_
                      refine wp_aload_n (i := 0) dX8_press_272 rfl rfl ?_
                      refine wp_getR dX8_press_273 fl_X8_68 rfl (st_k hst rfl) (st_r hst rfl) ?_
                      refine wp_iload_n (i := 1) dX8_press_276 rfl rfl ?_
                      refine wp_iload dX8_press_277 rfl ?_
                      refine wp_ist (j := j) dX8_press_279 (st_t hst rfl) rfl (by omega) ?_
                      refine wp_aload_n (i := 0) dX8_press_280 rfl rfl ?_
                      refine wp_getR dX8_press_281 fl_X8_71 rfl (st_k hst rfl) (st_r hst rfl) ?_
                      refine wp_iload_n (i := 1) dX8_press_284 rfl rfl ?_
                      refine wp_iload dX8_press_285 rfl ?_
                      refine wp_ist (j := j) dX8_press_287 (st_t hst rfl) rfl (by omega) ?_
                      refine wp_aload_n (i := 0) dX8_press_288 rfl rfl ?_
                      refine wp_getR dX8_press_289 fl_X8_74 rfl (st_k hst rfl) (st_r hst rfl) ?_
                      refine wp_iload_n (i := 1) dX8_press_292 rfl rfl ?_
                      refine wp_iload dX8_press_293 rfl ?_
                      refine wp_ist (j := j) dX8_press_295 (st_t hst rfl) rfl (by omega) ?_
                      refine wp_bipush (v := 100) dX8_press_296 (by decide) ?_
                      refine wp_iload dX8_press_298 rfl ?_
                      refine wp_iadd dX8_press_300 ?_
                      exact wp_retI dX8_press_301 rfl (Nat.le_refl _) (Nat.le_refl _) (h6 px py hpx hpy rfl rfl ⟨ga41, gb41⟩ (Int32.not_lt.mpr zq58) a p2 hak hsome he3 ha1 (fun g => g.2.elim (fun z => z zk) (fun g => zq212 g.1)))
                · refine wp_iload dX8_press_215 rfl ?_
                  refine wp_aload_n (i := 0) dX8_press_217 rfl rfl ?_
                  refine wp_getR dX8_press_218 fl_X8_71 rfl (st_k hst rfl) (st_r hst rfl) ?_
                  refine wp_iload_n (i := 1) dX8_press_221 rfl rfl ?_
                  refine wp_ild (j := j) dX8_press_222 (st_t hst rfl) rfl (by omega) ?_
                  refine wp_isub dX8_press_223 ?_
                  refine wp_aload_n (i := 0) dX8_press_224 rfl rfl ?_
                  refine wp_getI dX8_press_225 fl_X8_114 rfl (st_k hst rfl) ?_
                  refine wp_icmp_gt (tgt := 235) dX8_press_228 (by decide) (fun zq228 => ?_) (fun zq228 => ?_) 
                  · refine wp_iconst (v := 0) dX8_press_235 (by decide) ?_
                    refine wp_istore_14_11 dX8_press_236 (by first | rfl | assumption) ?_
                    refine wp_ldc2 (v := 10) dX8_press_238 mw_947 ?_
                    refine wp_lload dX8_press_241 rfl ?_
                    refine wp_lmul dX8_press_243 ?_
                    refine wp_topL (v2 := lN (10 * (pAcc (wtN wv cv lay px py) k).2.1)) (l_mul rfl rfl) ?_
                    refine wp_aload_n (i := 0) dX8_press_244 rfl rfl ?_
                    refine wp_getI dX8_press_245 fl_X8_110 rfl (st_k hst rfl) ?_
                    refine wp_i2l dX8_press_248 ?_
                    refine wp_lload dX8_press_249 rfl ?_
                    refine wp_lmul dX8_press_251 ?_
                    refine wp_topL (v2 := lN (su * (pAcc (wtN wv cv lay px py) k).2.2)) (l_mul (n_i2l hsu (by omega)) rfl) ?_
                    refine wp_lcmp dX8_press_252 ?_
                    refine wp_if_lt (tgt := 272) dX8_press_253 (by decide) (fun zs => ?_) (fun zs => ?_) 
                    · refine wp_aload_n (i := 0) dX8_press_272 rfl rfl ?_
                      refine wp_getR dX8_press_273 fl_X8_68 rfl (st_k hst rfl) (st_r hst rfl) ?_
                      refine wp_iload_n (i := 1) dX8_press_276 rfl rfl ?_
                      refine wp_iload dX8_press_277 rfl ?_
                      refine wp_ist (j := j) dX8_press_279 (st_t hst rfl) rfl (by omega) ?_
                      refine wp_aload_n (i := 0) dX8_press_280 rfl rfl ?_
                      refine wp_getR dX8_press_281 fl_X8_71 rfl (st_k hst rfl) (st_r hst rfl) ?_
                      refine wp_iload_n (i := 1) dX8_press_284 rfl rfl ?_
                      refine wp_iload dX8_press_285 rfl ?_
                      refine wp_ist (j := j) dX8_press_287 (st_t hst rfl) rfl (by omega) ?_
                      refine wp_aload_n (i := 0) dX8_press_288 rfl rfl ?_
                      refine wp_getR dX8_press_289 fl_X8_74 rfl (st_k hst rfl) (st_r hst rfl) ?_
                      refine wp_iload_n (i := 1) dX8_press_292 rfl rfl ?_
                      refine wp_iload dX8_press_293 rfl ?_
                      refine wp_ist (j := j) dX8_press_295 (st_t hst rfl) rfl (by omega) ?_
                      refine wp_bipush (v := 100) dX8_press_296 (by decide) ?_
                      refine wp_iload dX8_press_298 rfl ?_
                      refine wp_iadd dX8_press_300 ?_
                      exact wp_retI dX8_press_301 rfl (Nat.le_refl _) (Nat.le_refl _) (h6 px py hpx hpy rfl rfl ⟨ga41, gb41⟩ (Int32.not_lt.mpr zq58) a p2 hak hsome he3 ha1 (fun g => g.1 (by rw [lg_cmp_lt, lN_lt (by omega) (by omega)] at zs; exact zs)))
                    · refine wp_aload_n (i := 0) dX8_press_256 rfl rfl ?_
                      refine wp_getR dX8_press_257 fl_X8_7 rfl (st_k hst rfl) (st_r hst rfl) ?_
                      refine wp_iload dX8_press_260 rfl ?_
                      refine wp_ild (j := a) dX8_press_262 (st_t hst rfl) rfl (by omega) ?_
                      refine wp_iconst (v := 2) dX8_press_263 (by decide) ?_
                      refine wp_icmp_ne (tgt := 302) dX8_press_264 (by decide) (fun zk => ?_) (fun zk => ?_) 
                      · refine wp_aload_n (i := 0) dX8_press_302 rfl rfl ?_
                        refine wp_iload_n (i := 1) dX8_press_303 rfl rfl ?_
                        refine wp_iload dX8_press_304 rfl ?_
                        refine wp_V2v dX8_press_306 mw_1075 mw_1077 ms_48 mi_X8_takePress (Nat.le_of_ble_eq_true rfl) (Nat.le_refl _) (Nat.le_refl _) (st_k hst rfl) (by decide) rfl (c_takeTM _ hst (show j < 4 by omega) (by exact hl) hc he3 ?_) 
                        refine wp_iload dX8_press_309 rfl ?_
                        exact wp_retI dX8_press_311 rfl (Nat.le_refl _) (Nat.le_refl _) (h5 px py hpx hpy rfl rfl ⟨ga41, gb41⟩ (Int32.not_lt.mpr zq58) a p2 hak hsome he3 ha1 ⟨(by intro g; rw [lg_cmp_lt, lN_lt (by omega) (by omega)] at zs; exact zs g), Or.inl zk⟩)
                      · refine wp_iload dX8_press_267 rfl ?_
                        refine wp_if_ne0 (tgt := 302) dX8_press_269 (by decide) ?_
                        refine wp_aload_n (i := 0) dX8_press_272 rfl rfl ?_
                        refine wp_getR dX8_press_273 fl_X8_68 rfl (st_k hst rfl) (st_r hst rfl) ?_
                        refine wp_iload_n (i := 1) dX8_press_276 rfl rfl ?_
                        refine wp_iload dX8_press_277 rfl ?_
                        refine wp_ist (j := j) dX8_press_279 (st_t hst rfl) rfl (by omega) ?_
                        refine wp_aload_n (i := 0) dX8_press_280 rfl rfl ?_
                        refine wp_getR dX8_press_281 fl_X8_71 rfl (st_k hst rfl) (st_r hst rfl) ?_
                        refine wp_iload_n (i := 1) dX8_press_284 rfl rfl ?_
                        refine wp_iload dX8_press_285 rfl ?_
                        refine wp_ist (j := j) dX8_press_287 (st_t hst rfl) rfl (by omega) ?_
                        refine wp_aload_n (i := 0) dX8_press_288 rfl rfl ?_
                        refine wp_getR dX8_press_289 fl_X8_74 rfl (st_k hst rfl) (st_r hst rfl) ?_
                        refine wp_iload_n (i := 1) dX8_press_292 rfl rfl ?_
                        refine wp_iload dX8_press_293 rfl ?_
                        refine wp_ist (j := j) dX8_press_295 (st_t hst rfl) rfl (by omega) ?_
                        refine wp_bipush (v := 100) dX8_press_296 (by decide) ?_
                        refine wp_iload dX8_press_298 rfl ?_
                        refine wp_iadd dX8_press_300 ?_
                        exact wp_retI dX8_press_301 rfl (Nat.le_refl _) (Nat.le_refl _) (h6 px py hpx hpy rfl rfl ⟨ga41, gb41⟩ (Int32.not_lt.mpr zq58) a p2 hak hsome he3 ha1 (fun g => g.2.elim (fun z => z zk) (fun g => absurd g.2 (Int32.not_le.mpr zq228))))
                  · refine wp_iconst (v := 1) dX8_press_231 (by decide) ?_
                    refine wp_goto (tgt := 236) dX8_press_232 (by decide) ?_
                    refine wp_istore_14_11 dX8_press_236 (by first | rfl | assumption) ?_
                    refine wp_ldc2 (v := 10) dX8_press_238 mw_947 ?_
                    refine wp_lload dX8_press_241 rfl ?_
                    refine wp_lmul dX8_press_243 ?_
                    refine wp_topL (v2 := lN (10 * (pAcc (wtN wv cv lay px py) k).2.1)) (l_mul rfl rfl) ?_
                    refine wp_aload_n (i := 0) dX8_press_244 rfl rfl ?_
                    refine wp_getI dX8_press_245 fl_X8_110 rfl (st_k hst rfl) ?_
                    refine wp_i2l dX8_press_248 ?_
                    refine wp_lload dX8_press_249 rfl ?_
                    refine wp_lmul dX8_press_251 ?_
                    refine wp_topL (v2 := lN (su * (pAcc (wtN wv cv lay px py) k).2.2)) (l_mul (n_i2l hsu (by omega)) rfl) ?_
                    refine wp_lcmp dX8_press_252 ?_
                    refine wp_if_lt (tgt := 272) dX8_press_253 (by decide) (fun zs => ?_) (fun zs => ?_) 
                    · refine wp_aload_n (i := 0) dX8_press_272 rfl rfl ?_
                      refine wp_getR dX8_press_273 fl_X8_68 rfl (st_k hst rfl) (st_r hst rfl) ?_
                      refine wp_iload_n (i := 1) dX8_press_276 rfl rfl ?_
                      refine wp_iload dX8_press_277 rfl ?_
                      refine wp_ist (j := j) dX8_press_279 (st_t hst rfl) rfl (by omega) ?_
                      refine wp_aload_n (i := 0) dX8_press_280 rfl rfl ?_
                      refine wp_getR dX8_press_281 fl_X8_71 rfl (st_k hst rfl) (st_r hst rfl) ?_
                      refine wp_iload_n (i := 1) dX8_press_284 rfl rfl ?_
                      refine wp_iload dX8_press_285 rfl ?_
                      refine wp_ist (j := j) dX8_press_287 (st_t hst rfl) rfl (by omega) ?_
                      refine wp_aload_n (i := 0) dX8_press_288 rfl rfl ?_
                      refine wp_getR dX8_press_289 fl_X8_74 rfl (st_k hst rfl) (st_r hst rfl) ?_
                      refine wp_iload_n (i := 1) dX8_press_292 rfl rfl ?_
                      refine wp_iload dX8_press_293 rfl ?_
                      refine wp_ist (j := j) dX8_press_295 (st_t hst rfl) rfl (by omega) ?_
                      refine wp_bipush (v := 100) dX8_press_296 (by decide) ?_
                      refine wp_iload dX8_press_298 rfl ?_
                      refine wp_iadd dX8_press_300 ?_
                      exact wp_retI dX8_press_301 rfl (Nat.le_refl _) (Nat.le_refl _) (h6 px py hpx hpy rfl rfl ⟨ga41, gb41⟩ (Int32.not_lt.mpr zq58) a p2 hak hsome he3 ha1 (fun g => g.1 (by rw [lg_cmp_lt, lN_lt (by omega) (by omega)] at zs; exact zs)))
                    · refine wp_aload_n (i := 0) dX8_press_256 rfl rfl ?_
                      refine wp_getR dX8_press_257 fl_X8_7 rfl (st_k hst rfl) (st_r hst rfl) ?_
                      refine wp_iload dX8_press_260 rfl ?_
                      refine wp_ild (j := a) dX8_press_262 (st_t hst rfl) rfl (by omega) ?_
                      refine wp_iconst (v := 2) dX8_press_263 (by decide) ?_
                      refine wp_icmp_ne (tgt := 302) dX8_press_264 (by decide) (fun zk => ?_) (fun zk => ?_) 
                      · refine wp_aload_n (i := 0) dX8_press_302 rfl rfl ?_
                        refine wp_iload_n (i := 1) dX8_press_303 rfl rfl ?_
                        refine wp_iload dX8_press_304 rfl ?_
                        refine wp_V2v dX8_press_306 mw_1075 mw_1077 ms_48 mi_X8_takePress (Nat.le_of_ble_eq_true rfl) (Nat.le_refl _) (Nat.le_refl _) (st_k hst rfl) (by decide) rfl (c_takeTM _ hst (show j < 4 by omega) (by exact hl) hc he3 ?_) 
                        refine wp_iload dX8_press_309 rfl ?_
                        exact wp_retI dX8_press_311 rfl (Nat.le_refl _) (Nat.le_refl _) (h5 px py hpx hpy rfl rfl ⟨ga41, gb41⟩ (Int32.not_lt.mpr zq58) a p2 hak hsome he3 ha1 ⟨(by intro g; rw [lg_cmp_lt, lN_lt (by omega) (by omega)] at zs; exact zs g), Or.inl zk⟩)
                      · refine wp_iload dX8_press_267 rfl ?_
                        refine wp_if_ne1 (tgt := 302) dX8_press_269 (by decide) ?_
                        refine wp_aload_n (i := 0) dX8_press_302 rfl rfl ?_
                        refine wp_iload_n (i := 1) dX8_press_303 rfl rfl ?_
                        refine wp_iload dX8_press_304 rfl ?_
                        refine wp_V2v dX8_press_306 mw_1075 mw_1077 ms_48 mi_X8_takePress (Nat.le_of_ble_eq_true rfl) (Nat.le_refl _) (Nat.le_refl _) (st_k hst rfl) (by decide) rfl (c_takeTM _ hst (show j < 4 by omega) (by exact hl) hc he3 ?_) 
                        refine wp_iload dX8_press_309 rfl ?_
                        exact wp_retI dX8_press_311 rfl (Nat.le_refl _) (Nat.le_refl _) (h5 px py hpx hpy rfl rfl ⟨ga41, gb41⟩ (Int32.not_lt.mpr zq58) a p2 hak hsome he3 ha1 ⟨(by intro g; rw [lg_cmp_lt, lN_lt (by omega) (by omega)] at zs; exact zs g), Or.inr ⟨zq212, Int32.not_lt.mp zq228⟩⟩)
          · refine wp_bipush (v := (-3)) dX8_press_61 (by decide) ?_
            exact wp_retI dX8_press_63 rfl (Nat.le_refl _) (Nat.le_refl _) (h3 ⟨⟨ga16, gb16⟩, ⟨ga28, gb28⟩, ⟨ga41, gb41⟩⟩ (Int32.not_le.mp zq58))
        · skip
          refine wp_if_ne0 (tgt := 50) dX8_press_44 (by decide) ?_
          refine wp_bipush (v := (-2)) dX8_press_47 (by decide) ?_
          exact wp_retI dX8_press_49 rfl (Nat.le_refl _) (Nat.le_refl _) (h2 (fun g => gn41 g.2.2))
      · skip
        refine wp_if_eq0 (tgt := 47) dX8_press_31 (by decide) ?_
        refine wp_bipush (v := (-2)) dX8_press_47 (by decide) ?_
        exact wp_retI dX8_press_49 rfl (Nat.le_refl _) (Nat.le_refl _) (h2 (fun g => gn28 g.2.1))
    · skip
      refine wp_if_eq0 (tgt := 47) dX8_press_19 (by decide) ?_
      refine wp_bipush (v := (-2)) dX8_press_47 (by decide) ?_
      exact wp_retI dX8_press_49 rfl (Nat.le_refl _) (Nat.le_refl _) (h2 (fun g => gn16 g.1))

theorem c_confirm (d : Nat) {n : Nat} {t : eT} {I : eI} {R : eR} {Q : Int32 → Nat → eT → eI → eR → Prop} (hst : ST n t R) {m : Nat} (hm : I 4 3 = nI m) (hm4 : m ≤ 4) {j : Nat} (hjm : j < m) {w : Int32} {c e : Nat} (hl : I (54 + 10 * j) 9 = nI c) (hc : c ≤ 12) (he : I (54 + 10 * j) 5 = nI e) (he3 : e < 3) (h2 : ¬ (0 ≤ w.toInt ∧ w.toInt ≤ 9999) → Q (-2) n t I R) (h3 : (0 ≤ w.toInt ∧ w.toInt ≤ 9999) → (I (54 + 10 * j) 4 = -9 ∨ w < I (54 + 10 * j) 3) → Q (-3) n t I R) (h4 : (0 ≤ w.toInt ∧ w.toInt ≤ 9999) → ¬ I (54 + 10 * j) 4 = -9 → ¬ w < I (54 + 10 * j) 3 → Q (I (54 + 10 * j) 4) n t (tkC (eU I (54 + 10 * j) 3 w) j c e) R) : MC yX7_confirm cX7_confirm 5 (some .int) (d + 3) 0 0 [.ref 4, .int (nI j), .int w] n t I R (qI Q) := by
  refine mc_intro (L0 := [.ref 4, .int (nI j), .int w, vU, vU]) (by decide) rfl (Nat.le_of_ble_eq_true rfl) ?_
  refine wp_aload_n (i := 0) dX7_confirm_0 rfl rfl ?_
  refine wp_iload_n (i := 1) dX7_confirm_1 rfl rfl ?_
  refine wp_V1i dX7_confirm_2 mw_375 mw_377 ms_7 mi_X7_isPerson (Nat.le_of_ble_eq_true rfl) (Nat.le_refl _) (Nat.le_refl _) (st_k hst rfl) (by decide) rfl (c_isPerson _ hst (by exact hm) hm4 (fun _ _ _ => ?_) (fun no => absurd rfl (no j hjm))) 
  · skip
    refine wp_if_ne1 (tgt := 10) dX7_confirm_5 (by decide) ?_
    refine wp_iload_n (i := 2) dX7_confirm_10 rfl rfl ?_
    refine wp_S1i dX7_confirm_11 mw_554 mw_555 mi_X7_isTick (Nat.le_of_ble_eq_true rfl) (Nat.le_refl _) (Nat.le_refl _) (c_isTick _ (fun ga11 gb11 => ?_) (fun gn11 => ?_)) 
    · skip
      refine wp_if_ne1 (tgt := 20) dX7_confirm_14 (by decide) ?_
      refine wp_aload_n (i := 0) dX7_confirm_20 rfl rfl ?_
      refine wp_getR dX7_confirm_21 fl_X7_27 rfl (st_k hst rfl) (st_r hst rfl) ?_
      refine wp_iload_n (i := 1) dX7_confirm_24 rfl rfl ?_
      refine wp_rld11 (j := j) dX7_confirm_25 (st_t hst rfl) rfl (by omega) (sp_34 hst (by omega)) ?_
      refine wp_astore_5_3 dX7_confirm_26 rfl ?_
      refine wp_aload_n (i := 3) dX7_confirm_27 rfl rfl ?_
      refine wp_getI dX7_confirm_28 fl_X7_209 rfl (sp_k0 hst (by omega)) ?_
      refine wp_bipush (v := (-9)) dX7_confirm_31 (by decide) ?_
      refine wp_icmp_eq (tgt := 44) dX7_confirm_33 (by decide) (fun zq33 => ?_) (fun zq33 => ?_) 
      · refine wp_bipush (v := (-3)) dX7_confirm_44 (by decide) ?_
        exact wp_retI dX7_confirm_46 rfl (Nat.le_refl _) (Nat.le_refl _) (h3 ⟨ga11, gb11⟩ (Or.inl zq33))
      · refine wp_iload_n (i := 2) dX7_confirm_36 rfl rfl ?_
        refine wp_aload_n (i := 3) dX7_confirm_37 rfl rfl ?_
        refine wp_getI dX7_confirm_38 fl_X7_202 rfl (sp_k0 hst (by omega)) ?_
        refine wp_icmp_ge (tgt := 47) dX7_confirm_41 (by decide) (fun zq41 => ?_) (fun zq41 => ?_) 
        · refine wp_aload_n (i := 3) dX7_confirm_47 rfl rfl ?_
          refine wp_getI dX7_confirm_48 fl_X7_209 rfl (sp_k0 hst (by omega)) ?_
          refine wp_istore_5_4 dX7_confirm_51 rfl ?_
          refine wp_aload_n (i := 3) dX7_confirm_53 rfl rfl ?_
          refine wp_iload_n (i := 2) dX7_confirm_54 rfl rfl ?_
          refine wp_putI dX7_confirm_55 fl_X7_202 rfl (Or.inl rfl) (sp_k0 hst (by omega)) ?_
          refine wp_aload_n (i := 3) dX7_confirm_58 rfl rfl ?_
          refine wp_aload_n (i := 3) dX7_confirm_59 rfl rfl ?_
          refine wp_getI dX7_confirm_60 fl_X7_212 rfl (sp_k0 hst (by omega)) ?_
          have h5 : eU I (54 + 10 * j) 3 w (54 + 10 * j) 5 = nI e := by rw [eU_c (show (5 : Nat) ≠ 3 by decide)]; exact he
          rw [h5]
          refine wp_V1v dX7_confirm_63 mw_573 mw_574 mw_575 mi_X3_take (Nat.le_of_ble_eq_true rfl) (Nat.le_refl _) (Nat.le_refl _) (sp_k0 hst (by omega)) (by decide) rfl (c_takeT _ hst (show j < 4 by omega) (by rw [eU_c (show (9 : Nat) ≠ 3 by decide)]; exact hl) hc he3 ?_) 
          refine wp_iload dX7_confirm_66 rfl ?_
          exact wp_retI dX7_confirm_68 rfl (Nat.le_refl _) (Nat.le_refl _) (h4 ⟨ga11, gb11⟩ zq33 (Int32.not_lt.mpr zq41))
        · refine wp_bipush (v := (-3)) dX7_confirm_44 (by decide) ?_
          exact wp_retI dX7_confirm_46 rfl (Nat.le_refl _) (Nat.le_refl _) (h3 ⟨ga11, gb11⟩ (Or.inr (Int32.not_le.mp zq41)))
    · skip
      refine wp_if_ne0 (tgt := 20) dX7_confirm_14 (by decide) ?_
      refine wp_bipush (v := (-2)) dX7_confirm_17 (by decide) ?_
      exact wp_retI dX7_confirm_19 rfl (Nat.le_refl _) (Nat.le_refl _) (h2 gn11)

theorem c_confirmM (d : Nat) {n : Nat} {t : eT} {I : eI} {R : eR} {Q : Int32 → Nat → eT → eI → eR → Prop} (hst : ST n t R) {m : Nat} (hmM : I 94 9 = nI m) (hm4 : m ≤ 4) {j : Nat} (hjm : j < m) {w : Int32} {c e : Nat} (hl : I 119 j = nI c) (hc : c ≤ 12) (he : I 116 j = nI e) (he3 : e < 3) (h2 : ¬ (0 ≤ w.toInt ∧ w.toInt ≤ 9999) → Q (-2) n t I R) (h3 : (0 ≤ w.toInt ∧ w.toInt ≤ 9999) → (I 114 j < 0 ∨ w < I 117 j) → Q (-3) n t I R) (h4 : (0 ≤ w.toInt ∧ w.toInt ≤ 9999) → ¬ I 114 j < 0 → ¬ w < I 117 j → Q (I 114 j) n t (tkM (eU I 117 j w) j c e) R) : MC yX8_confirm cX8_confirm 4 (some .int) (d + 3) 0 0 [.ref 94, .int (nI j), .int w] n t I R (qI Q) := by
  refine mc_intro (L0 := [.ref 94, .int (nI j), .int w, vU]) (by decide) rfl (Nat.le_of_ble_eq_true rfl) ?_
  refine wp_aload_n (i := 0) dX8_confirm_0 rfl rfl ?_
  refine wp_iload_n (i := 1) dX8_confirm_1 rfl rfl ?_
  refine wp_V1i dX8_confirm_2 mw_942 mw_944 ms_32 mi_X8_noPerson (Nat.le_of_ble_eq_true rfl) (Nat.le_refl _) (Nat.le_refl _) (st_k hst rfl) (by decide) rfl (c_noPerson _ hst (by exact hmM) hm4 (fun _ _ _ => ?_) (fun no => absurd rfl (no j hjm))) 
  · skip
    refine wp_if_eq0 (tgt := 10) dX8_confirm_5 (by decide) ?_
    refine wp_iload_n (i := 2) dX8_confirm_10 rfl rfl ?_
    refine wp_i2l dX8_confirm_11 ?_
    refine wp_lconst (v := 0) dX8_confirm_12 (by decide) ?_
    refine wp_ldc2 (v := 9999) dX8_confirm_13 mw_1007 ?_
    refine wp_S3i dX8_confirm_16 mw_887 mw_888 mi_X8_in (Nat.le_of_ble_eq_true rfl) (Nat.le_refl _) (Nat.le_refl _) (c_in _ (a := 0) (b := 9999) rfl rfl (fun ga16 gb16 => ?_) (fun gn16 => ?_)) 
    · skip
      refine wp_if_ne1 (tgt := 25) dX8_confirm_19 (by decide) ?_
      refine wp_aload_n (i := 0) dX8_confirm_25 rfl rfl ?_
      refine wp_getR dX8_confirm_26 fl_X8_68 rfl (st_k hst rfl) (st_r hst rfl) ?_
      refine wp_iload_n (i := 1) dX8_confirm_29 rfl rfl ?_
      refine wp_ild (j := j) dX8_confirm_30 (st_t hst rfl) rfl (by omega) ?_
      refine wp_if_lt (tgt := 44) dX8_confirm_31 (by decide) (fun zq31 => ?_) (fun zq31 => ?_) 
      · refine wp_bipush (v := (-3)) dX8_confirm_44 (by decide) ?_
        exact wp_retI dX8_confirm_46 rfl (Nat.le_refl _) (Nat.le_refl _) (h3 ⟨ga16, gb16⟩ (Or.inl zq31))
      · refine wp_iload_n (i := 2) dX8_confirm_34 rfl rfl ?_
        refine wp_aload_n (i := 0) dX8_confirm_35 rfl rfl ?_
        refine wp_getR dX8_confirm_36 fl_X8_77 rfl (st_k hst rfl) (st_r hst rfl) ?_
        refine wp_iload_n (i := 1) dX8_confirm_39 rfl rfl ?_
        refine wp_ild (j := j) dX8_confirm_40 (st_t hst rfl) rfl (by omega) ?_
        refine wp_icmp_ge (tgt := 47) dX8_confirm_41 (by decide) (fun zq41 => ?_) (fun zq41 => ?_) 
        · refine wp_aload_n (i := 0) dX8_confirm_47 rfl rfl ?_
          refine wp_getR dX8_confirm_48 fl_X8_77 rfl (st_k hst rfl) (st_r hst rfl) ?_
          refine wp_iload_n (i := 1) dX8_confirm_51 rfl rfl ?_
          refine wp_iload_n (i := 2) dX8_confirm_52 rfl rfl ?_
          refine wp_ist (j := j) dX8_confirm_53 (st_t hst rfl) rfl (by omega) ?_
          refine wp_aload_n (i := 0) dX8_confirm_54 rfl rfl ?_
          refine wp_getR dX8_confirm_55 fl_X8_68 rfl (st_k hst rfl) (st_r hst rfl) ?_
          refine wp_iload_n (i := 1) dX8_confirm_58 rfl rfl ?_
          refine wp_ild (j := j) dX8_confirm_59 (st_t hst rfl) rfl (by omega) ?_
          refine wp_istore_4_3 dX8_confirm_60 rfl ?_
          refine wp_aload_n (i := 0) dX8_confirm_61 rfl rfl ?_
          refine wp_iload_n (i := 1) dX8_confirm_62 rfl rfl ?_
          refine wp_aload_n (i := 0) dX8_confirm_63 rfl rfl ?_
          refine wp_getR dX8_confirm_64 fl_X8_74 rfl (st_k hst rfl) (st_r hst rfl) ?_
          refine wp_iload_n (i := 1) dX8_confirm_67 rfl rfl ?_
          refine wp_ild (j := j) dX8_confirm_68 (st_t hst rfl) rfl (by omega) ?_
          have h5 : eU I 117 j w 116 j = nI e := he
          rw [h5]
          refine wp_V2v dX8_confirm_69 mw_1075 mw_1077 ms_48 mi_X8_takePress (Nat.le_of_ble_eq_true rfl) (Nat.le_refl _) (Nat.le_refl _) (st_k hst rfl) (by decide) rfl (c_takeTM _ hst (show j < 4 by omega) (by exact hl) hc he3 ?_) 
          refine wp_iload_n (i := 3) dX8_confirm_72 rfl rfl ?_
          exact wp_retI dX8_confirm_73 rfl (Nat.le_refl _) (Nat.le_refl _) (h4 ⟨ga16, gb16⟩ zq31 (Int32.not_lt.mpr zq41))
        · refine wp_bipush (v := (-3)) dX8_confirm_44 (by decide) ?_
          exact wp_retI dX8_confirm_46 rfl (Nat.le_refl _) (Nat.le_refl _) (h3 ⟨ga16, gb16⟩ (Or.inr (Int32.not_le.mp zq41)))
    · skip
      refine wp_if_ne0 (tgt := 25) dX8_confirm_19 (by decide) ?_
      refine wp_bipush (v := (-2)) dX8_confirm_22 (by decide) ?_
      exact wp_retI dX8_confirm_24 rfl (Nat.le_refl _) (Nat.le_refl _) (h2 gn16)

