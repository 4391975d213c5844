def loA (w : Nat) : Int := if w = 2 then 1 else 0
def hiA (w : Nat) : Int := if w = 0 then 2 else if w = 1 then 4095 else 10
def hiR (w : Nat) : Int := if w = 0 then 10 else 99
theorem c_can (d : Nat) {n : Nat} {t : eT} {I : eI} {R : eR} {Q : Int32 → Nat → eT → eI → eR → Prop} (hst : ST n t R) {m : Nat} (hm : I 4 3 = nI m) (hm4 : m ≤ 4) (hz0 : t 0 = (14, 3)) (hz1 : t 1 = (14, 3)) (hlo : ∀ w, w < 3 → (I 0 w).toInt = loA w) (hhi : ∀ w, w < 3 → (I 1 w).toInt = hiA w) {p x v : Int32} (h1 : (∀ j, j < m → p ≠ nI j) → Q (-1) n t I R) (h2 : ∀ j, j < m → p = nI j → ¬ (0 ≤ x.toInt ∧ x.toInt ≤ 2) → Q (-2) n t I R) (h2b : ∀ j, j < m → p = nI j → ∀ w, w < 3 → x = nI w → ¬ (loA w ≤ v.toInt ∧ v.toInt ≤ hiA w) → Q (-2) n t I R) (h3 : ∀ j, j < m → p = nI j → ∀ w, w < 3 → x = nI w → loA w ≤ v.toInt → v.toInt ≤ hiA w → Q (I (55 + 10 * j) w) n t (eU I (55 + 10 * j) w v) R) : MC yX7_can cX7_can 6 (some .int) (d + 2) 0 0 [.ref 4, .int p, .int x, .int v] n t I R (qI Q) := by
  refine mc_intro (L0 := [.ref 4, .int p, .int x, .int v, vU, vU]) (by decide) rfl (Nat.le_of_ble_eq_true rfl) ?_
  refine wp_aload_n (i := 0) dX7_can_0 rfl rfl ?_
  refine wp_iload_n (i := 1) dX7_can_1 rfl rfl ?_
  refine wp_V1i dX7_can_2 mw_375 mw_377 ms_7 mi_X7_isPerson (Nat.le_of_ble_eq_true rfl) (Nat.le_refl _) (Nat.le_refl _) (st_k hst rfl) (by decide) rfl (c_isPerson _ hst (by exact hm) hm4 (fun j2 hj2 e2 => ?_) (fun no2 => ?_)) 
  · subst e2
    refine wp_if_ne1 (tgt := 10) dX7_can_5 (by decide) ?_
    refine wp_iload_n (i := 2) dX7_can_10 rfl rfl ?_
    refine wp_iconst (v := 0) dX7_can_11 (by decide) ?_
    refine wp_iconst (v := 2) dX7_can_12 (by decide) ?_
    refine wp_S3i dX7_can_13 mw_267 mw_268 mi_X7_isWithin (Nat.le_of_ble_eq_true rfl) (Nat.le_refl _) (Nat.le_refl _) (c_isWithin _ (a := 0) (b := 2) rfl rfl (fun ga13 gb13 => ?_) (fun gn13 => ?_)) 
    · skip
      refine wp_if_eq1 (tgt := 36) dX7_can_16 (by decide) ?_
      obtain ⟨w, hw, ew⟩ := nat_yes (x := x) (m := 3) (by omega) ga13 (by omega)
      subst ew
      refine wp_iload_n (i := 3) dX7_can_19 rfl rfl ?_
      refine wp_gets0 dX7_can_20 mw_379 ?_
      refine wp_iload_n (i := 2) dX7_can_23 rfl rfl ?_
      refine wp_fld dX7_can_24 (by decide) hz0 rfl (by omega) ?_
      refine wp_gets1 dX7_can_25 mw_381 ?_
      refine wp_iload_n (i := 2) dX7_can_28 rfl rfl ?_
      refine wp_fld dX7_can_29 (by decide) hz1 rfl (by omega) ?_
      refine wp_S3i dX7_can_30 mw_267 mw_268 mi_X7_isWithin (Nat.le_of_ble_eq_true rfl) (Nat.le_refl _) (Nat.le_refl _) (c_isWithin _ (a := loA w) (b := hiA w) (hlo w hw) (hhi w hw) (fun ga30 gb30 => ?_) (fun gn30 => ?_)) 
      · skip
        refine wp_if_ne1 (tgt := 39) dX7_can_33 (by decide) ?_
        refine wp_aload_n (i := 0) dX7_can_39 rfl rfl ?_
        refine wp_getR dX7_can_40 fl_X7_27 rfl (st_k hst rfl) (st_r hst rfl) ?_
        refine wp_iload_n (i := 1) dX7_can_43 rfl rfl ?_
        refine wp_rld11 dX7_can_44 (st_t hst rfl) rfl (by omega) (sp_34 hst (by omega)) ?_
        refine wp_getR dX7_can_45 fl_X7_121 rfl (sp_k0 hst (by omega)) (sp_r0 hst (by omega)) ?_
        refine wp_astore_6_4 dX7_can_48 rfl ?_
        refine wp_aload dX7_can_50 rfl ?_
        refine wp_iload_n (i := 2) dX7_can_52 rfl rfl ?_
        refine wp_ild dX7_can_53 (sp_t1 hst (by omega)) rfl (by omega) ?_
        refine wp_istore_6_5 dX7_can_54 rfl ?_
        refine wp_aload dX7_can_56 rfl ?_
        refine wp_iload_n (i := 2) dX7_can_58 rfl rfl ?_
        refine wp_iload_n (i := 3) dX7_can_59 rfl rfl ?_
        refine wp_ist dX7_can_60 (sp_t1 hst (by omega)) rfl (by omega) ?_
        refine wp_iload dX7_can_61 rfl ?_
        exact wp_retI dX7_can_63 rfl (Nat.le_refl _) (Nat.le_refl _) (h3 j2 hj2 rfl w hw rfl ga30 gb30)
      · skip
        refine wp_if_ne0 (tgt := 39) dX7_can_33 (by decide) ?_
        refine wp_bipush (v := (-2)) dX7_can_36 (by decide) ?_
        exact wp_retI dX7_can_38 rfl (Nat.le_refl _) (Nat.le_refl _) (h2b j2 hj2 rfl w hw rfl gn30)
    · skip
      refine wp_if_eq0 (tgt := 36) dX7_can_16 (by decide) ?_
      refine wp_bipush (v := (-2)) dX7_can_36 (by decide) ?_
      exact wp_retI dX7_can_38 rfl (Nat.le_refl _) (Nat.le_refl _) (h2 j2 hj2 rfl gn13)
  · skip
    refine wp_if_ne0 (tgt := 10) dX7_can_5 (by decide) ?_
    refine wp_iconst (v := (-1)) dX7_can_8 (by decide) ?_
    exact wp_retI dX7_can_9 rfl (Nat.le_refl _) (Nat.le_refl _) (h1 no2)

theorem c_canM (d : Nat) {n : Nat} {t : eT} {I : eI} {R : eR} {Q : Int32 → Nat → eT → eI → eR → Prop} (hst : ST n t R) {m : Nat} (hmM : I 94 9 = nI m) (hm4 : m ≤ 4) {p x v : Int32} (h1 : (∀ j, j < m → p ≠ nI j) → Q (-1) n t I R) (h2 : ∀ j, j < m → p = nI j → ¬ (0 ≤ x.toInt ∧ x.toInt ≤ 2) → Q (-2) n t I R) (h2b : ∀ j, j < m → p = nI j → ∀ w, w < 3 → x = nI w → ¬ (loA w ≤ v.toInt ∧ v.toInt ≤ hiA w) → Q (-2) n t I R) (h3 : ∀ j, j < m → p = nI j → ∀ w, w < 3 → x = nI w → loA w ≤ v.toInt → v.toInt ≤ hiA w → Q (I (101 + w) j) n t (eU I (101 + w) j v) R) : MC yX8_can cX8_can 5 (some .int) (d + 2) 0 0 [.ref 94, .int p, .int x, .int v] n t I R (qI Q) := by
  refine mc_intro (L0 := [.ref 94, .int p, .int x, .int v, vU]) (by decide) rfl (Nat.le_of_ble_eq_true rfl) ?_
  refine wp_aload_n (i := 0) dX8_can_0 rfl rfl ?_
  refine wp_iload_n (i := 1) dX8_can_1 rfl rfl ?_
  refine wp_V1i dX8_can_2 mw_942 mw_944 ms_32 mi_X8_noPerson (Nat.le_of_ble_eq_true rfl) (Nat.le_refl _) (Nat.le_refl _) (st_k hst rfl) (by decide) rfl (c_noPerson _ hst (by exact hmM) hm4 (fun j2 hj2 e2 => ?_) (fun no2 => ?_)) 
  · subst e2
    refine wp_if_eq0 (tgt := 10) dX8_can_5 (by decide) ?_
    refine wp_iload_n (i := 2) dX8_can_10 rfl rfl ?_
    refine wp_i2l dX8_can_11 ?_
    refine wp_lconst (v := 0) dX8_can_12 (by decide) ?_
    refine wp_ldc2 (v := 2) dX8_can_13 mw_898 ?_
    refine wp_S3i dX8_can_16 mw_887 mw_888 mi_X8_in (Nat.le_of_ble_eq_true rfl) (Nat.le_refl _) (Nat.le_refl _) (c_in _ (a := 0) (b := 2) rfl rfl (fun ga16 gb16 => ?_) (fun gn16 => ?_)) 
    · skip
      refine wp_if_eq1 (tgt := 64) dX8_can_19 (by decide) ?_
      obtain ⟨w, hw, ew⟩ := nat_yes (x := x) (m := 3) (by omega) ga16 (by omega)
      subst ew
      rcases (show w = 0 ∨ w = 1 ∨ w = 2 by omega) with e0 | e1 | e2
      · subst e0
        refine wp_iload_n (i := 3) dX8_can_22 rfl rfl ?_
        refine wp_i2l dX8_can_23 ?_
        refine wp_iload_n (i := 2) dX8_can_24 rfl rfl ?_
        refine wp_iconst (v := 2) dX8_can_25 (by decide) ?_
        refine wp_icmp_ne (tgt := 33) dX8_can_26 (by decide) (fun zq26 => ?_) (fun zq26 => absurd zq26 (by decide)) 
        refine wp_lconst (v := 0) dX8_can_33 (by decide) ?_
        refine wp_iload_n (i := 2) dX8_can_34 rfl rfl ?_
        refine wp_if_ne (tgt := 44) dX8_can_35 (by decide) (fun zq35 => absurd zq35 (by decide)) (fun zq35 => ?_) 
        refine wp_ldc2 (v := 2) dX8_can_38 mw_898 ?_
        refine wp_goto (tgt := 58) dX8_can_41 (by decide) ?_
        refine wp_S3i dX8_can_58 mw_887 mw_888 mi_X8_in (Nat.le_of_ble_eq_true rfl) (Nat.le_refl _) (Nat.le_refl _) (c_in _ (a := 0) (b := 2) rfl rfl (fun ga58 gb58 => ?_) (fun gn58 => ?_)) 
        · skip
          refine wp_if_ne1 (tgt := 67) dX8_can_61 (by decide) ?_
          refine wp_iload_n (i := 2) dX8_can_67 rfl rfl ?_
          refine wp_if_ne (tgt := 80) dX8_can_68 (by decide) (fun zq68 => absurd zq68 (by decide)) (fun zq68 => ?_) 
          refine wp_aload_n (i := 0) dX8_can_71 rfl rfl ?_
          refine wp_getR dX8_can_72 fl_X8_28 rfl (st_k hst rfl) (st_r hst rfl) ?_
          refine wp_iload_n (i := 1) dX8_can_75 rfl rfl ?_
          refine wp_ild dX8_can_76 (st_t hst rfl) rfl (by omega) ?_
          refine wp_goto (tgt := 100) dX8_can_77 (by decide) ?_
          refine wp_istore_5_4 dX8_can_100 rfl ?_
          refine wp_iload_n (i := 2) dX8_can_102 rfl rfl ?_
          refine wp_if_ne (tgt := 116) dX8_can_103 (by decide) (fun zq103 => absurd zq103 (by decide)) (fun zq103 => ?_) 
          refine wp_aload_n (i := 0) dX8_can_106 rfl rfl ?_
          refine wp_getR dX8_can_107 fl_X8_28 rfl (st_k hst rfl) (st_r hst rfl) ?_
          refine wp_iload_n (i := 1) dX8_can_110 rfl rfl ?_
          refine wp_iload_n (i := 3) dX8_can_111 rfl rfl ?_
          refine wp_ist dX8_can_112 (st_t hst rfl) rfl (by omega) ?_
          refine wp_goto (tgt := 138) dX8_can_113 (by decide) ?_
          refine wp_iload dX8_can_138 rfl ?_
          exact wp_retI dX8_can_140 rfl (Nat.le_refl _) (Nat.le_refl _) (by first | exact h3 j2 hj2 rfl 0 (by decide) rfl ga58 gb58 | exact h3 j2 hj2 rfl 1 (by decide) rfl ga58 gb58 | exact h3 j2 hj2 rfl 2 (by decide) rfl ga58 gb58)
        · skip
          refine wp_if_ne0 (tgt := 67) dX8_can_61 (by decide) ?_
          refine wp_bipush (v := (-2)) dX8_can_64 (by decide) ?_
          exact wp_retI dX8_can_66 rfl (Nat.le_refl _) (Nat.le_refl _) (h2b j2 hj2 rfl 0 (by decide) rfl gn58)
      · subst e1
        refine wp_iload_n (i := 3) dX8_can_22 rfl rfl ?_
        refine wp_i2l dX8_can_23 ?_
        refine wp_iload_n (i := 2) dX8_can_24 rfl rfl ?_
        refine wp_iconst (v := 2) dX8_can_25 (by decide) ?_
        refine wp_icmp_ne (tgt := 33) dX8_can_26 (by decide) (fun zq26 => ?_) (fun zq26 => absurd zq26 (by decide)) 
        refine wp_lconst (v := 0) dX8_can_33 (by decide) ?_
        refine wp_iload_n (i := 2) dX8_can_34 rfl rfl ?_
        refine wp_if_ne (tgt := 44) dX8_can_35 (by decide) (fun zq35 => ?_) (fun zq35 => absurd zq35 (by decide)) 
        refine wp_iload_n (i := 2) dX8_can_44 rfl rfl ?_
        refine wp_iconst (v := 1) dX8_can_45 (by decide) ?_
        refine wp_icmp_ne (tgt := 55) dX8_can_46 (by decide) (fun zq46 => absurd zq46 (by decide)) (fun zq46 => ?_) 
        refine wp_ldc2 (v := 4095) dX8_can_49 mw_946 ?_
        refine wp_goto (tgt := 58) dX8_can_52 (by decide) ?_
        refine wp_S3i dX8_can_58 mw_887 mw_888 mi_X8_in (Nat.le_of_ble_eq_true rfl) (Nat.le_refl _) (Nat.le_refl _) (c_in _ (a := 0) (b := 4095) rfl rfl (fun ga58 gb58 => ?_) (fun gn58 => ?_)) 
        · skip
          refine wp_if_ne1 (tgt := 67) dX8_can_61 (by decide) ?_
          refine wp_iload_n (i := 2) dX8_can_67 rfl rfl ?_
          refine wp_if_ne (tgt := 80) dX8_can_68 (by decide) (fun zq68 => ?_) (fun zq68 => absurd zq68 (by decide)) 
          refine wp_iload_n (i := 2) dX8_can_80 rfl rfl ?_
          refine wp_iconst (v := 1) dX8_can_81 (by decide) ?_
          refine wp_icmp_ne (tgt := 94) dX8_can_82 (by decide) (fun zq82 => absurd zq82 (by decide)) (fun zq82 => ?_) 
          refine wp_aload_n (i := 0) dX8_can_85 rfl rfl ?_
          refine wp_getR dX8_can_86 fl_X8_31 rfl (st_k hst rfl) (st_r hst rfl) ?_
          refine wp_iload_n (i := 1) dX8_can_89 rfl rfl ?_
          refine wp_ild dX8_can_90 (st_t hst rfl) rfl (by omega) ?_
          refine wp_goto (tgt := 100) dX8_can_91 (by decide) ?_
          refine wp_istore_5_4 dX8_can_100 rfl ?_
          refine wp_iload_n (i := 2) dX8_can_102 rfl rfl ?_
          refine wp_if_ne (tgt := 116) dX8_can_103 (by decide) (fun zq103 => ?_) (fun zq103 => absurd zq103 (by decide)) 
          refine wp_iload_n (i := 2) dX8_can_116 rfl rfl ?_
          refine wp_iconst (v := 1) dX8_can_117 (by decide) ?_
          refine wp_icmp_ne (tgt := 131) dX8_can_118 (by decide) (fun zq118 => absurd zq118 (by decide)) (fun zq118 => ?_) 
          refine wp_aload_n (i := 0) dX8_can_121 rfl rfl ?_
          refine wp_getR dX8_can_122 fl_X8_31 rfl (st_k hst rfl) (st_r hst rfl) ?_
          refine wp_iload_n (i := 1) dX8_can_125 rfl rfl ?_
          refine wp_iload_n (i := 3) dX8_can_126 rfl rfl ?_
          refine wp_ist dX8_can_127 (st_t hst rfl) rfl (by omega) ?_
          refine wp_goto (tgt := 138) dX8_can_128 (by decide) ?_
          refine wp_iload dX8_can_138 rfl ?_
          exact wp_retI dX8_can_140 rfl (Nat.le_refl _) (Nat.le_refl _) (by first | exact h3 j2 hj2 rfl 0 (by decide) rfl ga58 gb58 | exact h3 j2 hj2 rfl 1 (by decide) rfl ga58 gb58 | exact h3 j2 hj2 rfl 2 (by decide) rfl ga58 gb58)
        · skip
          refine wp_if_ne0 (tgt := 67) dX8_can_61 (by decide) ?_
          refine wp_bipush (v := (-2)) dX8_can_64 (by decide) ?_
          exact wp_retI dX8_can_66 rfl (Nat.le_refl _) (Nat.le_refl _) (h2b j2 hj2 rfl 1 (by decide) rfl gn58)
      · subst e2
        refine wp_iload_n (i := 3) dX8_can_22 rfl rfl ?_
        refine wp_i2l dX8_can_23 ?_
        refine wp_iload_n (i := 2) dX8_can_24 rfl rfl ?_
        refine wp_iconst (v := 2) dX8_can_25 (by decide) ?_
        refine wp_icmp_ne (tgt := 33) dX8_can_26 (by decide) (fun zq26 => absurd zq26 (by decide)) (fun zq26 => ?_) 
        refine wp_lconst (v := 1) dX8_can_29 (by decide) ?_
        refine wp_goto (tgt := 34) dX8_can_30 (by decide) ?_
        refine wp_iload_n (i := 2) dX8_can_34 rfl rfl ?_
        refine wp_if_ne (tgt := 44) dX8_can_35 (by decide) (fun zq35 => ?_) (fun zq35 => absurd zq35 (by decide)) 
        refine wp_iload_n (i := 2) dX8_can_44 rfl rfl ?_
        refine wp_iconst (v := 1) dX8_can_45 (by decide) ?_
        refine wp_icmp_ne (tgt := 55) dX8_can_46 (by decide) (fun zq46 => ?_) (fun zq46 => absurd zq46 (by decide)) 
        refine wp_ldc2 (v := 10) dX8_can_55 mw_947 ?_
        refine wp_S3i dX8_can_58 mw_887 mw_888 mi_X8_in (Nat.le_of_ble_eq_true rfl) (Nat.le_refl _) (Nat.le_refl _) (c_in _ (a := 1) (b := 10) rfl rfl (fun ga58 gb58 => ?_) (fun gn58 => ?_)) 
        · skip
          refine wp_if_ne1 (tgt := 67) dX8_can_61 (by decide) ?_
          refine wp_iload_n (i := 2) dX8_can_67 rfl rfl ?_
          refine wp_if_ne (tgt := 80) dX8_can_68 (by decide) (fun zq68 => ?_) (fun zq68 => absurd zq68 (by decide)) 
          refine wp_iload_n (i := 2) dX8_can_80 rfl rfl ?_
          refine wp_iconst (v := 1) dX8_can_81 (by decide) ?_
          refine wp_icmp_ne (tgt := 94) dX8_can_82 (by decide) (fun zq82 => ?_) (fun zq82 => absurd zq82 (by decide)) 
          refine wp_aload_n (i := 0) dX8_can_94 rfl rfl ?_
          refine wp_getR dX8_can_95 fl_X8_34 rfl (st_k hst rfl) (st_r hst rfl) ?_
          refine wp_iload_n (i := 1) dX8_can_98 rfl rfl ?_
          refine wp_ild dX8_can_99 (st_t hst rfl) rfl (by omega) ?_
          refine wp_istore_5_4 dX8_can_100 rfl ?_
          refine wp_iload_n (i := 2) dX8_can_102 rfl rfl ?_
          refine wp_if_ne (tgt := 116) dX8_can_103 (by decide) (fun zq103 => ?_) (fun zq103 => absurd zq103 (by decide)) 
          refine wp_iload_n (i := 2) dX8_can_116 rfl rfl ?_
          refine wp_iconst (v := 1) dX8_can_117 (by decide) ?_
          refine wp_icmp_ne (tgt := 131) dX8_can_118 (by decide) (fun zq118 => ?_) (fun zq118 => absurd zq118 (by decide)) 
          refine wp_aload_n (i := 0) dX8_can_131 rfl rfl ?_
          refine wp_getR dX8_can_132 fl_X8_34 rfl (st_k hst rfl) (st_r hst rfl) ?_
          refine wp_iload_n (i := 1) dX8_can_135 rfl rfl ?_
          refine wp_iload_n (i := 3) dX8_can_136 rfl rfl ?_
          refine wp_ist dX8_can_137 (st_t hst rfl) rfl (by omega) ?_
          refine wp_iload dX8_can_138 rfl ?_
          exact wp_retI dX8_can_140 rfl (Nat.le_refl _) (Nat.le_refl _) (by first | exact h3 j2 hj2 rfl 0 (by decide) rfl ga58 gb58 | exact h3 j2 hj2 rfl 1 (by decide) rfl ga58 gb58 | exact h3 j2 hj2 rfl 2 (by decide) rfl ga58 gb58)
        · skip
          refine wp_if_ne0 (tgt := 67) dX8_can_61 (by decide) ?_
          refine wp_bipush (v := (-2)) dX8_can_64 (by decide) ?_
          exact wp_retI dX8_can_66 rfl (Nat.le_refl _) (Nat.le_refl _) (h2b j2 hj2 rfl 2 (by decide) rfl gn58)
    · skip
      refine wp_if_eq0 (tgt := 64) dX8_can_19 (by decide) ?_
      refine wp_bipush (v := (-2)) dX8_can_64 (by decide) ?_
      exact wp_retI dX8_can_66 rfl (Nat.le_refl _) (Nat.le_refl _) (h2 j2 hj2 rfl gn16)
  · skip
    refine wp_if_eq1 (tgt := 10) dX8_can_5 (by decide) ?_
    refine wp_iconst (v := (-1)) dX8_can_8 (by decide) ?_
    exact wp_retI dX8_can_9 rfl (Nat.le_refl _) (Nat.le_refl _) (h1 no2)

theorem c_rule (d : Nat) {n : Nat} {t : eT} {I : eI} {R : eR} {Q : Int32 → Nat → eT → eI → eR → Prop} (hst : ST n t R) (hz2 : t 2 = (14, 2)) (hhi : ∀ w, w < 2 → (I 2 w).toInt = hiR w) {x v : Int32} (h2 : ¬ (0 ≤ x.toInt ∧ x.toInt ≤ 1) → Q (-2) n t I R) (h2b : ∀ w, w < 2 → x = nI w → ¬ (0 ≤ v.toInt ∧ v.toInt ≤ hiR w) → Q (-2) n t I R) (h3 : ∀ w, w < 2 → x = nI w → 0 ≤ v.toInt → v.toInt ≤ hiR w → Q (I 52 w) n t (eU I 52 w v) R) : MC yX7_rule cX7_rule 4 (some .int) (d + 2) 0 0 [.ref 4, .int x, .int v] n t I R (qI Q) := by
  refine mc_intro (L0 := [.ref 4, .int x, .int v, vU]) (by decide) rfl (Nat.le_of_ble_eq_true rfl) ?_
  refine wp_iload_n (i := 1) dX7_rule_0 rfl rfl ?_
  refine wp_iconst (v := 0) dX7_rule_1 (by decide) ?_
  refine wp_iconst (v := 1) dX7_rule_2 (by decide) ?_
  refine wp_S3i dX7_rule_3 mw_267 mw_268 mi_X7_isWithin (Nat.le_of_ble_eq_true rfl) (Nat.le_refl _) (Nat.le_refl _) (c_isWithin _ (a := 0) (b := 1) rfl rfl (fun ga3 gb3 => ?_) (fun gn3 => ?_)) 
  · skip
    refine wp_if_eq1 (tgt := 22) dX7_rule_6 (by decide) ?_
    obtain ⟨w, hw, ew⟩ := nat_yes (x := x) (m := 2) (by omega) ga3 (by omega)
    subst ew
    refine wp_iload_n (i := 2) dX7_rule_9 rfl rfl ?_
    refine wp_iconst (v := 0) dX7_rule_10 (by decide) ?_
    refine wp_gets2 dX7_rule_11 mw_548 ?_
    refine wp_iload_n (i := 1) dX7_rule_14 rfl rfl ?_
    refine wp_fld dX7_rule_15 (by decide) hz2 rfl (by omega) ?_
    refine wp_S3i dX7_rule_16 mw_267 mw_268 mi_X7_isWithin (Nat.le_of_ble_eq_true rfl) (Nat.le_refl _) (Nat.le_refl _) (c_isWithin _ (a := 0) (b := hiR w) rfl (hhi w hw) (fun ga16 gb16 => ?_) (fun gn16 => ?_)) 
    · skip
      refine wp_if_ne1 (tgt := 25) dX7_rule_19 (by decide) ?_
      refine wp_aload_n (i := 0) dX7_rule_25 rfl rfl ?_
      refine wp_getR dX7_rule_26 fl_X7_49 rfl (st_k hst rfl) (st_r hst rfl) ?_
      refine wp_iload_n (i := 1) dX7_rule_29 rfl rfl ?_
      refine wp_ild dX7_rule_30 (st_t hst rfl) rfl (by omega) ?_
      refine wp_istore_4_3 dX7_rule_31 rfl ?_
      refine wp_aload_n (i := 0) dX7_rule_32 rfl rfl ?_
      refine wp_getR dX7_rule_33 fl_X7_49 rfl (st_k hst rfl) (st_r hst rfl) ?_
      refine wp_iload_n (i := 1) dX7_rule_36 rfl rfl ?_
      refine wp_iload_n (i := 2) dX7_rule_37 rfl rfl ?_
      refine wp_ist dX7_rule_38 (st_t hst rfl) rfl (by omega) ?_
      refine wp_iload_n (i := 3) dX7_rule_39 rfl rfl ?_
      exact wp_retI dX7_rule_40 rfl (Nat.le_refl _) (Nat.le_refl _) (h3 w hw rfl ga16 gb16)
    · skip
      refine wp_if_ne0 (tgt := 25) dX7_rule_19 (by decide) ?_
      refine wp_bipush (v := (-2)) dX7_rule_22 (by decide) ?_
      exact wp_retI dX7_rule_24 rfl (Nat.le_refl _) (Nat.le_refl _) (h2b w hw rfl gn16)
  · skip
    refine wp_if_eq0 (tgt := 22) dX7_rule_6 (by decide) ?_
    refine wp_bipush (v := (-2)) dX7_rule_22 (by decide) ?_
    exact wp_retI dX7_rule_24 rfl (Nat.le_refl _) (Nat.le_refl _) (h2 gn3)

theorem c_ruleM (d : Nat) {n : Nat} {t : eT} {I : eI} {R : eR} {Q : Int32 → Nat → eT → eI → eR → Prop} (hst : ST n t R) {x v : Int32} (h2 : ¬ (0 ≤ x.toInt ∧ x.toInt ≤ 1) → Q (-2) n t I R) (h2b : ∀ w, w < 2 → x = nI w → ¬ (0 ≤ v.toInt ∧ v.toInt ≤ hiR w) → Q (-2) n t I R) (h3 : ∀ w, w < 2 → x = nI w → 0 ≤ v.toInt → v.toInt ≤ hiR w → Q (I 94 (26 + w)) n t (eU I 94 (26 + w) v) R) : MC yX8_rule cX8_rule 4 (some .int) (d + 2) 0 0 [.ref 94, .int x, .int v] n t I R (qI Q) := by
  refine mc_intro (L0 := [.ref 94, .int x, .int v, vU]) (by decide) rfl (Nat.le_of_ble_eq_true rfl) ?_
  refine wp_iload_n (i := 1) dX8_rule_0 rfl rfl ?_
  refine wp_i2l dX8_rule_1 ?_
  refine wp_lconst (v := 0) dX8_rule_2 (by decide) ?_
  refine wp_lconst (v := 1) dX8_rule_3 (by decide) ?_
  refine wp_S3i dX8_rule_4 mw_887 mw_888 mi_X8_in (Nat.le_of_ble_eq_true rfl) (Nat.le_refl _) (Nat.le_refl _) (c_in _ (a := 0) (b := 1) rfl rfl (fun ga4 gb4 => ?_) (fun gn4 => ?_)) 
  · skip
    refine wp_if_eq1 (tgt := 32) dX8_rule_7 (by decide) ?_
    obtain ⟨w, hw, ew⟩ := nat_yes (x := x) (m := 2) (by omega) ga4 (by omega)
    subst ew
    rcases (show w = 0 ∨ w = 1 by omega) with e0 | e1
    · subst e0
      refine wp_iload_n (i := 2) dX8_rule_10 rfl rfl ?_
      refine wp_i2l dX8_rule_11 ?_
      refine wp_lconst (v := 0) dX8_rule_12 (by decide) ?_
      refine wp_iload_n (i := 1) dX8_rule_13 rfl rfl ?_
      refine wp_if_ne (tgt := 23) dX8_rule_14 (by decide) (fun zq14 => absurd zq14 (by decide)) (fun zq14 => ?_) 
      refine wp_ldc2 (v := 10) dX8_rule_17 mw_947 ?_
      refine wp_goto (tgt := 26) dX8_rule_20 (by decide) ?_
      refine wp_S3i dX8_rule_26 mw_887 mw_888 mi_X8_in (Nat.le_of_ble_eq_true rfl) (Nat.le_refl _) (Nat.le_refl _) (c_in _ (a := 0) (b := 10) rfl rfl (fun ga26 gb26 => ?_) (fun gn26 => ?_)) 
      · skip
        refine wp_if_ne1 (tgt := 35) dX8_rule_29 (by decide) ?_
        refine wp_iload_n (i := 1) dX8_rule_35 rfl rfl ?_
        refine wp_if_ne (tgt := 46) dX8_rule_36 (by decide) (fun zq36 => absurd zq36 (by decide)) (fun zq36 => ?_) 
        refine wp_aload_n (i := 0) dX8_rule_39 rfl rfl ?_
        refine wp_getI dX8_rule_40 fl_X8_110 rfl (st_k hst rfl) ?_
        refine wp_goto (tgt := 50) dX8_rule_43 (by decide) ?_
        refine wp_istore_4_3 dX8_rule_50 rfl ?_
        refine wp_iload_n (i := 1) dX8_rule_51 rfl rfl ?_
        refine wp_if_ne (tgt := 63) dX8_rule_52 (by decide) (fun zq52 => absurd zq52 (by decide)) (fun zq52 => ?_) 
        refine wp_aload_n (i := 0) dX8_rule_55 rfl rfl ?_
        refine wp_iload_n (i := 2) dX8_rule_56 rfl rfl ?_
        refine wp_putI dX8_rule_57 fl_X8_110 rfl (Or.inl rfl) (st_k hst rfl) ?_
        refine wp_goto (tgt := 68) dX8_rule_60 (by decide) ?_
        refine wp_iload_n (i := 3) dX8_rule_68 rfl rfl ?_
        exact wp_retI dX8_rule_69 rfl (Nat.le_refl _) (Nat.le_refl _) (by first | exact h3 0 (by decide) rfl ga26 gb26 | exact h3 1 (by decide) rfl ga26 gb26)
      · skip
        refine wp_if_ne0 (tgt := 35) dX8_rule_29 (by decide) ?_
        refine wp_bipush (v := (-2)) dX8_rule_32 (by decide) ?_
        exact wp_retI dX8_rule_34 rfl (Nat.le_refl _) (Nat.le_refl _) (h2b 0 (by decide) rfl gn26)
    · subst e1
      refine wp_iload_n (i := 2) dX8_rule_10 rfl rfl ?_
      refine wp_i2l dX8_rule_11 ?_
      refine wp_lconst (v := 0) dX8_rule_12 (by decide) ?_
      refine wp_iload_n (i := 1) dX8_rule_13 rfl rfl ?_
      refine wp_if_ne (tgt := 23) dX8_rule_14 (by decide) (fun zq14 => ?_) (fun zq14 => absurd zq14 (by decide)) 
      refine wp_ldc2 (v := 99) dX8_rule_23 mw_933 ?_
      refine wp_S3i dX8_rule_26 mw_887 mw_888 mi_X8_in (Nat.le_of_ble_eq_true rfl) (Nat.le_refl _) (Nat.le_refl _) (c_in _ (a := 0) (b := 99) rfl rfl (fun ga26 gb26 => ?_) (fun gn26 => ?_)) 
      · skip
        refine wp_if_ne1 (tgt := 35) dX8_rule_29 (by decide) ?_
        refine wp_iload_n (i := 1) dX8_rule_35 rfl rfl ?_
        refine wp_if_ne (tgt := 46) dX8_rule_36 (by decide) (fun zq36 => ?_) (fun zq36 => absurd zq36 (by decide)) 
        refine wp_aload_n (i := 0) dX8_rule_46 rfl rfl ?_
        refine wp_getI dX8_rule_47 fl_X8_114 rfl (st_k hst rfl) ?_
        refine wp_istore_4_3 dX8_rule_50 rfl ?_
        refine wp_iload_n (i := 1) dX8_rule_51 rfl rfl ?_
        refine wp_if_ne (tgt := 63) dX8_rule_52 (by decide) (fun zq52 => ?_) (fun zq52 => absurd zq52 (by decide)) 
        refine wp_aload_n (i := 0) dX8_rule_63 rfl rfl ?_
        refine wp_iload_n (i := 2) dX8_rule_64 rfl rfl ?_
        refine wp_putI dX8_rule_65 fl_X8_114 rfl (Or.inl rfl) (st_k hst rfl) ?_
        refine wp_iload_n (i := 3) dX8_rule_68 rfl rfl ?_
        exact wp_retI dX8_rule_69 rfl (Nat.le_refl _) (Nat.le_refl _) (by first | exact h3 0 (by decide) rfl ga26 gb26 | exact h3 1 (by decide) rfl ga26 gb26)
      · skip
        refine wp_if_ne0 (tgt := 35) dX8_rule_29 (by decide) ?_
        refine wp_bipush (v := (-2)) dX8_rule_32 (by decide) ?_
        exact wp_retI dX8_rule_34 rfl (Nat.le_refl _) (Nat.le_refl _) (h2b 1 (by decide) rfl gn26)
  · skip
    refine wp_if_eq0 (tgt := 32) dX8_rule_7 (by decide) ?_
    refine wp_bipush (v := (-2)) dX8_rule_32 (by decide) ?_
    exact wp_retI dX8_rule_34 rfl (Nat.le_refl _) (Nat.le_refl _) (h2 gn4)

