theorem min_n {a b : Nat} (ha : a < 2 ^ 31) (hb : b < 2 ^ 31) : minI (nI a) (nI b) = nI (Nat.min a b) := by
  unfold minI
  by_cases h : b < a
  · rw [if_pos (nI_lt h ha), show Nat.min a b = b from Nat.min_eq_right (by omega)]
  · rw [if_neg (nI_nlt (by omega) hb), show Nat.min a b = a from Nat.min_eq_left (by omega)]
theorem lp_ldue (d : Nat) {n : Nat} {t : eT} {R : eR} {Q : Int32 → Nat → eT → eI → eR → Prop} (hst : ST n t R) {c k l : Nat} (hc : c ≤ 5) (hkl : k < l) (hlc : l < c) {pull : Nat → Nat → Nat} (hu : ∀ a b, pull a b ≤ 198) (hsy : ∀ a b, pull a b = pull b a) {pos : Nat → Nat} (hp12 : ∀ x, x < k + 1 → pos x < 12) {fv : Int32} {fr : Nat → Bool} (hfv : ∀ q, q < 12 → bt fv q = fr q) : ∀ (r q : Nat) (I : eI) (x7 : Value), q + r = 12 → sec x7 = false → (∀ q2, q2 < 12 → fr q2 = true → I (dR k) (l * 12 + q2) = nI (inc pull l pos q2 k)) → I (41 + k) l = nI (pull k l) → (∀ q2, q2 < 12 → I (133 + pos k) q2 = nI (wyN (pos k) q2)) → (∀ q2, q2 < q → fr q2 = true → I (dR (k + 1)) (l * 12 + q2) = nI (inc pull l pos q2 (k + 1))) → (∀ I2 : eI, (∀ q2, q2 < 12 → fr q2 = true → I2 (dR (k + 1)) (l * 12 + q2) = nI (inc pull l pos q2 (k + 1))) → (∀ x, (x < l * 12 ∨ l * 12 + 12 ≤ x) → I2 (dR (k + 1)) x = I (dR (k + 1)) x) → (∀ a, a ≠ dR (k + 1) → I2 a = I a) → Q (nI (lduN pull pos (k + 1) l fr 12)) n t I2 R) → wp yX5_leastDue cX5_leastDue 8 (some .int) (d + 1) 0 0 (qI Q) 0 0 20 [.ref 35, .int (nI k), .int (nI l), .int fv, .ref (133 + pos k), .int (nI (lduN pull pos (k + 1) l fr q)), .int (nI q), x7] [] n t I R := by
  intro r
  induction r with
  | zero =>
    intro q I x7 hqr hx7 b1 b2 b3 hdn hq
    obtain rfl : q = 12 := by omega
    refine wp_iload dX5_leastDue_20 rfl ?_
    refine wp_bipush (v := 12) dX5_leastDue_22 (by decide) ?_
    refine wp_icmp_ge (tgt := 101) dX5_leastDue_24 (by decide) (fun zq24 => ?_) (fun zq24 => absurd (nI_le (show 12 ≤ 12 by decide) (by decide)) zq24) 
    refine wp_iload dX5_leastDue_101 rfl ?_
    exact wp_retI dX5_leastDue_103 rfl (Nat.le_refl _) (Nat.le_refl _) (hq I hdn (fun _ _ => rfl) (fun _ _ => rfl))
  | succ r ih =>
    intro q I x7 hqr hx7 b1 b2 b3 hdn hq
    refine wp_iload dX5_leastDue_20 rfl ?_
    refine wp_bipush (v := 12) dX5_leastDue_22 (by decide) ?_
    refine wp_icmp_ge (tgt := 101) dX5_leastDue_24 (by decide) (fun zq24 => absurd zq24 (nI_ge (show q < 12 by omega) (by decide))) (fun zq24 => ?_) 
    refine wp_iload_n (i := 3) dX5_leastDue_27 rfl rfl ?_
    refine wp_iload dX5_leastDue_28 rfl ?_
    refine wp_ishr dX5_leastDue_30 ?_
    refine wp_iconst (v := 1) dX5_leastDue_31 (by decide) ?_
    refine wp_iand dX5_leastDue_32 ?_
    refine wp_iconst (v := 1) dX5_leastDue_33 (by decide) ?_
    refine wp_icmp_ne (tgt := 95) dX5_leastDue_34 (by decide) (fun zq34 => ?_) (fun zq34 => ?_) 
    · refine wp_iinc_8_6 (v := nI (q + 1)) dX5_leastDue_95 (n_add rfl rfl) ?_
      refine wp_goto (tgt := 20) dX5_leastDue_98 (by decide) ?_
      have hnf : ¬ fr q = true := fun g => zq34 ((bt_iff fv (by omega)).mpr (by rw [hfv q (by omega)]; exact g))
      have hl : lduN pull pos (k + 1) l fr (q + 1) = (lduN pull pos (k + 1) l fr q) := if_neg hnf
      rw [← hl]
      exact ih (q + 1) I x7 (by omega) hx7 b1 b2 b3 (fun q2 h2 hf => by
        by_cases e : q2 = q
        · subst e; exact absurd hf hnf
        · exact hdn q2 (by omega) hf) hq
    · have hfq : fr q = true := by rw [← hfv q (by omega)]; exact (bt_iff fv (by omega)).mp zq34
      have hk1 := dR_c k
      have hk2 := dR_c (k + 1)
      have hpk := hp12 k (by omega)
      refine wp_aload_n (i := 0) dX5_leastDue_37 rfl rfl ?_
      refine wp_getR dX5_leastDue_38 fl_X5_33 rfl (st_k hst rfl) (st_r hst rfl) ?_
      refine wp_iload_n (i := 1) dX5_leastDue_41 rfl rfl ?_
      refine wp_rld13 (j := k) dX5_leastDue_42 (st_t hst rfl) rfl (by omega) (sd_r hst (by omega)) ?_
      refine wp_iload_n (i := 2) dX5_leastDue_43 rfl rfl ?_
      refine wp_bipush (v := 12) dX5_leastDue_44 (by decide) ?_
      refine wp_imul dX5_leastDue_46 ?_
      refine wp_iload dX5_leastDue_47 rfl ?_
      refine wp_iadd dX5_leastDue_49 ?_
      refine wp_ild (j := ((l * 12) + q)) dX5_leastDue_50 (sd_t hst (by omega)) (n_add (n_mul rfl rfl) rfl) (by omega) ?_
      refine wp_aload_n (i := 0) dX5_leastDue_51 rfl rfl ?_
      refine wp_getR dX5_leastDue_52 fl_X5_27 rfl (st_k hst rfl) (st_r hst rfl) ?_
      refine wp_iload_n (i := 1) dX5_leastDue_55 rfl rfl ?_
      refine wp_rld13 (j := k) dX5_leastDue_56 (st_t hst rfl) rfl (by omega) (sq_r hst (by omega)) ?_
      refine wp_iload_n (i := 2) dX5_leastDue_57 rfl rfl ?_
      refine wp_ild (j := l) dX5_leastDue_58 (sq_t hst (by omega)) rfl (by omega) ?_
      refine wp_aload dX5_leastDue_59 rfl ?_
      refine wp_iload dX5_leastDue_61 rfl ?_
      refine wp_ild (j := q) dX5_leastDue_63 (sw_t hst hpk) rfl (by omega) ?_
      refine wp_imul dX5_leastDue_64 ?_
      refine wp_iadd dX5_leastDue_65 ?_
      refine wp_topI (v2 := nI (inc pull l pos q (k + 1))) (Eq.trans (n_add (b1 q (by omega) hfq) (n_mul b2 (b3 q (by omega)))) (congrArg nI (show inc pull l pos q k + pull k l * wyN (pos k) q = inc pull l pos q (k + 1) by rw [hsy k l]; rfl))) ?_
      refine wp_istore_8_7 dX5_leastDue_66 (by first | rfl | assumption) ?_
      refine wp_aload_n (i := 0) dX5_leastDue_68 rfl rfl ?_
      refine wp_getR dX5_leastDue_69 fl_X5_33 rfl (st_k hst rfl) (st_r hst rfl) ?_
      refine wp_iload_n (i := 1) dX5_leastDue_72 rfl rfl ?_
      refine wp_iconst (v := 1) dX5_leastDue_73 (by decide) ?_
      refine wp_iadd dX5_leastDue_74 ?_
      refine wp_rld13 (j := (k + 1)) dX5_leastDue_75 (st_t hst rfl) (n_add rfl rfl) (by omega) (sd_r hst (by omega)) ?_
      refine wp_iload_n (i := 2) dX5_leastDue_76 rfl rfl ?_
      refine wp_bipush (v := 12) dX5_leastDue_77 (by decide) ?_
      refine wp_imul dX5_leastDue_79 ?_
      refine wp_iload dX5_leastDue_80 rfl ?_
      refine wp_iadd dX5_leastDue_82 ?_
      refine wp_iload dX5_leastDue_83 rfl ?_
      refine wp_ist (j := ((l * 12) + q)) dX5_leastDue_85 (sd_t hst (by omega)) (n_add (n_mul rfl rfl) rfl) (by omega) ?_
      have hib := inc_b (pull := pull) (k := l) (pos := pos) (show q < 12 by omega) hu (k + 1) hp12
      have hmn : minI (nI (lduN pull pos (k + 1) l fr q)) (nI (inc pull l pos q (k + 1))) = nI (lduN pull pos (k + 1) l fr (q + 1)) := by
        rw [min_n (Nat.lt_of_le_of_lt (ldu_m q) (by decide)) (by omega)]
        exact congrArg nI (if_pos hfq).symm
      refine wp_iload dX5_leastDue_86 rfl ?_
      refine wp_iload dX5_leastDue_88 rfl ?_
      refine wp_mmin dX5_leastDue_90 mw_441 (Nat.le_of_ble_eq_true rfl) (Nat.le_refl _) (Nat.le_refl _) ?_
      refine wp_topI (v2 := nI (lduN pull pos (k + 1) l fr (q + 1))) hmn ?_
      refine wp_istore_8_5 dX5_leastDue_93 (by first | rfl | assumption) ?_
      refine wp_iinc_8_6 (v := nI (q + 1)) dX5_leastDue_95 (n_add rfl rfl) ?_
      refine wp_goto (tgt := 20) dX5_leastDue_98 (by decide) ?_
      refine ih (q + 1) (eU I (dR (k + 1)) (l * 12 + q) (nI (inc pull l pos q (k + 1)))) _ (by omega) rfl (fun q2 h2 hf => by rw [eU_o (by omega)]; exact b1 q2 h2 hf) (by rw [eU_o (by omega)]; exact b2) (fun q2 h2 => by rw [eU_o (by omega)]; exact b3 q2 h2) (fun q2 h2 hf => ?_) (fun I2 g1 g2 g3 => hq I2 g1 (fun x hx => (g2 x hx).trans (eU_c (by omega))) (fun a ha => (g3 a ha).trans (eU_ne ha)))
      by_cases e : q2 = q
      · subst e; rw [eU_at]
      · rw [eU_c (by omega)]; exact hdn q2 (by omega) hf

theorem c_ldue (d : Nat) {n : Nat} {t : eT} {I : eI} {R : eR} {Q : Int32 → Nat → eT → eI → eR → Prop} (hst : ST n t R) {c k l : Nat} (hc : c ≤ 5) (hkl : k < l) (hlc : l < c) {pull : Nat → Nat → Nat} (hu : ∀ a b, pull a b ≤ 198) (hsy : ∀ a b, pull a b = pull b a) {pos : Nat → Nat} (hp12 : ∀ x, x < k + 1 → pos x < 12) {fv : Int32} {fr : Nat → Bool} (hfv : ∀ q, q < 12 → bt fv q = fr q) (b0 : I 39 k = nI (pos k)) (b1 : ∀ q2, q2 < 12 → fr q2 = true → I (dR k) (l * 12 + q2) = nI (inc pull l pos q2 k)) (b2 : I (41 + k) l = nI (pull k l)) (b3 : ∀ q2, q2 < 12 → I (133 + pos k) q2 = nI (wyN (pos k) q2)) (hq : ∀ I2 : eI, (∀ q2, q2 < 12 → fr q2 = true → I2 (dR (k + 1)) (l * 12 + q2) = nI (inc pull l pos q2 (k + 1))) → (∀ x, (x < l * 12 ∨ l * 12 + 12 ≤ x) → I2 (dR (k + 1)) x = I (dR (k + 1)) x) → (∀ a, a ≠ dR (k + 1) → I2 a = I a) → Q (nI (lduN pull pos (k + 1) l fr 12)) n t I2 R) : MC yX5_leastDue cX5_leastDue 8 (some .int) (d + 1) 0 0 [.ref 35, .int (nI k), .int (nI l), .int fv] n t I R (qI Q) := by
  refine mc_intro (L0 := [.ref 35, .int (nI k), .int (nI l), .int fv, vU, vU, vU, vU]) (by decide) rfl (Nat.le_of_ble_eq_true rfl) ?_
  refine wp_aload_n (i := 0) dX5_leastDue_0 rfl rfl ?_
  refine wp_getR dX5_leastDue_1 fl_X5_36 rfl (st_k hst rfl) (st_r hst rfl) ?_
  refine wp_aload_n (i := 0) dX5_leastDue_4 rfl rfl ?_
  refine wp_getR dX5_leastDue_5 fl_X5_22 rfl (st_k hst rfl) (st_r hst rfl) ?_
  refine wp_iload_n (i := 1) dX5_leastDue_8 rfl rfl ?_
  refine wp_ild (j := k) dX5_leastDue_9 (st_t hst rfl) rfl (by omega) ?_
  refine wp_rld13 (j := (pos k)) dX5_leastDue_10 (st_t hst rfl) b0 (hp12 k (by omega)) (sw_r hst (hp12 k (by omega))) ?_
  refine wp_astore_8_4 dX5_leastDue_11 rfl ?_
  refine wp_ldc (v := 1048576) dX5_leastDue_13 mw_93 ?_
  refine wp_istore_8_5 dX5_leastDue_15 rfl ?_
  refine wp_iconst (v := 0) dX5_leastDue_17 (by decide) ?_
  refine wp_istore_8_6 dX5_leastDue_18 rfl ?_
  exact lp_ldue d hst hc hkl hlc hu hsy hp12 hfv 12 0 I vU rfl rfl b1 b2 b3 (fun q2 h => absurd h (Nat.not_lt_zero q2)) hq

theorem lp_lrest (d : Nat) {n : Nat} {t : eT} {R : eR} {Q : Int32 → Nat → eT → eI → eR → Prop} (hst : ST n t R) {c : Nat} (hc : c ≤ 5) {ch : Nat → Nat} {pull : Nat → Nat → Nat} (hu : ∀ a b, pull a b ≤ 198) (hsy : ∀ a b, pull a b = pull b a) {w k : Nat} (hkc : k < c) {pos : Nat → Nat} (hp12 : ∀ x, x < k + 1 → pos x < 12) {fv : Int32} {fr : Nat → Bool} (hfv : ∀ q, q < 12 → bt fv q = fr q) : ∀ (r l sz : Nat) (I : eI), l + r = c → k < l → SC I c ch pull w → I 39 k = nI (pos k) → (∀ l2, k < l2 → l2 < c → ∀ q, q < 12 → fr q = true → I (dR k) (l2 * 12 + q) = nI (inc pull l2 pos q k)) → (∀ l2, k < l2 → l2 < l → ∀ q, q < 12 → fr q = true → I (dR (k + 1)) (l2 * 12 + q) = nI (inc pull l2 pos q (k + 1))) → (∀ I2 : eI, (∀ l2, k < l2 → l2 < c → ∀ q, q < 12 → fr q = true → I2 (dR (k + 1)) (l2 * 12 + q) = nI (inc pull l2 pos q (k + 1))) → (∀ a, (k + 1 = c ∨ a ≠ dR (k + 1)) → I2 a = I a) → Q (nI (sz + smN (fun l => lduN pull pos (k + 1) l fr 12) r l)) n t I2 R) → wp yX5_leastRest cX5_leastRest 5 (some .int) (d + 2) 0 0 (qI Q) 0 0 14 [.ref 35, .int (nI k), .int fv, .int (nI sz), .int (nI l)] [] n t I R := by
  intro r
  induction r with
  | zero =>
    intro l sz I hlr hkl hS b0 hD hdn hq
    refine wp_iload dX5_leastRest_14 rfl ?_
    refine wp_aload_n (i := 0) dX5_leastRest_16 rfl rfl ?_
    refine wp_getI dX5_leastRest_17 fl_X5_42 rfl (st_k hst rfl) ?_
    refine wp_icmp_ge (tgt := 40) dX5_leastRest_20 (by decide) (fun zq20 => ?_) (fun zq20 => absurd (show I 35 8 ≤ _ by rw [hS.1]; exact nI_le (by omega) (by omega)) zq20) 
    refine wp_iload_n (i := 3) dX5_leastRest_40 rfl rfl ?_
    exact wp_retI dX5_leastRest_41 rfl (Nat.le_refl _) (Nat.le_refl _) (hq I (fun l2 h1 h2 => hdn l2 h1 (by omega)) (fun _ _ => rfl))
  | succ r ih =>
    intro l sz I hlr hkl hS b0 hD hdn hq
    refine wp_iload dX5_leastRest_14 rfl ?_
    refine wp_aload_n (i := 0) dX5_leastRest_16 rfl rfl ?_
    refine wp_getI dX5_leastRest_17 fl_X5_42 rfl (st_k hst rfl) ?_
    refine wp_icmp_ge (tgt := 40) dX5_leastRest_20 (by decide) (fun zq20 => absurd (show I 35 8 ≤ nI l from zq20) (by rw [hS.1]; exact nI_ge (show l < c by omega) (by omega))) (fun zq20 => ?_) 
    refine wp_iload_n (i := 3) dX5_leastRest_23 rfl rfl ?_
    refine wp_aload_n (i := 0) dX5_leastRest_24 rfl rfl ?_
    refine wp_iload_n (i := 1) dX5_leastRest_25 rfl rfl ?_
    refine wp_iload dX5_leastRest_26 rfl ?_
    refine wp_iload_n (i := 2) dX5_leastRest_28 rfl rfl ?_
    refine wp_V3i dX5_leastRest_29 mw_437 mw_439 ms_14 mi_X5_leastDue (Nat.le_of_ble_eq_true rfl) (Nat.le_refl _) (Nat.le_refl _) (st_k hst rfl) (by decide) rfl (c_ldue _ hst hc hkl (show l < c by omega) hu hsy hp12 hfv b0 (fun q2 h2 hf => hD l hkl (by omega) q2 h2 hf) (hS.2.2.2.1 k l hkl (by omega)) (fun q2 h2 => hS.2.2.2.2.2.2.1 (pos k) q2 (hp12 k (by omega)) h2) (fun I2 g1 g2 g3 => ?_)) 
    refine wp_iadd dX5_leastRest_32 ?_
    refine wp_topI (v2 := nI (sz + (lduN pull pos (k + 1) l fr 12))) (n_add rfl rfl) ?_
    refine wp_istore_5_3 dX5_leastRest_33 rfl ?_
    refine wp_iinc_5_4 (v := nI (l + 1)) dX5_leastRest_34 (n_add rfl rfl) ?_
    refine wp_goto (tgt := 14) dX5_leastRest_37 (by decide) ?_
    have hk1 := dR_c k
    have hk2 := dR_c (k + 1)
    rw [show sz + smN (fun l => lduN pull pos (k + 1) l fr 12) (r + 1) l = sz + lduN pull pos (k + 1) l fr 12 + smN (fun l => lduN pull pos (k + 1) l fr 12) r (l + 1) from (Nat.add_assoc _ _ _).symm] at hq
    refine ih (l + 1) _ I2 (by omega) (by omega) (hS.fr hc ⟨fun a _ _ _ _ h5 => g3 a (by omega), fun f _ => by rw [g3 35 (by omega)]⟩) (by rw [g3 39 (by omega)]; exact b0) (fun l2 h1 h2 q h3 h4 => by rw [g3 (dR k) (by omega)]; exact hD l2 h1 h2 q h3 h4) (fun l2 h1 h2 q h3 h4 => ?_) (fun I3 q1 q2 => hq I3 q1 (fun a ha => (q2 a ha).trans (g3 a (by omega))))
    by_cases e : l2 = l
    · subst e; exact g1 q h3 h4
    · rw [g2 (l2 * 12 + q) (by omega)]; exact hdn l2 h1 (by omega) q h3 h4

theorem c_lrest (d : Nat) {n : Nat} {t : eT} {I : eI} {R : eR} {Q : Int32 → Nat → eT → eI → eR → Prop} (hst : ST n t R) {c : Nat} (hc : c ≤ 5) {ch : Nat → Nat} {pull : Nat → Nat → Nat} (hu : ∀ a b, pull a b ≤ 198) (hsy : ∀ a b, pull a b = pull b a) {w k : Nat} (hkc : k < c) {pos : Nat → Nat} (hp12 : ∀ x, x < k + 1 → pos x < 12) {fv : Int32} {fr : Nat → Bool} (hfv : ∀ q, q < 12 → bt fv q = fr q) (hS : SC I c ch pull w) (b0 : I 39 k = nI (pos k)) (hD : ∀ l2, k < l2 → l2 < c → ∀ q, q < 12 → fr q = true → I (dR k) (l2 * 12 + q) = nI (inc pull l2 pos q k)) (hq : ∀ I2 : eI, (∀ l2, k < l2 → l2 < c → ∀ q, q < 12 → fr q = true → I2 (dR (k + 1)) (l2 * 12 + q) = nI (inc pull l2 pos q (k + 1))) → (∀ a, (k + 1 = c ∨ a ≠ dR (k + 1)) → I2 a = I a) → Q (nI (lrsN pull w (c - (k + 1)) (k + 1) pos fr)) n t I2 R) : MC yX5_leastRest cX5_leastRest 5 (some .int) (d + 2) 0 0 [.ref 35, .int (nI k), .int fv] n t I R (qI Q) := by
  refine mc_intro (L0 := [.ref 35, .int (nI k), .int fv, vU, vU]) (by decide) rfl (Nat.le_of_ble_eq_true rfl) ?_
  refine wp_aload_n (i := 0) dX5_leastRest_0 rfl rfl ?_
  refine wp_getR dX5_leastRest_1 fl_X5_30 rfl (st_k hst rfl) (st_r hst rfl) ?_
  refine wp_iload_n (i := 1) dX5_leastRest_4 rfl rfl ?_
  refine wp_iconst (v := 1) dX5_leastRest_5 (by decide) ?_
  refine wp_iadd dX5_leastRest_6 ?_
  refine wp_ild (j := (k + 1)) dX5_leastRest_7 (st_t hst rfl) (n_add rfl rfl) (by omega) ?_
  refine wp_topI (v2 := nI (lamN pull w (c - (k + 1)) (k + 1))) (hS.2.2.2.2.1 (k + 1) (by omega)) ?_
  refine wp_istore_5_3 dX5_leastRest_8 rfl ?_
  refine wp_iload_n (i := 1) dX5_leastRest_9 rfl rfl ?_
  refine wp_iconst (v := 1) dX5_leastRest_10 (by decide) ?_
  refine wp_iadd dX5_leastRest_11 ?_
  refine wp_topI (v2 := nI (k + 1)) (n_add rfl rfl) ?_
  refine wp_istore_5_4 dX5_leastRest_12 rfl ?_
  exact lp_lrest d hst hc hu hsy hkc hp12 hfv (c - (k + 1)) (k + 1) _ I (by omega) (by omega) hS b0 hD (fun l2 h1 h2 => by omega) hq

theorem c_layPart (d : Nat) {n : Nat} {t : eT} {I : eI} {R : eR} {Q : Nat → eT → eI → eR → Prop} (hst : ST n t R) {p : Nat} (hp : p < 10) {v : Int32} (hq : Q n t (eU (eU I 36 0 (I 36 0 ||| (1 : Int32) <<< (nI p &&& 31))) 37 p v) R) : MC yX0_layPart cX0_layPart 3 none d 0 0 [.ref 36, .int (nI p), .int v] n t I R (qV Q) := by
  refine mc_intro (L0 := [.ref 36, .int (nI p), .int v]) (by decide) rfl (Nat.le_of_ble_eq_true rfl) ?_
  refine wp_aload_n (i := 0) dX0_layPart_0 rfl rfl ?_
  refine wp_dup dX0_layPart_1 rfl ?_
  refine wp_getI dX0_layPart_2 fl_X0_9 rfl (st_k hst rfl) ?_
  refine wp_iconst (v := 1) dX0_layPart_5 (by decide) ?_
  refine wp_iload_n (i := 1) dX0_layPart_6 rfl rfl ?_
  refine wp_ishl dX0_layPart_7 ?_
  refine wp_ior dX0_layPart_8 ?_
  refine wp_putI dX0_layPart_9 fl_X0_9 rfl (Or.inl rfl) (st_k hst rfl) ?_
  refine wp_aload_n (i := 0) dX0_layPart_12 rfl rfl ?_
  refine wp_getR dX0_layPart_13 fl_X0_15 rfl (st_k hst rfl) (st_r hst rfl) ?_
  refine wp_iload_n (i := 1) dX0_layPart_16 rfl rfl ?_
  refine wp_iload_n (i := 2) dX0_layPart_17 rfl rfl ?_
  refine wp_ist (j := p) dX0_layPart_18 (st_t hst rfl) rfl (by omega) ?_
  exact wp_retV dX0_layPart_19 rfl (Nat.le_refl _) (Nat.le_refl _) hq

theorem lp_keep (d : Nat) {n : Nat} {t : eT} {R : eR} {Q : Nat → eT → eI → eR → Prop} (hst : ST n t R) {c : Nat} (hc : c ≤ 5) {ch : Nat → Nat} {sel : Nat → Bool} (hch : ∀ i, i < c → ch i < 10 ∧ sel (ch i) = true) (hinj : ∀ i i2, i < c → i2 < c → ch i = ch i2 → i = i2) {pos : Nat → Nat} (hp12 : ∀ x, x < c → pos x < 12) {pd : Int32} : ∀ (r i : Nat) (I : eI), i + r = c → (I 35 8 = nI c ∧ (∀ i, i < c → I 38 i = nI (ch i)) ∧ ∀ i, i < c → I 39 i = nI (pos i)) → (∀ a, a < 10 → bt (I 36 0) a = true → sel a = true) → (∀ i2, i2 < i → bt (I 36 0) (ch i2) = true ∧ I 37 (ch i2) = nI (pos i2)) → (∀ I2 : eI, (∀ a, a < 10 → bt (I2 36 0) a = true → sel a = true) → (∀ i, i < c → bt (I2 36 0) (ch i) = true ∧ I2 37 (ch i) = nI (pos i)) → (∀ a, a ≠ 36 → a ≠ 37 → I2 a = I a) → Q n t I2 R) → wp yX5_keepAsBest cX5_keepAsBest 3 none (d + 1) 0 0 (qV Q) 0 0 7 [.ref 35, .int pd, .int (nI i)] [] n t I R := by
  intro r
  induction r with
  | zero =>
    intro i I hi hR h1 h2 hq
    refine wp_iload_n (i := 2) dX5_keepAsBest_7 rfl rfl ?_
    refine wp_aload_n (i := 0) dX5_keepAsBest_8 rfl rfl ?_
    refine wp_getI dX5_keepAsBest_9 fl_X5_42 rfl (st_k hst rfl) ?_
    refine wp_icmp_ge (tgt := 40) dX5_keepAsBest_12 (by decide) (fun zq12 => ?_) (fun zq12 => absurd (show I 35 8 ≤ nI i by rw [hR.1]; exact nI_le (by omega) (by omega)) zq12) 
    exact wp_retV dX5_keepAsBest_40 rfl (Nat.le_refl _) (Nat.le_refl _) (hq I h1 (fun i2 hi2 => h2 i2 (by omega)) (fun _ _ _ => rfl))
  | succ r ih =>
    intro i I hi hR h1 h2 hq
    refine wp_iload_n (i := 2) dX5_keepAsBest_7 rfl rfl ?_
    refine wp_aload_n (i := 0) dX5_keepAsBest_8 rfl rfl ?_
    refine wp_getI dX5_keepAsBest_9 fl_X5_42 rfl (st_k hst rfl) ?_
    refine wp_icmp_ge (tgt := 40) dX5_keepAsBest_12 (by decide) (fun zq12 => absurd (show I 35 8 ≤ nI i from zq12) (by rw [hR.1]; exact nI_ge (show i < c by omega) (by omega))) (fun zq12 => ?_) 
    have hci := hch i (by omega)
    refine wp_aload_n (i := 0) dX5_keepAsBest_15 rfl rfl ?_
    refine wp_getR dX5_keepAsBest_16 fl_X5_12 rfl (st_k hst rfl) (st_r hst rfl) ?_
    refine wp_aload_n (i := 0) dX5_keepAsBest_19 rfl rfl ?_
    refine wp_getR dX5_keepAsBest_20 fl_X5_18 rfl (st_k hst rfl) (st_r hst rfl) ?_
    refine wp_iload_n (i := 2) dX5_keepAsBest_23 rfl rfl ?_
    refine wp_ild (j := i) dX5_keepAsBest_24 (st_t hst rfl) rfl (by omega) ?_
    refine wp_aload_n (i := 0) dX5_keepAsBest_25 rfl rfl ?_
    refine wp_getR dX5_keepAsBest_26 fl_X5_22 rfl (st_k hst rfl) (st_r hst rfl) ?_
    refine wp_iload_n (i := 2) dX5_keepAsBest_29 rfl rfl ?_
    refine wp_ild (j := i) dX5_keepAsBest_30 (st_t hst rfl) rfl (by omega) ?_
    rw [hR.2.1 i (by omega), hR.2.2 i (by omega)]
    refine wp_V2v dX5_keepAsBest_31 mw_429 mw_430 mw_431 mi_X0_layPart (Nat.le_of_ble_eq_true rfl) (Nat.le_refl _) (Nat.le_refl _) (st_k hst rfl) (by decide) rfl (c_layPart _ hst hci.1 ?_) 
    refine wp_iinc_3_2 (v := nI (i + 1)) dX5_keepAsBest_34 (n_add rfl rfl) ?_
    refine wp_goto (tgt := 7) dX5_keepAsBest_37 (by decide) ?_
    refine ih (i + 1) (eU (eU I 36 0 (I 36 0 ||| (1 : Int32) <<< (nI (ch i) &&& 31))) 37 (ch i) (nI (pos i))) (by omega) ⟨hR.1, hR.2.1, hR.2.2⟩ (fun a ha hb => ?_) (fun i2 hi2 => ?_) (fun I2 g1 g2 g3 => hq I2 g1 g2 (fun a a1 a2 => (g3 a a1 a2).trans (by rw [eU_ne a2, eU_ne a1])))
    · have hb2 : bt (I 36 0 ||| (1 : Int32) <<< (nI (ch i) &&& 31)) a = true := hb
      rw [bt_or, bt_shl (ch i) (by omega) a (by omega), Bool.or_eq_true, decide_eq_true_iff] at hb2
      rcases hb2 with g | g
      · exact h1 a ha g
      · rw [g]; exact hci.2
    · have hc2 := hch i2 (by omega)
      show bt (I 36 0 ||| (1 : Int32) <<< (nI (ch i) &&& 31)) (ch i2) = true ∧ (eU (eU I 36 0 (I 36 0 ||| (1 : Int32) <<< (nI (ch i) &&& 31))) 37 (ch i) (nI (pos i))) 37 (ch i2) = nI (pos i2)
      rw [bt_or, bt_shl (ch i) (by omega) (ch i2) (by omega)]
      by_cases e : i2 = i
      · subst e
        rw [eU_at, decide_eq_true (rfl : ch i2 = ch i2), Bool.or_true]
        exact ⟨rfl, rfl⟩
      · have hne : ch i2 ≠ ch i := fun g => e (hinj i2 i (by omega) (by omega) g)
        rw [eU_c hne, (h2 i2 (by omega)).1, Bool.true_or]
        exact ⟨rfl, (h2 i2 (by omega)).2⟩

theorem c_keep (d : Nat) {n : Nat} {t : eT} {I : eI} {R : eR} {Q : Nat → eT → eI → eR → Prop} (hst : ST n t R) {c : Nat} (hc : c ≤ 5) {ch : Nat → Nat} {sel : Nat → Bool} (hch : ∀ i, i < c → ch i < 10 ∧ sel (ch i) = true) (hinj : ∀ i i2, i < c → i2 < c → ch i = ch i2 → i = i2) {pos : Nat → Nat} (hp12 : ∀ x, x < c → pos x < 12) (hsi : ∀ a, a < 10 → sel a = true → ∃ i, i < c ∧ ch i = a) {pd : Nat} (hpd : pd ≤ 24750) (hR : (I 35 8 = nI c ∧ (∀ i, i < c → I 38 i = nI (ch i)) ∧ ∀ i, i < c → I 39 i = nI (pos i))) {b : BS} (hB : BC I c ch sel b) (hq : ∀ I2 : eI, BC I2 c ch sel (some (pd, pos)) → FrL I I2 → (∀ x, I2 39 x = I 39 x) → (∀ a, 128 ≤ a → I2 a = I a) → Q n t I2 R) : MC yX5_keepAsBest cX5_keepAsBest 3 none (d + 1) 0 0 [.ref 35, .int (nI pd)] n t I R (qV Q) := by
  refine mc_intro (L0 := [.ref 35, .int (nI pd), vU]) (by decide) rfl (Nat.le_of_ble_eq_true rfl) ?_
  refine wp_aload_n (i := 0) dX5_keepAsBest_0 rfl rfl ?_
  refine wp_iload_n (i := 1) dX5_keepAsBest_1 rfl rfl ?_
  refine wp_putI dX5_keepAsBest_2 fl_X5_50 rfl (Or.inl rfl) (st_k hst rfl) ?_
  refine wp_iconst (v := 0) dX5_keepAsBest_5 (by decide) ?_
  refine wp_istore_3_2 dX5_keepAsBest_6 rfl ?_
  have hsub : ∀ a, a < 10 → bt (eU I 35 10 (nI pd) 36 0) a = true → sel a = true := by
    intro a ha hb
    have hb2 : bt (I 36 0) a = true := hb
    cases b with
    | none => rw [hB.1, bt_0] at hb2; cases hb2
    | some q => rw [← hB.2.2.1 a ha]; exact hb2
  refine lp_keep d hst hc hch hinj hp12 c 0 (eU I 35 10 (nI pd)) (by omega) ⟨hR.1, hR.2.1, hR.2.2⟩ hsub (fun i2 h => absurd h (Nat.not_lt_zero i2)) (fun I2 g1 g2 g3 => hq I2 ⟨by rw [g3 35 (by decide) (by decide)]; exact eU_at _ _ _ _, hpd, fun a ha => ?_, fun i hi => ⟨(g2 i hi).2, hp12 i hi⟩⟩ ⟨fun a a1 a2 a3 a4 _ => (g3 a a2 a3).trans (eU_ne a1), fun f hf => by rw [g3 35 (by decide) (by decide)]; exact eU_c hf⟩ (fun x => by rw [g3 39 (by decide) (by decide)]; rfl) (fun a ha => (g3 a (by omega) (by omega)).trans (eU_ne (by omega))))
  cases hs : sel a with
  | false =>
    cases hb : bt (I2 36 0) a with
    | false => rfl
    | true => rw [g1 a ha hb] at hs; cases hs
  | true =>
    obtain ⟨i, hi, e⟩ := hsi a ha hs
    rw [← e]
    exact (g2 i hi).1

theorem lp_lf (d r : Nat) {n : Nat} {t : eT} {R : eR} {Q : Nat → eT → eI → eR → Prop} (hst : ST n t R) {c : Nat} (hc : c ≤ 5) {ch : Nat → Nat} {sel : Nat → Bool} (hch : ∀ i, i < c → ch i < 10 ∧ sel (ch i) = true) (hinj : ∀ i i2, i < c → i2 < c → ch i = ch i2 → i = i2) (hsi : ∀ a, a < 10 → sel a = true → ∃ i, i < c ∧ ch i = a) {pull : Nat → Nat → Nat} (hu : ∀ a b, pull a b ≤ 198) (hsy : ∀ a b, pull a b = pull b a) {w : Nat} (hw : w ≤ 2) {k : Nat} (hkc : k < c) (hkr : k + (r + 1) = c) {paid : Nat} {pos : Nat → Nat} (hpd : paid = prc pull pos k) {fv : Int32} {fr : Nat → Bool} (hfv : ∀ q, q < 12 → bt fv q = fr q) (hrec : ∀ (pos : Nat → Nat) (paid : Nat) (fr : Nat → Bool) (fv : Int32) (b : BS) (I : eI) (Q : Nat → eT → eI → eR → Prop), SC I c ch pull w → BC I c ch sel b → (∀ x, x < k + 1 → I 39 x = nI (pos x) ∧ pos x < 12) → paid = prc pull pos (k + 1) → (∀ q, q < 12 → bt fv q = fr q) → DU I c (k + 1) pull pos fr → (∀ I2 : eI, BC I2 c ch sel (vcs pull w r (k + 1) paid fr pos b) → FrL I I2 → (∀ x, x < k + 1 → I2 39 x = I 39 x) → (∀ x, x ≤ k + 1 → I2 (dR x) = I (dR x)) → Q n t I2 R) → MC yX5_layFrom cX5_layFrom 7 none (d + r + 3) 0 0 [.ref 35, .int (nI (k + 1)), .int (nI paid), .int (fv)] n t I R (qV Q)) : ∀ (m p : Nat) (I : eI) (b : BS) (x5 x6 : Value), p + m = 12 → sec x5 = false → sec x6 = false → SC I c ch pull w → BC I c ch sel b → (∀ x, x < k → I 39 x = nI (pos x) ∧ pos x < 12) → DU I c k pull pos fr → (∀ I2 : eI, BC I2 c ch sel (vlp (vstN pull w r k paid fr pos (fun p f ps b2 => vcs pull w r (k + 1) p f ps b2)) fr m b) → FrL I I2 → (∀ x, x < k → I2 39 x = I 39 x) → (∀ x, x ≤ k → I2 (dR x) = I (dR x)) → Q n t I2 R) → wp yX5_layFrom cX5_layFrom 7 none (d + r + 3 + 1) 0 0 (qV Q) 0 0 17 [.ref 35, .int (nI k), .int (nI paid), .int fv, .int (nI p), x5, x6] [] n t I R := by
  intro m
  induction m with
  | zero =>
    intro p I b x5 x6 hp hx5 hx6 hS hB hpos hD hq
    obtain rfl : p = 12 := by omega
    refine wp_iload dX5_layFrom_17 rfl ?_
    refine wp_bipush (v := 12) dX5_layFrom_19 (by decide) ?_
    refine wp_icmp_ge (tgt := 112) dX5_layFrom_21 (by decide) (fun zq21 => ?_) (fun zq21 => absurd (nI_le (show 12 ≤ 12 by decide) (by decide)) zq21) 
    exact wp_retV dX5_layFrom_112 rfl (Nat.le_refl _) (Nat.le_refl _) (hq I hB (FrL.rf I) (fun _ _ => rfl) (fun _ _ => rfl))
  | succ m ih =>
    intro p I b x5 x6 hp hx5 hx6 hS hB hpos hD hq
    have e11 : 11 - m = p := by omega
    refine wp_iload dX5_layFrom_17 rfl ?_
    refine wp_bipush (v := 12) dX5_layFrom_19 (by decide) ?_
    refine wp_icmp_ge (tgt := 112) dX5_layFrom_21 (by decide) (fun zq21 => absurd zq21 (nI_ge (show p < 12 by omega) (by decide))) (fun zq21 => ?_) 
    refine wp_iload_n (i := 3) dX5_layFrom_24 rfl rfl ?_
    refine wp_iload dX5_layFrom_25 rfl ?_
    refine wp_ishr dX5_layFrom_27 ?_
    refine wp_iconst (v := 1) dX5_layFrom_28 (by decide) ?_
    refine wp_iand dX5_layFrom_29 ?_
    refine wp_iconst (v := 1) dX5_layFrom_30 (by decide) ?_
    refine wp_icmp_ne (tgt := 106) dX5_layFrom_31 (by decide) (fun zq31 => ?_) (fun zq31 => ?_) 
    · refine wp_iinc_7_4 (v := nI (p + 1)) dX5_layFrom_106 (n_add rfl rfl) ?_
      refine wp_goto (tgt := 17) dX5_layFrom_109 (by decide) ?_
      have hfr : ¬ fr (11 - m) = true := fun g => zq31 ((bt_iff fv (by omega)).mpr (by rw [hfv p (by omega), ← e11]; exact g))
      have hres : vlp (vstN pull w r k paid fr pos (fun p f ps b2 => vcs pull w r (k + 1) p f ps b2)) fr (m + 1) b = vlp (vstN pull w r k paid fr pos (fun p f ps b2 => vcs pull w r (k + 1) p f ps b2)) fr m b := by
        show vlp _ fr m (if fr (11 - m) = true then _ else b) = _
        rw [if_neg hfr]
      rw [hres] at hq
      exact ih (p + 1) I b x5 x6 (by omega) hx5 hx6 hS hB hpos hD hq
    · have hfp : fr p = true := by rw [← hfv p (by omega)]; exact (bt_iff fv (by omega)).mp zq31
      have hfr : fr (11 - m) = true := by rw [e11]; exact hfp
      have hres : vlp (vstN pull w r k paid fr pos (fun p f ps b2 => vcs pull w r (k + 1) p f ps b2)) fr (m + 1) b = vlp (vstN pull w r k paid fr pos (fun p f ps b2 => vcs pull w r (k + 1) p f ps b2)) fr m ((vstN pull w r k paid fr pos (fun p f ps b2 => vcs pull w r (k + 1) p f ps b2)) (11 - m) b) := by
        show vlp _ fr m (if fr (11 - m) = true then _ else b) = _
        rw [if_pos hfr]
      rw [hres, e11] at hq
      have hk1 := dR_c k
      have hk2 := dR_c (k + 1)
      have hp9 : ∀ x, x < k + 1 → eG pos k p x < 12 := fun x hx => by
        by_cases e : x = k
        · subst e; rw [eG_eq]; omega
        · rw [eG_ne e]; exact (hpos x (by omega)).2
      have hfL0 : FrL I (eU I 39 k (nI p)) := ⟨fun a a1 a2 a3 a4 _ => eU_ne a4, fun f hf => rfl⟩
      refine wp_aload_n (i := 0) dX5_layFrom_34 rfl rfl ?_
      refine wp_getR dX5_layFrom_35 fl_X5_22 rfl (st_k hst rfl) (st_r hst rfl) ?_
      refine wp_iload_n (i := 1) dX5_layFrom_38 rfl rfl ?_
      refine wp_iload dX5_layFrom_39 rfl ?_
      refine wp_ist (j := k) dX5_layFrom_41 (st_t hst rfl) rfl (by omega) ?_
      refine wp_iload_n (i := 2) dX5_layFrom_42 rfl rfl ?_
      refine wp_aload_n (i := 0) dX5_layFrom_43 rfl rfl ?_
      refine wp_getR dX5_layFrom_44 fl_X5_33 rfl (st_k hst rfl) (st_r hst rfl) ?_
      refine wp_iload_n (i := 1) dX5_layFrom_47 rfl rfl ?_
      refine wp_rld13 (j := k) dX5_layFrom_48 (st_t hst rfl) rfl (by omega) (sd_r hst (by omega)) ?_
      refine wp_iload_n (i := 1) dX5_layFrom_49 rfl rfl ?_
      refine wp_bipush (v := 12) dX5_layFrom_50 (by decide) ?_
      refine wp_imul dX5_layFrom_52 ?_
      refine wp_iload dX5_layFrom_53 rfl ?_
      refine wp_iadd dX5_layFrom_55 ?_
      refine wp_ild (j := ((k * 12) + p)) dX5_layFrom_56 (sd_t hst (by omega)) (n_add (n_mul rfl rfl) rfl) (by omega) ?_
      refine wp_iadd dX5_layFrom_57 ?_
      refine wp_topI (v2 := nI (paid + (inc pull k pos p k))) (n_add rfl (by rw [eU_o (by omega)]; exact hD k (Nat.le_refl _) hkc p (by omega) hfp)) ?_
      refine wp_istore_7_5 dX5_layFrom_58 (by first | rfl | assumption) ?_
      refine wp_iload_n (i := 3) dX5_layFrom_60 rfl rfl ?_
      refine wp_aload_n (i := 0) dX5_layFrom_61 rfl rfl ?_
      refine wp_getR dX5_layFrom_62 fl_X5_39 rfl (st_k hst rfl) (st_r hst rfl) ?_
      refine wp_aload_n (i := 0) dX5_layFrom_65 rfl rfl ?_
      refine wp_getI dX5_layFrom_66 fl_X5_46 rfl (st_k hst rfl) ?_
      refine wp_rld13 (j := w) dX5_layFrom_69 (st_t hst rfl) hS.2.1 (by omega) (sn_r hst (by omega)) ?_
      refine wp_iload dX5_layFrom_70 rfl ?_
      refine wp_ild (j := p) dX5_layFrom_72 (sn_t hst (by omega)) rfl (by omega) ?_
      refine wp_iconst (v := (-1)) dX5_layFrom_73 (by decide) ?_
      refine wp_ixor dX5_layFrom_74 ?_
      refine wp_iand dX5_layFrom_75 ?_
      refine wp_istore_7_6 dX5_layFrom_76 (by first | rfl | assumption) ?_
      refine wp_iload dX5_layFrom_78 rfl ?_
      refine wp_aload_n (i := 0) dX5_layFrom_80 rfl rfl ?_
      refine wp_iload_n (i := 1) dX5_layFrom_81 rfl rfl ?_
      refine wp_iload dX5_layFrom_82 rfl ?_
      refine wp_V2i dX5_layFrom_84 mw_433 mw_435 ms_13 mi_X5_leastRest (Nat.le_of_ble_eq_true rfl) (Nat.le_refl _) (Nat.le_refl _) (st_k hst rfl) (by decide) rfl (c_lrest _ hst hc hu hsy hkc (pos := eG pos k p) hp9 (fr := frN fr w p) (fun q hq2 => ?_) (hS.fr hc hfL0) (by rw [eU_at, eG_eq]) (fun l2 h1 h2 q h3 h4 => ?_) (fun I2 g1 g2 => ?_)) 
      · show _ = (fr q && !decide (apN p q ≤ w))
        rw [bt_and, bt_not _ (by omega), hfv q hq2, eU_o (by omega), hS.2.2.2.2.2.2.2 w p q (by omega) (by omega) hq2]
      · rw [eU_o (by omega), inc_cg k (fun x hx => eG_ne (by omega))]
        exact hD l2 (by omega) h2 q h3 (Bool.and_eq_true _ _ ▸ h4).1
      · rw [show c - (k + 1) = r by omega]
        have hfL : FrL I I2 := hfL0.tr ⟨fun a _ _ _ _ h5 => g2 a (by omega), fun f _ => by rw [g2 35 (by omega)]⟩
        have hB2 : BC I2 c ch sel b := BC.fr hB (by rw [g2 35 (by omega)]; rfl) (by rw [g2 36 (by omega)]; rfl) (by rw [g2 37 (by omega)]; rfl)
        have hbp := hB2.pr
        have hlb := lrs_b (pull := pull) (w := w) (r := r) (K := k + 1) (pos := eG pos k p) (fr := frN fr w p) hu hw (by omega)
        have hib := inc_b (pull := pull) (k := k) (pos := pos) (show p < 12 by omega) hu k (fun x hx => (hpos x hx).2)
        have hpb := prc_b (pos := pos) hu k (by omega) (fun x hx => (hpos x hx).2)
        have hdk : ∀ x, x ≤ k → I2 (dR x) = I (dR x) := fun x hx => by
          have hx1 := dR_c x
          rw [g2 (dR x) (by omega), eU_ne (by omega)]
        have hps : ∀ x, x < k → I2 39 x = I 39 x := fun x hx => by rw [g2 39 (by omega), eU_c (by omega)]
        have hDk : DU I2 c k pull pos fr := fun l h1 h2 q h3 h4 => by rw [hdk k (Nat.le_refl _)]; exact hD l h1 h2 q h3 h4
        refine wp_iadd dX5_layFrom_87 ?_
        refine wp_topI (v2 := nI ((paid + (inc pull k pos p k)) + (lrsN pull w r (k + 1) (eG pos k p) (frN fr w p)))) (n_add rfl rfl) ?_
        refine wp_aload_n (i := 0) dX5_layFrom_88 rfl rfl ?_
        refine wp_getI dX5_layFrom_89 fl_X5_50 rfl (st_k hst rfl) ?_
        refine wp_icmp_ge (tgt := 106) dX5_layFrom_92 (by decide) (fun zq92 => ?_) (fun zq92 => ?_) 
        · refine wp_iinc_7_4 (v := nI (p + 1)) dX5_layFrom_106 (n_add rfl rfl) ?_
          refine wp_goto (tgt := 17) dX5_layFrom_109 (by decide) ?_
          have hng : ¬ paid + (inc pull k pos p k) + (lrsN pull w r (k + 1) (eG pos k p) (frN fr w p)) < bpr b := fun g => absurd (show I2 35 10 ≤ _ from zq92) (by rw [hbp.1]; exact nI_ge g hbp.2)
          have hst9 : (vstN pull w r k paid fr pos (fun p f ps b2 => vcs pull w r (k + 1) p f ps b2)) p b = b := if_neg hng
          rw [hst9] at hq
          exact ih (p + 1) I2 b _ _ (by omega) rfl rfl (hS.fr hc hfL) hB2 (fun x hx => by rw [hps x hx]; exact hpos x hx) hDk (fun I3 q1 q2 q3 q4 => hq I3 q1 (hfL.tr q2) (fun x hx => by rw [q3 x hx, hps x hx]) (fun x hx => by rw [q4 x hx, hdk x hx]))
        · refine wp_aload_n (i := 0) dX5_layFrom_95 rfl rfl ?_
          refine wp_iload_n (i := 1) dX5_layFrom_96 rfl rfl ?_
          refine wp_iconst (v := 1) dX5_layFrom_97 (by decide) ?_
          refine wp_iadd dX5_layFrom_98 ?_
          refine wp_topI (v2 := nI (k + 1)) (n_add rfl rfl) ?_
          refine wp_iload dX5_layFrom_99 rfl ?_
          refine wp_iload dX5_layFrom_101 rfl ?_
          have hlt : paid + (inc pull k pos p k) + (lrsN pull w r (k + 1) (eG pos k p) (frN fr w p)) < bpr b := Nat.lt_of_not_le (fun g => zq92 (by show I2 35 10 ≤ _; rw [hbp.1]; exact nI_le g (by omega)))
          have hst9 : (vstN pull w r k paid fr pos (fun p f ps b2 => vcs pull w r (k + 1) p f ps b2)) p b = vcs pull w r (k + 1) (paid + (inc pull k pos p k)) (frN fr w p) (eG pos k p) b := if_pos hlt
          rw [hst9] at hq
          refine wp_V3v dX5_layFrom_103 mw_421 mw_423 ms_11 mi_X5_layFrom (Nat.le_of_ble_eq_true rfl) (Nat.le_refl _) (Nat.le_refl _) (st_k hst rfl) (by decide) rfl (hrec (eG pos k p) (paid + (inc pull k pos p k)) (frN fr w p) _ b I2 _ (hS.fr hc hfL) hB2 (fun x hx => ?_) (by rw [prc_e, hpd]) (fun q hq2 => ?_) (fun l h1 h2 q h3 h4 => g1 l (by omega) h2 q h3 h4) (fun I3 hB3 hf3 hp3 hd3 => ?_)) 
          · rw [g2 39 (by omega)]
            by_cases e : x = k
            · subst e; rw [eU_at, eG_eq]; exact ⟨rfl, by omega⟩
            · rw [eU_c e, eG_ne e]; exact hpos x (by omega)
          · show _ = (fr q && !decide (apN p q ≤ w))
            rw [bt_and, bt_not _ (by omega), hfv q hq2, eU_o (by omega), hS.2.2.2.2.2.2.2 w p q (by omega) (by omega) hq2]
          · skip
            refine wp_iinc_7_4 (v := nI (p + 1)) dX5_layFrom_106 (n_add rfl rfl) ?_
            refine wp_goto (tgt := 17) dX5_layFrom_109 (by decide) ?_
            exact ih (p + 1) I3 _ _ _ (by omega) rfl rfl (hS.fr hc (hfL.tr hf3)) hB3 (fun x hx => by rw [hp3 x (by omega), hps x hx]; exact hpos x hx) (fun l h1 h2 q h3 h4 => by rw [hd3 k (by omega)]; exact hDk l h1 h2 q h3 h4) (fun I4 q1 q2 q3 q4 => hq I4 q1 ((hfL.tr hf3).tr q2) (fun x hx => by rw [q3 x hx, hp3 x (by omega), hps x hx]) (fun x hx => by rw [q4 x hx, hd3 x (by omega), hdk x hx]))

theorem c_layFrom (d : Nat) {n : Nat} {t : eT} {R : eR} (hst : ST n t R) {c : Nat} (hc : c ≤ 5) {ch : Nat → Nat} {sel : Nat → Bool} (hch : ∀ i, i < c → ch i < 10 ∧ sel (ch i) = true) (hinj : ∀ i i2, i < c → i2 < c → ch i = ch i2 → i = i2) (hsi : ∀ a, a < 10 → sel a = true → ∃ i, i < c ∧ ch i = a) {pull : Nat → Nat → Nat} (hu : ∀ a b, pull a b ≤ 198) (hsy : ∀ a b, pull a b = pull b a) {w : Nat} (hw : w ≤ 2) : ∀ (r k : Nat) (pos : Nat → Nat) (paid : Nat) (fr : Nat → Bool) (fv : Int32) (b : BS) (I : eI) (Q : Nat → eT → eI → eR → Prop), k + r = c → SC I c ch pull w → BC I c ch sel b → (∀ x, x < k → I 39 x = nI (pos x) ∧ pos x < 12) → paid = prc pull pos (k) → (∀ q, q < 12 → bt fv q = fr q) → DU I c (k) pull pos fr → (∀ I2 : eI, BC I2 c ch sel (vcs pull w r k paid fr pos b) → FrL I I2 → (∀ x, x < k → I2 39 x = I 39 x) → (∀ x, x ≤ k → I2 (dR x) = I (dR x)) → Q n t I2 R) → MC yX5_layFrom cX5_layFrom 7 none (d + r + 3) 0 0 [.ref 35, .int (nI k), .int (nI paid), .int (fv)] n t I R (qV Q) := by
  intro r
  induction r with
  | zero =>
    intro k pos paid fr fv b I Q hkr hS hB hpos hpd hfv hD hq
    refine mc_intro (L0 := [.ref 35, .int (nI k), .int (nI paid), .int fv, vU, vU, vU]) (by decide) rfl (Nat.le_of_ble_eq_true rfl) ?_
    have hpb := prc_b (pos := pos) hu k (by omega) (fun x hx => (hpos x hx).2)
    refine wp_iload_n (i := 1) dX5_layFrom_0 rfl rfl ?_
    refine wp_aload_n (i := 0) dX5_layFrom_1 rfl rfl ?_
    refine wp_getI dX5_layFrom_2 fl_X5_42 rfl (st_k hst rfl) ?_
    refine wp_icmp_lt (tgt := 14) dX5_layFrom_5 (by decide) (fun zq5 => absurd (show nI k < I 35 8 from zq5) (by rw [hS.1]; exact nI_nlt (by omega) (by omega))) (fun zq5 => ?_) 
    refine wp_aload_n (i := 0) dX5_layFrom_8 rfl rfl ?_
    refine wp_iload_n (i := 2) dX5_layFrom_9 rfl rfl ?_
    refine wp_V1v dX5_layFrom_10 mw_425 mw_427 ms_12 mi_X5_keepAsBest (Nat.le_of_ble_eq_true rfl) (Nat.le_refl _) (Nat.le_refl _) (st_k hst rfl) (by decide) rfl (c_keep _ hst hc hch hinj (pos := pos) (fun x hx => (hpos x (by omega)).2) hsi (show paid ≤ 24750 by omega) ⟨hS.1, hS.2.2.1, fun i hi => (hpos i (by omega)).1⟩ hB (fun I2 g1 g2 g3 g4 => ?_)) 
    exact wp_retV dX5_layFrom_13 rfl (Nat.le_refl _) (Nat.le_refl _) (hq I2 g1 g2 (fun x _ => g3 x) (fun x _ => g4 (dR x) (by have := dR_c x; omega)))
  | succ r ih =>
    intro k pos paid fr fv b I Q hkr hS hB hpos hpd hfv hD hq
    refine mc_intro (L0 := [.ref 35, .int (nI k), .int (nI paid), .int fv, vU, vU, vU]) (by decide) rfl (Nat.le_of_ble_eq_true rfl) ?_
    refine wp_iload_n (i := 1) dX5_layFrom_0 rfl rfl ?_
    refine wp_aload_n (i := 0) dX5_layFrom_1 rfl rfl ?_
    refine wp_getI dX5_layFrom_2 fl_X5_42 rfl (st_k hst rfl) ?_
    refine wp_icmp_lt (tgt := 14) dX5_layFrom_5 (by decide) (fun zq5 => ?_) (fun zq5 => absurd (show nI k < I 35 8 by rw [hS.1]; exact nI_lt (by omega) (by omega)) zq5) 
    refine wp_iconst (v := 0) dX5_layFrom_14 (by decide) ?_
    refine wp_istore_7_4 dX5_layFrom_15 rfl ?_
    exact lp_lf d r hst hc hch hinj hsi hu hsy hw (show k < c by omega) hkr hpd hfv (fun pos2 paid2 fz2 fv2 b2 I2 Q2 a1 a2 a3 a4 a5 a6 a7 => ih (k + 1) pos2 paid2 fz2 fv2 b2 I2 Q2 (by omega) a1 a2 a3 a4 a5 a6 a7) 12 0 I b vU vU rfl rfl rfl hS hB hpos hD hq

