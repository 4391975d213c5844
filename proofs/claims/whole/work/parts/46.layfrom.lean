theorem lp_pull (d : Nat) {n : Nat} {t : eT} {I : eI} {R : eR} {Q : eQt} (hst : ST n t R) {c k pl : Nat} (hc : c ≤ 5) (hkc : k < c) (hpl : pl < 12) {pull : Nat → Nat → Nat} (hP : ∀ j, j < k → I (41 + k) j = nI (pull k j)) {pos : Nat → Nat} (hS : ∀ x, x < k → I 39 x = nI (pos x) ∧ pos x < 12) : ∀ (r j : Nat), j + r = k → wp yX5_pullOf cX5_pullOf 5 (some .int) (d + 2) 0 0 Q 0 0 41 [.ref 35, .int (nI k), .int (nI pl), .int (nI (inc pull k pos pl k)), .int (nI k)] [] n t I R → wp yX5_pullOf cX5_pullOf 5 (some .int) (d + 2) 0 0 Q 0 0 5 [.ref 35, .int (nI k), .int (nI pl), .int (nI (inc pull k pos pl j)), .int (nI j)] [] n t I R := by
  intro r
  induction r with
  | zero =>
    intro j hj hq
    obtain rfl : j = k := by omega
    refine wp_iload dX5_pullOf_5 rfl ?_
    refine wp_iload_n (i := 1) dX5_pullOf_7 rfl rfl ?_
    refine wp_icmp_ge (tgt := 41) dX5_pullOf_8 (by decide) (fun zq8 => ?_) (fun zq8 => absurd (nI_le (Nat.le_refl _) (by omega)) zq8) 
    exact hq
  | succ r ih =>
    intro j hj hq
    refine wp_iload dX5_pullOf_5 rfl ?_
    refine wp_iload_n (i := 1) dX5_pullOf_7 rfl rfl ?_
    refine wp_icmp_ge (tgt := 41) dX5_pullOf_8 (by decide) (fun zq8 => absurd zq8 (nI_ge (show j < k by omega) (by omega))) (fun zq8 => ?_) 
    have hsj := hS j (by omega)
    refine wp_iload_n (i := 3) dX5_pullOf_11 rfl rfl ?_
    refine wp_aload_n (i := 0) dX5_pullOf_12 rfl rfl ?_
    refine wp_getR dX5_pullOf_13 fl_X5_29 rfl (st_k hst rfl) (st_r hst rfl) ?_
    refine wp_iload_n (i := 1) dX5_pullOf_16 rfl rfl ?_
    refine wp_rld13 (j := k) dX5_pullOf_17 (st_t hst rfl) rfl (by omega) (sq_r hst (by omega)) ?_
    refine wp_iload dX5_pullOf_18 rfl ?_
    refine wp_ild (j := j) dX5_pullOf_20 (sq_t hst (by omega)) rfl (by omega) ?_
    refine wp_aload_n (i := 0) dX5_pullOf_21 rfl rfl ?_
    refine wp_getR dX5_pullOf_22 fl_X5_24 rfl (st_k hst rfl) (st_r hst rfl) ?_
    refine wp_iload dX5_pullOf_25 rfl ?_
    refine wp_ild (j := j) dX5_pullOf_27 (st_t hst rfl) rfl (by omega) ?_
    refine wp_iload_n (i := 2) dX5_pullOf_28 rfl rfl ?_
    rw [hsj.1]
    refine wp_S2i dX5_pullOf_29 mw_429 mw_430 mi_X0_wayBetween (Nat.le_of_ble_eq_true rfl) (Nat.le_refl _) (Nat.le_refl _) (c_wayBetween _ ?_) 
    refine wp_imul dX5_pullOf_32 ?_
    refine wp_iadd dX5_pullOf_33 ?_
    refine wp_topI (v2 := nI ((inc pull k pos pl j) + ((pull k j) * (wyN (pos j) pl)))) (n_add rfl (n_mul (hP j (by omega)) (wy_c (pos j) hsj.2 pl hpl))) ?_
    refine wp_istore_5_3 dX5_pullOf_34 rfl ?_
    refine wp_iinc_5_4 (v := nI (j + 1)) dX5_pullOf_35 (n_add rfl rfl) ?_
    refine wp_goto (tgt := 5) dX5_pullOf_38 (by decide) ?_
    exact ih (j + 1) (by omega) hq

theorem c_pullOf (d : Nat) {n : Nat} {t : eT} {I : eI} {R : eR} {Q : Int32 → Nat → eT → eI → eR → Prop} (hst : ST n t R) {c k pl : Nat} (hc : c ≤ 5) (hkc : k < c) (hpl : pl < 12) {pull : Nat → Nat → Nat} (hP : ∀ j, j < k → I (41 + k) j = nI (pull k j)) {pos : Nat → Nat} (hS : ∀ x, x < k → I 39 x = nI (pos x) ∧ pos x < 12) (hq : Q (nI (inc pull k pos pl k)) n t I R) : MC yX5_pullOf cX5_pullOf 5 (some .int) (d + 2) 0 0 [.ref 35, .int (nI k), .int (nI pl)] n t I R (qI Q) := by
  refine mc_intro (L0 := [.ref 35, .int (nI k), .int (nI pl), vU, vU]) (by decide) rfl (Nat.le_of_ble_eq_true rfl) ?_
  refine wp_iconst (v := 0) dX5_pullOf_0 (by decide) ?_
  refine wp_istore_5_3 dX5_pullOf_1 rfl ?_
  refine wp_iconst (v := 0) dX5_pullOf_2 (by decide) ?_
  refine wp_istore_5_4 dX5_pullOf_3 rfl ?_
  refine lp_pull d hst hc hkc hpl hP hS k 0 (by omega) ?_
  refine wp_iload_n (i := 3) dX5_pullOf_41 rfl rfl ?_
  exact wp_retI dX5_pullOf_42 rfl (Nat.le_refl _) (Nat.le_refl _) hq

theorem c_layPart (d : Nat) {n : Nat} {t : eT} {I : eI} {R : eR} {Q : Nat → eT → eI → eR → Prop} (hst : ST n t R) {p : Nat} (hp : p < 10) {v : Int32} (hq : Q n t (eU (eU I 36 0 (I 36 0 ||| (1 : Int32) <<< (nI p &&& 31))) 37 p v) R) : MC yX0_layPart cX0_layPart 3 none d 0 0 [.ref 36, .int (nI p), .int v] n t I R (qV Q) := by
  refine mc_intro (L0 := [.ref 36, .int (nI p), .int v]) (by decide) rfl (Nat.le_of_ble_eq_true rfl) ?_
  refine wp_aload_n (i := 0) dX0_layPart_0 rfl rfl ?_
  refine wp_dup dX0_layPart_1 rfl ?_
  refine wp_getI dX0_layPart_2 fl_X0_9 rfl (st_k hst rfl) ?_
  refine wp_iconst (v := 1) dX0_layPart_5 (by decide) ?_
  refine wp_iload_n (i := 1) dX0_layPart_6 rfl rfl ?_
  refine wp_ishl dX0_layPart_7 ?_
  refine wp_ior dX0_layPart_8 ?_
  refine wp_putI dX0_layPart_9 fl_X0_9 rfl (Or.inl rfl) (st_k hst rfl) ?_
  refine wp_aload_n (i := 0) dX0_layPart_12 rfl rfl ?_
  refine wp_getR dX0_layPart_13 fl_X0_15 rfl (st_k hst rfl) (st_r hst rfl) ?_
  refine wp_iload_n (i := 1) dX0_layPart_16 rfl rfl ?_
  refine wp_iload_n (i := 2) dX0_layPart_17 rfl rfl ?_
  refine wp_ist (j := p) dX0_layPart_18 (st_t hst rfl) rfl (by omega) ?_
  exact wp_retV dX0_layPart_19 rfl (Nat.le_refl _) (Nat.le_refl _) hq

theorem lp_keep (d : Nat) {n : Nat} {t : eT} {R : eR} {Q : Nat → eT → eI → eR → Prop} (hst : ST n t R) {c : Nat} (hc : c ≤ 5) {ch : Nat → Nat} {sel : Nat → Bool} (hch : ∀ i, i < c → ch i < 10 ∧ sel (ch i) = true) (hinj : ∀ i i2, i < c → i2 < c → ch i = ch i2 → i = i2) {pos : Nat → Nat} (hp12 : ∀ x, x < c → pos x < 12) {pd : Int32} : ∀ (r i : Nat) (I : eI), i + r = c → (I 35 6 = nI c ∧ (∀ i, i < c → I 38 i = nI (ch i)) ∧ ∀ i, i < c → I 39 i = nI (pos i)) → (∀ a, a < 10 → bt (I 36 0) a = true → sel a = true) → (∀ i2, i2 < i → bt (I 36 0) (ch i2) = true ∧ I 37 (ch i2) = nI (pos i2)) → (∀ I2 : eI, (∀ a, a < 10 → bt (I2 36 0) a = true → sel a = true) → (∀ i, i < c → bt (I2 36 0) (ch i) = true ∧ I2 37 (ch i) = nI (pos i)) → (∀ a, a ≠ 36 → a ≠ 37 → I2 a = I a) → Q n t I2 R) → wp yX5_keepAsBest cX5_keepAsBest 3 none (d + 1) 0 0 (qV Q) 0 0 7 [.ref 35, .int pd, .int (nI i)] [] n t I R := by
  intro r
  induction r with
  | zero =>
    intro i I hi hR h1 h2 hq
    refine wp_iload_n (i := 2) dX5_keepAsBest_7 rfl rfl ?_
    refine wp_aload_n (i := 0) dX5_keepAsBest_8 rfl rfl ?_
    refine wp_getI dX5_keepAsBest_9 fl_X5_38 rfl (st_k hst rfl) ?_
    refine wp_icmp_ge (tgt := 40) dX5_keepAsBest_12 (by decide) (fun zq12 => ?_) (fun zq12 => absurd (show I 35 6 ≤ nI i by rw [hR.1]; exact nI_le (by omega) (by omega)) zq12) 
    exact wp_retV dX5_keepAsBest_40 rfl (Nat.le_refl _) (Nat.le_refl _) (hq I h1 (fun i2 hi2 => h2 i2 (by omega)) (fun _ _ _ => rfl))
  | succ r ih =>
    intro i I hi hR h1 h2 hq
    refine wp_iload_n (i := 2) dX5_keepAsBest_7 rfl rfl ?_
    refine wp_aload_n (i := 0) dX5_keepAsBest_8 rfl rfl ?_
    refine wp_getI dX5_keepAsBest_9 fl_X5_38 rfl (st_k hst rfl) ?_
    refine wp_icmp_ge (tgt := 40) dX5_keepAsBest_12 (by decide) (fun zq12 => absurd (show I 35 6 ≤ nI i from zq12) (by rw [hR.1]; exact nI_ge (show i < c by omega) (by omega))) (fun zq12 => ?_) 
    have hci := hch i (by omega)
    refine wp_aload_n (i := 0) dX5_keepAsBest_15 rfl rfl ?_
    refine wp_getR dX5_keepAsBest_16 fl_X5_14 rfl (st_k hst rfl) (st_r hst rfl) ?_
    refine wp_aload_n (i := 0) dX5_keepAsBest_19 rfl rfl ?_
    refine wp_getR dX5_keepAsBest_20 fl_X5_20 rfl (st_k hst rfl) (st_r hst rfl) ?_
    refine wp_iload_n (i := 2) dX5_keepAsBest_23 rfl rfl ?_
    refine wp_ild (j := i) dX5_keepAsBest_24 (st_t hst rfl) rfl (by omega) ?_
    refine wp_aload_n (i := 0) dX5_keepAsBest_25 rfl rfl ?_
    refine wp_getR dX5_keepAsBest_26 fl_X5_24 rfl (st_k hst rfl) (st_r hst rfl) ?_
    refine wp_iload_n (i := 2) dX5_keepAsBest_29 rfl rfl ?_
    refine wp_ild (j := i) dX5_keepAsBest_30 (st_t hst rfl) rfl (by omega) ?_
    rw [hR.2.1 i (by omega), hR.2.2 i (by omega)]
    refine wp_V2v dX5_keepAsBest_31 mw_421 mw_422 mw_423 mi_X0_layPart (Nat.le_of_ble_eq_true rfl) (Nat.le_refl _) (Nat.le_refl _) (st_k hst rfl) (by decide) rfl (c_layPart _ hst hci.1 ?_) 
    refine wp_iinc_3_2 (v := nI (i + 1)) dX5_keepAsBest_34 (n_add rfl rfl) ?_
    refine wp_goto (tgt := 7) dX5_keepAsBest_37 (by decide) ?_
    refine ih (i + 1) (eU (eU I 36 0 (I 36 0 ||| (1 : Int32) <<< (nI (ch i) &&& 31))) 37 (ch i) (nI (pos i))) (by omega) ⟨hR.1, hR.2.1, hR.2.2⟩ (fun a ha hb => ?_) (fun i2 hi2 => ?_) (fun I2 g1 g2 g3 => hq I2 g1 g2 (fun a a1 a2 => (g3 a a1 a2).trans (by rw [eU_ne a2, eU_ne a1])))
    · have hb2 : bt (I 36 0 ||| (1 : Int32) <<< (nI (ch i) &&& 31)) a = true := hb
      rw [bt_or, bt_shl (ch i) (by omega) a (by omega), Bool.or_eq_true, decide_eq_true_iff] at hb2
      rcases hb2 with g | g
      · exact h1 a ha g
      · rw [g]; exact hci.2
    · have hc2 := hch i2 (by omega)
      show bt (I 36 0 ||| (1 : Int32) <<< (nI (ch i) &&& 31)) (ch i2) = true ∧ (eU (eU I 36 0 (I 36 0 ||| (1 : Int32) <<< (nI (ch i) &&& 31))) 37 (ch i) (nI (pos i))) 37 (ch i2) = nI (pos i2)
      rw [bt_or, bt_shl (ch i) (by omega) (ch i2) (by omega)]
      by_cases e : i2 = i
      · subst e
        rw [eU_at, decide_eq_true (rfl : ch i2 = ch i2), Bool.or_true]
        exact ⟨rfl, rfl⟩
      · have hne : ch i2 ≠ ch i := fun g => e (hinj i2 i (by omega) (by omega) g)
        rw [eU_c hne, (h2 i2 (by omega)).1, Bool.true_or]
        exact ⟨rfl, (h2 i2 (by omega)).2⟩

theorem c_keep (d : Nat) {n : Nat} {t : eT} {I : eI} {R : eR} {Q : Nat → eT → eI → eR → Prop} (hst : ST n t R) {c : Nat} (hc : c ≤ 5) {ch : Nat → Nat} {sel : Nat → Bool} (hch : ∀ i, i < c → ch i < 10 ∧ sel (ch i) = true) (hinj : ∀ i i2, i < c → i2 < c → ch i = ch i2 → i = i2) {pos : Nat → Nat} (hp12 : ∀ x, x < c → pos x < 12) (hsi : ∀ a, a < 10 → sel a = true → ∃ i, i < c ∧ ch i = a) {pd : Nat} (hpd : pd ≤ 24750) (hR : (I 35 6 = nI c ∧ (∀ i, i < c → I 38 i = nI (ch i)) ∧ ∀ i, i < c → I 39 i = nI (pos i))) {b : BS} (hB : BC I c ch sel b) (hq : ∀ I2 : eI, BC I2 c ch sel (some (pd, pos)) → FrL I I2 → (∀ x, I2 39 x = I 39 x) → Q n t I2 R) : MC yX5_keepAsBest cX5_keepAsBest 3 none (d + 1) 0 0 [.ref 35, .int (nI pd)] n t I R (qV Q) := by
  refine mc_intro (L0 := [.ref 35, .int (nI pd), vU]) (by decide) rfl (Nat.le_of_ble_eq_true rfl) ?_
  refine wp_aload_n (i := 0) dX5_keepAsBest_0 rfl rfl ?_
  refine wp_iload_n (i := 1) dX5_keepAsBest_1 rfl rfl ?_
  refine wp_putI dX5_keepAsBest_2 fl_X5_43 rfl (Or.inl rfl) (st_k hst rfl) ?_
  refine wp_iconst (v := 0) dX5_keepAsBest_5 (by decide) ?_
  refine wp_istore_3_2 dX5_keepAsBest_6 rfl ?_
  have hsub : ∀ a, a < 10 → bt (eU I 35 7 (nI pd) 36 0) a = true → sel a = true := by
    intro a ha hb
    have hb2 : bt (I 36 0) a = true := hb
    cases b with
    | none => rw [hB.1, bt_0] at hb2; cases hb2
    | some q => rw [← hB.2.2.1 a ha]; exact hb2
  refine lp_keep d hst hc hch hinj hp12 c 0 (eU I 35 7 (nI pd)) (by omega) ⟨hR.1, hR.2.1, hR.2.2⟩ hsub (fun i2 h => absurd h (Nat.not_lt_zero i2)) (fun I2 g1 g2 g3 => hq I2 ⟨by rw [g3 35 (by decide) (by decide)]; exact eU_at _ _ _ _, hpd, fun a ha => ?_, fun i hi => ⟨(g2 i hi).2, hp12 i hi⟩⟩ ⟨fun a a1 a2 a3 a4 => (g3 a a2 a3).trans (eU_ne a1), fun f hf => by rw [g3 35 (by decide) (by decide)]; exact eU_c hf⟩ (fun x => by rw [g3 39 (by decide) (by decide)]; rfl))
  cases hs : sel a with
  | false =>
    cases hb : bt (I2 36 0) a with
    | false => rfl
    | true => rw [g1 a ha hb] at hs; cases hs
  | true =>
    obtain ⟨i, hi, e⟩ := hsi a ha hs
    rw [← e]
    exact (g2 i hi).1

theorem lp_lf (d r : Nat) {n : Nat} {t : eT} {R : eR} {Q : Nat → eT → eI → eR → Prop} (hst : ST n t R) {c : Nat} (hc : c ≤ 5) {ch : Nat → Nat} {sel : Nat → Bool} (hch : ∀ i, i < c → ch i < 10 ∧ sel (ch i) = true) (hinj : ∀ i i2, i < c → i2 < c → ch i = ch i2 → i = i2) (hsi : ∀ a, a < 10 → sel a = true → ∃ i, i < c ∧ ch i = a) {pull : Nat → Nat → Nat} (hu : ∀ a b, pull a b ≤ 198) {w : Nat} (hw : w ≤ 2) {k : Nat} (hkc : k < c) {paid : Nat} {pos : Nat → Nat} (hpd : paid = prc pull pos k) {fv : Int32} {fr : Nat → Bool} (hfv : ∀ q, q < 12 → bt fv q = fr q) (hrec : ∀ (pos : Nat → Nat) (paid : Nat) (fr : Nat → Bool) (fv : Int32) (b : BS) (I : eI) (Q : Nat → eT → eI → eR → Prop), SC I c ch pull w → BC I c ch sel b → (∀ x, x < k + 1 → I 39 x = nI (pos x) ∧ pos x < 12) → paid = prc pull pos (k + 1) → (∀ q, q < 12 → bt fv q = fr q) → (∀ I2 : eI, BC I2 c ch sel (vcs pull w r (k + 1) paid fr pos b) → FrL I I2 → (∀ x, x < k + 1 → I2 39 x = I 39 x) → Q n t I2 R) → MC yX5_layFrom cX5_layFrom 5 none (d + r + 3) 0 0 [.ref 35, .int (nI (k + 1)), .int (nI paid), .int (fv)] n t I R (qV Q)) : ∀ (m p : Nat) (I : eI) (b : BS), p + m = 12 → SC I c ch pull w → BC I c ch sel b → (∀ x, x < k → I 39 x = nI (pos x) ∧ pos x < 12) → (∀ I2 : eI, BC I2 c ch sel (vlp (fun pl b2 => vcs pull w r (k + 1) (paid + inc pull k pos pl k) (fun q => fr q && !decide (apN pl q ≤ w)) (eG pos k pl) b2) fr m b) → FrL I I2 → (∀ x, x < k → I2 39 x = I 39 x) → Q n t I2 R) → wp yX5_layFrom cX5_layFrom 5 none (d + r + 3 + 1) 0 0 (qV Q) 0 0 41 [.ref 35, .int (nI k), .int (nI paid), .int fv, .int (nI p)] [] n t I R := by
  intro m
  induction m with
  | zero =>
    intro p I b hp hS hB hpos hq
    obtain rfl : p = 12 := by omega
    refine wp_iload dX5_layFrom_41 rfl ?_
    refine wp_bipush (v := 12) dX5_layFrom_43 (by decide) ?_
    refine wp_icmp_ge (tgt := 99) dX5_layFrom_45 (by decide) (fun zq45 => ?_) (fun zq45 => absurd (nI_le (show 12 ≤ 12 by decide) (by decide)) zq45) 
    exact wp_retV dX5_layFrom_99 rfl (Nat.le_refl _) (Nat.le_refl _) (hq I hB (FrL.rf I) (fun _ _ => rfl))
  | succ m ih =>
    intro p I b hp hS hB hpos hq
    have e11 : 11 - m = p := by omega
    refine wp_iload dX5_layFrom_41 rfl ?_
    refine wp_bipush (v := 12) dX5_layFrom_43 (by decide) ?_
    refine wp_icmp_ge (tgt := 99) dX5_layFrom_45 (by decide) (fun zq45 => absurd zq45 (nI_ge (show p < 12 by omega) (by decide))) (fun zq45 => ?_) 
    refine wp_iload_n (i := 3) dX5_layFrom_48 rfl rfl ?_
    refine wp_iload dX5_layFrom_49 rfl ?_
    refine wp_ishr dX5_layFrom_51 ?_
    refine wp_iconst (v := 1) dX5_layFrom_52 (by decide) ?_
    refine wp_iand dX5_layFrom_53 ?_
    refine wp_iconst (v := 1) dX5_layFrom_54 (by decide) ?_
    refine wp_icmp_ne (tgt := 93) dX5_layFrom_55 (by decide) (fun zq55 => ?_) (fun zq55 => ?_) 
    · refine wp_iinc_5_4 (v := nI (p + 1)) dX5_layFrom_93 (n_add rfl rfl) ?_
      refine wp_goto (tgt := 41) dX5_layFrom_96 (by decide) ?_
      have hfr : ¬ fr (11 - m) = true := fun g => zq55 ((bt_iff fv (by omega)).mpr (by rw [hfv p (by omega), ← e11]; exact g))
      have hres : vlp (fun pl b2 => vcs pull w r (k + 1) (paid + inc pull k pos pl k) (fun q => fr q && !decide (apN pl q ≤ w)) (eG pos k pl) b2) fr (m + 1) b = vlp (fun pl b2 => vcs pull w r (k + 1) (paid + inc pull k pos pl k) (fun q => fr q && !decide (apN pl q ≤ w)) (eG pos k pl) b2) fr m b := by
        show vlp _ fr m (if fr (11 - m) = true then _ else b) = _
        rw [if_neg hfr]
      rw [hres] at hq
      exact ih (p + 1) I b (by omega) hS hB hpos hq
    · have hfr : fr (11 - m) = true := by rw [e11, ← hfv p (by omega)]; exact (bt_iff fv (by omega)).mp zq55
      have hres : vlp (fun pl b2 => vcs pull w r (k + 1) (paid + inc pull k pos pl k) (fun q => fr q && !decide (apN pl q ≤ w)) (eG pos k pl) b2) fr (m + 1) b = vlp (fun pl b2 => vcs pull w r (k + 1) (paid + inc pull k pos pl k) (fun q => fr q && !decide (apN pl q ≤ w)) (eG pos k pl) b2) fr m ((fun pl b2 => vcs pull w r (k + 1) (paid + inc pull k pos pl k) (fun q => fr q && !decide (apN pl q ≤ w)) (eG pos k pl) b2) (11 - m) b) := by
        show vlp _ fr m (if fr (11 - m) = true then _ else b) = _
        rw [if_pos hfr]
      rw [hres, e11] at hq
      refine wp_aload_n (i := 0) dX5_layFrom_58 rfl rfl ?_
      refine wp_getR dX5_layFrom_59 fl_X5_24 rfl (st_k hst rfl) (st_r hst rfl) ?_
      refine wp_iload_n (i := 1) dX5_layFrom_62 rfl rfl ?_
      refine wp_iload dX5_layFrom_63 rfl ?_
      refine wp_ist (j := k) dX5_layFrom_65 (st_t hst rfl) rfl (by omega) ?_
      refine wp_aload_n (i := 0) dX5_layFrom_66 rfl rfl ?_
      refine wp_iload_n (i := 1) dX5_layFrom_67 rfl rfl ?_
      refine wp_iconst (v := 1) dX5_layFrom_68 (by decide) ?_
      refine wp_iadd dX5_layFrom_69 ?_
      refine wp_topI (v2 := nI (k + 1)) (n_add rfl rfl) ?_
      refine wp_iload_n (i := 2) dX5_layFrom_70 rfl rfl ?_
      refine wp_aload_n (i := 0) dX5_layFrom_71 rfl rfl ?_
      refine wp_iload_n (i := 1) dX5_layFrom_72 rfl rfl ?_
      refine wp_iload dX5_layFrom_73 rfl ?_
      refine wp_V2i dX5_layFrom_75 mw_425 mw_427 ms_14 mi_X5_pullOf (Nat.le_of_ble_eq_true rfl) (Nat.le_refl _) (Nat.le_refl _) (st_k hst rfl) (by decide) rfl (c_pullOf _ hst hc hkc (show p < 12 by omega) (pull := pull) (fun j hj => by rw [eU_o (by omega)]; exact hS.2.2.1 k j hj hkc) (pos := pos) (fun x hx => by rw [eU_c (by omega)]; exact hpos x hx) ?_) 
      refine wp_iadd dX5_layFrom_78 ?_
      refine wp_topI (v2 := nI (paid + (inc pull k pos p k))) (n_add rfl rfl) ?_
      refine wp_iload_n (i := 3) dX5_layFrom_79 rfl rfl ?_
      refine wp_aload_n (i := 0) dX5_layFrom_80 rfl rfl ?_
      refine wp_getR dX5_layFrom_81 fl_X5_35 rfl (st_k hst rfl) (st_r hst rfl) ?_
      refine wp_iload dX5_layFrom_84 rfl ?_
      refine wp_ild (j := p) dX5_layFrom_86 (st_t hst rfl) rfl (by omega) ?_
      refine wp_iconst (v := (-1)) dX5_layFrom_87 (by decide) ?_
      refine wp_ixor dX5_layFrom_88 ?_
      refine wp_iand dX5_layFrom_89 ?_
      refine wp_V3v dX5_layFrom_90 mw_413 mw_415 ms_12 mi_X5_layFrom (Nat.le_of_ble_eq_true rfl) (Nat.le_refl _) (Nat.le_refl _) (st_k hst rfl) (by decide) rfl (hrec (eG pos k p) (paid + inc pull k pos p k) (fun q => fr q && !decide (apN p q ≤ w)) _ b (eU I 39 k (nI p)) _ (hS.fr hc ⟨fun a a1 a2 a3 a4 => eU_ne a4, fun f hf => rfl⟩) (by cases b <;> exact hB) (fun x hx => ?_) (by rw [prc_e, hpd]) (fun q hq2 => ?_) (fun I2 hB2 hf2 hp2 => ?_)) 
      · by_cases e : x = k
        · subst e; rw [eU_at, eG_eq]; exact ⟨rfl, by omega⟩
        · rw [eU_c e, eG_ne e]; exact hpos x (by omega)
      · rw [bt_and, bt_not _ (by omega), hfv q hq2]
        show (fr q && !bt (I 47 p) q) = _
        rw [hS.2.2.2.2 p q (by omega) hq2]
      · have hfL : FrL I I2 := FrL.tr (I2 := (eU I 39 k (nI p))) ⟨fun a a1 a2 a3 a4 => eU_ne a4, fun f hf => rfl⟩ hf2
        refine wp_iinc_5_4 (v := nI (p + 1)) dX5_layFrom_93 (n_add rfl rfl) ?_
        refine wp_goto (tgt := 41) dX5_layFrom_96 (by decide) ?_
        exact ih (p + 1) I2 _ (by omega) (hS.fr hc hfL) hB2 (fun x hx => by rw [hp2 x (by omega), eU_c (by omega)]; exact hpos x hx) (fun I3 q1 q2 q3 => hq I3 q1 (hfL.tr q2) (fun x hx => by rw [q3 x hx, hp2 x (by omega), eU_c (by omega)]))

theorem c_layFrom (d : Nat) {n : Nat} {t : eT} {R : eR} (hst : ST n t R) {c : Nat} (hc : c ≤ 5) {ch : Nat → Nat} {sel : Nat → Bool} (hch : ∀ i, i < c → ch i < 10 ∧ sel (ch i) = true) (hinj : ∀ i i2, i < c → i2 < c → ch i = ch i2 → i = i2) (hsi : ∀ a, a < 10 → sel a = true → ∃ i, i < c ∧ ch i = a) {pull : Nat → Nat → Nat} (hu : ∀ a b, pull a b ≤ 198) {w : Nat} (hw : w ≤ 2) : ∀ (r k : Nat) (pos : Nat → Nat) (paid : Nat) (fr : Nat → Bool) (fv : Int32) (b : BS) (I : eI) (Q : Nat → eT → eI → eR → Prop), k + r = c → SC I c ch pull w → BC I c ch sel b → (∀ x, x < k → I 39 x = nI (pos x) ∧ pos x < 12) → paid = prc pull pos k → (∀ q, q < 12 → bt fv q = fr q) → (∀ I2 : eI, BC I2 c ch sel (vcs pull w r k paid fr pos b) → FrL I I2 → (∀ x, x < k → I2 39 x = I 39 x) → Q n t I2 R) → MC yX5_layFrom cX5_layFrom 5 none (d + r + 3) 0 0 [.ref 35, .int (nI k), .int (nI paid), .int (fv)] n t I R (qV Q) := by
  intro r
  induction r with
  | zero =>
    intro k pos paid fr fv b I Q hkr hS hB hpos hpd hfv hq
    refine mc_intro (L0 := [.ref 35, .int (nI k), .int (nI paid), .int fv, vU]) (by decide) rfl (Nat.le_of_ble_eq_true rfl) ?_
    have hpb := prc_b (pos := pos) hu k (by omega) (fun x hx => (hpos x hx).2)
    have hlb := lrr_b (w := w) hu hw (0) k (by omega)
    have hlk : I 46 k = nI (lrr pull w (0) k) := by have h9 := hS.2.2.2.1 k (by omega); rw [show c - k = 0 by omega] at h9; exact h9
    have hbp : I 35 7 = nI (bpr b) ∧ bpr b < 2 ^ 31 := by
      cases b with
      | none => exact ⟨hB.2, by decide⟩
      | some q => exact ⟨hB.1, by have := hB.2.1; show q.1 < 2 ^ 31; omega⟩
    refine wp_iload_n (i := 1) dX5_layFrom_0 rfl rfl ?_
    refine wp_aload_n (i := 0) dX5_layFrom_1 rfl rfl ?_
    refine wp_getI dX5_layFrom_2 fl_X5_38 rfl (st_k hst rfl) ?_
    refine wp_icmp_gt (tgt := 23) dX5_layFrom_5 (by decide) (fun zq5 => absurd (show I 35 6 < nI k from zq5) (by rw [hS.1]; exact nI_nlt (by omega) (by omega))) (fun zq5 => ?_) 
    refine wp_iload_n (i := 2) dX5_layFrom_8 rfl rfl ?_
    refine wp_aload_n (i := 0) dX5_layFrom_9 rfl rfl ?_
    refine wp_getR dX5_layFrom_10 fl_X5_32 rfl (st_k hst rfl) (st_r hst rfl) ?_
    refine wp_iload_n (i := 1) dX5_layFrom_13 rfl rfl ?_
    refine wp_ild (j := k) dX5_layFrom_14 (st_t hst rfl) rfl (by omega) ?_
    refine wp_iadd dX5_layFrom_15 ?_
    refine wp_topI (v2 := nI (paid + (lrr pull w (0) k))) (n_add rfl hlk) ?_
    refine wp_aload_n (i := 0) dX5_layFrom_16 rfl rfl ?_
    refine wp_getI dX5_layFrom_17 fl_X5_43 rfl (st_k hst rfl) ?_
    refine wp_icmp_lt (tgt := 24) dX5_layFrom_20 (by decide) (fun zq20 => ?_) (fun zq20 => ?_) 
    · have hnp : ¬ bpr b ≤ paid + lrr pull w (0) k := fun g => absurd (show _ < I 35 7 from zq20) (by rw [hbp.1]; exact nI_nlt g (by omega))
      refine wp_iload_n (i := 1) dX5_layFrom_24 rfl rfl ?_
      refine wp_aload_n (i := 0) dX5_layFrom_25 rfl rfl ?_
      refine wp_getI dX5_layFrom_26 fl_X5_38 rfl (st_k hst rfl) ?_
      refine wp_icmp_ne (tgt := 38) dX5_layFrom_29 (by decide) (fun zq29 => absurd (show nI k = I 35 6 by rw [hS.1, show k = c by omega]) zq29) (fun zq29 => ?_) 
      refine wp_aload_n (i := 0) dX5_layFrom_32 rfl rfl ?_
      refine wp_iload_n (i := 2) dX5_layFrom_33 rfl rfl ?_
      refine wp_V1v dX5_layFrom_34 mw_417 mw_419 ms_13 mi_X5_keepAsBest (Nat.le_of_ble_eq_true rfl) (Nat.le_refl _) (Nat.le_refl _) (st_k hst rfl) (by decide) rfl (c_keep _ hst hc hch hinj (pos := pos) (fun x hx => (hpos x (by omega)).2) hsi (show paid ≤ 24750 by omega) ⟨hS.1, hS.2.1, fun i hi => (hpos i (by omega)).1⟩ hB (fun I2 g1 g2 g3 => ?_)) 
      exact wp_retV dX5_layFrom_37 rfl (Nat.le_refl _) (Nat.le_refl _) (by have h9 : vcs pull w 0 k paid fr pos b = some (paid, pos) := if_neg hnp; rw [h9] at hq; exact hq I2 g1 g2 (fun x _ => g3 x))
    · exact wp_retV dX5_layFrom_23 rfl (Nat.le_refl _) (Nat.le_refl _) (by have h9 : vcs pull w (0) k paid fr pos b = b := if_pos (Nat.le_of_not_lt (fun g => zq20 (by show _ < I 35 7; rw [hbp.1]; exact nI_lt g hbp.2))); rw [h9] at hq; exact hq I hB (FrL.rf I) (fun _ _ => rfl))
  | succ r ih =>
    intro k pos paid fr fv b I Q hkr hS hB hpos hpd hfv hq
    refine mc_intro (L0 := [.ref 35, .int (nI k), .int (nI paid), .int fv, vU]) (by decide) rfl (Nat.le_of_ble_eq_true rfl) ?_
    have hpb := prc_b (pos := pos) hu k (by omega) (fun x hx => (hpos x hx).2)
    have hlb := lrr_b (w := w) hu hw (r + 1) k (by omega)
    have hlk : I 46 k = nI (lrr pull w (r + 1) k) := by have h9 := hS.2.2.2.1 k (by omega); rw [show c - k = r + 1 by omega] at h9; exact h9
    have hbp : I 35 7 = nI (bpr b) ∧ bpr b < 2 ^ 31 := by
      cases b with
      | none => exact ⟨hB.2, by decide⟩
      | some q => exact ⟨hB.1, by have := hB.2.1; show q.1 < 2 ^ 31; omega⟩
    refine wp_iload_n (i := 1) dX5_layFrom_0 rfl rfl ?_
    refine wp_aload_n (i := 0) dX5_layFrom_1 rfl rfl ?_
    refine wp_getI dX5_layFrom_2 fl_X5_38 rfl (st_k hst rfl) ?_
    refine wp_icmp_gt (tgt := 23) dX5_layFrom_5 (by decide) (fun zq5 => absurd (show I 35 6 < nI k from zq5) (by rw [hS.1]; exact nI_nlt (by omega) (by omega))) (fun zq5 => ?_) 
    refine wp_iload_n (i := 2) dX5_layFrom_8 rfl rfl ?_
    refine wp_aload_n (i := 0) dX5_layFrom_9 rfl rfl ?_
    refine wp_getR dX5_layFrom_10 fl_X5_32 rfl (st_k hst rfl) (st_r hst rfl) ?_
    refine wp_iload_n (i := 1) dX5_layFrom_13 rfl rfl ?_
    refine wp_ild (j := k) dX5_layFrom_14 (st_t hst rfl) rfl (by omega) ?_
    refine wp_iadd dX5_layFrom_15 ?_
    refine wp_topI (v2 := nI (paid + (lrr pull w (r + 1) k))) (n_add rfl hlk) ?_
    refine wp_aload_n (i := 0) dX5_layFrom_16 rfl rfl ?_
    refine wp_getI dX5_layFrom_17 fl_X5_43 rfl (st_k hst rfl) ?_
    refine wp_icmp_lt (tgt := 24) dX5_layFrom_20 (by decide) (fun zq20 => ?_) (fun zq20 => ?_) 
    · have hnp : ¬ bpr b ≤ paid + lrr pull w (r + 1) k := fun g => absurd (show _ < I 35 7 from zq20) (by rw [hbp.1]; exact nI_nlt g (by omega))
      refine wp_iload_n (i := 1) dX5_layFrom_24 rfl rfl ?_
      refine wp_aload_n (i := 0) dX5_layFrom_25 rfl rfl ?_
      refine wp_getI dX5_layFrom_26 fl_X5_38 rfl (st_k hst rfl) ?_
      refine wp_icmp_ne (tgt := 38) dX5_layFrom_29 (by decide) (fun zq29 => ?_) (fun zq29 => absurd (show nI k = I 35 6 from zq29) (by rw [hS.1]; exact fun g => by have := (nI_eq (by omega) (by omega)).mp g; omega)) 
      refine wp_iconst (v := 0) dX5_layFrom_38 (by decide) ?_
      refine wp_istore_5_4 dX5_layFrom_39 rfl ?_
      have h9 : vcs pull w (r + 1) k paid fr pos b = vlp (fun pl b2 => vcs pull w r (k + 1) (paid + inc pull k pos pl k) (fun q => fr q && !decide (apN pl q ≤ w)) (eG pos k pl) b2) fr 12 b := if_neg hnp
      rw [h9] at hq
      exact lp_lf d r hst hc hch hinj hsi hu hw (show k < c by omega) hpd hfv (fun pos2 paid2 fr2 fv2 b2 I2 Q2 a1 a2 a3 a4 a5 a6 => ih (k + 1) pos2 paid2 fr2 fv2 b2 I2 Q2 (by omega) a1 a2 a3 a4 a5 a6) 12 0 I b rfl hS hB hpos hq
    · exact wp_retV dX5_layFrom_23 rfl (Nat.le_refl _) (Nat.le_refl _) (by have h9 : vcs pull w (r + 1) k paid fr pos b = b := if_pos (Nat.le_of_not_lt (fun g => zq20 (by show _ < I 35 7; rw [hbp.1]; exact nI_lt g hbp.2))); rw [h9] at hq; exact hq I hB (FrL.rf I) (fun _ _ => rfl))

