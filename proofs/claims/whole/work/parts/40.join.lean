def oI : Option Nat → Int32
  | none => -9
  | some b => nI b
/-- the class's nodes, the reference's -/
def RWc (I : eI) (s : WS) : Prop := I 48 3 = nI s.1 ∧ ∀ i, i < s.1 → I 49 i = nI (s.2.1 i) ∧ (s.2.2 i = none → I 50 i = -1) ∧ ∀ p, s.2.2 i = some p → I 50 i = nI p
def RWm (I : eI) (s : WS) : Prop := I 94 22 = nI s.1 ∧ ∀ i, i < s.1 → I 111 i = nI (s.2.1 i) ∧ (s.2.2 i = none → I 112 i = -9) ∧ ∀ p, s.2.2 i = some p → I 112 i = nI p
def FrW (I I2 : eI) : Prop := (∀ a, a ≠ 48 → a ≠ 49 → a ≠ 50 → I2 a = I a) ∧ ∀ f, f ≠ 3 → I2 48 f = I 48 f
def FrX (I I2 : eI) : Prop := (∀ a, a ≠ 94 → a ≠ 111 → a ≠ 112 → I2 a = I a) ∧ ∀ f, f ≠ 22 → I2 94 f = I 94 f
theorem FrW.rf (I : eI) : FrW I I := ⟨fun _ _ _ _ => rfl, fun _ _ => rfl⟩
theorem FrX.rf (I : eI) : FrX I I := ⟨fun _ _ _ _ => rfl, fun _ _ => rfl⟩
theorem FrW.tr {I I2 I3 : eI} (h : FrW I I2) (h2 : FrW I2 I3) : FrW I I3 := ⟨fun a a1 a2 a3 => (h2.1 a a1 a2 a3).trans (h.1 a a1 a2 a3), fun f hf => (h2.2 f hf).trans (h.2 f hf)⟩
theorem FrX.tr {I I2 I3 : eI} (h : FrX I I2) (h2 : FrX I2 I3) : FrX I I3 := ⟨fun a a1 a2 a3 => (h2.1 a a1 a2 a3).trans (h.1 a a1 a2 a3), fun f hf => (h2.2 f hf).trans (h.2 f hf)⟩
theorem nI_m1 (a : Nat) (h : a < 1000) : ¬ nI a = -1 := fun g => by
  have e := congrArg Int32.toInt g
  rw [nI_toInt (by omega)] at e
  have e2 : (-1 : Int32).toInt = -1 := by decide
  omega
theorem lp_leastc (d : Nat) {n : Nat} {t : eT} {I : eI} {R : eR} {Q : eQt} (hst : ST n t R) {s : WS} (hN : s.1 ≤ 20) (hB : ∀ i, i < s.1 → s.2.1 i ≤ 9990) (hP : ∀ i p, i < s.1 → s.2.2 i = some p → p < 1000) (hR : RWc I s) : ∀ (r k : Nat), k + r = s.1 → wp yX1_leastOpenNode cX1_leastOpenNode 3 (some .int) d 0 0 Q 0 0 52 [.ref 48, .int (oI (lst s.2.1 s.2.2 s.1)), .int (nI s.1)] [] n t I R → wp yX1_leastOpenNode cX1_leastOpenNode 3 (some .int) d 0 0 Q 0 0 5 [.ref 48, .int (oI (lst s.2.1 s.2.2 k)), .int (nI k)] [] n t I R := by
  intro r
  induction r with
  | zero =>
    intro k hk hq
    obtain rfl : k = s.1 := by omega
    refine wp_iload_n (i := 2) dX1_leastOpenNode_5 rfl rfl ?_
    refine wp_aload_n (i := 0) dX1_leastOpenNode_6 rfl rfl ?_
    refine wp_getI dX1_leastOpenNode_7 fl_X1_21 rfl (st_k hst rfl) ?_
    refine wp_icmp_ge (tgt := 52) dX1_leastOpenNode_10 (by decide) (fun zq10 => ?_) (fun zq10 => absurd (by rw [hR.1]; exact nI_le (Nat.le_refl _) (by omega)) zq10) 
    exact hq
  | succ r ih =>
    intro k hkr hq
    have hk := hR.2 k (by omega)
    cases hM : s.2.2 k with
    | some p =>
      have e9 := lst_c (W := s.2.1) hM
      refine wp_iload_n (i := 2) dX1_leastOpenNode_5 rfl rfl ?_
      refine wp_aload_n (i := 0) dX1_leastOpenNode_6 rfl rfl ?_
      refine wp_getI dX1_leastOpenNode_7 fl_X1_21 rfl (st_k hst rfl) ?_
      refine wp_icmp_ge (tgt := 52) dX1_leastOpenNode_10 (by decide) (fun zq10 => absurd (show I 48 3 ≤ nI k from zq10) (by rw [hR.1]; exact nI_ge (show k < s.1 by omega) (by omega))) (fun zq10 => ?_) 
      refine wp_aload_n (i := 0) dX1_leastOpenNode_13 rfl rfl ?_
      refine wp_getR dX1_leastOpenNode_14 fl_X1_15 rfl (st_k hst rfl) (st_r hst rfl) ?_
      refine wp_iload_n (i := 2) dX1_leastOpenNode_17 rfl rfl ?_
      refine wp_ild (j := k) dX1_leastOpenNode_18 (st_t hst rfl) rfl (by omega) ?_
      refine wp_iconst (v := (-1)) dX1_leastOpenNode_19 (by decide) ?_
      refine wp_icmp_ne (tgt := 46) dX1_leastOpenNode_20 (by decide) (fun zq20 => ?_) (fun zq20 => absurd ((hk.2.2 p hM).symm.trans zq20) (nI_m1 p (hP k p (by omega) hM))) 
      refine wp_iinc_3_2 (v := nI (k + 1)) dX1_leastOpenNode_46 (n_add rfl rfl) ?_
      refine wp_goto (tgt := 5) dX1_leastOpenNode_49 (by decide) ?_
      have ih2 := ih (k + 1) (by omega) hq
      rw [e9] at ih2
      exact ih2
    | none =>
      cases hl : lst s.2.1 s.2.2 k with
      | none =>
        have e9 := lst_f hM hl
        refine wp_iload_n (i := 2) dX1_leastOpenNode_5 rfl rfl ?_
        refine wp_aload_n (i := 0) dX1_leastOpenNode_6 rfl rfl ?_
        refine wp_getI dX1_leastOpenNode_7 fl_X1_21 rfl (st_k hst rfl) ?_
        refine wp_icmp_ge (tgt := 52) dX1_leastOpenNode_10 (by decide) (fun zq10 => absurd (show I 48 3 ≤ nI k from zq10) (by rw [hR.1]; exact nI_ge (show k < s.1 by omega) (by omega))) (fun zq10 => ?_) 
        refine wp_aload_n (i := 0) dX1_leastOpenNode_13 rfl rfl ?_
        refine wp_getR dX1_leastOpenNode_14 fl_X1_15 rfl (st_k hst rfl) (st_r hst rfl) ?_
        refine wp_iload_n (i := 2) dX1_leastOpenNode_17 rfl rfl ?_
        refine wp_ild (j := k) dX1_leastOpenNode_18 (st_t hst rfl) rfl (by omega) ?_
        refine wp_iconst (v := (-1)) dX1_leastOpenNode_19 (by decide) ?_
        refine wp_icmp_ne (tgt := 46) dX1_leastOpenNode_20 (by decide) (fun zq20 => absurd (hk.2.1 hM) zq20) (fun zq20 => ?_) 
        refine wp_iload_n (i := 1) dX1_leastOpenNode_23 rfl rfl ?_
        refine wp_bipush (v := (-9)) dX1_leastOpenNode_24 (by decide) ?_
        refine wp_icmp_eq (tgt := 44) dX1_leastOpenNode_26 (by decide) (fun zq26 => ?_) (fun zq26 => absurd rfl zq26) 
        refine wp_iload_n (i := 2) dX1_leastOpenNode_44 rfl rfl ?_
        refine wp_istore_3_1 dX1_leastOpenNode_45 rfl ?_
        refine wp_iinc_3_2 (v := nI (k + 1)) dX1_leastOpenNode_46 (n_add rfl rfl) ?_
        refine wp_goto (tgt := 5) dX1_leastOpenNode_49 (by decide) ?_
        have ih2 := ih (k + 1) (by omega) hq
        rw [e9] at ih2
        exact ih2
      | some b =>
        have hbk := (lst_s hl).1
        refine wp_iload_n (i := 2) dX1_leastOpenNode_5 rfl rfl ?_
        refine wp_aload_n (i := 0) dX1_leastOpenNode_6 rfl rfl ?_
        refine wp_getI dX1_leastOpenNode_7 fl_X1_21 rfl (st_k hst rfl) ?_
        refine wp_icmp_ge (tgt := 52) dX1_leastOpenNode_10 (by decide) (fun zq10 => absurd (show I 48 3 ≤ nI k from zq10) (by rw [hR.1]; exact nI_ge (show k < s.1 by omega) (by omega))) (fun zq10 => ?_) 
        refine wp_aload_n (i := 0) dX1_leastOpenNode_13 rfl rfl ?_
        refine wp_getR dX1_leastOpenNode_14 fl_X1_15 rfl (st_k hst rfl) (st_r hst rfl) ?_
        refine wp_iload_n (i := 2) dX1_leastOpenNode_17 rfl rfl ?_
        refine wp_ild (j := k) dX1_leastOpenNode_18 (st_t hst rfl) rfl (by omega) ?_
        refine wp_iconst (v := (-1)) dX1_leastOpenNode_19 (by decide) ?_
        refine wp_icmp_ne (tgt := 46) dX1_leastOpenNode_20 (by decide) (fun zq20 => absurd (hk.2.1 hM) zq20) (fun zq20 => ?_) 
        refine wp_iload_n (i := 1) dX1_leastOpenNode_23 rfl rfl ?_
        refine wp_bipush (v := (-9)) dX1_leastOpenNode_24 (by decide) ?_
        refine wp_icmp_eq (tgt := 44) dX1_leastOpenNode_26 (by decide) (fun zq26 => absurd zq26 (nI_m9 b (by omega))) (fun zq26 => ?_) 
        refine wp_aload_n (i := 0) dX1_leastOpenNode_29 rfl rfl ?_
        refine wp_getR dX1_leastOpenNode_30 fl_X1_11 rfl (st_k hst rfl) (st_r hst rfl) ?_
        refine wp_iload_n (i := 2) dX1_leastOpenNode_33 rfl rfl ?_
        refine wp_ild (j := k) dX1_leastOpenNode_34 (st_t hst rfl) rfl (by omega) ?_
        refine wp_aload_n (i := 0) dX1_leastOpenNode_35 rfl rfl ?_
        refine wp_getR dX1_leastOpenNode_36 fl_X1_11 rfl (st_k hst rfl) (st_r hst rfl) ?_
        refine wp_iload_n (i := 1) dX1_leastOpenNode_39 rfl rfl ?_
        refine wp_ild (j := b) dX1_leastOpenNode_40 (st_t hst rfl) rfl (by omega) ?_
        refine wp_icmp_ge (tgt := 46) dX1_leastOpenNode_41 (by decide) (fun zq41 => ?_) (fun zq41 => ?_) 
        · refine wp_iinc_3_2 (v := nI (k + 1)) dX1_leastOpenNode_46 (n_add rfl rfl) ?_
          refine wp_goto (tgt := 5) dX1_leastOpenNode_49 (by decide) ?_
          have e9 := lst_k hl (show ¬ s.2.1 k < s.2.1 b by
            intro g
            rw [hk.1, (hR.2 b (by omega)).1] at zq41
            exact absurd zq41 (nI_ge g (by have := hB b (by omega); omega)))
          have ih2 := ih (k + 1) (by omega) hq
          rw [e9] at ih2
          exact ih2
        · refine wp_iload_n (i := 2) dX1_leastOpenNode_44 rfl rfl ?_
          refine wp_istore_3_1 dX1_leastOpenNode_45 rfl ?_
          refine wp_iinc_3_2 (v := nI (k + 1)) dX1_leastOpenNode_46 (n_add rfl rfl) ?_
          refine wp_goto (tgt := 5) dX1_leastOpenNode_49 (by decide) ?_
          have e9 := lst_l hM hl (show s.2.1 k < s.2.1 b by
            rw [hk.1, (hR.2 b (by omega)).1] at zq41
            exact Nat.lt_of_not_le (fun g => zq41 (nI_le g (by have := hB k (by omega); omega))))
          have ih2 := ih (k + 1) (by omega) hq
          rw [e9] at ih2
          exact ih2

theorem c_leastOpen (d : Nat) {n : Nat} {t : eT} {I : eI} {R : eR} {Q : Int32 → Nat → eT → eI → eR → Prop} (hst : ST n t R) {s : WS} (hN : s.1 ≤ 20) (hB : ∀ i, i < s.1 → s.2.1 i ≤ 9990) (hP : ∀ i p, i < s.1 → s.2.2 i = some p → p < 1000) (hR : RWc I s) (hq : Q (oI (lst s.2.1 s.2.2 s.1)) n t I R) : MC yX1_leastOpenNode cX1_leastOpenNode 3 (some .int) d 0 0 [.ref 48] n t I R (qI Q) := by
  refine mc_intro (L0 := [.ref 48, vU, vU]) (by decide) rfl (Nat.le_of_ble_eq_true rfl) ?_
  refine wp_bipush (v := (-9)) dX1_leastOpenNode_0 (by decide) ?_
  refine wp_istore_3_1 dX1_leastOpenNode_2 rfl ?_
  refine wp_iconst (v := 0) dX1_leastOpenNode_3 (by decide) ?_
  refine wp_istore_3_2 dX1_leastOpenNode_4 rfl ?_
  refine lp_leastc d hst hN hB hP hR s.1 0 (by omega) ?_
  refine wp_iload_n (i := 1) dX1_leastOpenNode_52 rfl rfl ?_
  exact wp_retI dX1_leastOpenNode_53 rfl (Nat.le_refl _) (Nat.le_refl _) hq

theorem lp_leastm (d : Nat) {n : Nat} {t : eT} {I : eI} {R : eR} {Q : eQt} (hst : ST n t R) {s : WS} (hN : s.1 ≤ 20) (hB : ∀ i, i < s.1 → s.2.1 i ≤ 9990) (hP : ∀ i p, i < s.1 → s.2.2 i = some p → p < 1000) (hR : RWm I s) : ∀ (r k : Nat), k + r = s.1 → wp yX8_leastNode cX8_leastNode 3 (some .int) d 0 0 Q 0 0 53 [.ref 94, .int (oI (lst s.2.1 s.2.2 s.1)), .int (nI s.1)] [] n t I R → wp yX8_leastNode cX8_leastNode 3 (some .int) d 0 0 Q 0 0 5 [.ref 94, .int (oI (lst s.2.1 s.2.2 k)), .int (nI k)] [] n t I R := by
  intro r
  induction r with
  | zero =>
    intro k hk hq
    obtain rfl : k = s.1 := by omega
    refine wp_iload_n (i := 2) dX8_leastNode_5 rfl rfl ?_
    refine wp_aload_n (i := 0) dX8_leastNode_6 rfl rfl ?_
    refine wp_getI dX8_leastNode_7 fl_X8_249 rfl (st_k hst rfl) ?_
    refine wp_icmp_ge (tgt := 53) dX8_leastNode_10 (by decide) (fun zq10 => ?_) (fun zq10 => absurd (by rw [hR.1]; exact nI_le (Nat.le_refl _) (by omega)) zq10) 
    exact hq
  | succ r ih =>
    intro k hkr hq
    have hk := hR.2 k (by omega)
    cases hM : s.2.2 k with
    | some p =>
      have e9 := lst_c (W := s.2.1) hM
      refine wp_iload_n (i := 2) dX8_leastNode_5 rfl rfl ?_
      refine wp_aload_n (i := 0) dX8_leastNode_6 rfl rfl ?_
      refine wp_getI dX8_leastNode_7 fl_X8_249 rfl (st_k hst rfl) ?_
      refine wp_icmp_ge (tgt := 53) dX8_leastNode_10 (by decide) (fun zq10 => absurd (show I 94 22 ≤ nI k from zq10) (by rw [hR.1]; exact nI_ge (show k < s.1 by omega) (by omega))) (fun zq10 => ?_) 
      refine wp_aload_n (i := 0) dX8_leastNode_13 rfl rfl ?_
      refine wp_getR dX8_leastNode_14 fl_X8_62 rfl (st_k hst rfl) (st_r hst rfl) ?_
      refine wp_iload_n (i := 2) dX8_leastNode_17 rfl rfl ?_
      refine wp_ild (j := k) dX8_leastNode_18 (st_t hst rfl) rfl (by omega) ?_
      refine wp_if_ge (tgt := 45) dX8_leastNode_19 (by decide) (fun zq19 => ?_) (fun zq19 => absurd (show (0 : Int32) ≤ I 112 k by rw [hk.2.2 p hM]; exact nI_pos' (by have := hP k p (by omega) hM; omega)) zq19) 
      refine wp_iload_n (i := 1) dX8_leastNode_45 rfl rfl ?_
      refine wp_istore_3_1 dX8_leastNode_46 rfl ?_
      refine wp_iinc_3_2 (v := nI (k + 1)) dX8_leastNode_47 (n_add rfl rfl) ?_
      refine wp_goto (tgt := 5) dX8_leastNode_50 (by decide) ?_
      have ih2 := ih (k + 1) (by omega) hq
      rw [e9] at ih2
      exact ih2
    | none =>
      cases hl : lst s.2.1 s.2.2 k with
      | none =>
        have e9 := lst_f hM hl
        refine wp_iload_n (i := 2) dX8_leastNode_5 rfl rfl ?_
        refine wp_aload_n (i := 0) dX8_leastNode_6 rfl rfl ?_
        refine wp_getI dX8_leastNode_7 fl_X8_249 rfl (st_k hst rfl) ?_
        refine wp_icmp_ge (tgt := 53) dX8_leastNode_10 (by decide) (fun zq10 => absurd (show I 94 22 ≤ nI k from zq10) (by rw [hR.1]; exact nI_ge (show k < s.1 by omega) (by omega))) (fun zq10 => ?_) 
        refine wp_aload_n (i := 0) dX8_leastNode_13 rfl rfl ?_
        refine wp_getR dX8_leastNode_14 fl_X8_62 rfl (st_k hst rfl) (st_r hst rfl) ?_
        refine wp_iload_n (i := 2) dX8_leastNode_17 rfl rfl ?_
        refine wp_ild (j := k) dX8_leastNode_18 (st_t hst rfl) rfl (by omega) ?_
        refine wp_if_ge (tgt := 45) dX8_leastNode_19 (by decide) (fun zq19 => absurd (show (0 : Int32) ≤ I 112 k from zq19) (by rw [hk.2.1 hM]; decide)) (fun zq19 => ?_) 
        refine wp_iload_n (i := 1) dX8_leastNode_22 rfl rfl ?_
        refine wp_if_lt (tgt := 41) dX8_leastNode_23 (by decide) (fun zq23 => ?_) (fun zq23 => absurd (show oI none < 0 by decide) zq23) 
        refine wp_iload_n (i := 2) dX8_leastNode_41 rfl rfl ?_
        refine wp_goto (tgt := 46) dX8_leastNode_42 (by decide) ?_
        refine wp_istore_3_1 dX8_leastNode_46 rfl ?_
        refine wp_iinc_3_2 (v := nI (k + 1)) dX8_leastNode_47 (n_add rfl rfl) ?_
        refine wp_goto (tgt := 5) dX8_leastNode_50 (by decide) ?_
        have ih2 := ih (k + 1) (by omega) hq
        rw [e9] at ih2
        exact ih2
      | some b =>
        have hbk := (lst_s hl).1
        refine wp_iload_n (i := 2) dX8_leastNode_5 rfl rfl ?_
        refine wp_aload_n (i := 0) dX8_leastNode_6 rfl rfl ?_
        refine wp_getI dX8_leastNode_7 fl_X8_249 rfl (st_k hst rfl) ?_
        refine wp_icmp_ge (tgt := 53) dX8_leastNode_10 (by decide) (fun zq10 => absurd (show I 94 22 ≤ nI k from zq10) (by rw [hR.1]; exact nI_ge (show k < s.1 by omega) (by omega))) (fun zq10 => ?_) 
        refine wp_aload_n (i := 0) dX8_leastNode_13 rfl rfl ?_
        refine wp_getR dX8_leastNode_14 fl_X8_62 rfl (st_k hst rfl) (st_r hst rfl) ?_
        refine wp_iload_n (i := 2) dX8_leastNode_17 rfl rfl ?_
        refine wp_ild (j := k) dX8_leastNode_18 (st_t hst rfl) rfl (by omega) ?_
        refine wp_if_ge (tgt := 45) dX8_leastNode_19 (by decide) (fun zq19 => absurd (show (0 : Int32) ≤ I 112 k from zq19) (by rw [hk.2.1 hM]; decide)) (fun zq19 => ?_) 
        refine wp_iload_n (i := 1) dX8_leastNode_22 rfl rfl ?_
        refine wp_if_lt (tgt := 41) dX8_leastNode_23 (by decide) (fun zq23 => absurd zq23 (nI_pos (by omega))) (fun zq23 => ?_) 
        refine wp_aload_n (i := 0) dX8_leastNode_26 rfl rfl ?_
        refine wp_getR dX8_leastNode_27 fl_X8_59 rfl (st_k hst rfl) (st_r hst rfl) ?_
        refine wp_iload_n (i := 2) dX8_leastNode_30 rfl rfl ?_
        refine wp_ild (j := k) dX8_leastNode_31 (st_t hst rfl) rfl (by omega) ?_
        refine wp_aload_n (i := 0) dX8_leastNode_32 rfl rfl ?_
        refine wp_getR dX8_leastNode_33 fl_X8_59 rfl (st_k hst rfl) (st_r hst rfl) ?_
        refine wp_iload_n (i := 1) dX8_leastNode_36 rfl rfl ?_
        refine wp_ild (j := b) dX8_leastNode_37 (st_t hst rfl) rfl (by omega) ?_
        refine wp_icmp_ge (tgt := 45) dX8_leastNode_38 (by decide) (fun zq38 => ?_) (fun zq38 => ?_) 
        · refine wp_iload_n (i := 1) dX8_leastNode_45 rfl rfl ?_
          refine wp_istore_3_1 dX8_leastNode_46 rfl ?_
          refine wp_iinc_3_2 (v := nI (k + 1)) dX8_leastNode_47 (n_add rfl rfl) ?_
          refine wp_goto (tgt := 5) dX8_leastNode_50 (by decide) ?_
          have e9 := lst_k hl (show ¬ s.2.1 k < s.2.1 b by
            intro g
            rw [hk.1, (hR.2 b (by omega)).1] at zq38
            exact absurd zq38 (nI_ge g (by have := hB b (by omega); omega)))
          have ih2 := ih (k + 1) (by omega) hq
          rw [e9] at ih2
          exact ih2
        · refine wp_iload_n (i := 2) dX8_leastNode_41 rfl rfl ?_
          refine wp_goto (tgt := 46) dX8_leastNode_42 (by decide) ?_
          refine wp_istore_3_1 dX8_leastNode_46 rfl ?_
          refine wp_iinc_3_2 (v := nI (k + 1)) dX8_leastNode_47 (n_add rfl rfl) ?_
          refine wp_goto (tgt := 5) dX8_leastNode_50 (by decide) ?_
          have e9 := lst_l hM hl (show s.2.1 k < s.2.1 b by
            rw [hk.1, (hR.2 b (by omega)).1] at zq38
            exact Nat.lt_of_not_le (fun g => zq38 (nI_le g (by have := hB k (by omega); omega))))
          have ih2 := ih (k + 1) (by omega) hq
          rw [e9] at ih2
          exact ih2

theorem c_leastNode (d : Nat) {n : Nat} {t : eT} {I : eI} {R : eR} {Q : Int32 → Nat → eT → eI → eR → Prop} (hst : ST n t R) {s : WS} (hN : s.1 ≤ 20) (hB : ∀ i, i < s.1 → s.2.1 i ≤ 9990) (hP : ∀ i p, i < s.1 → s.2.2 i = some p → p < 1000) (hR : RWm I s) (hq : Q (oI (lst s.2.1 s.2.2 s.1)) n t I R) : MC yX8_leastNode cX8_leastNode 3 (some .int) d 0 0 [.ref 94] n t I R (qI Q) := by
  refine mc_intro (L0 := [.ref 94, vU, vU]) (by decide) rfl (Nat.le_of_ble_eq_true rfl) ?_
  refine wp_bipush (v := (-9)) dX8_leastNode_0 (by decide) ?_
  refine wp_istore_3_1 dX8_leastNode_2 rfl ?_
  refine wp_iconst (v := 0) dX8_leastNode_3 (by decide) ?_
  refine wp_istore_3_2 dX8_leastNode_4 rfl ?_
  refine lp_leastm d hst hN hB hP hR s.1 0 (by omega) ?_
  refine wp_iload_n (i := 1) dX8_leastNode_53 rfl rfl ?_
  exact wp_retI dX8_leastNode_54 rfl (Nat.le_refl _) (Nat.le_refl _) hq

theorem c_addNode (d : Nat) {n : Nat} {t : eT} {I : eI} {R : eR} {Q : Nat → eT → eI → eR → Prop} (hst : ST n t R) {N : Nat} (hN : I 48 3 = nI N) (hN2 : N < 20) {v : Int32} (hq : Q n t (eU (eU (eU I 49 N v) 50 N (-1)) 48 3 (nI (N + 1))) R) : MC yX1_addNode cX1_addNode 2 none d 0 0 [.ref 48, .int v] n t I R (qV Q) := by
  refine mc_intro (L0 := [.ref 48, .int v]) (by decide) rfl (Nat.le_of_ble_eq_true rfl) ?_
  refine wp_aload_n (i := 0) dX1_addNode_0 rfl rfl ?_
  refine wp_getI dX1_addNode_1 fl_X1_21 rfl (st_k hst rfl) ?_
  refine wp_bipush (v := 20) dX1_addNode_4 (by decide) ?_
  refine wp_icmp_ge (tgt := 39) dX1_addNode_6 (by decide) (fun zq6 => absurd (show nI 20 ≤ I 48 3 from zq6) (by rw [hN]; exact nI_ge hN2 (by decide))) (fun zq6 => ?_) 
  refine wp_aload_n (i := 0) dX1_addNode_9 rfl rfl ?_
  refine wp_getR dX1_addNode_10 fl_X1_11 rfl (st_k hst rfl) (st_r hst rfl) ?_
  refine wp_aload_n (i := 0) dX1_addNode_13 rfl rfl ?_
  refine wp_getI dX1_addNode_14 fl_X1_21 rfl (st_k hst rfl) ?_
  refine wp_iload_n (i := 1) dX1_addNode_17 rfl rfl ?_
  refine wp_ist (j := N) dX1_addNode_18 (st_t hst rfl) hN (by omega) ?_
  refine wp_aload_n (i := 0) dX1_addNode_19 rfl rfl ?_
  refine wp_getR dX1_addNode_20 fl_X1_15 rfl (st_k hst rfl) (st_r hst rfl) ?_
  refine wp_aload_n (i := 0) dX1_addNode_23 rfl rfl ?_
  refine wp_getI dX1_addNode_24 fl_X1_21 rfl (st_k hst rfl) ?_
  refine wp_iconst (v := (-1)) dX1_addNode_27 (by decide) ?_
  refine wp_ist (j := N) dX1_addNode_28 (st_t hst rfl) hN (by omega) ?_
  refine wp_aload_n (i := 0) dX1_addNode_29 rfl rfl ?_
  refine wp_dup dX1_addNode_30 rfl ?_
  refine wp_getI dX1_addNode_31 fl_X1_21 rfl (st_k hst rfl) ?_
  refine wp_iconst (v := 1) dX1_addNode_34 (by decide) ?_
  refine wp_iadd dX1_addNode_35 ?_
  refine wp_topI (v2 := nI (N + 1)) (n_add hN rfl) ?_
  refine wp_putI dX1_addNode_36 fl_X1_21 rfl (Or.inl rfl) (st_k hst rfl) ?_
  exact wp_retV dX1_addNode_39 rfl (Nat.le_refl _) (Nat.le_refl _) hq

theorem jl_s {s : WS} {i b : Nat} (h : lst s.2.1 (jl s i).1 s.1 = some b) : jl s (i + 1) = (eG (jl s i).1 b (some s.1), (jl s i).2 + s.2.1 b) := by
  show (match lst s.2.1 (jl s i).1 s.1 with | none => jl s i | some b => (eG (jl s i).1 b (some s.1), (jl s i).2 + s.2.1 b)) = _
  rw [h]
theorem RWc.put {I : eI} {s : WS} {M : Nat → Option Nat} {b : Nat} (h : RWc I (s.1, s.2.1, M)) (hb : b < s.1) : RWc (eU I 50 b (nI s.1)) (s.1, s.2.1, eG M b (some s.1)) := by
  refine ⟨h.1, fun i hi => ⟨(h.2 i hi).1, fun g => ?_, fun p g => ?_⟩⟩
  · have g2 : eG M b (some s.1) i = none := g
    by_cases e : i = b
    · subst e; rw [eG_eq] at g2; cases g2
    · rw [eG_ne e] at g2; rw [eU_c e]; exact (h.2 i hi).2.1 g2
  · have g2 : eG M b (some s.1) i = some p := g
    by_cases e : i = b
    · subst e; rw [eG_eq] at g2; cases g2; rw [eU_at]
    · rw [eG_ne e] at g2; rw [eU_c e]; exact (h.2 i hi).2.2 p g2
theorem RWm.put {I : eI} {s : WS} {M : Nat → Option Nat} {b : Nat} (h : RWm I (s.1, s.2.1, M)) (hb : b < s.1) : RWm (eU I 112 b (nI s.1)) (s.1, s.2.1, eG M b (some s.1)) := by
  refine ⟨h.1, fun i hi => ⟨(h.2 i hi).1, fun g => ?_, fun p g => ?_⟩⟩
  · have g2 : eG M b (some s.1) i = none := g
    by_cases e : i = b
    · subst e; rw [eG_eq] at g2; cases g2
    · rw [eG_ne e] at g2; rw [eU_c e]; exact (h.2 i hi).2.1 g2
  · have g2 : eG M b (some s.1) i = some p := g
    by_cases e : i = b
    · subst e; rw [eG_eq] at g2; cases g2; rw [eU_at]
    · rw [eG_ne e] at g2; rw [eU_c e]; exact (h.2 i hi).2.2 p g2
theorem RWc.add {I : eI} {N : Nat} {W : Nat → Nat} {M : Nat → Option Nat} {v : Nat} (h : RWc I (N, W, M)) : RWc (eU (eU (eU I 49 N (nI v)) 50 N (-1)) 48 3 (nI (N + 1))) (N + 1, eG W N v, eG M N none) := by
  refine ⟨rfl, fun i hi => ?_⟩
  show (eU I 49 N (nI v)) 49 i = nI (eG W N v i) ∧ (eG M N none i = none → (eU (eU I 49 N (nI v)) 50 N (-1)) 50 i = -1) ∧ ∀ p, eG M N none i = some p → (eU (eU I 49 N (nI v)) 50 N (-1)) 50 i = nI p
  by_cases e : i = N
  · subst e
    rw [eG_eq, eG_eq, eU_at, eU_at]
    exact ⟨rfl, fun _ => rfl, fun p g => by cases g⟩
  · have hi2 : i < N + 1 := hi
    rw [eG_ne e, eG_ne e, eU_c e, eU_c e, eU_o (show (50 : Nat) ≠ 49 by decide)]
    exact h.2 i (show i < N by omega)
theorem RWm.add {I : eI} {N : Nat} {W : Nat → Nat} {M : Nat → Option Nat} {v : Nat} (h : RWm I (N, W, M)) : RWm (eU (eU (eU I 111 N (nI v)) 112 N (-9)) 94 22 (nI (N + 1))) (N + 1, eG W N v, eG M N none) := by
  refine ⟨rfl, fun i hi => ?_⟩
  show (eU I 111 N (nI v)) 111 i = nI (eG W N v i) ∧ (eG M N none i = none → (eU (eU I 111 N (nI v)) 112 N (-9)) 112 i = -9) ∧ ∀ p, eG M N none i = some p → (eU (eU I 111 N (nI v)) 112 N (-9)) 112 i = nI p
  by_cases e : i = N
  · subst e
    rw [eG_eq, eG_eq, eU_at, eU_at]
    exact ⟨rfl, fun _ => rfl, fun p g => by cases g⟩
  · have hi2 : i < N + 1 := hi
    rw [eG_ne e, eG_ne e, eU_c e, eU_c e, eU_o (show (112 : Nat) ≠ 111 by decide)]
    exact h.2 i (show i < N by omega)
theorem jl_P {s : WS} {i : Nat} (hs : OKW s) (hN : s.1 ≤ 20) (hi : i ≤ opn s) : ∀ k p, k < s.1 → (jl s i).1 k = some p → p < 1000 := by
  intro k p hk hp
  rcases (jl_i (s := s) i hi).2.2 k p hk hp with g | g
  · have := hs.1 k p hk g; omega
  · omega

theorem lp_joinc (d : Nat) {n : Nat} {t : eT} {R : eR} {Q : eQt} (hst : ST n t R) {s : WS} (hs : OKW s) (hN : s.1 < 20) {hh : Nat} (hho : hh ≤ opn s) (hh10 : hh ≤ 1000) : ∀ (r i : Nat) (I : eI) (x5 : Value), i + r = hh → RWc I (s.1, s.2.1, (jl s i).1) → sec x5 = false → (∀ (I2 : eI) (y5 : Value), RWc I2 (s.1, s.2.1, (jl s hh).1) → (∀ a, a ≠ 50 → I2 a = I a) → wp yX1_joinLeast cX1_joinLeast 6 none (d + 1) 0 0 Q 0 0 53 [.ref 48, .int (nI hh), .int (nI s.1), .int (nI (jl s hh).2), .int (nI hh), y5] [] n t I2 R) → wp yX1_joinLeast cX1_joinLeast 6 none (d + 1) 0 0 Q 0 0 10 [.ref 48, .int (nI hh), .int (nI s.1), .int (nI (jl s i).2), .int (nI i), x5] [] n t I R := by
  intro r
  induction r with
  | zero =>
    intro i I x5 hi hR hx5 hq
    obtain rfl : i = hh := by omega
    refine wp_iload dX1_joinLeast_10 rfl ?_
    refine wp_iload_n (i := 1) dX1_joinLeast_12 rfl rfl ?_
    refine wp_icmp_ge (tgt := 53) dX1_joinLeast_13 (by decide) (fun zq13 => ?_) (fun zq13 => absurd (nI_le (Nat.le_refl _) (by omega)) zq13) 
    exact hq I x5 hR (fun _ _ => rfl)
  | succ r ih =>
    intro i I x5 hi hR hx5 hq
    refine wp_iload dX1_joinLeast_10 rfl ?_
    refine wp_iload_n (i := 1) dX1_joinLeast_12 rfl rfl ?_
    refine wp_icmp_ge (tgt := 53) dX1_joinLeast_13 (by decide) (fun zq13 => absurd zq13 (nI_ge (show i < hh by omega) (by omega))) (fun zq13 => ?_) 
    refine wp_aload_n (i := 0) dX1_joinLeast_16 rfl rfl ?_
    refine wp_V0i dX1_joinLeast_17 mw_525 mw_527 ms_17 mi_X1_leastOpenNode (Nat.le_of_ble_eq_true rfl) (Nat.le_refl _) (Nat.le_refl _) (st_k hst rfl) (by decide) rfl (c_leastOpen _ hst (s := (s.1, s.2.1, (jl s i).1)) (show s.1 ≤ 20 by omega) hs.2.2 (jl_P hs (by omega) (show i ≤ opn s by omega)) hR ?_) 
    obtain ⟨b, hl⟩ := jl_some (s := s) (i := i) (by omega)
    have hbk := lst_s hl
    have e9 := jl_s hl
    have hl2 : lst ((s.1, s.2.1, (jl s i).1) : WS).2.1 ((s.1, s.2.1, (jl s i).1) : WS).2.2 ((s.1, s.2.1, (jl s i).1) : WS).1 = some b := hl
    rw [hl2]
    refine wp_istore_6_5 dX1_joinLeast_20 (by first | rfl | assumption) ?_
    refine wp_iload dX1_joinLeast_22 rfl ?_
    refine wp_bipush (v := (-9)) dX1_joinLeast_24 (by decide) ?_
    refine wp_icmp_eq (tgt := 47) dX1_joinLeast_26 (by decide) (fun zq26 => absurd zq26 (nI_m9 b (by omega))) (fun zq26 => ?_) 
    refine wp_aload_n (i := 0) dX1_joinLeast_29 rfl rfl ?_
    refine wp_getR dX1_joinLeast_30 fl_X1_15 rfl (st_k hst rfl) (st_r hst rfl) ?_
    refine wp_iload dX1_joinLeast_33 rfl ?_
    refine wp_iload_n (i := 2) dX1_joinLeast_35 rfl rfl ?_
    refine wp_ist (j := b) dX1_joinLeast_36 (st_t hst rfl) rfl (by omega) ?_
    refine wp_iload_n (i := 3) dX1_joinLeast_37 rfl rfl ?_
    refine wp_aload_n (i := 0) dX1_joinLeast_38 rfl rfl ?_
    refine wp_getR dX1_joinLeast_39 fl_X1_11 rfl (st_k hst rfl) (st_r hst rfl) ?_
    refine wp_iload dX1_joinLeast_42 rfl ?_
    refine wp_ild (j := b) dX1_joinLeast_44 (st_t hst rfl) rfl (by omega) ?_
    refine wp_iadd dX1_joinLeast_45 ?_
    refine wp_topI (v2 := nI (jl s (i + 1)).2) (Eq.trans (n_add rfl (hR.2 b hbk.1).1) (congrArg nI (by rw [e9]))) ?_
    refine wp_istore_6_3 dX1_joinLeast_46 (by first | rfl | assumption) ?_
    refine wp_iinc_6_4 (v := nI (i + 1)) dX1_joinLeast_47 (n_add rfl rfl) ?_
    refine wp_goto (tgt := 10) dX1_joinLeast_50 (by decide) ?_
    exact ih (i + 1) (eU I 50 b (nI s.1)) _ (by omega) (by rw [e9]; exact hR.put hbk.1) rfl (fun I2 y5 h1 h2 => hq I2 y5 h1 (fun a ha => (h2 a ha).trans (eU_ne ha)))

theorem c_joinLeast (d : Nat) {n : Nat} {t : eT} {I : eI} {R : eR} {Q : Nat → eT → eI → eR → Prop} (hst : ST n t R) {s : WS} (hs : OKW s) (hN : s.1 < 20) {hh : Nat} (hho : hh ≤ opn s) (hh10 : hh ≤ 1000) (hR : RWc I s) (hq : ∀ I2 : eI, RWc I2 (joinA hh s) → FrW I I2 → Q n t I2 R) : MC yX1_joinLeast cX1_joinLeast 6 none (d + 1) 0 0 [.ref 48, .int (nI hh)] n t I R (qV Q) := by
  refine mc_intro (L0 := [.ref 48, .int (nI hh), vU, vU, vU, vU]) (by decide) rfl (Nat.le_of_ble_eq_true rfl) ?_
  refine wp_aload_n (i := 0) dX1_joinLeast_0 rfl rfl ?_
  refine wp_getI dX1_joinLeast_1 fl_X1_21 rfl (st_k hst rfl) ?_
  refine wp_topI (v2 := nI s.1) hR.1 ?_
  refine wp_istore_6_2 dX1_joinLeast_4 rfl ?_
  refine wp_iconst (v := 0) dX1_joinLeast_5 (by decide) ?_
  refine wp_istore_6_3 dX1_joinLeast_6 rfl ?_
  refine wp_iconst (v := 0) dX1_joinLeast_7 (by decide) ?_
  refine wp_istore_6_4 dX1_joinLeast_8 rfl ?_
  refine lp_joinc _ hst hs hN hho hh10 hh 0 I vU (by omega) hR rfl (fun I2 y5 h1 h2 => ?_)
  refine wp_aload_n (i := 0) dX1_joinLeast_53 rfl rfl ?_
  refine wp_iload_n (i := 3) dX1_joinLeast_54 rfl rfl ?_
  refine wp_V1v dX1_joinLeast_55 mw_517 mw_519 ms_15 mi_X1_addNode (Nat.le_of_ble_eq_true rfl) (Nat.le_refl _) (Nat.le_refl _) (st_k hst rfl) (by decide) rfl (c_addNode _ hst (show I2 48 3 = nI s.1 from h1.1) hN ?_) 
  exact wp_retV dX1_joinLeast_58 rfl (Nat.le_refl _) (Nat.le_refl _) (hq _ h1.add ⟨fun a a1 a2 a3 => by rw [eU_ne a1, eU_ne a3, eU_ne a2]; exact h2 a a3, fun f hf => by rw [eU_c hf, eU_o (show (48 : Nat) ≠ 50 by decide), eU_o (show (48 : Nat) ≠ 49 by decide), h2 48 (by decide)]⟩)

theorem lp_joinm (d : Nat) {n : Nat} {t : eT} {R : eR} {Q : eQt} (hst : ST n t R) {s : WS} (hs : OKW s) (hN : s.1 < 20) {hh : Nat} (hho : hh ≤ opn s) (hh10 : hh ≤ 1000) : ∀ (r i : Nat) (I : eI) (x5 : Value), i + r = hh → RWm I (s.1, s.2.1, (jl s i).1) → sec x5 = false → (∀ (I2 : eI) (y5 : Value), RWm I2 (s.1, s.2.1, (jl s hh).1) → (∀ a, a ≠ 112 → I2 a = I a) → wp yX8_join cX8_join 5 none (d + 1) 0 0 Q 0 0 42 [.ref 94, .int (nI hh), .int (nI (jl s hh).2), .int (nI hh), y5] [] n t I2 R) → wp yX8_join cX8_join 5 none (d + 1) 0 0 Q 0 0 4 [.ref 94, .int (nI hh), .int (nI (jl s i).2), .int (nI i), x5] [] n t I R := by
  intro r
  induction r with
  | zero =>
    intro i I x5 hi hR hx5 hq
    obtain rfl : i = hh := by omega
    refine wp_iload_n (i := 3) dX8_join_4 rfl rfl ?_
    refine wp_iload_n (i := 1) dX8_join_5 rfl rfl ?_
    refine wp_icmp_ge (tgt := 42) dX8_join_6 (by decide) (fun zq6 => ?_) (fun zq6 => absurd (nI_le (Nat.le_refl _) (by omega)) zq6) 
    exact hq I x5 hR (fun _ _ => rfl)
  | succ r ih =>
    intro i I x5 hi hR hx5 hq
    refine wp_iload_n (i := 3) dX8_join_4 rfl rfl ?_
    refine wp_iload_n (i := 1) dX8_join_5 rfl rfl ?_
    refine wp_icmp_ge (tgt := 42) dX8_join_6 (by decide) (fun zq6 => absurd zq6 (nI_ge (show i < hh by omega) (by omega))) (fun zq6 => ?_) 
    refine wp_aload_n (i := 0) dX8_join_9 rfl rfl ?_
    refine wp_V0i dX8_join_10 mw_1053 mw_1055 ms_46 mi_X8_leastNode (Nat.le_of_ble_eq_true rfl) (Nat.le_refl _) (Nat.le_refl _) (st_k hst rfl) (by decide) rfl (c_leastNode _ hst (s := (s.1, s.2.1, (jl s i).1)) (show s.1 ≤ 20 by omega) hs.2.2 (jl_P hs (by omega) (show i ≤ opn s by omega)) hR ?_) 
    obtain ⟨b, hl⟩ := jl_some (s := s) (i := i) (by omega)
    have hbk := lst_s hl
    have e9 := jl_s hl
    have hl2 : lst ((s.1, s.2.1, (jl s i).1) : WS).2.1 ((s.1, s.2.1, (jl s i).1) : WS).2.2 ((s.1, s.2.1, (jl s i).1) : WS).1 = some b := hl
    rw [hl2]
    refine wp_istore_5_4 dX8_join_13 (by first | rfl | assumption) ?_
    refine wp_aload_n (i := 0) dX8_join_15 rfl rfl ?_
    refine wp_getR dX8_join_16 fl_X8_62 rfl (st_k hst rfl) (st_r hst rfl) ?_
    refine wp_iload dX8_join_19 rfl ?_
    refine wp_aload_n (i := 0) dX8_join_21 rfl rfl ?_
    refine wp_getI dX8_join_22 fl_X8_249 rfl (st_k hst rfl) ?_
    rw [show I 94 22 = nI s.1 from hR.1]
    refine wp_ist (j := b) dX8_join_25 (st_t hst rfl) rfl (by omega) ?_
    refine wp_iload_n (i := 2) dX8_join_26 rfl rfl ?_
    refine wp_aload_n (i := 0) dX8_join_27 rfl rfl ?_
    refine wp_getR dX8_join_28 fl_X8_59 rfl (st_k hst rfl) (st_r hst rfl) ?_
    refine wp_iload dX8_join_31 rfl ?_
    refine wp_ild (j := b) dX8_join_33 (st_t hst rfl) rfl (by omega) ?_
    refine wp_iadd dX8_join_34 ?_
    refine wp_topI (v2 := nI (jl s (i + 1)).2) (Eq.trans (n_add rfl (hR.2 b hbk.1).1) (congrArg nI (by rw [e9]))) ?_
    refine wp_istore_5_2 dX8_join_35 (by first | rfl | assumption) ?_
    refine wp_iinc_5_3 (v := nI (i + 1)) dX8_join_36 (n_add rfl rfl) ?_
    refine wp_goto (tgt := 4) dX8_join_39 (by decide) ?_
    exact ih (i + 1) (eU I 112 b (nI s.1)) _ (by omega) (by rw [e9]; exact hR.put hbk.1) rfl (fun I2 y5 h1 h2 => hq I2 y5 h1 (fun a ha => (h2 a ha).trans (eU_ne ha)))

theorem c_join (d : Nat) {n : Nat} {t : eT} {I : eI} {R : eR} {Q : Nat → eT → eI → eR → Prop} (hst : ST n t R) {s : WS} (hs : OKW s) (hN : s.1 < 20) {hh : Nat} (hho : hh ≤ opn s) (hh10 : hh ≤ 1000) (hR : RWm I s) (hq : ∀ I2 : eI, RWm I2 (joinA hh s) → FrX I I2 → Q n t I2 R) : MC yX8_join cX8_join 5 none (d + 1) 0 0 [.ref 94, .int (nI hh)] n t I R (qV Q) := by
  refine mc_intro (L0 := [.ref 94, .int (nI hh), vU, vU, vU]) (by decide) rfl (Nat.le_of_ble_eq_true rfl) ?_
  refine wp_iconst (v := 0) dX8_join_0 (by decide) ?_
  refine wp_istore_5_2 dX8_join_1 rfl ?_
  refine wp_iconst (v := 0) dX8_join_2 (by decide) ?_
  refine wp_istore_5_3 dX8_join_3 rfl ?_
  refine lp_joinm _ hst hs hN hho hh10 hh 0 I vU (by omega) hR rfl (fun I2 y5 h1 h2 => ?_)
  have hn2 : I2 94 22 = nI s.1 := h1.1
  refine wp_aload_n (i := 0) dX8_join_42 rfl rfl ?_
  refine wp_getR dX8_join_43 fl_X8_59 rfl (st_k hst rfl) (st_r hst rfl) ?_
  refine wp_aload_n (i := 0) dX8_join_46 rfl rfl ?_
  refine wp_getI dX8_join_47 fl_X8_249 rfl (st_k hst rfl) ?_
  refine wp_iload_n (i := 2) dX8_join_50 rfl rfl ?_
  refine wp_ist (j := s.1) dX8_join_51 (st_t hst rfl) hn2 (by omega) ?_
  refine wp_aload_n (i := 0) dX8_join_52 rfl rfl ?_
  refine wp_getR dX8_join_53 fl_X8_62 rfl (st_k hst rfl) (st_r hst rfl) ?_
  refine wp_aload_n (i := 0) dX8_join_56 rfl rfl ?_
  refine wp_getI dX8_join_57 fl_X8_249 rfl (st_k hst rfl) ?_
  refine wp_bipush (v := (-9)) dX8_join_60 (by decide) ?_
  refine wp_ist (j := s.1) dX8_join_62 (st_t hst rfl) hn2 (by omega) ?_
  refine wp_aload_n (i := 0) dX8_join_63 rfl rfl ?_
  refine wp_dup dX8_join_64 rfl ?_
  refine wp_getI dX8_join_65 fl_X8_249 rfl (st_k hst rfl) ?_
  refine wp_iconst (v := 1) dX8_join_68 (by decide) ?_
  refine wp_iadd dX8_join_69 ?_
  refine wp_topI (v2 := nI (s.1 + 1)) (n_add hn2 rfl) ?_
  refine wp_putI dX8_join_70 fl_X8_249 rfl (Or.inl rfl) (st_k hst rfl) ?_
  exact wp_retV dX8_join_73 rfl (Nat.le_refl _) (Nat.le_refl _) (hq _ h1.add ⟨fun a a1 a2 a3 => by rw [eU_ne a1, eU_ne a3, eU_ne a2]; exact h2 a a3, fun f hf => by rw [eU_c hf, eU_o (show (94 : Nat) ≠ 112 by decide), eU_o (show (94 : Nat) ≠ 111 by decide), h2 94 (by decide)]⟩)

