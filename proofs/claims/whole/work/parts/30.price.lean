theorem n_add {x y : Int32} {a b : Nat} (hx : x = nI a) (hy : y = nI b) : x + y = nI (a + b) := by subst hx; subst hy; exact nI_add a b
theorem n_mul {x y : Int32} {a b : Nat} (hx : x = nI a) (hy : y = nI b) : x * y = nI (a * b) := by subst hx; subst hy; exact pk_mul a b
def absI (v : Int32) : Int32 := if v < 0 then -v else v
def maxI (v w : Int32) : Int32 := if v < w then w else v
def minI (v w : Int32) : Int32 := if w < v then w else v
def cmpI (v w : Int32) : Int32 := if v < w then -1 else if v = w then 0 else 1
def wayI (v w : Int32) : Int32 := absI (v % 4 - w % 4) + absI (v / 4 - w / 4)
/-- a sum from the left -/
def addI (s : Int32) (T : Nat → Int32) : Nat → Int32
  | 0 => s
  | k + 1 => addI s T k + T k
def addO (T : Nat → Nat → Int32) : Nat → Int32
  | 0 => 0
  | b + 1 => addI (addO T b) (T b) b
theorem addI_congr {s : Int32} {T U : Nat → Int32} : ∀ k, (∀ a, a < k → T a = U a) → addI s T k = addI s U k
  | 0, _ => rfl
  | k + 1, h => by
    show addI s T k + T k = addI s U k + U k
    rw [addI_congr k (fun a ha => h a (by omega)), h k (by omega)]
theorem addO_congr {T U : Nat → Nat → Int32} : ∀ k, (∀ b, b < k → ∀ a, a < b → T b a = U b a) → addO T k = addO U k
  | 0, _ => rfl
  | k + 1, h => by
    show addI (addO T k) (T k) k = addI (addO U k) (U k) k
    rw [addO_congr k (fun b hb => h b (by omega)), addI_congr k (h k (by omega))]
theorem abs_eq (x : Int32) : (if 0 ≤ x then x else 0 - x) = absI x := by
  unfold absI
  by_cases h : x < 0
  · rw [if_neg (Int32.not_le.mpr h), if_pos h, Int32.zero_sub]
  · rw [if_pos (Int32.not_lt.mp h), if_neg h]

theorem wp_mabs {y : MethodName} {cc : ByteArray} {nL : Nat} {ret : Option FieldType} {d K N : Nat} {Q : eQt} {kc ks pc : Nat} {L S : List Value} {n : Nat} {t : eT} {I : eI} {R : eR} {idx : Nat} {v : Int32} (hd : decode cc pc = .ok (.invokestatic idx, 3)) (h1 : Cond.methodLink y.cls idx yJ9_abs_0f7a4 ∈ lw_w) (hs : (S.map Value.category).sum ≤ 8) (hk : kc ≤ K) (hk2 : ks ≤ N) (k : wp y cc nL ret (d + 1) K N Q kc ks (pc + 3) L (.int (absI v) :: S) n t I R) : wp y cc nL ret (d + 1) K N Q kc ks pc L (.int v :: S) n t I R := by
  intro p l e Rm s m args below meth c D cy b z F A H locs ls C hA hF hW hS hl
  have ez : ((S.map (cv (adr b z))).map fun v => v.category).sum = (S.map Value.category).sum := by rw [List.map_map]; congr 1; apply List.map_congr_left; intro v _; exact cv_cat _ v
  have hrm := C.2.2.2.2.2.2.2.2.2.1
  refine va_mabs C.1 C.2.1 (by rw [C.2.2.2.1]; exact hl.1.symm) C.2.2.2.2.1 (C.2.2.2.2.2.1 _ h1) (C.2.2.2.2.2.1 _ mw_101) (C.2.2.2.2.2.1 _ mw_6) (C.2.2.2.2.2.1 _ mw_102) (Nat.le_trans (by omega) C.2.2.2.2.2.2.2.2.1) (by rw [ez]; omega) (Nat.le_trans hk C.2.2.2.2.2.2.2.2.2.2.1) (Nat.le_trans hk2 C.2.2.2.2.2.2.2.2.2.2.2) hd ?_
  have h9 := k p l e Rm s m args below meth c D cy b z F A H locs ls C hA hF hW hS hl
  rw [abs_eq]
  exact h9

theorem wp_mmax {y : MethodName} {cc : ByteArray} {nL : Nat} {ret : Option FieldType} {d K N : Nat} {Q : eQt} {kc ks pc : Nat} {L S : List Value} {n : Nat} {t : eT} {I : eI} {R : eR} {idx : Nat} {v w : Int32} (hd : decode cc pc = .ok (.invokestatic idx, 3)) (h1 : Cond.methodLink y.cls idx yJ9_max_7cf53 ∈ lw_w) (hs : (S.map Value.category).sum ≤ 8) (hk : kc ≤ K) (hk2 : ks ≤ N) (k : wp y cc nL ret (d + 1) K N Q kc ks (pc + 3) L (.int (maxI v w) :: S) n t I R) : wp y cc nL ret (d + 1) K N Q kc ks pc L (.int w :: .int v :: S) n t I R := by
  intro p l e Rm s m args below meth c D cy b z F A H locs ls C hA hF hW hS hl
  have ez : ((S.map (cv (adr b z))).map fun v => v.category).sum = (S.map Value.category).sum := by rw [List.map_map]; congr 1; apply List.map_congr_left; intro v _; exact cv_cat _ v
  have hrm := C.2.2.2.2.2.2.2.2.2.1
  refine va_mmax C.1 C.2.1 (by rw [C.2.2.2.1]; exact hl.1.symm) C.2.2.2.2.1 (C.2.2.2.2.2.1 _ h1) (C.2.2.2.2.2.1 _ mw_110) (C.2.2.2.2.2.1 _ mw_6) (C.2.2.2.2.2.1 _ mw_111) (Nat.le_trans (by omega) C.2.2.2.2.2.2.2.2.1) (by rw [ez]; omega) (Nat.le_trans hk C.2.2.2.2.2.2.2.2.2.2.1) (Nat.le_trans hk2 C.2.2.2.2.2.2.2.2.2.2.2) hd ?_
  have h9 := k p l e Rm s m args below meth c D cy b z F A H locs ls C hA hF hW hS hl
  
  exact h9

theorem wp_mmin {y : MethodName} {cc : ByteArray} {nL : Nat} {ret : Option FieldType} {d K N : Nat} {Q : eQt} {kc ks pc : Nat} {L S : List Value} {n : Nat} {t : eT} {I : eI} {R : eR} {idx : Nat} {v w : Int32} (hd : decode cc pc = .ok (.invokestatic idx, 3)) (h1 : Cond.methodLink y.cls idx yJ9_min_7cf53 ∈ lw_w) (hs : (S.map Value.category).sum ≤ 8) (hk : kc ≤ K) (hk2 : ks ≤ N) (k : wp y cc nL ret (d + 1) K N Q kc ks (pc + 3) L (.int (minI v w) :: S) n t I R) : wp y cc nL ret (d + 1) K N Q kc ks pc L (.int w :: .int v :: S) n t I R := by
  intro p l e Rm s m args below meth c D cy b z F A H locs ls C hA hF hW hS hl
  have ez : ((S.map (cv (adr b z))).map fun v => v.category).sum = (S.map Value.category).sum := by rw [List.map_map]; congr 1; apply List.map_congr_left; intro v _; exact cv_cat _ v
  have hrm := C.2.2.2.2.2.2.2.2.2.1
  refine va_mmin C.1 C.2.1 (by rw [C.2.2.2.1]; exact hl.1.symm) C.2.2.2.2.1 (C.2.2.2.2.2.1 _ h1) (C.2.2.2.2.2.1 _ mw_442) (C.2.2.2.2.2.1 _ mw_6) (C.2.2.2.2.2.1 _ mw_443) (Nat.le_trans (by omega) C.2.2.2.2.2.2.2.2.1) (by rw [ez]; omega) (Nat.le_trans hk C.2.2.2.2.2.2.2.2.2.2.1) (Nat.le_trans hk2 C.2.2.2.2.2.2.2.2.2.2.2) hd ?_
  have h9 := k p l e Rm s m args below meth c D cy b z F A H locs ls C hA hF hW hS hl
  
  exact h9

theorem c_compare (d : Nat) {n : Nat} {t : eT} {I : eI} {R : eR} {Q : Int32 → Nat → eT → eI → eR → Prop} {v w : Int32} (hq : Q (cmpI v w) n t I R) : MC yJ6_compare_7cf53 cJ6_compare_7cf53 2 (some .int) d 0 0 [.int v, .int w] n t I R (qI Q) := by
  refine mc_intro (L0 := [.int v, .int w]) (by decide) rfl (Nat.le_of_ble_eq_true rfl) ?_
  refine wp_iload_n (i := 0) dJ6_compare_7cf53_0 rfl rfl ?_
  refine wp_iload_n (i := 1) dJ6_compare_7cf53_1 rfl rfl ?_
  refine wp_icmp_ge (tgt := 9) dJ6_compare_7cf53_2 (by decide) (fun zq2 => ?_) (fun zq2 => ?_) 
  · refine wp_iload_n (i := 0) dJ6_compare_7cf53_9 rfl rfl ?_
    refine wp_iload_n (i := 1) dJ6_compare_7cf53_10 rfl rfl ?_
    refine wp_icmp_ne (tgt := 18) dJ6_compare_7cf53_11 (by decide) (fun zq11 => ?_) (fun zq11 => ?_) 
    · refine wp_iconst (v := 1) dJ6_compare_7cf53_18 (by decide) ?_
      exact wp_retI dJ6_compare_7cf53_19 rfl (Nat.le_refl _) (Nat.le_refl _) (by unfold cmpI at hq; rw [if_neg (Int32.not_lt.mpr zq2), if_neg zq11] at hq; exact hq)
    · refine wp_iconst (v := 0) dJ6_compare_7cf53_14 (by decide) ?_
      refine wp_goto (tgt := 19) dJ6_compare_7cf53_15 (by decide) ?_
      exact wp_retI dJ6_compare_7cf53_19 rfl (Nat.le_refl _) (Nat.le_refl _) (by unfold cmpI at hq; rw [if_neg (Int32.not_lt.mpr zq2), if_pos zq11] at hq; exact hq)
  · refine wp_iconst (v := (-1)) dJ6_compare_7cf53_5 (by decide) ?_
    refine wp_goto (tgt := 19) dJ6_compare_7cf53_6 (by decide) ?_
    exact wp_retI dJ6_compare_7cf53_19 rfl (Nat.le_refl _) (Nat.le_refl _) (by unfold cmpI at hq; rw [if_pos (Int32.not_le.mp zq2)] at hq; exact hq)

theorem c_wayBetween (d : Nat) {n : Nat} {t : eT} {I : eI} {R : eR} {Q : Int32 → Nat → eT → eI → eR → Prop} {v w : Int32} (hq : Q (wayI v w) n t I R) : MC yX0_wayBetween cX0_wayBetween 2 (some .int) (d + 1) 0 0 [.int v, .int w] n t I R (qI Q) := by
  refine mc_intro (L0 := [.int v, .int w]) (by decide) rfl (Nat.le_of_ble_eq_true rfl) ?_
  refine wp_iload_n (i := 0) dX0_wayBetween_0 rfl rfl ?_
  refine wp_SN1i dX0_wayBetween_1 mw_97 mw_98 mi_X7_columnOf (Nat.le_of_ble_eq_true rfl) (Nat.le_refl _) (Nat.le_refl _) (c_columnOf _ ?_) 
  refine wp_iload_n (i := 1) dX0_wayBetween_4 rfl rfl ?_
  refine wp_SN1i dX0_wayBetween_5 mw_97 mw_98 mi_X7_columnOf (Nat.le_of_ble_eq_true rfl) (Nat.le_refl _) (Nat.le_refl _) (c_columnOf _ ?_) 
  refine wp_isub dX0_wayBetween_8 ?_
  refine wp_mabs dX0_wayBetween_9 mw_100 (Nat.le_of_ble_eq_true rfl) (Nat.le_refl _) (Nat.le_refl _) ?_
  refine wp_iload_n (i := 0) dX0_wayBetween_12 rfl rfl ?_
  refine wp_SN1i dX0_wayBetween_13 mw_103 mw_104 mi_X7_rowOf (Nat.le_of_ble_eq_true rfl) (Nat.le_refl _) (Nat.le_refl _) (c_rowOf _ ?_) 
  refine wp_iload_n (i := 1) dX0_wayBetween_16 rfl rfl ?_
  refine wp_SN1i dX0_wayBetween_17 mw_103 mw_104 mi_X7_rowOf (Nat.le_of_ble_eq_true rfl) (Nat.le_refl _) (Nat.le_refl _) (c_rowOf _ ?_) 
  refine wp_isub dX0_wayBetween_20 ?_
  refine wp_mabs dX0_wayBetween_21 mw_100 (Nat.le_of_ble_eq_true rfl) (Nat.le_refl _) (Nat.le_refl _) ?_
  refine wp_iadd dX0_wayBetween_24 ?_
  exact wp_retI dX0_wayBetween_25 rfl (Nat.le_refl _) (Nat.le_refl _) hq

theorem c_across (d : Nat) {n : Nat} {t : eT} {I : eI} {R : eR} {Q : Int32 → Nat → eT → eI → eR → Prop} {v w : Int32} (hq : Q (absI (v % 4 - w % 4)) n t I R) : MC yX8_across cX8_across 2 (some .int) (d + 1) 0 0 [.int v, .int w] n t I R (qI Q) := by
  refine mc_intro (L0 := [.int v, .int w]) (by decide) rfl (Nat.le_of_ble_eq_true rfl) ?_
  refine wp_iload_n (i := 0) dX8_across_0 rfl rfl ?_
  refine wp_iconst (v := 4) dX8_across_1 (by decide) ?_
  refine wp_irem dX8_across_2 (by decide) ?_
  refine wp_iload_n (i := 1) dX8_across_3 rfl rfl ?_
  refine wp_iconst (v := 4) dX8_across_4 (by decide) ?_
  refine wp_irem dX8_across_5 (by decide) ?_
  refine wp_isub dX8_across_6 ?_
  refine wp_S1i dX8_across_7 mw_974 mw_975 mi_X8_sizeOf (Nat.le_of_ble_eq_true rfl) (Nat.le_refl _) (Nat.le_refl _) (c_sizeOf _ ?_) 
  exact wp_retI dX8_across_10 rfl (Nat.le_refl _) (Nat.le_refl _) hq

theorem c_down (d : Nat) {n : Nat} {t : eT} {I : eI} {R : eR} {Q : Int32 → Nat → eT → eI → eR → Prop} {v w : Int32} (hq : Q (absI (v / 4 - w / 4)) n t I R) : MC yX8_down cX8_down 2 (some .int) (d + 1) 0 0 [.int v, .int w] n t I R (qI Q) := by
  refine mc_intro (L0 := [.int v, .int w]) (by decide) rfl (Nat.le_of_ble_eq_true rfl) ?_
  refine wp_iload_n (i := 0) dX8_down_0 rfl rfl ?_
  refine wp_iconst (v := 4) dX8_down_1 (by decide) ?_
  refine wp_idiv dX8_down_2 (by decide) ?_
  refine wp_iload_n (i := 1) dX8_down_3 rfl rfl ?_
  refine wp_iconst (v := 4) dX8_down_4 (by decide) ?_
  refine wp_idiv dX8_down_5 (by decide) ?_
  refine wp_isub dX8_down_6 ?_
  refine wp_S1i dX8_down_7 mw_974 mw_975 mi_X8_sizeOf (Nat.le_of_ble_eq_true rfl) (Nat.le_refl _) (Nat.le_refl _) (c_sizeOf _ ?_) 
  exact wp_retI dX8_down_10 rfl (Nat.le_refl _) (Nat.le_refl _) hq

theorem c_fbw (d : Nat) {n : Nat} {t : eT} {I : eI} {R : eR} {Q : Int32 → Nat → eT → eI → eR → Prop} (hst : ST n t R) {a b : Nat} (ha : a < 10) (hb : b < 10) (hq : Q (I (9 + a) b + I (9 + b) a) n t I R) : MC yX2_followsBothWays cX2_followsBothWays 3 (some .int) d 0 0 [.ref 5, .int (nI a), .int (nI b)] n t I R (qI Q) := by
  refine mc_intro (L0 := [.ref 5, .int (nI a), .int (nI b)]) (by decide) rfl (Nat.le_of_ble_eq_true rfl) ?_
  refine wp_aload_n (i := 0) dX2_followsBothWays_0 rfl rfl ?_
  refine wp_getR dX2_followsBothWays_1 fl_X2_24 rfl (st_k hst rfl) (st_r hst rfl) ?_
  refine wp_iload_n (i := 1) dX2_followsBothWays_4 rfl rfl ?_
  refine wp_rld13 (j := a) dX2_followsBothWays_5 (st_t hst rfl) rfl (by omega) (sf_r hst (by omega)) ?_
  refine wp_iload_n (i := 2) dX2_followsBothWays_6 rfl rfl ?_
  refine wp_ild (j := b) dX2_followsBothWays_7 (sf_t hst (by omega)) rfl (by omega) ?_
  refine wp_aload_n (i := 0) dX2_followsBothWays_8 rfl rfl ?_
  refine wp_getR dX2_followsBothWays_9 fl_X2_24 rfl (st_k hst rfl) (st_r hst rfl) ?_
  refine wp_iload_n (i := 2) dX2_followsBothWays_12 rfl rfl ?_
  refine wp_rld13 (j := b) dX2_followsBothWays_13 (st_t hst rfl) rfl (by omega) (sf_r hst (by omega)) ?_
  refine wp_iload_n (i := 1) dX2_followsBothWays_14 rfl rfl ?_
  refine wp_ild (j := a) dX2_followsBothWays_15 (sf_t hst (by omega)) rfl (by omega) ?_
  refine wp_iadd dX2_followsBothWays_16 ?_
  exact wp_retI dX2_followsBothWays_17 rfl (Nat.le_refl _) (Nat.le_refl _) hq

theorem c_both (d : Nat) {n : Nat} {t : eT} {I : eI} {R : eR} {Q : Int32 → Nat → eT → eI → eR → Prop} (hst : ST n t R) {a b : Nat} (ha : a < 10) (hb : b < 10) (hq : Q (I 97 (10 * a + b) + I 97 (10 * b + a)) n t I R) : MC yX8_both cX8_both 3 (some .int) d 0 0 [.ref 94, .int (nI a), .int (nI b)] n t I R (qI Q) := by
  refine mc_intro (L0 := [.ref 94, .int (nI a), .int (nI b)]) (by decide) rfl (Nat.le_of_ble_eq_true rfl) ?_
  refine wp_aload_n (i := 0) dX8_both_0 rfl rfl ?_
  refine wp_getR dX8_both_1 fl_X8_16 rfl (st_k hst rfl) (st_r hst rfl) ?_
  refine wp_bipush (v := 10) dX8_both_4 (by decide) ?_
  refine wp_iload_n (i := 1) dX8_both_6 rfl rfl ?_
  refine wp_imul dX8_both_7 ?_
  refine wp_iload_n (i := 2) dX8_both_8 rfl rfl ?_
  refine wp_iadd dX8_both_9 ?_
  refine wp_ild (j := ((10 * a) + b)) dX8_both_10 (st_t hst rfl) (n_add (n_mul rfl rfl) rfl) (by omega) ?_
  refine wp_aload_n (i := 0) dX8_both_11 rfl rfl ?_
  refine wp_getR dX8_both_12 fl_X8_16 rfl (st_k hst rfl) (st_r hst rfl) ?_
  refine wp_bipush (v := 10) dX8_both_15 (by decide) ?_
  refine wp_iload_n (i := 2) dX8_both_17 rfl rfl ?_
  refine wp_imul dX8_both_18 ?_
  refine wp_iload_n (i := 1) dX8_both_19 rfl rfl ?_
  refine wp_iadd dX8_both_20 ?_
  refine wp_ild (j := ((10 * b) + a)) dX8_both_21 (st_t hst rfl) (n_add (n_mul rfl rfl) rfl) (by omega) ?_
  refine wp_iadd dX8_both_22 ?_
  exact wp_retI dX8_both_23 rfl (Nat.le_refl _) (Nat.le_refl _) hq

theorem c_isEmpty (d : Nat) {n : Nat} {t : eT} {I : eI} {R : eR} {Q : Int32 → Nat → eT → eI → eR → Prop} {a : Nat} (hta : (t a).1 = 0) (h1 : I a 0 = 0 → Q 1 n t I R) (h0 : ¬ I a 0 = 0 → Q 0 n t I R) : MC yX0_isEmpty cX0_isEmpty 1 (some .boolean) d 0 0 [.ref a] n t I R (qI Q) := by
  refine mc_intro (L0 := [.ref a]) (by decide) rfl (Nat.le_of_ble_eq_true rfl) ?_
  refine wp_aload_n (i := 0) dX0_isEmpty_0 rfl rfl ?_
  refine wp_getI dX0_isEmpty_1 fl_X0_9 rfl hta ?_
  refine wp_if_ne (tgt := 11) dX0_isEmpty_4 (by decide) (fun zq4 => ?_) (fun zq4 => ?_) 
  · refine wp_iconst (v := 0) dX0_isEmpty_11 (by decide) ?_
    exact wp_retZ dX0_isEmpty_12 rfl rfl (Nat.le_refl _) (Nat.le_refl _) (by first | exact h1 (by assumption) | exact h0 (by assumption))
  · refine wp_iconst (v := 1) dX0_isEmpty_7 (by decide) ?_
    refine wp_goto (tgt := 12) dX0_isEmpty_8 (by decide) ?_
    exact wp_retZ dX0_isEmpty_12 rfl rfl (Nat.le_refl _) (Nat.le_refl _) (by first | exact h1 (by assumption) | exact h0 (by assumption))

theorem c_partSet (d : Nat) {n : Nat} {t : eT} {I : eI} {R : eR} {Q : Int32 → Nat → eT → eI → eR → Prop} {a : Nat} (hta : (t a).1 = 0) (hq : Q (I a 0) n t I R) : MC yX0_partSet cX0_partSet 1 (some .int) d 0 0 [.ref a] n t I R (qI Q) := by
  refine mc_intro (L0 := [.ref a]) (by decide) rfl (Nat.le_of_ble_eq_true rfl) ?_
  refine wp_aload_n (i := 0) dX0_partSet_0 rfl rfl ?_
  refine wp_getI dX0_partSet_1 fl_X0_9 rfl hta ?_
  exact wp_retI dX0_partSet_4 rfl (Nat.le_refl _) (Nat.le_refl _) hq

theorem c_swap (d : Nat) {n : Nat} {t : eT} {I : eI} {R : eR} {Q : Nat → eT → eI → eR → Prop} (hst : ST n t R) {j u v : Nat} (hj : j < 4) (hu : R (54 + 10 * j) 1 = some u) (hv : R (54 + 10 * j) 2 = some v) (hq : Q n t (eU I (54 + 10 * j) 4 (-9)) (eU (eU R (54 + 10 * j) 1 (some v)) (54 + 10 * j) 2 (some u))) : MC yX3_swapLayings cX3_swapLayings 2 none d 0 0 [.ref (54 + 10 * j)] n t I R (qV Q) := by
  refine mc_intro (L0 := [.ref (54 + 10 * j), vU]) (by decide) rfl (Nat.le_of_ble_eq_true rfl) ?_
  refine wp_aload_n (i := 0) dX3_swapLayings_0 rfl rfl ?_
  refine wp_getR dX3_swapLayings_1 fl_X3_18 rfl (sp_k0 hst (by omega)) hu ?_
  refine wp_astore_2_1 dX3_swapLayings_4 rfl ?_
  refine wp_aload_n (i := 0) dX3_swapLayings_5 rfl rfl ?_
  refine wp_aload_n (i := 0) dX3_swapLayings_6 rfl rfl ?_
  refine wp_getR dX3_swapLayings_7 fl_X3_22 rfl (sp_k0 hst (by omega)) hv ?_
  refine wp_putR dX3_swapLayings_10 fl_X3_18 rfl (Or.inl rfl) (sp_k0 hst (by omega)) ?_
  refine wp_aload_n (i := 0) dX3_swapLayings_13 rfl rfl ?_
  refine wp_aload_n (i := 1) dX3_swapLayings_14 rfl rfl ?_
  refine wp_putR dX3_swapLayings_15 fl_X3_22 rfl (Or.inl rfl) (sp_k0 hst (by omega)) ?_
  refine wp_aload_n (i := 0) dX3_swapLayings_18 rfl rfl ?_
  refine wp_bipush (v := (-9)) dX3_swapLayings_19 (by decide) ?_
  refine wp_putI dX3_swapLayings_21 fl_X3_29 rfl (Or.inl rfl) (sp_k0 hst (by omega)) ?_
  exact wp_retV dX3_swapLayings_24 rfl (Nat.le_refl _) (Nat.le_refl _) hq

theorem c_back (d : Nat) {n : Nat} {t : eT} {I : eI} {R : eR} {Q : Int32 → Nat → eT → eI → eR → Prop} (hst : ST n t R) {m : Nat} (hm : I 4 3 = nI m) (hm4 : m ≤ 4) (hly : ∀ j, j < 4 → ∃ u v, R (54 + 10 * j) 1 = some u ∧ R (54 + 10 * j) 2 = some v ∧ (t u).1 = 0 ∧ (t v).1 = 0) {p : Int32} (h1 : (∀ j, j < m → p ≠ nI j) → Q (-1) n t I R) (h2 : ∀ j u v, j < m → p = nI j → R (54 + 10 * j) 1 = some u → R (54 + 10 * j) 2 = some v → I v 0 = 0 → Q (-3) n t I R) (h3 : ∀ j u v, j < m → p = nI j → R (54 + 10 * j) 1 = some u → R (54 + 10 * j) 2 = some v → ¬ I v 0 = 0 → Q 1 n t (eU I (54 + 10 * j) 4 (-9)) (eU (eU R (54 + 10 * j) 1 (some v)) (54 + 10 * j) 2 (some u))) : MC yX7_back cX7_back 2 (some .int) (d + 2) 0 0 [.ref 4, .int p] n t I R (qI Q) := by
  refine mc_intro (L0 := [.ref 4, .int p]) (by decide) rfl (Nat.le_of_ble_eq_true rfl) ?_
  refine wp_aload_n (i := 0) dX7_back_0 rfl rfl ?_
  refine wp_iload_n (i := 1) dX7_back_1 rfl rfl ?_
  refine wp_V1i dX7_back_2 mw_375 mw_377 ms_7 mi_X7_isPerson (Nat.le_of_ble_eq_true rfl) (Nat.le_refl _) (Nat.le_refl _) (st_k hst rfl) (by decide) rfl (c_isPerson _ hst (by exact hm) hm4 (fun j2 hj2 e2 => ?_) (fun no2 => ?_)) 
  · subst e2
    refine wp_if_ne1 (tgt := 10) dX7_back_5 (by decide) ?_
    obtain ⟨u, v, hu, hv, htu, htv⟩ := hly j2 (by omega)
    refine wp_aload_n (i := 0) dX7_back_10 rfl rfl ?_
    refine wp_getR dX7_back_11 fl_X7_27 rfl (st_k hst rfl) (st_r hst rfl) ?_
    refine wp_iload_n (i := 1) dX7_back_14 rfl rfl ?_
    refine wp_rld11 dX7_back_15 (st_t hst rfl) rfl (by omega) (sp_34 hst (by omega)) ?_
    refine wp_getR dX7_back_16 fl_X7_162 rfl (sp_k0 hst (by omega)) hv ?_
    refine wp_V0i dX7_back_19 mw_477 mw_445 mw_446 mi_X0_isEmpty (Nat.le_of_ble_eq_true rfl) (Nat.le_refl _) (Nat.le_refl _) htv (by decide) rfl (c_isEmpty _ htv (fun ge => ?_) (fun ge => ?_)) 
    · skip
      refine wp_if_eq1 (tgt := 28) dX7_back_22 (by decide) ?_
      refine wp_bipush (v := (-3)) dX7_back_25 (by decide) ?_
      exact wp_retI dX7_back_27 rfl (Nat.le_refl _) (Nat.le_refl _) (h2 j2 u v hj2 rfl hu hv ge)
    · skip
      refine wp_if_eq0 (tgt := 28) dX7_back_22 (by decide) ?_
      refine wp_aload_n (i := 0) dX7_back_28 rfl rfl ?_
      refine wp_getR dX7_back_29 fl_X7_27 rfl (st_k hst rfl) (st_r hst rfl) ?_
      refine wp_iload_n (i := 1) dX7_back_32 rfl rfl ?_
      refine wp_rld11 dX7_back_33 (st_t hst rfl) rfl (by omega) (sp_34 hst (by omega)) ?_
      refine wp_V0v dX7_back_34 mw_492 mw_465 mw_466 mi_X3_swapLayings (Nat.le_of_ble_eq_true rfl) (Nat.le_refl _) (Nat.le_refl _) (sp_k0 hst (by omega)) (by decide) rfl (c_swap _ hst (by omega) hu hv ?_) 
      refine wp_iconst (v := 1) dX7_back_37 (by decide) ?_
      exact wp_retI dX7_back_38 rfl (Nat.le_refl _) (Nat.le_refl _) (h3 j2 u v hj2 rfl hu hv ge)
  · skip
    refine wp_if_ne0 (tgt := 10) dX7_back_5 (by decide) ?_
    refine wp_iconst (v := (-1)) dX7_back_8 (by decide) ?_
    exact wp_retI dX7_back_9 rfl (Nat.le_refl _) (Nat.le_refl _) (h1 no2)

theorem swap_step {I : eI} {j k : Nat} (hk : k < 10) : (eG (eG (eU (eU I 106 (10 * j + k) (I 107 (10 * j + k))) 107 (10 * j + k) (I 106 (10 * j + k))) 106 (fun x => if 10 * j + (k + 1) ≤ x ∧ x < 10 * j + 10 then (eU (eU I 106 (10 * j + k) (I 107 (10 * j + k))) 107 (10 * j + k) (I 106 (10 * j + k))) 107 x else (eU (eU I 106 (10 * j + k) (I 107 (10 * j + k))) 107 (10 * j + k) (I 106 (10 * j + k))) 106 x)) 107 (fun x => if 10 * j + (k + 1) ≤ x ∧ x < 10 * j + 10 then (eU (eU I 106 (10 * j + k) (I 107 (10 * j + k))) 107 (10 * j + k) (I 106 (10 * j + k))) 106 x else (eU (eU I 106 (10 * j + k) (I 107 (10 * j + k))) 107 (10 * j + k) (I 106 (10 * j + k))) 107 x)) = (eG (eG I 106 (fun x => if 10 * j + k ≤ x ∧ x < 10 * j + 10 then I 107 x else I 106 x)) 107 (fun x => if 10 * j + k ≤ x ∧ x < 10 * j + 10 then I 106 x else I 107 x)) := by
  funext x y
  by_cases hx : x = 106
  · subst hx
    rw [eG_ne (show (106 : Nat) ≠ 107 by decide), eG_eq, eG_ne (show (106 : Nat) ≠ 107 by decide), eG_eq]
    show (if 10 * j + (k + 1) ≤ y ∧ y < 10 * j + 10 then _ else _) = if 10 * j + k ≤ y ∧ y < 10 * j + 10 then _ else _
    by_cases h1 : y = 10 * j + k
    · subst h1
      rw [if_neg (by omega), if_pos (by omega), eU_o (show (106 : Nat) ≠ 107 by decide), eU_at]
    · by_cases h2 : 10 * j + (k + 1) ≤ y ∧ y < 10 * j + 10
      · rw [if_pos h2, if_pos (by omega), eU_c h1, eU_o (show (107 : Nat) ≠ 106 by decide)]
      · rw [if_neg h2, if_neg (by omega), eU_o (show (106 : Nat) ≠ 107 by decide), eU_c h1]
  · by_cases hx2 : x = 107
    · subst hx2
      rw [eG_eq, eG_eq]
      show (if 10 * j + (k + 1) ≤ y ∧ y < 10 * j + 10 then _ else _) = if 10 * j + k ≤ y ∧ y < 10 * j + 10 then _ else _
      by_cases h1 : y = 10 * j + k
      · subst h1
        rw [if_neg (by omega), if_pos (by omega), eU_at]
      · by_cases h2 : 10 * j + (k + 1) ≤ y ∧ y < 10 * j + 10
        · rw [if_pos h2, if_pos (by omega), eU_o (show (106 : Nat) ≠ 107 by decide), eU_c h1]
        · rw [if_neg h2, if_neg (by omega), eU_c h1, eU_o (show (107 : Nat) ≠ 106 by decide)]
    · rw [eG_ne hx2, eG_ne hx, eG_ne hx2, eG_ne hx, eU_ne hx2, eU_ne hx]

theorem lp_back (d : Nat) {n : Nat} {t : eT} {R : eR} {Q : eQt} (hst : ST n t R) {j : Nat} (hj : j < 4) : ∀ (r k : Nat) (I : eI), k + r = 10 → ∀ (x3 : Value), sec x3 = false → (∀ x4 : Value, wp yX8_back cX8_back 4 (some .int) d 0 0 Q 0 0 82 [.ref 94, .int (nI j), .int (nI 10), x4] [] n t (eG (eG I 106 (fun x => if 10 * j + k ≤ x ∧ x < 10 * j + 10 then I 107 x else I 106 x)) 107 (fun x => if 10 * j + k ≤ x ∧ x < 10 * j + 10 then I 106 x else I 107 x)) R) → wp yX8_back cX8_back 4 (some .int) d 0 0 Q 0 0 24 [.ref 94, .int (nI j), .int (nI k), x3] [] n t I R := by
  intro r
  induction r with
  | zero =>
    intro k I hk x3 hx hq
    obtain rfl : k = 10 := by omega
    have e0 : (eG (eG I 106 (fun x => if 10 * j + 10 ≤ x ∧ x < 10 * j + 10 then I 107 x else I 106 x)) 107 (fun x => if 10 * j + 10 ≤ x ∧ x < 10 * j + 10 then I 106 x else I 107 x)) = I := by
      funext x y
      simp only [eG]
      (repeat' split) <;> first | rfl | (exfalso; omega) | (subst_vars; exact if_neg (by omega))
    rw [e0] at hq
    refine wp_iload_n (i := 2) dX8_back_24 rfl rfl ?_
    refine wp_bipush (v := 10) dX8_back_25 (by decide) ?_
    refine wp_icmp_ge (tgt := 82) dX8_back_27 (by decide) (fun zq27 => ?_) (fun zq27 => absurd (nI_le (show 10 ≤ 10 by decide) (by decide)) zq27) 
    exact hq x3
  | succ r ih =>
    intro k I hk x3 hx hq
    refine wp_iload_n (i := 2) dX8_back_24 rfl rfl ?_
    refine wp_bipush (v := 10) dX8_back_25 (by decide) ?_
    refine wp_icmp_ge (tgt := 82) dX8_back_27 (by decide) (fun zq27 => absurd zq27 (nI_ge (show k < 10 by omega) (by decide))) (fun zq27 => ?_) 
    refine wp_aload_n (i := 0) dX8_back_30 rfl rfl ?_
    refine wp_getR dX8_back_31 fl_X8_44 rfl (st_k hst rfl) (st_r hst rfl) ?_
    refine wp_bipush (v := 10) dX8_back_34 (by decide) ?_
    refine wp_iload_n (i := 1) dX8_back_36 rfl rfl ?_
    refine wp_imul dX8_back_37 ?_
    refine wp_iload_n (i := 2) dX8_back_38 rfl rfl ?_
    refine wp_iadd dX8_back_39 ?_
    refine wp_ild (j := ((10 * j) + k)) dX8_back_40 (st_t hst rfl) (n_add (n_mul rfl rfl) rfl) (by omega) ?_
    refine wp_istore_4_3 dX8_back_41 hx ?_
    refine wp_aload_n (i := 0) dX8_back_42 rfl rfl ?_
    refine wp_getR dX8_back_43 fl_X8_44 rfl (st_k hst rfl) (st_r hst rfl) ?_
    refine wp_bipush (v := 10) dX8_back_46 (by decide) ?_
    refine wp_iload_n (i := 1) dX8_back_48 rfl rfl ?_
    refine wp_imul dX8_back_49 ?_
    refine wp_iload_n (i := 2) dX8_back_50 rfl rfl ?_
    refine wp_iadd dX8_back_51 ?_
    refine wp_aload_n (i := 0) dX8_back_52 rfl rfl ?_
    refine wp_getR dX8_back_53 fl_X8_47 rfl (st_k hst rfl) (st_r hst rfl) ?_
    refine wp_bipush (v := 10) dX8_back_56 (by decide) ?_
    refine wp_iload_n (i := 1) dX8_back_58 rfl rfl ?_
    refine wp_imul dX8_back_59 ?_
    refine wp_iload_n (i := 2) dX8_back_60 rfl rfl ?_
    refine wp_iadd dX8_back_61 ?_
    refine wp_ild (j := ((10 * j) + k)) dX8_back_62 (st_t hst rfl) (n_add (n_mul rfl rfl) rfl) (by omega) ?_
    refine wp_ist (j := ((10 * j) + k)) dX8_back_63 (st_t hst rfl) (n_add (n_mul rfl rfl) rfl) (by omega) ?_
    refine wp_aload_n (i := 0) dX8_back_64 rfl rfl ?_
    refine wp_getR dX8_back_65 fl_X8_47 rfl (st_k hst rfl) (st_r hst rfl) ?_
    refine wp_bipush (v := 10) dX8_back_68 (by decide) ?_
    refine wp_iload_n (i := 1) dX8_back_70 rfl rfl ?_
    refine wp_imul dX8_back_71 ?_
    refine wp_iload_n (i := 2) dX8_back_72 rfl rfl ?_
    refine wp_iadd dX8_back_73 ?_
    refine wp_iload_n (i := 3) dX8_back_74 rfl rfl ?_
    refine wp_ist (j := ((10 * j) + k)) dX8_back_75 (st_t hst rfl) (n_add (n_mul rfl rfl) rfl) (by omega) ?_
    refine wp_iinc_4_2 (v := nI (k + 1)) dX8_back_76 (n_add rfl rfl) ?_
    refine wp_goto (tgt := 24) dX8_back_79 (by decide) ?_
    exact ih (k + 1) _ (by omega) _ rfl (fun x4 => by rw [swap_step (by omega)]; exact hq x4)

theorem c_backM (d : Nat) {n : Nat} {t : eT} {I : eI} {R : eR} {Q : Int32 → Nat → eT → eI → eR → Prop} (hst : ST n t R) {m : Nat} (hmM : I 94 9 = nI m) (hm4 : m ≤ 4) {p : Int32} (h1 : (∀ j, j < m → p ≠ nI j) → Q (-1) n t I R) (h2 : ∀ j, j < m → p = nI j → I 105 j = 0 → Q (-3) n t I R) (h3 : ∀ j, j < m → p = nI j → ¬ I 105 j = 0 → Q 1 n t (eU (eG (eG I 106 (fun x => if 10 * j + 0 ≤ x ∧ x < 10 * j + 10 then I 107 x else I 106 x)) 107 (fun x => if 10 * j + 0 ≤ x ∧ x < 10 * j + 10 then I 106 x else I 107 x)) 114 j (-9)) R) : MC yX8_back cX8_back 4 (some .int) (d + 2) 0 0 [.ref 94, .int p] n t I R (qI Q) := by
  refine mc_intro (L0 := [.ref 94, .int p, vU, vU]) (by decide) rfl (Nat.le_of_ble_eq_true rfl) ?_
  refine wp_aload_n (i := 0) dX8_back_0 rfl rfl ?_
  refine wp_iload_n (i := 1) dX8_back_1 rfl rfl ?_
  refine wp_V1i dX8_back_2 mw_942 mw_944 ms_32 mi_X8_noPerson (Nat.le_of_ble_eq_true rfl) (Nat.le_refl _) (Nat.le_refl _) (st_k hst rfl) (by decide) rfl (c_noPerson _ hst (by exact hmM) hm4 (fun j2 hj2 e2 => ?_) (fun no2 => ?_)) 
  · subst e2
    refine wp_if_eq0 (tgt := 10) dX8_back_5 (by decide) ?_
    refine wp_aload_n (i := 0) dX8_back_10 rfl rfl ?_
    refine wp_getR dX8_back_11 fl_X8_41 rfl (st_k hst rfl) (st_r hst rfl) ?_
    refine wp_iload_n (i := 1) dX8_back_14 rfl rfl ?_
    refine wp_zld dX8_back_15 (st_t hst rfl) rfl (by omega) ?_
    refine wp_if_ne (tgt := 22) dX8_back_16 (by decide) (fun zq16 => ?_) (fun zq16 => ?_) 
    · refine wp_iconst (v := 0) dX8_back_22 (by decide) ?_
      refine wp_istore_4_2 dX8_back_23 rfl ?_
      refine lp_back _ hst (show j2 < 4 by omega) 10 0 I rfl vU rfl (fun x4 => ?_)
      refine wp_aload_n (i := 0) dX8_back_82 rfl rfl ?_
      refine wp_getR dX8_back_83 fl_X8_68 rfl (st_k hst rfl) (st_r hst rfl) ?_
      refine wp_iload_n (i := 1) dX8_back_86 rfl rfl ?_
      refine wp_bipush (v := (-9)) dX8_back_87 (by decide) ?_
      refine wp_ist dX8_back_89 (st_t hst rfl) rfl (by omega) ?_
      refine wp_iconst (v := 1) dX8_back_90 (by decide) ?_
      exact wp_retI dX8_back_91 rfl (Nat.le_refl _) (Nat.le_refl _) (h3 j2 hj2 rfl zq16)
    · refine wp_bipush (v := (-3)) dX8_back_19 (by decide) ?_
      exact wp_retI dX8_back_21 rfl (Nat.le_refl _) (Nat.le_refl _) (h2 j2 hj2 rfl zq16)
  · skip
    refine wp_if_eq1 (tgt := 10) dX8_back_5 (by decide) ?_
    refine wp_iconst (v := (-1)) dX8_back_8 (by decide) ?_
    exact wp_retI dX8_back_9 rfl (Nat.le_refl _) (Nat.le_refl _) (h1 no2)

def tC (I : eI) (u : Nat) : Nat → Nat → Int32 := (fun b a => if (I u 0 >>> (nI a &&& 31)) &&& 1 = 1 ∧ (I u 0 >>> (nI b &&& 31)) &&& 1 = 1 then (I (9 + a) b + I (9 + b) a) * wayI (I (u + 1) a) (I (u + 1) b) else 0)
def tM (I : eI) (j : Nat) : Nat → Nat → Int32 := (fun a b => if I 106 (10 * j + a) < 0 ∨ I 106 (10 * j + b) < 0 then 0 else (I 97 (10 * a + b) + I 97 (10 * b + a)) * (absI (I 106 (10 * j + a) % 4 - I 106 (10 * j + b) % 4) + absI (I 106 (10 * j + a) / 4 - I 106 (10 * j + b) / 4)))

theorem addI_s {s v : Int32} {T : Nat → Int32} {a : Nat} (h : T a = v) : addI s T a + v = addI s T (a + 1) := by
  show _ = addI s T a + T a
  rw [h]
theorem addI_z {s : Int32} {T : Nat → Int32} {a : Nat} (h : T a = 0) : addI s T a = addI s T (a + 1) := by
  show _ = addI s T a + T a
  rw [h, Int32.add_zero]

theorem lp_pb1 (d : Nat) {n : Nat} {t : eT} {I : eI} {R : eR} {Q : eQt} (hst : ST n t R) {u : Nat} (hta : (t u).1 = 0) (hra : R u 1 = some (u + 1)) (htp : t (u + 1) = (9, 10)) {k : Nat} (hk : I 5 0 = nI k) (hk4 : k ≤ 10) {b : Nat} (hb : b < k) (s : Int32) : ∀ (r a : Nat), a + r = b → wp yX0_priceBy cX0_priceBy 5 (some .int) (d + 2) 0 0 Q 0 0 71 [.ref u, .ref 5, .int (addI s (tC I u b) b), .int (nI b), .int (nI b)] [] n t I R → wp yX0_priceBy cX0_priceBy 5 (some .int) (d + 2) 0 0 Q 0 0 15 [.ref u, .ref 5, .int (addI s (tC I u b) a), .int (nI b), .int (nI a)] [] n t I R := by
  intro r
  induction r with
  | zero =>
    intro a ha hq
    obtain rfl : a = b := by omega
    refine wp_iload dX0_priceBy_15 rfl ?_
    refine wp_iload_n (i := 3) dX0_priceBy_17 rfl rfl ?_
    refine wp_icmp_ge (tgt := 71) dX0_priceBy_18 (by decide) (fun zq18 => ?_) (fun zq18 => absurd (nI_le (Nat.le_refl _) (by omega)) zq18) 
    exact hq
  | succ r ih =>
    intro a ha hq
    refine wp_iload dX0_priceBy_15 rfl ?_
    refine wp_iload_n (i := 3) dX0_priceBy_17 rfl rfl ?_
    refine wp_icmp_ge (tgt := 71) dX0_priceBy_18 (by decide) (fun zq18 => absurd zq18 (nI_ge (show a < b by omega) (by omega))) (fun zq18 => ?_) 
    refine wp_aload_n (i := 0) dX0_priceBy_21 rfl rfl ?_
    refine wp_iload dX0_priceBy_22 rfl ?_
    refine wp_V1i dX0_priceBy_24 mw_452 mw_453 mw_454 mi_X0_hasPart (Nat.le_of_ble_eq_true rfl) (Nat.le_refl _) (Nat.le_refl _) hta (by decide) rfl (c_hasPart _ hta (fun ba => ?_) (fun ba => ?_)) 
    · skip
      refine wp_if_eq1 (tgt := 65) dX0_priceBy_27 (by decide) ?_
      refine wp_aload_n (i := 0) dX0_priceBy_30 rfl rfl ?_
      refine wp_iload_n (i := 3) dX0_priceBy_31 rfl rfl ?_
      refine wp_V1i dX0_priceBy_32 mw_452 mw_453 mw_454 mi_X0_hasPart (Nat.le_of_ble_eq_true rfl) (Nat.le_refl _) (Nat.le_refl _) hta (by decide) rfl (c_hasPart _ hta (fun bb => ?_) (fun bb => ?_)) 
      · skip
        refine wp_if_eq1 (tgt := 65) dX0_priceBy_35 (by decide) ?_
        refine wp_iload_n (i := 2) dX0_priceBy_38 rfl rfl ?_
        refine wp_aload_n (i := 1) dX0_priceBy_39 rfl rfl ?_
        refine wp_iload dX0_priceBy_40 rfl ?_
        refine wp_iload_n (i := 3) dX0_priceBy_42 rfl rfl ?_
        refine wp_V2i dX0_priceBy_43 mw_486 mw_418 mw_419 mi_X2_followsBothWays (Nat.le_of_ble_eq_true rfl) (Nat.le_refl _) (Nat.le_refl _) (st_k hst rfl) (by decide) rfl (c_fbw _ hst (by omega) (by omega) ?_) 
        refine wp_aload_n (i := 0) dX0_priceBy_46 rfl rfl ?_
        refine wp_getR dX0_priceBy_47 fl_X0_15 rfl hta hra ?_
        refine wp_iload dX0_priceBy_50 rfl ?_
        refine wp_ild (j := a) dX0_priceBy_52 htp rfl (by omega) ?_
        refine wp_aload_n (i := 0) dX0_priceBy_53 rfl rfl ?_
        refine wp_getR dX0_priceBy_54 fl_X0_15 rfl hta hra ?_
        refine wp_iload_n (i := 3) dX0_priceBy_57 rfl rfl ?_
        refine wp_ild (j := b) dX0_priceBy_58 htp rfl (by omega) ?_
        refine wp_S2i dX0_priceBy_59 mw_487 mw_95 mi_X0_wayBetween (Nat.le_of_ble_eq_true rfl) (Nat.le_refl _) (Nat.le_refl _) (c_wayBetween _ ?_) 
        refine wp_imul dX0_priceBy_62 ?_
        refine wp_iadd dX0_priceBy_63 ?_
        refine wp_istore_5_2 dX0_priceBy_64 rfl ?_
        refine wp_iinc_5_4 (v := nI (a + 1)) dX0_priceBy_65 (n_add rfl rfl) ?_
        refine wp_goto (tgt := 15) dX0_priceBy_68 (by decide) ?_
        rw [addI_s (show tC I u b a = _ from if_pos ⟨ba, bb⟩)]
        exact ih (a + 1) (by omega) hq
      · skip
        refine wp_if_eq0 (tgt := 65) dX0_priceBy_35 (by decide) ?_
        refine wp_iinc_5_4 (v := nI (a + 1)) dX0_priceBy_65 (n_add rfl rfl) ?_
        refine wp_goto (tgt := 15) dX0_priceBy_68 (by decide) ?_
        rw [addI_z (show tC I u b a = 0 from if_neg (fun g => bb g.2))]
        exact ih (a + 1) (by omega) hq
    · skip
      refine wp_if_eq0 (tgt := 65) dX0_priceBy_27 (by decide) ?_
      refine wp_iinc_5_4 (v := nI (a + 1)) dX0_priceBy_65 (n_add rfl rfl) ?_
      refine wp_goto (tgt := 15) dX0_priceBy_68 (by decide) ?_
      rw [addI_z (show tC I u b a = 0 from if_neg (fun g => ba g.1))]
      exact ih (a + 1) (by omega) hq

theorem lp_pb2 (d : Nat) {n : Nat} {t : eT} {I : eI} {R : eR} {Q : eQt} (hst : ST n t R) {u : Nat} (hta : (t u).1 = 0) (hra : R u 1 = some (u + 1)) (htp : t (u + 1) = (9, 10)) {k : Nat} (hk : I 5 0 = nI k) (hk4 : k ≤ 10) : ∀ (r b : Nat), b + r = k → ∀ (x4 : Value), sec x4 = false → (∀ x5 : Value, wp yX0_priceBy cX0_priceBy 5 (some .int) (d + 2) 0 0 Q 0 0 77 [.ref u, .ref 5, .int (addO (tC I u) k), .int (nI k), x5] [] n t I R) → wp yX0_priceBy cX0_priceBy 5 (some .int) (d + 2) 0 0 Q 0 0 4 [.ref u, .ref 5, .int (addO (tC I u) b), .int (nI b), x4] [] n t I R := by
  intro r
  induction r with
  | zero =>
    intro b hb x4 hx hq
    obtain rfl : b = k := by omega
    refine wp_iload_n (i := 3) dX0_priceBy_4 rfl rfl ?_
    refine wp_aload_n (i := 1) dX0_priceBy_5 rfl rfl ?_
    refine wp_getI dX0_priceBy_6 fl_X0_29 rfl (st_k hst rfl) ?_
    refine wp_icmp_ge (tgt := 77) dX0_priceBy_9 (by decide) (fun zq9 => ?_) (fun zq9 => absurd (by rw [hk]; exact nI_le (Nat.le_refl _) (by omega)) zq9) 
    exact hq x4
  | succ r ih =>
    intro b hb x4 hx hq
    refine wp_iload_n (i := 3) dX0_priceBy_4 rfl rfl ?_
    refine wp_aload_n (i := 1) dX0_priceBy_5 rfl rfl ?_
    refine wp_getI dX0_priceBy_6 fl_X0_29 rfl (st_k hst rfl) ?_
    refine wp_icmp_ge (tgt := 77) dX0_priceBy_9 (by decide) (fun zq9 => absurd (show I 5 0 ≤ nI b from zq9) (by rw [hk]; exact nI_ge (show b < k by omega) (by omega))) (fun zq9 => ?_) 
    refine wp_iconst (v := 0) dX0_priceBy_12 (by decide) ?_
    refine wp_istore_5_4 dX0_priceBy_13 hx ?_
    refine lp_pb1 d hst hta hra htp hk hk4 (show b < k by omega) (addO (tC I u) b) b 0 (by omega) ?_
    refine wp_iinc_5_3 (v := nI (b + 1)) dX0_priceBy_71 (n_add rfl rfl) ?_
    refine wp_goto (tgt := 4) dX0_priceBy_74 (by decide) ?_
    exact ih (b + 1) (by omega) _ rfl hq

theorem c_priceBy (d : Nat) {n : Nat} {t : eT} {I : eI} {R : eR} {Q : Int32 → Nat → eT → eI → eR → Prop} (hst : ST n t R) {u : Nat} (hta : (t u).1 = 0) (hra : R u 1 = some (u + 1)) (htp : t (u + 1) = (9, 10)) {k : Nat} (hk : I 5 0 = nI k) (hk4 : k ≤ 10) (hq : Q (addO (tC I u) k) n t I R) : MC yX0_priceBy cX0_priceBy 5 (some .int) (d + 2) 0 0 [.ref u, .ref 5] n t I R (qI Q) := by
  refine mc_intro (L0 := [.ref u, .ref 5, vU, vU, vU]) (by decide) rfl (Nat.le_of_ble_eq_true rfl) ?_
  refine wp_iconst (v := 0) dX0_priceBy_0 (by decide) ?_
  refine wp_istore_5_2 dX0_priceBy_1 rfl ?_
  refine wp_iconst (v := 0) dX0_priceBy_2 (by decide) ?_
  refine wp_istore_5_3 dX0_priceBy_3 rfl ?_
  refine lp_pb2 d hst hta hra htp hk hk4 k 0 (by omega) vU rfl (fun x5 => ?_)
  refine wp_iload_n (i := 2) dX0_priceBy_77 rfl rfl ?_
  exact wp_retI dX0_priceBy_78 rfl (Nat.le_refl _) (Nat.le_refl _) hq

theorem lp_po1 (d : Nat) {n : Nat} {t : eT} {I : eI} {R : eR} {Q : eQt} (hst : ST n t R) {k j : Nat} (hkM : I 94 1 = nI k) (hk4 : k ≤ 10) (hj : j < 4) {a : Nat} (ha : a < k) (s : Int32) : ∀ (r b : Nat) (x5 x6 : Value), sec x5 = false → sec x6 = false → b + r = a → (∀ x5 x6 : Value, sec x5 = false → sec x6 = false → wp yX8_priceOf cX8_priceOf 7 (some .int) (d + 2) 0 0 Q 0 0 94 [.ref 94, .int (nI j), .int (addI s (tM I j a) a), .int (nI a), .int (nI a), x5, x6] [] n t I R) → wp yX8_priceOf cX8_priceOf 7 (some .int) (d + 2) 0 0 Q 0 0 15 [.ref 94, .int (nI j), .int (addI s (tM I j a) b), .int (nI a), .int (nI b), x5, x6] [] n t I R := by
  intro r
  induction r with
  | zero =>
    intro b x5 x6 hx5 hx6 hb hq
    obtain rfl : b = a := by omega
    refine wp_iload dX8_priceOf_15 rfl ?_
    refine wp_iload_n (i := 3) dX8_priceOf_17 rfl rfl ?_
    refine wp_icmp_ge (tgt := 94) dX8_priceOf_18 (by decide) (fun zq18 => ?_) (fun zq18 => absurd (nI_le (Nat.le_refl _) (by omega)) zq18) 
    exact hq _ _ hx5 hx6
  | succ r ih =>
    intro b x5 x6 hx5 hx6 hb hq
    refine wp_iload dX8_priceOf_15 rfl ?_
    refine wp_iload_n (i := 3) dX8_priceOf_17 rfl rfl ?_
    refine wp_icmp_ge (tgt := 94) dX8_priceOf_18 (by decide) (fun zq18 => absurd zq18 (nI_ge (show b < a by omega) (by omega))) (fun zq18 => ?_) 
    refine wp_aload_n (i := 0) dX8_priceOf_21 rfl rfl ?_
    refine wp_getR dX8_priceOf_22 fl_X8_44 rfl (st_k hst rfl) (st_r hst rfl) ?_
    refine wp_bipush (v := 10) dX8_priceOf_25 (by decide) ?_
    refine wp_iload_n (i := 1) dX8_priceOf_27 rfl rfl ?_
    refine wp_imul dX8_priceOf_28 ?_
    refine wp_iload_n (i := 3) dX8_priceOf_29 rfl rfl ?_
    refine wp_iadd dX8_priceOf_30 ?_
    refine wp_ild (j := ((10 * j) + a)) dX8_priceOf_31 (st_t hst rfl) (n_add (n_mul rfl rfl) rfl) (by omega) ?_
    refine wp_istore_7_5 dX8_priceOf_32 (by first | rfl | assumption) ?_
    refine wp_aload_n (i := 0) dX8_priceOf_34 rfl rfl ?_
    refine wp_getR dX8_priceOf_35 fl_X8_44 rfl (st_k hst rfl) (st_r hst rfl) ?_
    refine wp_bipush (v := 10) dX8_priceOf_38 (by decide) ?_
    refine wp_iload_n (i := 1) dX8_priceOf_40 rfl rfl ?_
    refine wp_imul dX8_priceOf_41 ?_
    refine wp_iload dX8_priceOf_42 rfl ?_
    refine wp_iadd dX8_priceOf_44 ?_
    refine wp_ild (j := ((10 * j) + b)) dX8_priceOf_45 (st_t hst rfl) (n_add (n_mul rfl rfl) rfl) (by omega) ?_
    refine wp_istore_7_6 dX8_priceOf_46 (by first | rfl | assumption) ?_
    refine wp_iload_n (i := 2) dX8_priceOf_48 rfl rfl ?_
    refine wp_iload dX8_priceOf_49 rfl ?_
    refine wp_if_lt (tgt := 59) dX8_priceOf_51 (by decide) (fun zq51 => ?_) (fun zq51 => ?_) 
    · refine wp_iconst (v := 0) dX8_priceOf_59 (by decide) ?_
      refine wp_goto (tgt := 86) dX8_priceOf_60 (by decide) ?_
      refine wp_iadd dX8_priceOf_86 ?_
      refine wp_istore_7_2 dX8_priceOf_87 (by first | rfl | assumption) ?_
      refine wp_iinc_7_4 (v := nI (b + 1)) dX8_priceOf_88 (n_add rfl rfl) ?_
      refine wp_goto (tgt := 15) dX8_priceOf_91 (by decide) ?_
      rw [Int32.add_zero, addI_z (show tM I j a b = 0 from if_pos (Or.inl zq51))]
      exact ih (b + 1) _ _ rfl rfl (by omega) hq
    · refine wp_iload dX8_priceOf_54 rfl ?_
      refine wp_if_ge (tgt := 63) dX8_priceOf_56 (by decide) (fun zq56 => ?_) (fun zq56 => ?_) 
      · refine wp_aload_n (i := 0) dX8_priceOf_63 rfl rfl ?_
        refine wp_iload_n (i := 3) dX8_priceOf_64 rfl rfl ?_
        refine wp_iload dX8_priceOf_65 rfl ?_
        refine wp_V2i dX8_priceOf_67 mw_991 mw_993 ms_38 mi_X8_both (Nat.le_of_ble_eq_true rfl) (Nat.le_refl _) (Nat.le_refl _) (st_k hst rfl) (by decide) rfl (c_both _ hst (by omega) (by omega) ?_) 
        refine wp_iload dX8_priceOf_70 rfl ?_
        refine wp_iload dX8_priceOf_72 rfl ?_
        refine wp_S2i dX8_priceOf_74 mw_971 mw_972 mi_X8_across (Nat.le_of_ble_eq_true rfl) (Nat.le_refl _) (Nat.le_refl _) (c_across _ ?_) 
        refine wp_iload dX8_priceOf_77 rfl ?_
        refine wp_iload dX8_priceOf_79 rfl ?_
        refine wp_S2i dX8_priceOf_81 mw_977 mw_978 mi_X8_down (Nat.le_of_ble_eq_true rfl) (Nat.le_refl _) (Nat.le_refl _) (c_down _ ?_) 
        refine wp_iadd dX8_priceOf_84 ?_
        refine wp_imul dX8_priceOf_85 ?_
        refine wp_iadd dX8_priceOf_86 ?_
        refine wp_istore_7_2 dX8_priceOf_87 (by first | rfl | assumption) ?_
        refine wp_iinc_7_4 (v := nI (b + 1)) dX8_priceOf_88 (n_add rfl rfl) ?_
        refine wp_goto (tgt := 15) dX8_priceOf_91 (by decide) ?_
        rw [addI_s (show tM I j a b = _ from if_neg (fun g => g.elim zq51 (Int32.not_lt.mpr zq56)))]
        exact ih (b + 1) _ _ rfl rfl (by omega) hq
      · refine wp_iconst (v := 0) dX8_priceOf_59 (by decide) ?_
        refine wp_goto (tgt := 86) dX8_priceOf_60 (by decide) ?_
        refine wp_iadd dX8_priceOf_86 ?_
        refine wp_istore_7_2 dX8_priceOf_87 (by first | rfl | assumption) ?_
        refine wp_iinc_7_4 (v := nI (b + 1)) dX8_priceOf_88 (n_add rfl rfl) ?_
        refine wp_goto (tgt := 15) dX8_priceOf_91 (by decide) ?_
        rw [Int32.add_zero, addI_z (show tM I j a b = 0 from if_pos (Or.inr (Int32.not_le.mp zq56)))]
        exact ih (b + 1) _ _ rfl rfl (by omega) hq

theorem lp_po2 (d : Nat) {n : Nat} {t : eT} {I : eI} {R : eR} {Q : eQt} (hst : ST n t R) {k j : Nat} (hkM : I 94 1 = nI k) (hk4 : k ≤ 10) (hj : j < 4) : ∀ (r a : Nat), a + r = k → ∀ (x4 x5 x6 : Value), sec x4 = false → sec x5 = false → sec x6 = false → (∀ x7 x8 x9 : Value, wp yX8_priceOf cX8_priceOf 7 (some .int) (d + 2) 0 0 Q 0 0 100 [.ref 94, .int (nI j), .int (addO (tM I j) k), .int (nI k), x7, x8, x9] [] n t I R) → wp yX8_priceOf cX8_priceOf 7 (some .int) (d + 2) 0 0 Q 0 0 4 [.ref 94, .int (nI j), .int (addO (tM I j) a), .int (nI a), x4, x5, x6] [] n t I R := by
  intro r
  induction r with
  | zero =>
    intro a ha x4 x5 x6 hx hx5 hx6 hq
    obtain rfl : a = k := by omega
    refine wp_iload_n (i := 3) dX8_priceOf_4 rfl rfl ?_
    refine wp_aload_n (i := 0) dX8_priceOf_5 rfl rfl ?_
    refine wp_getI dX8_priceOf_6 fl_X8_143 rfl (st_k hst rfl) ?_
    refine wp_icmp_ge (tgt := 100) dX8_priceOf_9 (by decide) (fun zq9 => ?_) (fun zq9 => absurd (by rw [hkM]; exact nI_le (Nat.le_refl _) (by omega)) zq9) 
    exact hq _ _ _
  | succ r ih =>
    intro a ha x4 x5 x6 hx hx5 hx6 hq
    refine wp_iload_n (i := 3) dX8_priceOf_4 rfl rfl ?_
    refine wp_aload_n (i := 0) dX8_priceOf_5 rfl rfl ?_
    refine wp_getI dX8_priceOf_6 fl_X8_143 rfl (st_k hst rfl) ?_
    refine wp_icmp_ge (tgt := 100) dX8_priceOf_9 (by decide) (fun zq9 => absurd (show I 94 1 ≤ nI a from zq9) (by rw [hkM]; exact nI_ge (show a < k by omega) (by omega))) (fun zq9 => ?_) 
    refine wp_iconst (v := 0) dX8_priceOf_12 (by decide) ?_
    refine wp_istore_7_4 dX8_priceOf_13 hx ?_
    refine lp_po1 d hst hkM hk4 hj (show a < k by omega) (addO (tM I j) a) a 0 _ _ hx5 hx6 (by omega) (fun x7 x8 hx7 hx8 => ?_)
    refine wp_iinc_7_3 (v := nI (a + 1)) dX8_priceOf_94 (n_add rfl rfl) ?_
    refine wp_goto (tgt := 4) dX8_priceOf_97 (by decide) ?_
    exact ih (a + 1) (by omega) _ _ _ rfl hx7 hx8 hq

theorem c_priceOf (d : Nat) {n : Nat} {t : eT} {I : eI} {R : eR} {Q : Int32 → Nat → eT → eI → eR → Prop} (hst : ST n t R) {k j : Nat} (hkM : I 94 1 = nI k) (hk4 : k ≤ 10) (hj : j < 4) (hq : Q (addO (tM I j) k) n t I R) : MC yX8_priceOf cX8_priceOf 7 (some .int) (d + 2) 0 0 [.ref 94, .int (nI j)] n t I R (qI Q) := by
  refine mc_intro (L0 := [.ref 94, .int (nI j), vU, vU, vU, vU, vU]) (by decide) rfl (Nat.le_of_ble_eq_true rfl) ?_
  refine wp_iconst (v := 0) dX8_priceOf_0 (by decide) ?_
  refine wp_istore_7_2 dX8_priceOf_1 rfl ?_
  refine wp_iconst (v := 0) dX8_priceOf_2 (by decide) ?_
  refine wp_istore_7_3 dX8_priceOf_3 rfl ?_
  refine lp_po2 d hst hkM hk4 hj k 0 (by omega) vU vU vU rfl rfl rfl (fun x7 x8 x9 => ?_)
  refine wp_iload_n (i := 2) dX8_priceOf_100 rfl rfl ?_
  exact wp_retI dX8_priceOf_101 rfl (Nat.le_refl _) (Nat.le_refl _) hq

theorem c_price (d : Nat) {n : Nat} {t : eT} {I : eI} {R : eR} {Q : Int32 → Nat → eT → eI → eR → Prop} (hst : ST n t R) {m : Nat} (hm : I 4 3 = nI m) (hm4 : m ≤ 4) {k : Nat} (hk : I 5 0 = nI k) (hk4 : k ≤ 10) (hly : ∀ j, j < 4 → ∃ u, R (54 + 10 * j) 1 = some u ∧ (t u).1 = 0 ∧ R u 1 = some (u + 1) ∧ t (u + 1) = (9, 10)) {p : Int32} (h1 : (∀ j, j < m → p ≠ nI j) → Q (-1) n t I R) (h2 : ∀ j u, j < m → p = nI j → R (54 + 10 * j) 1 = some u → I u 0 = 0 → Q (-3) n t I R) (h3 : ∀ j u, j < m → p = nI j → R (54 + 10 * j) 1 = some u → ¬ I u 0 = 0 → Q (addO (tC I u) k) n t I R) : MC yX7_price cX7_price 2 (some .int) (d + 3) 0 0 [.ref 4, .int p] n t I R (qI Q) := by
  refine mc_intro (L0 := [.ref 4, .int p]) (by decide) rfl (Nat.le_of_ble_eq_true rfl) ?_
  refine wp_aload_n (i := 0) dX7_price_0 rfl rfl ?_
  refine wp_iload_n (i := 1) dX7_price_1 rfl rfl ?_
  refine wp_V1i dX7_price_2 mw_375 mw_377 ms_7 mi_X7_isPerson (Nat.le_of_ble_eq_true rfl) (Nat.le_refl _) (Nat.le_refl _) (st_k hst rfl) (by decide) rfl (c_isPerson _ hst (by exact hm) hm4 (fun j2 hj2 e2 => ?_) (fun no2 => ?_)) 
  · subst e2
    refine wp_if_ne1 (tgt := 10) dX7_price_5 (by decide) ?_
    obtain ⟨u, hu, htu, hru, htp⟩ := hly j2 (by omega)
    refine wp_aload_n (i := 0) dX7_price_10 rfl rfl ?_
    refine wp_getR dX7_price_11 fl_X7_27 rfl (st_k hst rfl) (st_r hst rfl) ?_
    refine wp_iload_n (i := 1) dX7_price_14 rfl rfl ?_
    refine wp_rld11 dX7_price_15 (st_t hst rfl) rfl (by omega) (sp_34 hst (by omega)) ?_
    refine wp_getR dX7_price_16 fl_X7_147 rfl (sp_k0 hst (by omega)) hu ?_
    refine wp_V0i dX7_price_19 mw_477 mw_445 mw_446 mi_X0_isEmpty (Nat.le_of_ble_eq_true rfl) (Nat.le_refl _) (Nat.le_refl _) htu (by decide) rfl (c_isEmpty _ htu (fun ge => ?_) (fun ge => ?_)) 
    · skip
      refine wp_if_eq1 (tgt := 28) dX7_price_22 (by decide) ?_
      refine wp_bipush (v := (-3)) dX7_price_25 (by decide) ?_
      exact wp_retI dX7_price_27 rfl (Nat.le_refl _) (Nat.le_refl _) (h2 j2 u hj2 rfl hu ge)
    · skip
      refine wp_if_eq0 (tgt := 28) dX7_price_22 (by decide) ?_
      refine wp_aload_n (i := 0) dX7_price_28 rfl rfl ?_
      refine wp_getR dX7_price_29 fl_X7_27 rfl (st_k hst rfl) (st_r hst rfl) ?_
      refine wp_iload_n (i := 1) dX7_price_32 rfl rfl ?_
      refine wp_rld11 dX7_price_33 (st_t hst rfl) rfl (by omega) (sp_34 hst (by omega)) ?_
      refine wp_getR dX7_price_34 fl_X7_147 rfl (sp_k0 hst (by omega)) hu ?_
      refine wp_aload_n (i := 0) dX7_price_37 rfl rfl ?_
      refine wp_getR dX7_price_38 fl_X7_12 rfl (st_k hst rfl) (st_r hst rfl) ?_
      refine wp_V1i dX7_price_41 mw_482 mw_483 mw_484 mi_X0_priceBy (Nat.le_of_ble_eq_true rfl) (Nat.le_refl _) (Nat.le_refl _) htu (by decide) rfl (c_priceBy _ hst htu hru htp hk hk4 ?_) 
      exact wp_retI dX7_price_44 rfl (Nat.le_refl _) (Nat.le_refl _) (h3 j2 u hj2 rfl hu ge)
  · skip
    refine wp_if_ne0 (tgt := 10) dX7_price_5 (by decide) ?_
    refine wp_iconst (v := (-1)) dX7_price_8 (by decide) ?_
    exact wp_retI dX7_price_9 rfl (Nat.le_refl _) (Nat.le_refl _) (h1 no2)

theorem c_priceM (d : Nat) {n : Nat} {t : eT} {I : eI} {R : eR} {Q : Int32 → Nat → eT → eI → eR → Prop} (hst : ST n t R) {m : Nat} (hmM : I 94 9 = nI m) (hm4 : m ≤ 4) {k : Nat} (hkM : I 94 1 = nI k) (hk4 : k ≤ 10) {p : Int32} (h1 : (∀ j, j < m → p ≠ nI j) → Q (-1) n t I R) (h2 : ∀ j, j < m → p = nI j → I 104 j = 0 → Q (-3) n t I R) (h3 : ∀ j, j < m → p = nI j → ¬ I 104 j = 0 → Q (addO (tM I j) k) n t I R) : MC yX8_price cX8_price 2 (some .int) (d + 3) 0 0 [.ref 94, .int p] n t I R (qI Q) := by
  refine mc_intro (L0 := [.ref 94, .int p]) (by decide) rfl (Nat.le_of_ble_eq_true rfl) ?_
  refine wp_aload_n (i := 0) dX8_price_0 rfl rfl ?_
  refine wp_iload_n (i := 1) dX8_price_1 rfl rfl ?_
  refine wp_V1i dX8_price_2 mw_942 mw_944 ms_32 mi_X8_noPerson (Nat.le_of_ble_eq_true rfl) (Nat.le_refl _) (Nat.le_refl _) (st_k hst rfl) (by decide) rfl (c_noPerson _ hst (by exact hmM) hm4 (fun j2 hj2 e2 => ?_) (fun no2 => ?_)) 
  · subst e2
    refine wp_if_eq0 (tgt := 10) dX8_price_5 (by decide) ?_
    refine wp_aload_n (i := 0) dX8_price_10 rfl rfl ?_
    refine wp_getR dX8_price_11 fl_X8_37 rfl (st_k hst rfl) (st_r hst rfl) ?_
    refine wp_iload_n (i := 1) dX8_price_14 rfl rfl ?_
    refine wp_zld dX8_price_15 (st_t hst rfl) rfl (by omega) ?_
    refine wp_if_eq (tgt := 27) dX8_price_16 (by decide) (fun zq16 => ?_) (fun zq16 => ?_) 
    · refine wp_bipush (v := (-3)) dX8_price_27 (by decide) ?_
      exact wp_retI dX8_price_29 rfl (Nat.le_refl _) (Nat.le_refl _) (h2 j2 hj2 rfl zq16)
    · refine wp_aload_n (i := 0) dX8_price_19 rfl rfl ?_
      refine wp_iload_n (i := 1) dX8_price_20 rfl rfl ?_
      refine wp_V1i dX8_price_21 mw_1012 mw_1014 ms_41 mi_X8_priceOf (Nat.le_of_ble_eq_true rfl) (Nat.le_refl _) (Nat.le_refl _) (st_k hst rfl) (by decide) rfl (c_priceOf _ hst hkM hk4 (by omega) ?_) 
      refine wp_goto (tgt := 29) dX8_price_24 (by decide) ?_
      exact wp_retI dX8_price_29 rfl (Nat.le_refl _) (Nat.le_refl _) (h3 j2 hj2 rfl zq16)
  · skip
    refine wp_if_eq1 (tgt := 10) dX8_price_5 (by decide) ?_
    refine wp_iconst (v := (-1)) dX8_price_8 (by decide) ?_
    exact wp_retI dX8_price_9 rfl (Nat.le_refl _) (Nat.le_refl _) (h1 no2)

