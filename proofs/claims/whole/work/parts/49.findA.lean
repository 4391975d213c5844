def bI (b : Bool) : Int32 := if b = true then 1 else 0
/-- what the reference knows as it seeks, what it has found -/
def SM (I : eI) (c : Nat) (ch : Nat → Nat) (fv : Nat → Nat → Nat) (k w : Nat) (rv : Int32) (j : Nat) : Prop := I 94 17 = nI c ∧ (∀ i, i < c → I 108 i = nI (ch i)) ∧ (∀ x y, x < k → y < k → I 97 (10 * x + y) = nI (fv x y)) ∧ I 101 j = nI w ∧ I 102 j = rv
def BM (I : eI) (c : Nat) (b : BS) : Prop := match b with
  | none => I 94 21 = -9
  | some q => I 94 21 = nI q.1 ∧ q.1 ≤ 24750 ∧ ∀ i, i < c → I 110 i = nI (q.2 i) ∧ q.2 i < 12
def FrN (I I2 : eI) : Prop := (∀ a, a ≠ 94 → a ≠ 109 → a ≠ 110 → I2 a = I a) ∧ ∀ f, f ≠ 21 → I2 94 f = I 94 f
theorem FrN.rf (I : eI) : FrN I I := ⟨fun _ _ _ _ => rfl, fun _ _ => rfl⟩
theorem FrN.tr {I I2 I3 : eI} (h : FrN I I2) (h2 : FrN I2 I3) : FrN I I3 := ⟨fun a a1 a2 a3 => (h2.1 a a1 a2 a3).trans (h.1 a a1 a2 a3), fun f hf => (h2.2 f hf).trans (h.2 f hf)⟩
theorem FrN.t {I : eI} {x : Nat} {v : Int32} : FrN I (eU I 109 x v) := ⟨fun a a1 a2 a3 => eU_ne a2, fun f hf => rfl⟩
theorem SM.fr {I I2 : eI} {c : Nat} {ch : Nat → Nat} {fv : Nat → Nat → Nat} {k w : Nat} {rv : Int32} {j : Nat} (h : SM I c ch fv k w rv j) (hf : FrN I I2) : SM I2 c ch fv k w rv j := by
  refine ⟨?_, fun i hi => ?_, fun x y hx hy => ?_, ?_, ?_⟩
  · rw [hf.2 17 (by decide)]; exact h.1
  · rw [hf.1 108 (by decide) (by decide) (by decide)]; exact h.2.1 i hi
  · rw [hf.1 97 (by decide) (by decide) (by decide)]; exact h.2.2.1 x y hx hy
  · rw [hf.1 101 (by decide) (by decide) (by decide)]; exact h.2.2.2.1
  · rw [hf.1 102 (by decide) (by decide) (by decide)]; exact h.2.2.2.2
theorem BM.t {I : eI} {c x : Nat} {v : Int32} {b : BS} (h : BM I c b) : BM (eU I 109 x v) c b := by cases b <;> exact h
theorem okx_t {rb : Nat → Bool} {w : Nat} {pos : Nat → Nat} {pl x : Nat} (h : okx rb w pos pl x = true) : okx rb w pos pl (x + 1) = decide (w < apN (pos x) pl) := by
  show (okx rb w pos pl x && _) = _
  rw [h, Bool.true_and]
theorem okx_f {rb : Nat → Bool} {w : Nat} {pos : Nat → Nat} {pl x : Nat} (h : okx rb w pos pl x = false) : okx rb w pos pl (x + 1) = false := by
  show (okx rb w pos pl x && _) = _
  rw [h, Bool.false_and]
theorem lp_may (d : Nat) {n : Nat} {t : eT} {I : eI} {R : eR} {Q : eQt} (hst : ST n t R) {j : Nat} (hj : j < 4) {w : Nat} (hw : w ≤ 2) {rv : Int32} (hI1 : I 101 j = nI w) (hI2 : I 102 j = rv) {k pl : Nat} (hk5 : k < 5) (hpl : pl < 12) {pos : Nat → Nat} (hS : ∀ x, x < k → I 109 x = nI (pos x) ∧ pos x < 12) : ∀ (r x : Nat), x + r = k → wp yX8_mayBe cX8_mayBe 6 (some .boolean) (d + 2) 0 0 Q 0 0 73 [.ref 94, .int (nI j), .int (nI k), .int (nI pl), .int (bI (okx (fun q => bt rv q) w pos pl k)), .int (nI k)] [] n t I R → wp yX8_mayBe cX8_mayBe 6 (some .boolean) (d + 2) 0 0 Q 0 0 15 [.ref 94, .int (nI j), .int (nI k), .int (nI pl), .int (bI (okx (fun q => bt rv q) w pos pl x)), .int (nI x)] [] n t I R := by
  intro r
  induction r with
  | zero =>
    intro x hx hq
    obtain rfl : x = k := by omega
    refine wp_iload dX8_mayBe_15 rfl ?_
    refine wp_iload_n (i := 2) dX8_mayBe_17 rfl rfl ?_
    refine wp_icmp_ge (tgt := 73) dX8_mayBe_18 (by decide) (fun zq18 => ?_) (fun zq18 => absurd (nI_le (Nat.le_refl _) (by omega)) zq18) 
    exact hq
  | succ r ih =>
    intro x hx hq
    cases hb : okx (fun q => bt rv q) w pos pl x with
    | false =>
      refine wp_iload dX8_mayBe_15 rfl ?_
      refine wp_iload_n (i := 2) dX8_mayBe_17 rfl rfl ?_
      refine wp_icmp_ge (tgt := 73) dX8_mayBe_18 (by decide) (fun zq18 => absurd zq18 (nI_ge (show x < k by omega) (by omega))) (fun zq18 => ?_) 
      refine wp_iload dX8_mayBe_21 rfl ?_
      refine wp_if_eq (tgt := 64) dX8_mayBe_23 (by decide) (fun zq23 => ?_) (fun zq23 => absurd rfl zq23) 
      refine wp_iconst (v := 0) dX8_mayBe_64 (by decide) ?_
      refine wp_istore_6_4 dX8_mayBe_65 rfl ?_
      refine wp_iinc_6_5 (v := nI (x + 1)) dX8_mayBe_67 (n_add rfl rfl) ?_
      refine wp_goto (tgt := 15) dX8_mayBe_70 (by decide) ?_
      have ih2 := ih (x + 1) (by omega) hq
      rw [okx_f hb] at ih2
      exact ih2
    | true =>
      refine wp_iload dX8_mayBe_15 rfl ?_
      refine wp_iload_n (i := 2) dX8_mayBe_17 rfl rfl ?_
      refine wp_icmp_ge (tgt := 73) dX8_mayBe_18 (by decide) (fun zq18 => absurd zq18 (nI_ge (show x < k by omega) (by omega))) (fun zq18 => ?_) 
      refine wp_iload dX8_mayBe_21 rfl ?_
      refine wp_if_eq (tgt := 64) dX8_mayBe_23 (by decide) (fun zq23 => absurd zq23 (by decide)) (fun zq23 => ?_) 
      have hsx := hS x (by omega)
      have hap := ap_wy (pos x) hsx.2 pl hpl
      refine wp_aload_n (i := 0) dX8_mayBe_26 rfl rfl ?_
      refine wp_getR dX8_mayBe_27 fl_X8_53 rfl (st_k hst rfl) (st_r hst rfl) ?_
      refine wp_iload dX8_mayBe_30 rfl ?_
      refine wp_ild (j := x) dX8_mayBe_32 (st_t hst rfl) rfl (by omega) ?_
      refine wp_iload_n (i := 3) dX8_mayBe_33 rfl rfl ?_
      rw [hsx.1]
      refine wp_S2i dX8_mayBe_34 mw_971 mw_972 mi_X8_across (Nat.le_of_ble_eq_true rfl) (Nat.le_refl _) (Nat.le_refl _) (c_across _ ?_) 
      refine wp_aload_n (i := 0) dX8_mayBe_37 rfl rfl ?_
      refine wp_getR dX8_mayBe_38 fl_X8_53 rfl (st_k hst rfl) (st_r hst rfl) ?_
      refine wp_iload dX8_mayBe_41 rfl ?_
      refine wp_ild (j := x) dX8_mayBe_43 (st_t hst rfl) rfl (by omega) ?_
      refine wp_iload_n (i := 3) dX8_mayBe_44 rfl rfl ?_
      rw [hsx.1]
      refine wp_S2i dX8_mayBe_45 mw_977 mw_978 mi_X8_down (Nat.le_of_ble_eq_true rfl) (Nat.le_refl _) (Nat.le_refl _) (c_down _ ?_) 
      refine wp_S2i dX8_mayBe_48 mw_980 mw_981 mi_X8_greater (Nat.le_of_ble_eq_true rfl) (Nat.le_refl _) (Nat.le_refl _) (c_greater _ ?_) 
      refine wp_topI (v2 := nI (apN (pos x) pl)) (ap_m (pos x) hsx.2 pl hpl) ?_
      refine wp_aload_n (i := 0) dX8_mayBe_51 rfl rfl ?_
      refine wp_getR dX8_mayBe_52 fl_X8_28 rfl (st_k hst rfl) (st_r hst rfl) ?_
      refine wp_iload_n (i := 1) dX8_mayBe_55 rfl rfl ?_
      refine wp_ild (j := j) dX8_mayBe_56 (st_t hst rfl) rfl (by omega) ?_
      rw [hI1]
      refine wp_icmp_le (tgt := 64) dX8_mayBe_57 (by decide) (fun zq57 => ?_) (fun zq57 => ?_) 
      · refine wp_iconst (v := 0) dX8_mayBe_64 (by decide) ?_
        refine wp_istore_6_4 dX8_mayBe_65 rfl ?_
        refine wp_iinc_6_5 (v := nI (x + 1)) dX8_mayBe_67 (n_add rfl rfl) ?_
        refine wp_goto (tgt := 15) dX8_mayBe_70 (by decide) ?_
        have ih2 := ih (x + 1) (by omega) hq
        rw [okx_t hb, decide_eq_false (fun g => absurd zq57 (nI_ge g (by omega)))] at ih2
        exact ih2
      · refine wp_iconst (v := 1) dX8_mayBe_60 (by decide) ?_
        refine wp_goto (tgt := 65) dX8_mayBe_61 (by decide) ?_
        refine wp_istore_6_4 dX8_mayBe_65 rfl ?_
        refine wp_iinc_6_5 (v := nI (x + 1)) dX8_mayBe_67 (n_add rfl rfl) ?_
        refine wp_goto (tgt := 15) dX8_mayBe_70 (by decide) ?_
        have ih2 := ih (x + 1) (by omega) hq
        rw [okx_t hb, decide_eq_true (Nat.lt_of_not_le (fun g => zq57 (nI_le g (by omega))))] at ih2
        exact ih2

theorem c_mayBe (d : Nat) {n : Nat} {t : eT} {I : eI} {R : eR} {Q : Int32 → Nat → eT → eI → eR → Prop} (hst : ST n t R) {j : Nat} (hj : j < 4) {w : Nat} (hw : w ≤ 2) {rv : Int32} (hI1 : I 101 j = nI w) (hI2 : I 102 j = rv) {k pl : Nat} (hk5 : k < 5) (hpl : pl < 12) {pos : Nat → Nat} (hS : ∀ x, x < k → I 109 x = nI (pos x) ∧ pos x < 12) (hq : Q (bI (okx (fun q => bt rv q) w pos pl k)) n t I R) : MC yX8_mayBe cX8_mayBe 6 (some .boolean) (d + 2) 0 0 [.ref 94, .int (nI j), .int (nI k), .int (nI pl)] n t I R (qI Q) := by
  refine mc_intro (L0 := [.ref 94, .int (nI j), .int (nI k), .int (nI pl), vU, vU]) (by decide) rfl (Nat.le_of_ble_eq_true rfl) ?_
  refine wp_aload_n (i := 0) dX8_mayBe_0 rfl rfl ?_
  refine wp_getR dX8_mayBe_1 fl_X8_31 rfl (st_k hst rfl) (st_r hst rfl) ?_
  refine wp_iload_n (i := 1) dX8_mayBe_4 rfl rfl ?_
  refine wp_ild (j := j) dX8_mayBe_5 (st_t hst rfl) rfl (by omega) ?_
  refine wp_iload_n (i := 3) dX8_mayBe_6 rfl rfl ?_
  rw [hI2]
  refine wp_S2i dX8_mayBe_7 mw_964 mw_965 mi_X8_hasBit (Nat.le_of_ble_eq_true rfl) (Nat.le_refl _) (Nat.le_refl _) (c_hasBit _ (fun b1 => ?_) (fun b0 => ?_)) 
  · rw [show (1 : Int32) = bI (okx (fun q => bt rv q) w pos pl 0) from (by show 1 = bI (bt rv pl); rw [(bt_at rv (by omega)).mp b1]; rfl)]
    refine wp_istore_6_4 dX8_mayBe_10 rfl ?_
    refine wp_iconst (v := 0) dX8_mayBe_12 (by decide) ?_
    refine wp_istore_6_5 dX8_mayBe_13 rfl ?_
    refine lp_may d hst hj hw hI1 hI2 hk5 hpl hS k 0 (by omega) ?_
    refine wp_iload dX8_mayBe_73 rfl ?_
    exact wp_retZ dX8_mayBe_75 rfl (by cases okx (fun q => bt rv q) w pos pl k <;> rfl) (Nat.le_refl _) (Nat.le_refl _) hq
  · have hbf : bt rv pl = false := by
      cases hb : bt rv pl with
      | false => rfl
      | true => exact absurd ((bt_at rv (by omega)).mpr hb) b0
    rw [show (0 : Int32) = bI (okx (fun q => bt rv q) w pos pl 0) from (by show 0 = bI (bt rv pl); rw [hbf]; rfl)]
    refine wp_istore_6_4 dX8_mayBe_10 rfl ?_
    refine wp_iconst (v := 0) dX8_mayBe_12 (by decide) ?_
    refine wp_istore_6_5 dX8_mayBe_13 rfl ?_
    refine lp_may d hst hj hw hI1 hI2 hk5 hpl hS k 0 (by omega) ?_
    refine wp_iload dX8_mayBe_73 rfl ?_
    exact wp_retZ dX8_mayBe_75 rfl (by cases okx (fun q => bt rv q) w pos pl k <;> rfl) (Nat.le_refl _) (Nat.le_refl _) hq

theorem lp_pt1 (d : Nat) {n : Nat} {t : eT} {I : eI} {R : eR} {Q : eQt} (hst : ST n t R) {c : Nat} (hc : c ≤ 5) {k : Nat} (hk4 : k ≤ 10) {ch : Nat → Nat} (hck : ∀ i, i < c → ch i < k) {fv : Nat → Nat → Nat} {w : Nat} {rv : Int32} {j : Nat} (hM : SM I c ch fv k w rv j) {pos : Nat → Nat} (hS : ∀ x, x < c → I 109 x = nI (pos x) ∧ pos x < 12) {a : Nat} (ha : a < c) : ∀ (r b : Nat), b + r = a → wp yX8_priceOfTried cX8_priceOfTried 4 (some .int) (d + 2) 0 0 Q 0 0 76 [.ref 94, .int (nI (prc (plF fv ch) pos a + inc (plF fv ch) a pos (pos a) a)), .int (nI a), .int (nI a)] [] n t I R → wp yX8_priceOfTried cX8_priceOfTried 4 (some .int) (d + 2) 0 0 Q 0 0 14 [.ref 94, .int (nI (prc (plF fv ch) pos a + inc (plF fv ch) a pos (pos a) b)), .int (nI a), .int (nI b)] [] n t I R := by
  intro r
  induction r with
  | zero =>
    intro b hb hq
    obtain rfl : b = a := by omega
    refine wp_iload_n (i := 3) dX8_priceOfTried_14 rfl rfl ?_
    refine wp_iload_n (i := 2) dX8_priceOfTried_15 rfl rfl ?_
    refine wp_icmp_ge (tgt := 76) dX8_priceOfTried_16 (by decide) (fun zq16 => ?_) (fun zq16 => absurd (nI_le (Nat.le_refl _) (by omega)) zq16) 
    exact hq
  | succ r ih =>
    intro b hb hq
    refine wp_iload_n (i := 3) dX8_priceOfTried_14 rfl rfl ?_
    refine wp_iload_n (i := 2) dX8_priceOfTried_15 rfl rfl ?_
    refine wp_icmp_ge (tgt := 76) dX8_priceOfTried_16 (by decide) (fun zq16 => absurd zq16 (nI_ge (show b < a by omega) (by omega))) (fun zq16 => ?_) 
    have hsa := hS a ha
    have hsb := hS b (by omega)
    have hca := hck a ha
    have hcb := hck b (by omega)
    refine wp_iload_n (i := 1) dX8_priceOfTried_19 rfl rfl ?_
    refine wp_aload_n (i := 0) dX8_priceOfTried_20 rfl rfl ?_
    refine wp_aload_n (i := 0) dX8_priceOfTried_21 rfl rfl ?_
    refine wp_getR dX8_priceOfTried_22 fl_X8_50 rfl (st_k hst rfl) (st_r hst rfl) ?_
    refine wp_iload_n (i := 2) dX8_priceOfTried_25 rfl rfl ?_
    refine wp_ild (j := a) dX8_priceOfTried_26 (st_t hst rfl) rfl (by omega) ?_
    refine wp_aload_n (i := 0) dX8_priceOfTried_27 rfl rfl ?_
    refine wp_getR dX8_priceOfTried_28 fl_X8_50 rfl (st_k hst rfl) (st_r hst rfl) ?_
    refine wp_iload_n (i := 3) dX8_priceOfTried_31 rfl rfl ?_
    refine wp_ild (j := b) dX8_priceOfTried_32 (st_t hst rfl) rfl (by omega) ?_
    rw [hM.2.1 a ha, hM.2.1 b (by omega)]
    refine wp_V2i dX8_priceOfTried_33 mw_991 mw_993 ms_38 mi_X8_both (Nat.le_of_ble_eq_true rfl) (Nat.le_refl _) (Nat.le_refl _) (st_k hst rfl) (by decide) rfl (c_both _ hst (show ch a < 10 by omega) (show ch b < 10 by omega) ?_) 
    refine wp_aload_n (i := 0) dX8_priceOfTried_36 rfl rfl ?_
    refine wp_getR dX8_priceOfTried_37 fl_X8_53 rfl (st_k hst rfl) (st_r hst rfl) ?_
    refine wp_iload_n (i := 2) dX8_priceOfTried_40 rfl rfl ?_
    refine wp_ild (j := a) dX8_priceOfTried_41 (st_t hst rfl) rfl (by omega) ?_
    refine wp_aload_n (i := 0) dX8_priceOfTried_42 rfl rfl ?_
    refine wp_getR dX8_priceOfTried_43 fl_X8_53 rfl (st_k hst rfl) (st_r hst rfl) ?_
    refine wp_iload_n (i := 3) dX8_priceOfTried_46 rfl rfl ?_
    refine wp_ild (j := b) dX8_priceOfTried_47 (st_t hst rfl) rfl (by omega) ?_
    rw [hsa.1, hsb.1]
    refine wp_S2i dX8_priceOfTried_48 mw_971 mw_972 mi_X8_across (Nat.le_of_ble_eq_true rfl) (Nat.le_refl _) (Nat.le_refl _) (c_across _ ?_) 
    refine wp_aload_n (i := 0) dX8_priceOfTried_51 rfl rfl ?_
    refine wp_getR dX8_priceOfTried_52 fl_X8_53 rfl (st_k hst rfl) (st_r hst rfl) ?_
    refine wp_iload_n (i := 2) dX8_priceOfTried_55 rfl rfl ?_
    refine wp_ild (j := a) dX8_priceOfTried_56 (st_t hst rfl) rfl (by omega) ?_
    refine wp_aload_n (i := 0) dX8_priceOfTried_57 rfl rfl ?_
    refine wp_getR dX8_priceOfTried_58 fl_X8_53 rfl (st_k hst rfl) (st_r hst rfl) ?_
    refine wp_iload_n (i := 3) dX8_priceOfTried_61 rfl rfl ?_
    refine wp_ild (j := b) dX8_priceOfTried_62 (st_t hst rfl) rfl (by omega) ?_
    rw [hsa.1, hsb.1]
    refine wp_S2i dX8_priceOfTried_63 mw_977 mw_978 mi_X8_down (Nat.le_of_ble_eq_true rfl) (Nat.le_refl _) (Nat.le_refl _) (c_down _ ?_) 
    refine wp_iadd dX8_priceOfTried_66 ?_
    refine wp_imul dX8_priceOfTried_67 ?_
    refine wp_iadd dX8_priceOfTried_68 ?_
    refine wp_topI (v2 := nI (prc (plF fv ch) pos a + inc (plF fv ch) a pos (pos a) (b + 1))) (Eq.trans (n_add rfl (n_mul (by rw [hM.2.2.1 (ch a) (ch b) hca hcb, hM.2.2.1 (ch b) (ch a) hcb hca]; exact nI_add _ _) (wy_m (pos a) hsa.2 (pos b) hsb.2))) (congrArg nI (Nat.add_assoc _ _ _))) ?_
    refine wp_istore_4_1 dX8_priceOfTried_69 rfl ?_
    refine wp_iinc_4_3 (v := nI (b + 1)) dX8_priceOfTried_70 (n_add rfl rfl) ?_
    refine wp_goto (tgt := 14) dX8_priceOfTried_73 (by decide) ?_
    exact ih (b + 1) (by omega) hq

theorem lp_pt2 (d : Nat) {n : Nat} {t : eT} {I : eI} {R : eR} {Q : eQt} (hst : ST n t R) {c : Nat} (hc : c ≤ 5) {k : Nat} (hk4 : k ≤ 10) {ch : Nat → Nat} (hck : ∀ i, i < c → ch i < k) {fv : Nat → Nat → Nat} {w : Nat} {rv : Int32} {j : Nat} (hM : SM I c ch fv k w rv j) {pos : Nat → Nat} (hS : ∀ x, x < c → I 109 x = nI (pos x) ∧ pos x < 12) : ∀ (r a : Nat), a + r = c → ∀ (x3 : Value), sec x3 = false → (∀ x4 : Value, wp yX8_priceOfTried cX8_priceOfTried 4 (some .int) (d + 2) 0 0 Q 0 0 82 [.ref 94, .int (nI (prc (plF fv ch) pos c)), .int (nI c), x4] [] n t I R) → wp yX8_priceOfTried cX8_priceOfTried 4 (some .int) (d + 2) 0 0 Q 0 0 4 [.ref 94, .int (nI (prc (plF fv ch) pos a)), .int (nI a), x3] [] n t I R := by
  intro r
  induction r with
  | zero =>
    intro a ha x3 hx hq
    obtain rfl : a = c := by omega
    refine wp_iload_n (i := 2) dX8_priceOfTried_4 rfl rfl ?_
    refine wp_aload_n (i := 0) dX8_priceOfTried_5 rfl rfl ?_
    refine wp_getI dX8_priceOfTried_6 fl_X8_198 rfl (st_k hst rfl) ?_
    refine wp_icmp_ge (tgt := 82) dX8_priceOfTried_9 (by decide) (fun zq9 => ?_) (fun zq9 => absurd (by rw [hM.1]; exact nI_le (Nat.le_refl _) (by omega)) zq9) 
    exact hq x3
  | succ r ih =>
    intro a ha x3 hx hq
    refine wp_iload_n (i := 2) dX8_priceOfTried_4 rfl rfl ?_
    refine wp_aload_n (i := 0) dX8_priceOfTried_5 rfl rfl ?_
    refine wp_getI dX8_priceOfTried_6 fl_X8_198 rfl (st_k hst rfl) ?_
    refine wp_icmp_ge (tgt := 82) dX8_priceOfTried_9 (by decide) (fun zq9 => absurd (show I 94 17 ≤ nI a from zq9) (by rw [hM.1]; exact nI_ge (show a < c by omega) (by omega))) (fun zq9 => ?_) 
    refine wp_iconst (v := 0) dX8_priceOfTried_12 (by decide) ?_
    refine wp_istore_4_3 dX8_priceOfTried_13 hx ?_
    refine lp_pt1 d hst hc hk4 hck hM hS (show a < c by omega) a 0 (by omega) ?_
    refine wp_iinc_4_2 (v := nI (a + 1)) dX8_priceOfTried_76 (n_add rfl rfl) ?_
    refine wp_goto (tgt := 4) dX8_priceOfTried_79 (by decide) ?_
    exact ih (a + 1) (by omega) _ rfl hq

theorem c_priceTried (d : Nat) {n : Nat} {t : eT} {I : eI} {R : eR} {Q : Int32 → Nat → eT → eI → eR → Prop} (hst : ST n t R) {c : Nat} (hc : c ≤ 5) {k : Nat} (hk4 : k ≤ 10) {ch : Nat → Nat} (hck : ∀ i, i < c → ch i < k) {fv : Nat → Nat → Nat} {w : Nat} {rv : Int32} {j : Nat} (hM : SM I c ch fv k w rv j) {pos : Nat → Nat} (hS : ∀ x, x < c → I 109 x = nI (pos x) ∧ pos x < 12) (hq : Q (nI (prc (plF fv ch) pos c)) n t I R) : MC yX8_priceOfTried cX8_priceOfTried 4 (some .int) (d + 2) 0 0 [.ref 94] n t I R (qI Q) := by
  refine mc_intro (L0 := [.ref 94, vU, vU, vU]) (by decide) rfl (Nat.le_of_ble_eq_true rfl) ?_
  refine wp_iconst (v := 0) dX8_priceOfTried_0 (by decide) ?_
  refine wp_istore_4_1 dX8_priceOfTried_1 rfl ?_
  refine wp_iconst (v := 0) dX8_priceOfTried_2 (by decide) ?_
  refine wp_istore_4_2 dX8_priceOfTried_3 rfl ?_
  refine lp_pt2 d hst hc hk4 hck hM hS c 0 (by omega) vU rfl (fun x4 => ?_)
  refine wp_iload_n (i := 1) dX8_priceOfTried_82 rfl rfl ?_
  exact wp_retI dX8_priceOfTried_83 rfl (Nat.le_refl _) (Nat.le_refl _) hq

theorem lp_kt (d : Nat) {n : Nat} {t : eT} {R : eR} {Q : Nat → eT → eI → eR → Prop} (hst : ST n t R) {c : Nat} (hc : c ≤ 5) {pos : Nat → Nat} {pd : Int32} : ∀ (r i : Nat) (I : eI), i + r = c → I 94 17 = nI c → (∀ x, x < c → I 109 x = nI (pos x)) → (∀ i2, i2 < i → I 110 i2 = nI (pos i2)) → (∀ I2 : eI, (∀ i2, i2 < c → I2 110 i2 = nI (pos i2)) → (∀ a, a ≠ 110 → I2 a = I a) → Q n t I2 R) → wp yX8_keepTried cX8_keepTried 3 none (d + 3) 0 0 (qV Q) 0 0 27 [.ref 94, .int pd, .int (nI i)] [] n t I R := by
  intro r
  induction r with
  | zero =>
    intro i I hi hcn hS h2 hq
    refine wp_iload_n (i := 2) dX8_keepTried_27 rfl rfl ?_
    refine wp_aload_n (i := 0) dX8_keepTried_28 rfl rfl ?_
    refine wp_getI dX8_keepTried_29 fl_X8_198 rfl (st_k hst rfl) ?_
    refine wp_icmp_ge (tgt := 53) dX8_keepTried_32 (by decide) (fun zq32 => ?_) (fun zq32 => absurd (show I 94 17 ≤ nI i by rw [hcn]; exact nI_le (by omega) (by omega)) zq32) 
    exact wp_retV dX8_keepTried_53 rfl (Nat.le_refl _) (Nat.le_refl _) (hq I (fun i2 hi2 => h2 i2 (by omega)) (fun _ _ => rfl))
  | succ r ih =>
    intro i I hi hcn hS h2 hq
    refine wp_iload_n (i := 2) dX8_keepTried_27 rfl rfl ?_
    refine wp_aload_n (i := 0) dX8_keepTried_28 rfl rfl ?_
    refine wp_getI dX8_keepTried_29 fl_X8_198 rfl (st_k hst rfl) ?_
    refine wp_icmp_ge (tgt := 53) dX8_keepTried_32 (by decide) (fun zq32 => absurd (show I 94 17 ≤ nI i from zq32) (by rw [hcn]; exact nI_ge (show i < c by omega) (by omega))) (fun zq32 => ?_) 
    refine wp_aload_n (i := 0) dX8_keepTried_35 rfl rfl ?_
    refine wp_getR dX8_keepTried_36 fl_X8_56 rfl (st_k hst rfl) (st_r hst rfl) ?_
    refine wp_iload_n (i := 2) dX8_keepTried_39 rfl rfl ?_
    refine wp_aload_n (i := 0) dX8_keepTried_40 rfl rfl ?_
    refine wp_getR dX8_keepTried_41 fl_X8_53 rfl (st_k hst rfl) (st_r hst rfl) ?_
    refine wp_iload_n (i := 2) dX8_keepTried_44 rfl rfl ?_
    refine wp_ild (j := i) dX8_keepTried_45 (st_t hst rfl) rfl (by omega) ?_
    rw [hS i (by omega)]
    refine wp_ist (j := i) dX8_keepTried_46 (st_t hst rfl) rfl (by omega) ?_
    refine wp_iinc_3_2 (v := nI (i + 1)) dX8_keepTried_47 (n_add rfl rfl) ?_
    refine wp_goto (tgt := 27) dX8_keepTried_50 (by decide) ?_
    refine ih (i + 1) (eU I 110 i (nI (pos i))) (by omega) hcn hS (fun i2 hi2 => ?_) (fun I2 g1 g2 => hq I2 g1 (fun a ha => (g2 a ha).trans (eU_ne ha)))
    by_cases e : i2 = i
    · subst e; rw [eU_at]
    · rw [eU_c e]; exact h2 i2 (by omega)

theorem c_keepTried (d : Nat) {n : Nat} {t : eT} {I : eI} {R : eR} {Q : Nat → eT → eI → eR → Prop} (hst : ST n t R) {c : Nat} (hc : c ≤ 5) {k : Nat} (hk4 : k ≤ 10) {ch : Nat → Nat} (hck : ∀ i, i < c → ch i < k) {fv : Nat → Nat → Nat} {w : Nat} {rv : Int32} {j : Nat} (hM : SM I c ch fv k w rv j) {pos : Nat → Nat} (hS : ∀ x, x < c → I 109 x = nI (pos x) ∧ pos x < 12) (hfb : ∀ x y, fv x y ≤ 99) {b : BS} (hB : BM I c b) (hq : ∀ I2 : eI, BM I2 c (bsU b (prc (plF fv ch) pos c) pos) → FrN I I2 → (∀ x, I2 109 x = I 109 x) → Q n t I2 R) : MC yX8_keepTried cX8_keepTried 3 none (d + 3) 0 0 [.ref 94] n t I R (qV Q) := by
  refine mc_intro (L0 := [.ref 94, vU, vU]) (by decide) rfl (Nat.le_of_ble_eq_true rfl) ?_
  refine wp_aload_n (i := 0) dX8_keepTried_0 rfl rfl ?_
  refine wp_V0i dX8_keepTried_1 mw_987 mw_989 ms_37 mi_X8_priceOfTried (Nat.le_of_ble_eq_true rfl) (Nat.le_refl _) (Nat.le_refl _) (st_k hst rfl) (by decide) rfl (c_priceTried _ hst hc hk4 hck hM hS ?_) 
  have hpb : prc (plF fv ch) pos c ≤ 24750 := by have := prc_b (pos := pos) (plF_b (ch := ch) hfb) c hc (fun x hx => (hS x hx).2); omega
  refine wp_istore_3_1 dX8_keepTried_4 rfl ?_
  refine wp_aload_n (i := 0) dX8_keepTried_5 rfl rfl ?_
  refine wp_getI dX8_keepTried_6 fl_X8_204 rfl (st_k hst rfl) ?_
  refine wp_if_lt (tgt := 20) dX8_keepTried_9 (by decide) (fun zq9 => ?_) (fun zq9 => ?_) 
  · refine wp_aload_n (i := 0) dX8_keepTried_20 rfl rfl ?_
    refine wp_iload_n (i := 1) dX8_keepTried_21 rfl rfl ?_
    refine wp_putI dX8_keepTried_22 fl_X8_204 rfl (Or.inl rfl) (st_k hst rfl) ?_
    refine wp_iconst (v := 0) dX8_keepTried_25 (by decide) ?_
    refine wp_istore_3_2 dX8_keepTried_26 rfl ?_
    have hbu : bsU b (prc (plF fv ch) pos c) pos = some (prc (plF fv ch) pos c, pos) := by
      cases b with
      | none => rfl
      | some q => exact absurd (show I 94 21 < 0 from zq9) (by rw [hB.1]; exact nI_pos (by have := hB.2.1; omega))
    exact lp_kt _ hst hc (pos := pos) c 0 _ (by omega) (by exact hM.1) (fun x hx => (hS x hx).1) (fun i2 h => absurd h (Nat.not_lt_zero i2)) (fun I2 g1 g2 => hq I2 (by rw [hbu]; exact ⟨by rw [g2 94 (by decide)]; exact eU_at _ _ _ _, hpb, fun i hi => ⟨g1 i hi, (hS i hi).2⟩⟩) ⟨fun a a1 a2 a3 => (g2 a a3).trans (eU_ne a1), fun f hf => by rw [g2 94 (by decide)]; exact eU_c hf⟩ (fun x => by rw [g2 109 (by decide)]; rfl))
  · obtain ⟨q, hbq⟩ : ∃ q, b = some q := by
      cases b with
      | none => exact absurd (show I 94 21 < 0 by rw [show I 94 21 = -9 from hB]; decide) zq9
      | some q => exact ⟨q, rfl⟩
    subst hbq
    refine wp_iload_n (i := 1) dX8_keepTried_12 rfl rfl ?_
    refine wp_aload_n (i := 0) dX8_keepTried_13 rfl rfl ?_
    refine wp_getI dX8_keepTried_14 fl_X8_204 rfl (st_k hst rfl) ?_
    refine wp_icmp_ge (tgt := 53) dX8_keepTried_17 (by decide) (fun zq17 => ?_) (fun zq17 => ?_) 
    · exact wp_retV dX8_keepTried_53 rfl (Nat.le_refl _) (Nat.le_refl _) (by have hbu : bsU (some q) (prc (plF fv ch) pos c) pos = some q := if_neg (fun g => absurd (show I 94 21 ≤ nI (prc (plF fv ch) pos c) from zq17) (by rw [hB.1]; exact nI_ge g (by have := hB.2.1; omega))); rw [hbu] at hq; exact hq I hB (FrN.rf I) (fun _ => rfl))
    · refine wp_aload_n (i := 0) dX8_keepTried_20 rfl rfl ?_
      refine wp_iload_n (i := 1) dX8_keepTried_21 rfl rfl ?_
      refine wp_putI dX8_keepTried_22 fl_X8_204 rfl (Or.inl rfl) (st_k hst rfl) ?_
      refine wp_iconst (v := 0) dX8_keepTried_25 (by decide) ?_
      refine wp_istore_3_2 dX8_keepTried_26 rfl ?_
      have hbu : bsU (some q) (prc (plF fv ch) pos c) pos = some (prc (plF fv ch) pos c, pos) := if_pos (Nat.lt_of_not_le (fun g => zq17 (by show I 94 21 ≤ _; rw [hB.1]; exact nI_le g (by omega))))
      exact lp_kt _ hst hc (pos := pos) c 0 _ (by omega) (by exact hM.1) (fun x hx => (hS x hx).1) (fun i2 h => absurd h (Nat.not_lt_zero i2)) (fun I2 g1 g2 => hq I2 (by rw [hbu]; exact ⟨by rw [g2 94 (by decide)]; exact eU_at _ _ _ _, hpb, fun i hi => ⟨g1 i hi, (hS i hi).2⟩⟩) ⟨fun a a1 a2 a3 => (g2 a a3).trans (eU_ne a1), fun f hf => by rw [g2 94 (by decide)]; exact eU_c hf⟩ (fun x => by rw [g2 109 (by decide)]; rfl))

theorem lp_fb (d : Nat) {n : Nat} {t : eT} {R : eR} {Q : eQt} (hst : ST n t R) {c : Nat} (hc : c ≤ 5) {k : Nat} (hk4 : k ≤ 10) {ch : Nat → Nat} (hck : ∀ i, i < c → ch i < k) {fv : Nat → Nat → Nat} (hfb : ∀ x y, fv x y ≤ 99) {w : Nat} (hw : w ≤ 2) {rv sv : Int32} {j : Nat} (hj : j < 4) : ∀ (r : Nat), ∀ (k0 : Nat) (pos : Nat → Nat), k0 + r + 1 = c → (∀ x, x < k0 → pos x < 12) → ∀ (m pl : Nat) (I : eI) (b : BS), pl + m = 12 → SM I c ch fv k w rv j → BM I c b → (∀ x, x < k0 → I 109 x = nI (pos x)) → I 109 k0 = nI pl → (∀ I2 : eI, BM I2 c (vlp (fun pl b2 => vis (plF fv ch) (fun q => bt rv q) w r (k0 + 1) (eG pos k0 pl) b2) (fun pl => okx (fun q => bt rv q) w pos pl k0) m b) → (∀ x, x < k0 → I2 109 x = I 109 x) → FrN I I2 → wp yX8_findBest cX8_findBest 4 (some .boolean) (d + 4) 0 0 Q 0 0 79 [.ref 94, .int (nI j), .int sv, .int (nI k0 - 1)] [] n t I2 R) → wp yX8_findBest cX8_findBest 4 (some .boolean) (d + 4) 0 0 Q 0 0 93 [.ref 94, .int (nI j), .int sv, .int (nI k0)] [] n t I R := by
  intro r
  induction r with
  | zero =>
    intro k0 pos hkr hp12 m
    induction m with
    | zero =>
      intro pl I b hplm hM hB hpos ht hq
      refine wp_aload_n (i := 0) dX8_findBest_93 rfl rfl ?_
      refine wp_getR dX8_findBest_94 fl_X8_53 rfl (st_k hst rfl) (st_r hst rfl) ?_
      refine wp_iload_n (i := 3) dX8_findBest_97 rfl rfl ?_
      refine wp_ild (j := k0) dX8_findBest_98 (st_t hst rfl) rfl (by omega) ?_
      refine wp_bipush (v := 12) dX8_findBest_99 (by decide) ?_
      rw [ht]
      refine wp_icmp_ge (tgt := 132) dX8_findBest_101 (by decide) (fun zq101 => ?_) (fun zq101 => absurd (nI_le (a := 12) (by omega) (by omega)) zq101) 
      refine wp_aload_n (i := 0) dX8_findBest_132 rfl rfl ?_
      refine wp_getR dX8_findBest_133 fl_X8_53 rfl (st_k hst rfl) (st_r hst rfl) ?_
      refine wp_iload_n (i := 3) dX8_findBest_136 rfl rfl ?_
      refine wp_ild (j := k0) dX8_findBest_137 (st_t hst rfl) rfl (by omega) ?_
      refine wp_bipush (v := 12) dX8_findBest_138 (by decide) ?_
      rw [ht]
      refine wp_icmp_lt (tgt := 149) dX8_findBest_140 (by decide) (fun zq140 => absurd zq140 (nI_nlt (b := 12) (by omega) (by omega))) (fun zq140 => ?_) 
      refine wp_iinc_4_3 (v := (nI k0 - 1)) dX8_findBest_143 (by rw [Int32.sub_eq_add_neg]; rfl) ?_
      refine wp_goto (tgt := 79) dX8_findBest_146 (by decide) ?_
      exact hq I hB (fun _ _ => rfl) (FrN.rf I)
    | succ m ihm =>
      intro pl I b hplm hM hB hpos ht hq
      have e11 : 11 - m = pl := by omega
      refine wp_aload_n (i := 0) dX8_findBest_93 rfl rfl ?_
      refine wp_getR dX8_findBest_94 fl_X8_53 rfl (st_k hst rfl) (st_r hst rfl) ?_
      refine wp_iload_n (i := 3) dX8_findBest_97 rfl rfl ?_
      refine wp_ild (j := k0) dX8_findBest_98 (st_t hst rfl) rfl (by omega) ?_
      refine wp_bipush (v := 12) dX8_findBest_99 (by decide) ?_
      rw [ht]
      refine wp_icmp_ge (tgt := 132) dX8_findBest_101 (by decide) (fun zq101 => absurd zq101 (nI_ge (b := 12) (by omega) (by decide))) (fun zq101 => ?_) 
      refine wp_aload_n (i := 0) dX8_findBest_104 rfl rfl ?_
      refine wp_iload_n (i := 1) dX8_findBest_105 rfl rfl ?_
      refine wp_iload_n (i := 3) dX8_findBest_106 rfl rfl ?_
      refine wp_aload_n (i := 0) dX8_findBest_107 rfl rfl ?_
      refine wp_getR dX8_findBest_108 fl_X8_53 rfl (st_k hst rfl) (st_r hst rfl) ?_
      refine wp_iload_n (i := 3) dX8_findBest_111 rfl rfl ?_
      refine wp_ild (j := k0) dX8_findBest_112 (st_t hst rfl) rfl (by omega) ?_
      rw [ht]
      refine wp_V3i dX8_findBest_113 mw_967 mw_969 ms_35 mi_X8_mayBe (Nat.le_of_ble_eq_true rfl) (Nat.le_refl _) (Nat.le_refl _) (st_k hst rfl) (by decide) rfl (c_mayBe _ hst hj hw hM.2.2.2.1 hM.2.2.2.2 (show k0 < 5 by omega) (show pl < 12 by omega) (pos := pos) (fun x hx => ⟨hpos x hx, hp12 x hx⟩) ?_) 
      refine wp_if_ne (tgt := 132) dX8_findBest_116 (by decide) (fun zq116 => ?_) (fun zq116 => ?_) 
      · have hg : (fun pl => okx (fun q => bt rv q) w pos pl k0) (11 - m) = true := by
          rw [e11]
          cases hb : okx (fun q => bt rv q) w pos pl k0 with
          | true => exact hb
          | false => rw [hb] at zq116; exact absurd rfl zq116
        have hres : vlp (fun pl b2 => vis (plF fv ch) (fun q => bt rv q) w 0 (k0 + 1) (eG pos k0 pl) b2) (fun pl => okx (fun q => bt rv q) w pos pl k0) (m + 1) b = vlp (fun pl b2 => vis (plF fv ch) (fun q => bt rv q) w 0 (k0 + 1) (eG pos k0 pl) b2) (fun pl => okx (fun q => bt rv q) w pos pl k0) m ((fun pl b2 => vis (plF fv ch) (fun q => bt rv q) w 0 (k0 + 1) (eG pos k0 pl) b2) (11 - m) b) := by
          show vlp _ _ m (if (fun pl => okx (fun q => bt rv q) w pos pl k0) (11 - m) = true then _ else b) = _
          rw [if_pos hg]
        rw [hres, e11] at hq
        refine wp_aload_n (i := 0) dX8_findBest_132 rfl rfl ?_
        refine wp_getR dX8_findBest_133 fl_X8_53 rfl (st_k hst rfl) (st_r hst rfl) ?_
        refine wp_iload_n (i := 3) dX8_findBest_136 rfl rfl ?_
        refine wp_ild (j := k0) dX8_findBest_137 (st_t hst rfl) rfl (by omega) ?_
        refine wp_bipush (v := 12) dX8_findBest_138 (by decide) ?_
        rw [ht]
        refine wp_icmp_lt (tgt := 149) dX8_findBest_140 (by decide) (fun zq140 => ?_) (fun zq140 => absurd (nI_lt (b := 12) (by omega) (by decide)) zq140) 
        refine wp_iload_n (i := 3) dX8_findBest_149 rfl rfl ?_
        refine wp_aload_n (i := 0) dX8_findBest_150 rfl rfl ?_
        refine wp_getI dX8_findBest_151 fl_X8_198 rfl (st_k hst rfl) ?_
        refine wp_iconst (v := 1) dX8_findBest_154 (by decide) ?_
        rw [show I 94 17 = nI c from hM.1]
        refine wp_isub dX8_findBest_155 ?_
        refine wp_topI (v2 := nI (c - 1)) (pk_sub (b := 1) (by omega)) ?_
        refine wp_icmp_ge (tgt := 172) dX8_findBest_156 (by decide) (fun zq156 => ?_) (fun zq156 => absurd (nI_le (by omega) (by omega)) zq156) 
        refine wp_aload_n (i := 0) dX8_findBest_172 rfl rfl ?_
        have hpk : ∀ x, x < c → I 109 x = nI (eG pos k0 pl x) ∧ eG pos k0 pl x < 12 := by
          intro x hx
          by_cases e : x = k0
          · subst e; rw [eG_eq]; exact ⟨ht, by omega⟩
          · rw [eG_ne e]; exact ⟨hpos x (by omega), hp12 x (by omega)⟩
        refine wp_V0v dX8_findBest_173 mw_983 mw_985 ms_36 mi_X8_keepTried (Nat.le_of_ble_eq_true rfl) (Nat.le_refl _) (Nat.le_refl _) (st_k hst rfl) (by decide) rfl (c_keepTried _ hst hc hk4 hck hM (pos := eG pos k0 pl) hpk hfb hB (fun I2 g1 g2 g3 => ?_)) 
        have hB2 : BM I2 c ((fun pl b2 => vis (plF fv ch) (fun q => bt rv q) w 0 (k0 + 1) (eG pos k0 pl) b2) pl b) := by
          show BM I2 c (bsU b (prc (plF fv ch) (eG pos k0 pl) (k0 + 1)) (eG pos k0 pl))
          rw [show k0 + 1 = c by omega]
          exact g1
        refine wp_goto (tgt := 79) dX8_findBest_176 (by decide) ?_
        refine wp_iload_n (i := 3) dX8_findBest_79 rfl rfl ?_
        refine wp_if_lt (tgt := 179) dX8_findBest_80 (by decide) (fun zq80 => absurd zq80 (nI_pos (by omega))) (fun zq80 => ?_) 
        refine wp_aload_n (i := 0) dX8_findBest_83 rfl rfl ?_
        refine wp_getR dX8_findBest_84 fl_X8_53 rfl (st_k hst rfl) (st_r hst rfl) ?_
        refine wp_iload_n (i := 3) dX8_findBest_87 rfl rfl ?_
        refine wp_dup2 dX8_findBest_88 rfl rfl ?_
        refine wp_ild (j := k0) dX8_findBest_89 (st_t hst rfl) rfl (by omega) ?_
        refine wp_iconst (v := 1) dX8_findBest_90 (by decide) ?_
        refine wp_iadd dX8_findBest_91 ?_
        refine wp_topI (v2 := nI (pl + 1)) (n_add ((g3 k0).trans ht) rfl) ?_
        refine wp_ist (j := k0) dX8_findBest_92 (st_t hst rfl) rfl (by omega) ?_
        exact ihm (pl + 1) (eU I2 109 k0 (nI (pl + 1))) ((fun pl b2 => vis (plF fv ch) (fun q => bt rv q) w 0 (k0 + 1) (eG pos k0 pl) b2) pl b) (by omega) ((hM.fr g2).fr FrN.t) (BM.t hB2) (fun x hx => by rw [eU_c (by omega)]; exact (g3 x).trans (hpos x hx)) (eU_at _ _ _ _) (fun I3 q1 q2 q3 => hq I3 q1 (fun x hx => (q2 x hx).trans ((eU_c (by omega)).trans (g3 x))) ((g2).tr (FrN.t.tr q3)))
      · have hg : ¬ (fun pl => okx (fun q => bt rv q) w pos pl k0) (11 - m) = true := fun g => by rw [e11] at g; rw [show bI (okx (fun q => bt rv q) w pos pl k0) = 1 from if_pos g] at zq116; exact absurd zq116 (by decide)
        have hres : vlp (fun pl b2 => vis (plF fv ch) (fun q => bt rv q) w 0 (k0 + 1) (eG pos k0 pl) b2) (fun pl => okx (fun q => bt rv q) w pos pl k0) (m + 1) b = vlp (fun pl b2 => vis (plF fv ch) (fun q => bt rv q) w 0 (k0 + 1) (eG pos k0 pl) b2) (fun pl => okx (fun q => bt rv q) w pos pl k0) m b := by
          show vlp _ _ m (if (fun pl => okx (fun q => bt rv q) w pos pl k0) (11 - m) = true then _ else b) = _
          rw [if_neg hg]
        rw [hres] at hq
        refine wp_aload_n (i := 0) dX8_findBest_119 rfl rfl ?_
        refine wp_getR dX8_findBest_120 fl_X8_53 rfl (st_k hst rfl) (st_r hst rfl) ?_
        refine wp_iload_n (i := 3) dX8_findBest_123 rfl rfl ?_
        refine wp_dup2 dX8_findBest_124 rfl rfl ?_
        refine wp_ild (j := k0) dX8_findBest_125 (st_t hst rfl) rfl (by omega) ?_
        refine wp_iconst (v := 1) dX8_findBest_126 (by decide) ?_
        refine wp_iadd dX8_findBest_127 ?_
        refine wp_topI (v2 := nI (pl + 1)) (n_add ht rfl) ?_
        refine wp_ist (j := k0) dX8_findBest_128 (st_t hst rfl) rfl (by omega) ?_
        refine wp_goto (tgt := 93) dX8_findBest_129 (by decide) ?_
        exact ihm (pl + 1) (eU I 109 k0 (nI (pl + 1))) b (by omega) ((hM.fr (FrN.rf I)).fr FrN.t) (BM.t hB) (fun x hx => by rw [eU_c (by omega)]; exact hpos x hx) (eU_at _ _ _ _) (fun I3 q1 q2 q3 => hq I3 q1 (fun x hx => (q2 x hx).trans ((eU_c (by omega)).trans (rfl))) (((FrN.rf I)).tr (FrN.t.tr q3)))
  | succ r ih =>
    intro k0 pos hkr hp12 m
    induction m with
    | zero =>
      intro pl I b hplm hM hB hpos ht hq
      refine wp_aload_n (i := 0) dX8_findBest_93 rfl rfl ?_
      refine wp_getR dX8_findBest_94 fl_X8_53 rfl (st_k hst rfl) (st_r hst rfl) ?_
      refine wp_iload_n (i := 3) dX8_findBest_97 rfl rfl ?_
      refine wp_ild (j := k0) dX8_findBest_98 (st_t hst rfl) rfl (by omega) ?_
      refine wp_bipush (v := 12) dX8_findBest_99 (by decide) ?_
      rw [ht]
      refine wp_icmp_ge (tgt := 132) dX8_findBest_101 (by decide) (fun zq101 => ?_) (fun zq101 => absurd (nI_le (a := 12) (by omega) (by omega)) zq101) 
      refine wp_aload_n (i := 0) dX8_findBest_132 rfl rfl ?_
      refine wp_getR dX8_findBest_133 fl_X8_53 rfl (st_k hst rfl) (st_r hst rfl) ?_
      refine wp_iload_n (i := 3) dX8_findBest_136 rfl rfl ?_
      refine wp_ild (j := k0) dX8_findBest_137 (st_t hst rfl) rfl (by omega) ?_
      refine wp_bipush (v := 12) dX8_findBest_138 (by decide) ?_
      rw [ht]
      refine wp_icmp_lt (tgt := 149) dX8_findBest_140 (by decide) (fun zq140 => absurd zq140 (nI_nlt (b := 12) (by omega) (by omega))) (fun zq140 => ?_) 
      refine wp_iinc_4_3 (v := (nI k0 - 1)) dX8_findBest_143 (by rw [Int32.sub_eq_add_neg]; rfl) ?_
      refine wp_goto (tgt := 79) dX8_findBest_146 (by decide) ?_
      exact hq I hB (fun _ _ => rfl) (FrN.rf I)
    | succ m ihm =>
      intro pl I b hplm hM hB hpos ht hq
      have e11 : 11 - m = pl := by omega
      refine wp_aload_n (i := 0) dX8_findBest_93 rfl rfl ?_
      refine wp_getR dX8_findBest_94 fl_X8_53 rfl (st_k hst rfl) (st_r hst rfl) ?_
      refine wp_iload_n (i := 3) dX8_findBest_97 rfl rfl ?_
      refine wp_ild (j := k0) dX8_findBest_98 (st_t hst rfl) rfl (by omega) ?_
      refine wp_bipush (v := 12) dX8_findBest_99 (by decide) ?_
      rw [ht]
      refine wp_icmp_ge (tgt := 132) dX8_findBest_101 (by decide) (fun zq101 => absurd zq101 (nI_ge (b := 12) (by omega) (by decide))) (fun zq101 => ?_) 
      refine wp_aload_n (i := 0) dX8_findBest_104 rfl rfl ?_
      refine wp_iload_n (i := 1) dX8_findBest_105 rfl rfl ?_
      refine wp_iload_n (i := 3) dX8_findBest_106 rfl rfl ?_
      refine wp_aload_n (i := 0) dX8_findBest_107 rfl rfl ?_
      refine wp_getR dX8_findBest_108 fl_X8_53 rfl (st_k hst rfl) (st_r hst rfl) ?_
      refine wp_iload_n (i := 3) dX8_findBest_111 rfl rfl ?_
      refine wp_ild (j := k0) dX8_findBest_112 (st_t hst rfl) rfl (by omega) ?_
      rw [ht]
      refine wp_V3i dX8_findBest_113 mw_967 mw_969 ms_35 mi_X8_mayBe (Nat.le_of_ble_eq_true rfl) (Nat.le_refl _) (Nat.le_refl _) (st_k hst rfl) (by decide) rfl (c_mayBe _ hst hj hw hM.2.2.2.1 hM.2.2.2.2 (show k0 < 5 by omega) (show pl < 12 by omega) (pos := pos) (fun x hx => ⟨hpos x hx, hp12 x hx⟩) ?_) 
      refine wp_if_ne (tgt := 132) dX8_findBest_116 (by decide) (fun zq116 => ?_) (fun zq116 => ?_) 
      · have hg : (fun pl => okx (fun q => bt rv q) w pos pl k0) (11 - m) = true := by
          rw [e11]
          cases hb : okx (fun q => bt rv q) w pos pl k0 with
          | true => exact hb
          | false => rw [hb] at zq116; exact absurd rfl zq116
        have hres : vlp (fun pl b2 => vis (plF fv ch) (fun q => bt rv q) w (r + 1) (k0 + 1) (eG pos k0 pl) b2) (fun pl => okx (fun q => bt rv q) w pos pl k0) (m + 1) b = vlp (fun pl b2 => vis (plF fv ch) (fun q => bt rv q) w (r + 1) (k0 + 1) (eG pos k0 pl) b2) (fun pl => okx (fun q => bt rv q) w pos pl k0) m ((fun pl b2 => vis (plF fv ch) (fun q => bt rv q) w (r + 1) (k0 + 1) (eG pos k0 pl) b2) (11 - m) b) := by
          show vlp _ _ m (if (fun pl => okx (fun q => bt rv q) w pos pl k0) (11 - m) = true then _ else b) = _
          rw [if_pos hg]
        rw [hres, e11] at hq
        refine wp_aload_n (i := 0) dX8_findBest_132 rfl rfl ?_
        refine wp_getR dX8_findBest_133 fl_X8_53 rfl (st_k hst rfl) (st_r hst rfl) ?_
        refine wp_iload_n (i := 3) dX8_findBest_136 rfl rfl ?_
        refine wp_ild (j := k0) dX8_findBest_137 (st_t hst rfl) rfl (by omega) ?_
        refine wp_bipush (v := 12) dX8_findBest_138 (by decide) ?_
        rw [ht]
        refine wp_icmp_lt (tgt := 149) dX8_findBest_140 (by decide) (fun zq140 => ?_) (fun zq140 => absurd (nI_lt (b := 12) (by omega) (by decide)) zq140) 
        refine wp_iload_n (i := 3) dX8_findBest_149 rfl rfl ?_
        refine wp_aload_n (i := 0) dX8_findBest_150 rfl rfl ?_
        refine wp_getI dX8_findBest_151 fl_X8_198 rfl (st_k hst rfl) ?_
        refine wp_iconst (v := 1) dX8_findBest_154 (by decide) ?_
        rw [show I 94 17 = nI c from hM.1]
        refine wp_isub dX8_findBest_155 ?_
        refine wp_topI (v2 := nI (c - 1)) (pk_sub (b := 1) (by omega)) ?_
        refine wp_icmp_ge (tgt := 172) dX8_findBest_156 (by decide) (fun zq156 => absurd zq156 (nI_ge (by omega) (by omega))) (fun zq156 => ?_) 
        refine wp_iinc_4_3 (v := nI (k0 + 1)) dX8_findBest_159 (n_add rfl rfl) ?_
        refine wp_aload_n (i := 0) dX8_findBest_162 rfl rfl ?_
        refine wp_getR dX8_findBest_163 fl_X8_53 rfl (st_k hst rfl) (st_r hst rfl) ?_
        refine wp_iload_n (i := 3) dX8_findBest_166 rfl rfl ?_
        refine wp_iconst (v := (-1)) dX8_findBest_167 (by decide) ?_
        refine wp_ist (j := (k0 + 1)) dX8_findBest_168 (st_t hst rfl) rfl (by omega) ?_
        refine wp_goto (tgt := 79) dX8_findBest_169 (by decide) ?_
        refine wp_iload_n (i := 3) dX8_findBest_79 rfl rfl ?_
        refine wp_if_lt (tgt := 179) dX8_findBest_80 (by decide) (fun zq80 => absurd zq80 (nI_pos (by omega))) (fun zq80 => ?_) 
        refine wp_aload_n (i := 0) dX8_findBest_83 rfl rfl ?_
        refine wp_getR dX8_findBest_84 fl_X8_53 rfl (st_k hst rfl) (st_r hst rfl) ?_
        refine wp_iload_n (i := 3) dX8_findBest_87 rfl rfl ?_
        refine wp_dup2 dX8_findBest_88 rfl rfl ?_
        refine wp_ild (j := (k0 + 1)) dX8_findBest_89 (st_t hst rfl) rfl (by omega) ?_
        rw [eU_at]
        refine wp_iconst (v := 1) dX8_findBest_90 (by decide) ?_
        refine wp_iadd dX8_findBest_91 ?_
        refine wp_topI (v2 := nI 0) (by decide) ?_
        refine wp_ist (j := (k0 + 1)) dX8_findBest_92 (st_t hst rfl) rfl (by omega) ?_
        refine ih (k0 + 1) (eG pos k0 pl) (by omega) (fun x hx => ?_) 12 0 (eU (eU I 109 (k0 + 1) (-1)) 109 (k0 + 1) (nI 0)) b rfl ((hM.fr FrN.t).fr FrN.t) (BM.t (BM.t hB)) (fun x hx => ?_) (eU_at _ _ _ _) (fun I2 g1 g2 g3 => ?_)
        · by_cases e : x = k0
          · subst e; rw [eG_eq]; omega
          · rw [eG_ne e]; exact hp12 x (by omega)
        · rw [eU_c (by omega), eU_c (by omega)]
          by_cases e : x = k0
          · subst e; rw [eG_eq]; exact ht
          · rw [eG_ne e]; exact hpos x (by omega)
        rw [nI_pred]
        have hf9 : FrN I I2 := (FrN.t.tr FrN.t).tr g3
        have hk9 : ∀ x, x < k0 + 1 → I2 109 x = I 109 x := fun x hx => (g2 x hx).trans ((eU_c (by omega)).trans (eU_c (by omega)))
        refine wp_iload_n (i := 3) dX8_findBest_79 rfl rfl ?_
        refine wp_if_lt (tgt := 179) dX8_findBest_80 (by decide) (fun zq80 => absurd zq80 (nI_pos (by omega))) (fun zq80 => ?_) 
        refine wp_aload_n (i := 0) dX8_findBest_83 rfl rfl ?_
        refine wp_getR dX8_findBest_84 fl_X8_53 rfl (st_k hst rfl) (st_r hst rfl) ?_
        refine wp_iload_n (i := 3) dX8_findBest_87 rfl rfl ?_
        refine wp_dup2 dX8_findBest_88 rfl rfl ?_
        refine wp_ild (j := k0) dX8_findBest_89 (st_t hst rfl) rfl (by omega) ?_
        refine wp_iconst (v := 1) dX8_findBest_90 (by decide) ?_
        refine wp_iadd dX8_findBest_91 ?_
        refine wp_topI (v2 := nI (pl + 1)) (n_add ((hk9 k0 (by omega)).trans ht) rfl) ?_
        refine wp_ist (j := k0) dX8_findBest_92 (st_t hst rfl) rfl (by omega) ?_
        exact ihm (pl + 1) (eU I2 109 k0 (nI (pl + 1))) ((fun pl b2 => vis (plF fv ch) (fun q => bt rv q) w (r + 1) (k0 + 1) (eG pos k0 pl) b2) pl b) (by omega) ((hM.fr hf9).fr FrN.t) (BM.t g1) (fun x hx => by rw [eU_c (by omega)]; exact (hk9 x (by omega)).trans (hpos x hx)) (eU_at _ _ _ _) (fun I3 q1 q2 q3 => hq I3 q1 (fun x hx => (q2 x hx).trans ((eU_c (by omega)).trans (hk9 x (by omega)))) ((hf9).tr (FrN.t.tr q3)))
      · have hg : ¬ (fun pl => okx (fun q => bt rv q) w pos pl k0) (11 - m) = true := fun g => by rw [e11] at g; rw [show bI (okx (fun q => bt rv q) w pos pl k0) = 1 from if_pos g] at zq116; exact absurd zq116 (by decide)
        have hres : vlp (fun pl b2 => vis (plF fv ch) (fun q => bt rv q) w (r + 1) (k0 + 1) (eG pos k0 pl) b2) (fun pl => okx (fun q => bt rv q) w pos pl k0) (m + 1) b = vlp (fun pl b2 => vis (plF fv ch) (fun q => bt rv q) w (r + 1) (k0 + 1) (eG pos k0 pl) b2) (fun pl => okx (fun q => bt rv q) w pos pl k0) m b := by
          show vlp _ _ m (if (fun pl => okx (fun q => bt rv q) w pos pl k0) (11 - m) = true then _ else b) = _
          rw [if_neg hg]
        rw [hres] at hq
        refine wp_aload_n (i := 0) dX8_findBest_119 rfl rfl ?_
        refine wp_getR dX8_findBest_120 fl_X8_53 rfl (st_k hst rfl) (st_r hst rfl) ?_
        refine wp_iload_n (i := 3) dX8_findBest_123 rfl rfl ?_
        refine wp_dup2 dX8_findBest_124 rfl rfl ?_
        refine wp_ild (j := k0) dX8_findBest_125 (st_t hst rfl) rfl (by omega) ?_
        refine wp_iconst (v := 1) dX8_findBest_126 (by decide) ?_
        refine wp_iadd dX8_findBest_127 ?_
        refine wp_topI (v2 := nI (pl + 1)) (n_add ht rfl) ?_
        refine wp_ist (j := k0) dX8_findBest_128 (st_t hst rfl) rfl (by omega) ?_
        refine wp_goto (tgt := 93) dX8_findBest_129 (by decide) ?_
        exact ihm (pl + 1) (eU I 109 k0 (nI (pl + 1))) b (by omega) ((hM.fr (FrN.rf I)).fr FrN.t) (BM.t hB) (fun x hx => by rw [eU_c (by omega)]; exact hpos x hx) (eU_at _ _ _ _) (fun I3 q1 q2 q3 => hq I3 q1 (fun x hx => (q2 x hx).trans ((eU_c (by omega)).trans (rfl))) (((FrN.rf I)).tr (FrN.t.tr q3)))

