def bc1 (v : Int32) : Int32 := v - (((v).toUInt32 >>> ((1 : Int32).toUInt32 &&& Int32.toUInt32 31)).toInt32 &&& 1431655765)
def bc2 (v : Int32) : Int32 := (v &&& 858993459) + (((v).toUInt32 >>> ((2 : Int32).toUInt32 &&& Int32.toUInt32 31)).toInt32 &&& 858993459)
def bc3 (v : Int32) : Int32 := (v + ((v).toUInt32 >>> ((4 : Int32).toUInt32 &&& Int32.toUInt32 31)).toInt32) &&& 252645135
def bc4 (v : Int32) : Int32 := v + ((v).toUInt32 >>> ((8 : Int32).toUInt32 &&& Int32.toUInt32 31)).toInt32
def bc5 (v : Int32) : Int32 := v + ((v).toUInt32 >>> ((16 : Int32).toUInt32 &&& Int32.toUInt32 31)).toInt32
theorem bc_ok : ∀ m, m < 1024 → (bc5 (bc4 (bc3 (bc2 (bc1 (nI m))))) &&& 63) = nI (ci (selF 10 m) 10) := by decide +kernel
theorem selF_ext {k sm : Nat} (hk : k ≤ 10) (h : sm < 2 ^ k) : selF k sm = selF 10 sm := by
  funext x
  unfold selF
  apply decide_eq_decide.mpr
  constructor
  · intro g; exact ⟨by omega, g.2⟩
  · intro g
    refine ⟨Nat.lt_of_not_le (fun g2 => ?_), g.2⟩
    have h2 : 2 ^ k ≤ 2 ^ x := Nat.pow_le_pow_right (by decide) g2
    have h3 : sm / 2 ^ x = 0 := Nat.div_eq_of_lt (by omega)
    rw [h3] at g
    exact absurd g.2 (by decide)
def sbm (m : Nat) : Nat → Nat
  | 0 => 0
  | k + 1 => sbm m k + m / 2 ^ k % 2
theorem sbm_ok : ∀ m, m < 1024 → sbm m 16 = ci (selF 10 m) 10 := by decide +kernel
theorem bit_v : ∀ m, m < 1024 → ∀ k, k < 16 → (nI m >>> (nI k &&& 31)) &&& 1 = nI (m / 2 ^ k % 2) := by decide +kernel
theorem c_bitCount (d : Nat) {n : Nat} {t : eT} {I : eI} {R : eR} {Q : Int32 → Nat → eT → eI → eR → Prop} {m : Nat} (hm : m < 1024) (hq : Q (nI (ci (selF 10 m) 10)) n t I R) : MC yJ6_bitCount_0f7a4 cJ6_bitCount_0f7a4 1 (some .int) d 0 0 [.int (nI m)] n t I R (qI Q) := by
  refine mc_intro (L0 := [.int (nI m)]) (by decide) rfl (Nat.le_of_ble_eq_true rfl) ?_
  refine wp_iload_n (i := 0) dJ6_bitCount_0f7a4_0 rfl rfl ?_
  refine wp_iload_n (i := 0) dJ6_bitCount_0f7a4_1 rfl rfl ?_
  refine wp_iconst (v := 1) dJ6_bitCount_0f7a4_2 (by decide) ?_
  refine wp_iushr dJ6_bitCount_0f7a4_3 ?_
  refine wp_ldc_w (v := 1431655765) dJ6_bitCount_0f7a4_4 mw_401 ?_
  refine wp_iand dJ6_bitCount_0f7a4_7 ?_
  refine wp_isub dJ6_bitCount_0f7a4_8 ?_
  refine wp_topI (v2 := bc1 (nI m)) rfl ?_
  refine wp_istore_1_0 dJ6_bitCount_0f7a4_9 rfl ?_
  refine wp_iload_n (i := 0) dJ6_bitCount_0f7a4_10 rfl rfl ?_
  refine wp_ldc_w (v := 858993459) dJ6_bitCount_0f7a4_11 mw_402 ?_
  refine wp_iand dJ6_bitCount_0f7a4_14 ?_
  refine wp_iload_n (i := 0) dJ6_bitCount_0f7a4_15 rfl rfl ?_
  refine wp_iconst (v := 2) dJ6_bitCount_0f7a4_16 (by decide) ?_
  refine wp_iushr dJ6_bitCount_0f7a4_17 ?_
  refine wp_ldc_w (v := 858993459) dJ6_bitCount_0f7a4_18 mw_402 ?_
  refine wp_iand dJ6_bitCount_0f7a4_21 ?_
  refine wp_iadd dJ6_bitCount_0f7a4_22 ?_
  refine wp_topI (v2 := bc2 (bc1 (nI m))) rfl ?_
  refine wp_istore_1_0 dJ6_bitCount_0f7a4_23 rfl ?_
  refine wp_iload_n (i := 0) dJ6_bitCount_0f7a4_24 rfl rfl ?_
  refine wp_iload_n (i := 0) dJ6_bitCount_0f7a4_25 rfl rfl ?_
  refine wp_iconst (v := 4) dJ6_bitCount_0f7a4_26 (by decide) ?_
  refine wp_iushr dJ6_bitCount_0f7a4_27 ?_
  refine wp_iadd dJ6_bitCount_0f7a4_28 ?_
  refine wp_ldc_w (v := 252645135) dJ6_bitCount_0f7a4_29 mw_403 ?_
  refine wp_iand dJ6_bitCount_0f7a4_32 ?_
  refine wp_topI (v2 := bc3 (bc2 (bc1 (nI m)))) rfl ?_
  refine wp_istore_1_0 dJ6_bitCount_0f7a4_33 rfl ?_
  refine wp_iload_n (i := 0) dJ6_bitCount_0f7a4_34 rfl rfl ?_
  refine wp_iload_n (i := 0) dJ6_bitCount_0f7a4_35 rfl rfl ?_
  refine wp_bipush (v := 8) dJ6_bitCount_0f7a4_36 (by decide) ?_
  refine wp_iushr dJ6_bitCount_0f7a4_38 ?_
  refine wp_iadd dJ6_bitCount_0f7a4_39 ?_
  refine wp_topI (v2 := bc4 (bc3 (bc2 (bc1 (nI m))))) rfl ?_
  refine wp_istore_1_0 dJ6_bitCount_0f7a4_40 rfl ?_
  refine wp_iload_n (i := 0) dJ6_bitCount_0f7a4_41 rfl rfl ?_
  refine wp_iload_n (i := 0) dJ6_bitCount_0f7a4_42 rfl rfl ?_
  refine wp_bipush (v := 16) dJ6_bitCount_0f7a4_43 (by decide) ?_
  refine wp_iushr dJ6_bitCount_0f7a4_45 ?_
  refine wp_iadd dJ6_bitCount_0f7a4_46 ?_
  refine wp_topI (v2 := bc5 (bc4 (bc3 (bc2 (bc1 (nI m)))))) rfl ?_
  refine wp_istore_1_0 dJ6_bitCount_0f7a4_47 rfl ?_
  refine wp_iload_n (i := 0) dJ6_bitCount_0f7a4_48 rfl rfl ?_
  refine wp_bipush (v := 63) dJ6_bitCount_0f7a4_49 (by decide) ?_
  refine wp_iand dJ6_bitCount_0f7a4_51 ?_
  exact wp_retI dJ6_bitCount_0f7a4_52 rfl (Nat.le_refl _) (Nat.le_refl _) (by rw [bc_ok m hm]; exact hq)

theorem c_canBeLaid (d : Nat) {n : Nat} {t : eT} {I : eI} {R : eR} {Q : Int32 → Nat → eT → eI → eR → Prop} (hst : ST n t R) {k : Nat} (hk : I 5 0 = nI k) (hk4 : k ≤ 10) {v : Int32} (h1 : ∀ sm, 0 < sm → sm < 2 ^ k → v = nI sm → ci (selF k sm) 10 ≤ 5 → Q 1 n t I R) (h2 : ∀ sm, 0 < sm → sm < 2 ^ k → v = nI sm → ¬ ci (selF k sm) 10 ≤ 5 → Q 0 n t I R) (h0 : ¬ (0 < v.toInt ∧ v.toInt < 2 ^ k) → Q 0 n t I R) : MC yX2_canBeLaid cX2_canBeLaid 2 (some .boolean) (d + 1) 0 0 [.ref 5, .int v] n t I R (qI Q) := by
  refine mc_intro (L0 := [.ref 5, .int v]) (by decide) rfl (Nat.le_of_ble_eq_true rfl) ?_
  refine wp_aload_n (i := 0) dX2_canBeLaid_0 rfl rfl ?_
  refine wp_iload_n (i := 1) dX2_canBeLaid_1 rfl rfl ?_
  refine wp_V1i dX2_canBeLaid_2 mw_394 mw_395 mw_396 mi_X2_hasSet (Nat.le_of_ble_eq_true rfl) (Nat.le_refl _) (Nat.le_refl _) (st_k hst rfl) (by decide) rfl (c_hasSet _ hst hk hk4 (fun sm hsp hsl esm => ?_) (fun gs => ?_)) 
  · subst esm
    have hpb := pow_b k hk4
    have hcl := ci_le (selF k sm) 10
    refine wp_if_eq1 (tgt := 20) dX2_canBeLaid_5 (by decide) ?_
    refine wp_iload_n (i := 1) dX2_canBeLaid_8 rfl rfl ?_
    refine wp_S1i dX2_canBeLaid_9 mw_398 mw_399 mi_J6_bitCount_0f7a4 (Nat.le_of_ble_eq_true rfl) (Nat.le_refl _) (Nat.le_refl _) (c_bitCount _ (show sm < 1024 by omega) ?_) 
    rw [← selF_ext hk4 hsl]
    refine wp_iconst (v := 5) dX2_canBeLaid_12 (by decide) ?_
    refine wp_icmp_gt (tgt := 20) dX2_canBeLaid_13 (by decide) (fun zq13 => ?_) (fun zq13 => ?_) 
    · refine wp_iconst (v := 0) dX2_canBeLaid_20 (by decide) ?_
      exact wp_retZ dX2_canBeLaid_21 rfl rfl (Nat.le_refl _) (Nat.le_refl _) (h2 sm hsp hsl rfl (fun g => absurd zq13 (nI_nlt (b := ci (selF k sm) 10) (a := 5) g (by decide))))
    · refine wp_iconst (v := 1) dX2_canBeLaid_16 (by decide) ?_
      refine wp_goto (tgt := 21) dX2_canBeLaid_17 (by decide) ?_
      exact wp_retZ dX2_canBeLaid_21 rfl rfl (Nat.le_refl _) (Nat.le_refl _) (h1 sm hsp hsl rfl (Nat.le_of_not_lt (fun g => zq13 (nI_lt (a := 5) g (by omega)))))
  · skip
    refine wp_if_eq0 (tgt := 20) dX2_canBeLaid_5 (by decide) ?_
    refine wp_iconst (v := 0) dX2_canBeLaid_20 (by decide) ?_
    exact wp_retZ dX2_canBeLaid_21 rfl rfl (Nat.le_refl _) (Nat.le_refl _) (h0 gs)

theorem lp_bits (d : Nat) {n : Nat} {t : eT} {I : eI} {R : eR} {Q : eQt} {m : Nat} (hm : m < 1024) : ∀ (r k : Nat), k + r = 16 → wp yX8_bits cX8_bits 3 (some .int) d 0 0 Q 0 0 24 [.int (nI m), .int (nI (sbm m 16)), .int (nI 16)] [] n t I R → wp yX8_bits cX8_bits 3 (some .int) d 0 0 Q 0 0 4 [.int (nI m), .int (nI (sbm m k)), .int (nI k)] [] n t I R := by
  intro r
  induction r with
  | zero =>
    intro k hk hq
    obtain rfl : k = 16 := by omega
    refine wp_iload_n (i := 2) dX8_bits_4 rfl rfl ?_
    refine wp_bipush (v := 16) dX8_bits_5 (by decide) ?_
    refine wp_icmp_ge (tgt := 24) dX8_bits_7 (by decide) (fun zq7 => ?_) (fun zq7 => absurd (nI_le (show 16 ≤ 16 by decide) (by decide)) zq7) 
    exact hq
  | succ r ih =>
    intro k hk hq
    refine wp_iload_n (i := 2) dX8_bits_4 rfl rfl ?_
    refine wp_bipush (v := 16) dX8_bits_5 (by decide) ?_
    refine wp_icmp_ge (tgt := 24) dX8_bits_7 (by decide) (fun zq7 => absurd zq7 (nI_ge (show k < 16 by omega) (by decide))) (fun zq7 => ?_) 
    refine wp_iload_n (i := 1) dX8_bits_10 rfl rfl ?_
    refine wp_iload_n (i := 0) dX8_bits_11 rfl rfl ?_
    refine wp_iload_n (i := 2) dX8_bits_12 rfl rfl ?_
    refine wp_ishr dX8_bits_13 ?_
    refine wp_iconst (v := 1) dX8_bits_14 (by decide) ?_
    refine wp_iand dX8_bits_15 ?_
    refine wp_iadd dX8_bits_16 ?_
    refine wp_topI (v2 := nI ((sbm m k) + (m / 2 ^ k % 2))) (n_add rfl (bit_v m hm k (by omega))) ?_
    refine wp_istore_3_1 dX8_bits_17 rfl ?_
    refine wp_iinc_3_2 (v := nI (k + 1)) dX8_bits_18 (n_add rfl rfl) ?_
    refine wp_goto (tgt := 4) dX8_bits_21 (by decide) ?_
    exact ih (k + 1) (by omega) hq

theorem c_bits (d : Nat) {n : Nat} {t : eT} {I : eI} {R : eR} {Q : Int32 → Nat → eT → eI → eR → Prop} {m : Nat} (hm : m < 1024) (hq : Q (nI (ci (selF 10 m) 10)) n t I R) : MC yX8_bits cX8_bits 3 (some .int) d 0 0 [.int (nI m)] n t I R (qI Q) := by
  refine mc_intro (L0 := [.int (nI m), vU, vU]) (by decide) rfl (Nat.le_of_ble_eq_true rfl) ?_
  refine wp_iconst (v := 0) dX8_bits_0 (by decide) ?_
  refine wp_istore_3_1 dX8_bits_1 rfl ?_
  refine wp_iconst (v := 0) dX8_bits_2 (by decide) ?_
  refine wp_istore_3_2 dX8_bits_3 rfl ?_
  refine lp_bits d hm 16 0 rfl ?_
  refine wp_iload_n (i := 1) dX8_bits_24 rfl rfl ?_
  exact wp_retI dX8_bits_25 rfl (Nat.le_refl _) (Nat.le_refl _) (by rw [sbm_ok m hm]; exact hq)

theorem c_isFew (d : Nat) {n : Nat} {t : eT} {I : eI} {R : eR} {Q : Int32 → Nat → eT → eI → eR → Prop} (hst : ST n t R) {k : Nat} (hkM : I 94 1 = nI k) (hk4 : k ≤ 10) {v : Int32} (h1 : ∀ sm, 0 < sm → sm < 2 ^ k → v = nI sm → ci (selF k sm) 10 ≤ 5 → Q 1 n t I R) (h2 : ∀ sm, 0 < sm → sm < 2 ^ k → v = nI sm → ¬ ci (selF k sm) 10 ≤ 5 → Q 0 n t I R) (h0 : ¬ (0 < v.toInt ∧ v.toInt < 2 ^ k) → Q 0 n t I R) : MC yX8_isFew cX8_isFew 2 (some .boolean) (d + 1) 0 0 [.ref 94, .int v] n t I R (qI Q) := by
  refine mc_intro (L0 := [.ref 94, .int v]) (by decide) rfl (Nat.le_of_ble_eq_true rfl) ?_
  refine wp_iload_n (i := 1) dX8_isFew_0 rfl rfl ?_
  refine wp_i2l dX8_isFew_1 ?_
  refine wp_lconst (v := 1) dX8_isFew_2 (by decide) ?_
  refine wp_lconst (v := 1) dX8_isFew_3 (by decide) ?_
  refine wp_aload_n (i := 0) dX8_isFew_4 rfl rfl ?_
  refine wp_getI dX8_isFew_5 fl_X8_143 rfl (st_k hst rfl) ?_
  have hpb := pow_b k hk4
  rw [hkM]
  refine wp_lshl dX8_isFew_8 ?_
  refine wp_lconst (v := 1) dX8_isFew_9 (by decide) ?_
  refine wp_lsub dX8_isFew_10 ?_
  refine wp_S3i dX8_isFew_11 mw_887 mw_888 mi_X8_in (Nat.le_of_ble_eq_true rfl) (Nat.le_refl _) (Nat.le_refl _) (c_in _ (a := 1) (b := 2 ^ k - 1) rfl (lshl1 k hk4) (fun ga gb => ?_) (fun gn => ?_)) 
  · rw [show ((2 : Int) ^ k) = ((2 ^ k : Nat) : Int) from (Int.natCast_pow 2 k).symm] at gb
    obtain ⟨sm, hsl, esm⟩ := nat_yes (x := v) (m := 2 ^ k) (by omega) (by omega) (by omega)
    subst esm
    rw [nI_toInt (by omega)] at ga
    have hcl := ci_le (selF k sm) 10
    refine wp_if_eq1 (tgt := 29) dX8_isFew_14 (by decide) ?_
    refine wp_iload_n (i := 1) dX8_isFew_17 rfl rfl ?_
    refine wp_S1i dX8_isFew_18 mw_957 mw_958 mi_X8_bits (Nat.le_of_ble_eq_true rfl) (Nat.le_refl _) (Nat.le_refl _) (c_bits _ (show sm < 1024 by omega) ?_) 
    rw [← selF_ext hk4 hsl]
    refine wp_iconst (v := 5) dX8_isFew_21 (by decide) ?_
    refine wp_icmp_gt (tgt := 29) dX8_isFew_22 (by decide) (fun zq22 => ?_) (fun zq22 => ?_) 
    · refine wp_iconst (v := 0) dX8_isFew_29 (by decide) ?_
      exact wp_retZ dX8_isFew_30 rfl rfl (Nat.le_refl _) (Nat.le_refl _) (h2 sm (by omega) hsl rfl (fun g => absurd zq22 (nI_nlt (b := ci (selF k sm) 10) (a := 5) g (by decide))))
    · refine wp_iconst (v := 1) dX8_isFew_25 (by decide) ?_
      refine wp_goto (tgt := 30) dX8_isFew_26 (by decide) ?_
      exact wp_retZ dX8_isFew_30 rfl rfl (Nat.le_refl _) (Nat.le_refl _) (h1 sm (by omega) hsl rfl (Nat.le_of_not_lt (fun g => zq22 (nI_lt (a := 5) g (by omega)))))
  · skip
    refine wp_if_eq0 (tgt := 29) dX8_isFew_14 (by decide) ?_
    refine wp_iconst (v := 0) dX8_isFew_29 (by decide) ?_
    exact wp_retZ dX8_isFew_30 rfl rfl (Nat.le_refl _) (Nat.le_refl _) (h0 (fun g => gn ⟨by omega, by omega⟩))

