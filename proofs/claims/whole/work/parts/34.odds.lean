theorem bit_nI : ∀ m, m < 1024 → ∀ k, k < 10 → (((nI m >>> (nI k &&& 31)) &&& 1 = 1) ↔ m / 2 ^ k % 2 = 1) := by decide +kernel
theorem shl1 : ∀ c, c ≤ 10 → (1 : Int32) <<< (nI c &&& 31) = nI (2 ^ c) := by decide +kernel
theorem pow_b : ∀ c, c ≤ 10 → 2 ^ c ≤ 1024 ∧ 0 < 2 ^ c := by decide +kernel
/-- how many ways -/
def wA (row : Nat → Int32) : Nat → Nat → Int32 → Nat
  | 0, _, ch => if ch ≤ 0 then 1 else 0
  | r + 1, k, ch => wA row r (k + 1) ch + wA row r (k + 1) (ch + row k)
def sB (row : Nat → Int32) (m : Nat) : Nat → Int32
  | 0 => 0
  | k + 1 => sB row m k + (if m / 2 ^ k % 2 = 1 then - row k else row k)
def cN (T : Nat → Nat) : Nat → Nat
  | 0 => 0
  | s + 1 => cN T s + T s
theorem cN_congr {T U : Nat → Nat} : ∀ N, (∀ s, s < N → T s = U s) → cN T N = cN U N
  | 0, _ => rfl
  | N + 1, h => by
    show cN T N + T N = cN U N + U N
    rw [cN_congr N (fun s hs => h s (by omega)), h N (by omega)]
theorem cN_b {T : Nat → Nat} : ∀ N, (∀ s, T s ≤ 1) → cN T N ≤ N
  | 0, _ => Nat.le_refl 0
  | N + 1, h => by
    have h1 := cN_b N h
    have h2 := h N
    show cN T N + T N ≤ N + 1
    omega
theorem cN_dbl (T : Nat → Nat) : ∀ N, cN T (2 * N) = cN (fun m => T (2 * m)) N + cN (fun m => T (2 * m + 1)) N
  | 0 => rfl
  | N + 1 => by
    have h := cN_dbl T N
    show cN T (2 * N + 1 + 1) = cN (fun m => T (2 * m)) N + T (2 * N) + (cN (fun m => T (2 * m + 1)) N + T (2 * N + 1))
    show cN T (2 * N) + T (2 * N) + T (2 * N + 1) = _
    omega
def sG (g : Nat → Int) : Nat → Nat → Nat → Int
  | _, _, 0 => 0
  | m, i, r + 1 => (if m % 2 = 1 then g i else 0) + sG g (m / 2) (i + 1) r
theorem sG_snoc (g : Nat → Int) : ∀ r m i, sG g m i (r + 1) = sG g m i r + (if m / 2 ^ r % 2 = 1 then g (i + r) else 0)
  | 0, m, i => by
    show (if m % 2 = 1 then g i else 0) + 0 = 0 + (if m / 2 ^ 0 % 2 = 1 then g (i + 0) else 0)
    rw [Nat.pow_zero, Nat.div_one, Int.add_zero, Int.zero_add]
    rfl
  | r + 1, m, i => by
    show (if m % 2 = 1 then g i else 0) + sG g (m / 2) (i + 1) (r + 1) = ((if m % 2 = 1 then g i else 0) + sG g (m / 2) (i + 1) r) + _
    rw [sG_snoc g r (m / 2) (i + 1), Nat.div_div_eq_div_mul, show 2 * 2 ^ r = 2 ^ (r + 1) by rw [Nat.pow_succ, Nat.mul_comm], show i + 1 + r = i + (r + 1) by omega]
    omega
theorem sG_0 (g : Nat → Int) : ∀ r i, sG g 0 i r = 0
  | 0, _ => rfl
  | r + 1, i => by
    show (if 0 % 2 = 1 then g i else 0) + sG g (0 / 2) (i + 1) r = 0
    rw [Nat.zero_div, sG_0 g r (i + 1)]
    rfl
theorem i_addT {x y : Int32} {a b : Int} (hx : x.toInt = a) (hy : y.toInt = b) (h1 : -100000 ≤ a + b) (h2 : a + b ≤ 100000) : (x + y).toInt = a + b := by
  rw [Int32.toInt_add, hx, hy]
  exact Int.bmod_eq_of_le (by omega) (by omega)
theorem i_negT {x : Int32} {a : Int} (hx : x.toInt = a) (h1 : -100000 ≤ a) (h2 : a ≤ 100000) : (-x).toInt = -a := by
  rw [Int32.toInt_neg, hx]
  exact Int.bmod_eq_of_le (by omega) (by omega)
theorem wA_cN {row : Nat → Int32} {g : Nat → Int} (hg : ∀ k, k < 10 → (row k).toInt = g k ∧ -99 ≤ g k ∧ g k ≤ 99) : ∀ (r k : Nat) (ch : Int32) (z : Int), k + r ≤ 10 → ch.toInt = z → -(99 * (k : Int)) ≤ z → z ≤ 99 * k → wA row r k ch = cN (fun m => if z + sG g m k r ≤ 0 then 1 else 0) (2 ^ r)
  | 0, k, ch, z, hk, hz, h1, h2 => by
    show (if ch ≤ 0 then 1 else 0) = 0 + (if z + 0 ≤ 0 then 1 else 0)
    have e : (ch ≤ 0) ↔ z + 0 ≤ 0 := by rw [i_le, hz, i0, Int.add_zero]
    simp only [e, Nat.zero_add]
  | r + 1, k, ch, z, hk, hz, h1, h2 => by
    have hgk := hg k (by omega)
    have a1 := wA_cN hg r (k + 1) ch z (by omega) hz (by omega) (by omega)
    have a2 := wA_cN hg r (k + 1) (ch + row k) (z + g k) (by omega) (i_addT hz hgk.1 (by omega) (by omega)) (by omega) (by omega)
    show wA row r (k + 1) ch + wA row r (k + 1) (ch + row k) = _
    rw [a1, a2, show 2 ^ (r + 1) = 2 * 2 ^ r by rw [Nat.pow_succ, Nat.mul_comm], cN_dbl]
    congr 1
    · apply cN_congr
      intro m _
      show (if z + sG g m (k + 1) r ≤ 0 then 1 else 0) = if z + ((if 2 * m % 2 = 1 then g k else 0) + sG g (2 * m / 2) (k + 1) r) ≤ 0 then 1 else 0
      rw [show 2 * m % 2 = 0 by omega, show 2 * m / 2 = m by omega, if_neg (by decide : ¬ (0 = 1)), Int.zero_add]
    · apply cN_congr
      intro m _
      show (if z + g k + sG g m (k + 1) r ≤ 0 then 1 else 0) = if z + ((if (2 * m + 1) % 2 = 1 then g k else 0) + sG g ((2 * m + 1) / 2) (k + 1) r) ≤ 0 then 1 else 0
      rw [show (2 * m + 1) % 2 = 1 by omega, show (2 * m + 1) / 2 = m by omega, if_pos rfl, Int.add_assoc]
def tG (g : Nat → Int) : Nat → Int
  | 0 => 0
  | k + 1 => tG g k + g k
theorem sB_T {row : Nat → Int32} {g : Nat → Int} (hg : ∀ k, k < 10 → (row k).toInt = g k ∧ -99 ≤ g k ∧ g k ≤ 99) (m : Nat) : ∀ k, k ≤ 10 → (sB row m k).toInt = tG g k - 2 * sG g m 0 k ∧ -(99 * (k : Int)) ≤ tG g k - 2 * sG g m 0 k ∧ tG g k - 2 * sG g m 0 k ≤ 99 * k
  | 0, _ => ⟨rfl, by show -(99 * (0 : Int)) ≤ 0 - 2 * 0; omega, by show 0 - 2 * 0 ≤ 99 * (0 : Int); omega⟩
  | k + 1, hk => by
    have ih := sB_T hg m k (by omega)
    have hgk := hg k (by omega)
    have es := sG_snoc g k m 0
    rw [Nat.zero_add] at es
    have et : tG g (k + 1) = tG g k + g k := rfl
    have ec : ((k + 1 : Nat) : Int) = (k : Int) + 1 := rfl
    by_cases hb : m / 2 ^ k % 2 = 1
    · rw [if_pos hb] at es
      have e1 : sB row m (k + 1) = sB row m k + - row k := by show _ + (if _ then _ else _) = _; rw [if_pos hb]
      rw [e1, et, es, ec]
      refine ⟨?_, by omega, by omega⟩
      rw [i_addT ih.1 (i_negT hgk.1 (by omega) (by omega)) (by omega) (by omega)]
      omega
    · rw [if_neg hb] at es
      have e1 : sB row m (k + 1) = sB row m k + row k := by show _ + (if _ then _ else _) = _; rw [if_neg hb]
      rw [e1, et, es, ec]
      refine ⟨?_, by omega, by omega⟩
      rw [i_addT ih.1 hgk.1 (by omega) (by omega)]
      omega
def tS (row : Nat → Int32) (c : Nat) : Nat → Nat := fun s => if sB row s c < sB row 0 c then 0 else 1
theorem tS_1 (row : Nat → Int32) (c s : Nat) : tS row c s ≤ 1 := by unfold tS; split <;> omega
theorem odds_eq {row : Nat → Int32} {c : Nat} (hc : c ≤ 10) (hg : ∀ k, k < 10 → -99 ≤ (row k).toInt ∧ (row k).toInt ≤ 99) : wA row c 0 0 = cN (tS row c) (2 ^ c) := by
  have hg2 : ∀ k, k < 10 → (row k).toInt = (fun i => (row i).toInt) k ∧ -99 ≤ (fun i => (row i).toInt) k ∧ (fun i => (row i).toInt) k ≤ 99 := fun k hk => ⟨rfl, hg k hk⟩
  rw [wA_cN hg2 c 0 0 0 (by omega) rfl (by decide) (by decide)]
  apply cN_congr
  intro s _
  have h1 := (sB_T hg2 s c hc).1
  have h0 := (sB_T hg2 0 c hc).1
  rw [sG_0] at h0
  unfold tS
  have e : (sB row s c < sB row 0 c) ↔ ¬ (0 + sG (fun i => (row i).toInt) s 0 c ≤ 0) := by
    rw [i_lt, h1, h0]
    omega
  by_cases hq : 0 + sG (fun i => (row i).toInt) s 0 c ≤ 0
  · rw [if_pos hq, if_neg (by rw [e]; exact fun z => z hq)]
  · rw [if_neg hq, if_pos (e.mpr hq)]
theorem wA_congr {row row2 : Nat → Int32} : ∀ r k ch, (∀ i, k ≤ i → i < k + r → row i = row2 i) → wA row r k ch = wA row2 r k ch
  | 0, _, _, _ => rfl
  | r + 1, k, ch, h => by
    show wA row r (k + 1) ch + wA row r (k + 1) (ch + row k) = wA row2 r (k + 1) ch + wA row2 r (k + 1) (ch + row2 k)
    rw [h k (by omega) (by omega), wA_congr r (k + 1) ch (fun i h1 h2 => h i (by omega) (by omega)), wA_congr r (k + 1) _ (fun i h1 h2 => h i (by omega) (by omega))]
theorem sB_congr {row row2 : Nat → Int32} (m : Nat) : ∀ k, (∀ i, i < k → row i = row2 i) → sB row m k = sB row2 m k
  | 0, _ => rfl
  | k + 1, h => by
    show sB row m k + (if m / 2 ^ k % 2 = 1 then - row k else row k) = sB row2 m k + (if m / 2 ^ k % 2 = 1 then - row2 k else row2 k)
    rw [h k (by omega), sB_congr m k (fun i hi => h i (by omega))]
theorem c_wag (d : Nat) {n : Nat} {t : eT} {I : eI} {R : eR} {a cnt : Nat} (hta : t a = (9, 10)) (hcnt : cnt ≤ 10) : ∀ (r k : Nat) (ch : Int32) (Q : Int32 → Nat → eT → eI → eR → Prop), k + r = cnt → Q (nI (wA (I a) r k ch)) n t I R → MC yX7_waysAsGreat cX7_waysAsGreat 4 (some .int) (d + r) 0 0 [.ref a, .int (nI cnt), .int (nI k), .int ch] n t I R (qI Q) := by
  intro r
  induction r with
  | zero =>
    intro k ch Q hk hq
    refine mc_intro (L0 := [.ref a, .int (nI cnt), .int (nI k), .int ch]) (by decide) rfl (Nat.le_of_ble_eq_true rfl) ?_
    refine wp_iload_n (i := 2) dX7_waysAsGreat_0 rfl rfl ?_
    refine wp_iload_n (i := 1) dX7_waysAsGreat_1 rfl rfl ?_
    refine wp_icmp_ge (tgt := 11) dX7_waysAsGreat_2 (by decide) (fun zq2 => ?_) (fun zq2 => absurd (nI_le (show cnt ≤ k by omega) (by omega)) zq2) 
    refine wp_iload_n (i := 3) dX7_waysAsGreat_11 rfl rfl ?_
    refine wp_if_gt (tgt := 19) dX7_waysAsGreat_12 (by decide) (fun zq12 => ?_) (fun zq12 => ?_) 
    · refine wp_iconst (v := 0) dX7_waysAsGreat_19 (by decide) ?_
      exact wp_retI dX7_waysAsGreat_20 rfl (Nat.le_refl _) (Nat.le_refl _) (by have h9 : wA (I a) 0 k ch = 0 := if_neg (Int32.not_le.mpr zq12); rw [h9] at hq; exact hq)
    · refine wp_iconst (v := 1) dX7_waysAsGreat_15 (by decide) ?_
      refine wp_goto (tgt := 20) dX7_waysAsGreat_16 (by decide) ?_
      exact wp_retI dX7_waysAsGreat_20 rfl (Nat.le_refl _) (Nat.le_refl _) (by have h9 : wA (I a) 0 k ch = 1 := if_pos (Int32.not_lt.mp zq12); rw [h9] at hq; exact hq)
  | succ r ih =>
    intro k ch Q hk hq
    refine mc_intro (L0 := [.ref a, .int (nI cnt), .int (nI k), .int ch]) (by decide) rfl (Nat.le_of_ble_eq_true rfl) ?_
    refine wp_iload_n (i := 2) dX7_waysAsGreat_0 rfl rfl ?_
    refine wp_iload_n (i := 1) dX7_waysAsGreat_1 rfl rfl ?_
    refine wp_icmp_ge (tgt := 11) dX7_waysAsGreat_2 (by decide) (fun zq2 => absurd zq2 (nI_ge (show k < cnt by omega) (by omega))) (fun zq2 => ?_) 
    refine wp_iload_n (i := 2) dX7_waysAsGreat_5 rfl rfl ?_
    refine wp_aload_n (i := 0) dX7_waysAsGreat_6 rfl rfl ?_
    refine wp_len dX7_waysAsGreat_7 hta ?_
    refine wp_icmp_lt (tgt := 21) dX7_waysAsGreat_8 (by decide) (fun zq8 => ?_) (fun zq8 => absurd (nI_lt (show k < 10 by omega) (by decide)) zq8) 
    refine wp_aload_n (i := 0) dX7_waysAsGreat_21 rfl rfl ?_
    refine wp_iload_n (i := 1) dX7_waysAsGreat_22 rfl rfl ?_
    refine wp_iload_n (i := 2) dX7_waysAsGreat_23 rfl rfl ?_
    refine wp_iconst (v := 1) dX7_waysAsGreat_24 (by decide) ?_
    refine wp_iadd dX7_waysAsGreat_25 ?_
    refine wp_topI (v2 := nI (k + 1)) (n_add rfl rfl) ?_
    refine wp_iload_n (i := 3) dX7_waysAsGreat_26 rfl rfl ?_
    refine wp_S4i dX7_waysAsGreat_27 mw_636 mw_637 mi_X7_waysAsGreat (Nat.le_of_ble_eq_true rfl) (Nat.le_refl _) (Nat.le_refl _) (ih (k + 1) ch _ (by omega) ?_) 
    refine wp_aload_n (i := 0) dX7_waysAsGreat_30 rfl rfl ?_
    refine wp_iload_n (i := 1) dX7_waysAsGreat_31 rfl rfl ?_
    refine wp_iload_n (i := 2) dX7_waysAsGreat_32 rfl rfl ?_
    refine wp_iconst (v := 1) dX7_waysAsGreat_33 (by decide) ?_
    refine wp_iadd dX7_waysAsGreat_34 ?_
    refine wp_topI (v2 := nI (k + 1)) (n_add rfl rfl) ?_
    refine wp_iload_n (i := 3) dX7_waysAsGreat_35 rfl rfl ?_
    refine wp_aload_n (i := 0) dX7_waysAsGreat_36 rfl rfl ?_
    refine wp_iload_n (i := 2) dX7_waysAsGreat_37 rfl rfl ?_
    refine wp_ild (j := k) dX7_waysAsGreat_38 hta rfl (by omega) ?_
    refine wp_iadd dX7_waysAsGreat_39 ?_
    refine wp_S4i dX7_waysAsGreat_40 mw_636 mw_637 mi_X7_waysAsGreat (Nat.le_of_ble_eq_true rfl) (Nat.le_refl _) (Nat.le_refl _) (ih (k + 1) _ _ (by omega) ?_) 
    refine wp_iadd dX7_waysAsGreat_43 ?_
    refine wp_topI (v2 := nI ((wA (I a) r (k + 1) ch) + (wA (I a) r (k + 1) (ch + I a k)))) (n_add rfl rfl) ?_
    exact wp_retI dX7_waysAsGreat_44 rfl (Nat.le_refl _) (Nat.le_refl _) hq

theorem c_wagT (d : Nat) {n : Nat} {t : eT} {I : eI} {R : eR} {Q : Int32 → Nat → eT → eI → eR → Prop} {a cnt : Nat} (hta : t a = (9, 10)) (hcnt : cnt ≤ 10) (hq : Q (nI (wA (I a) cnt 0 0)) n t I R) : MC yX7_waysAsGreat cX7_waysAsGreat 4 (some .int) (d + 10) 0 0 [.ref a, .int (nI cnt), .int 0, .int 0] n t I R (qI Q) := by
  have h := c_wag (d + (10 - cnt)) hta hcnt cnt 0 0 Q (by omega) hq
  rw [show d + (10 - cnt) + cnt = d + 10 by omega] at h
  exact h

theorem c_odds (d : Nat) {n : Nat} {t : eT} {I : eI} {R : eR} {Q : Int64 → Nat → eT → eI → eR → Prop} (hst : ST n t R) {m : Nat} (hm : I 4 3 = nI m) (hm4 : m ≤ 4) {j : Nat} (hjm : j < m) {tc : Nat} (hl : I (54 + 10 * j) 11 = nI tc) (hc : tc ≤ 10) (hwb : wA (I (62 + 10 * j)) tc 0 0 ≤ 1024) {w : Int32} (h2 : ¬ (0 ≤ w.toInt ∧ w.toInt ≤ 1) → Q (-9223372036854775808) n t I R) (h3 : (0 ≤ w.toInt ∧ w.toInt ≤ 1) → tc = 0 → Q (-9223372036854775808) n t I R) (h4 : (0 ≤ w.toInt ∧ w.toInt ≤ 1) → 0 < tc → Q (lN (shr w (wA (I (62 + 10 * j)) tc 0 0) (2 ^ tc))) n t I R) : MC yX7_odds cX7_odds 5 (some .long) (d + 11) 0 0 [.ref 4, .int (nI j), .int w] n t I R (qL Q) := by
  refine mc_intro (L0 := [.ref 4, .int (nI j), .int w, vU, vU]) (by decide) rfl (Nat.le_of_ble_eq_true rfl) ?_
  refine wp_aload_n (i := 0) dX7_odds_0 rfl rfl ?_
  refine wp_iload_n (i := 1) dX7_odds_1 rfl rfl ?_
  refine wp_V1i dX7_odds_2 mw_375 mw_377 ms_7 mi_X7_isPerson (Nat.le_of_ble_eq_true rfl) (Nat.le_refl _) (Nat.le_refl _) (st_k hst rfl) (by decide) rfl (c_isPerson _ hst (by exact hm) hm4 (fun _ _ _ => ?_) (fun no => absurd rfl (no j hjm))) 
  · skip
    refine wp_if_eq1 (tgt := 17) dX7_odds_5 (by decide) ?_
    refine wp_iload_n (i := 2) dX7_odds_8 rfl rfl ?_
    refine wp_iconst (v := 0) dX7_odds_9 (by decide) ?_
    refine wp_iconst (v := 1) dX7_odds_10 (by decide) ?_
    refine wp_S3i dX7_odds_11 mw_267 mw_268 mi_X7_isWithin (Nat.le_of_ble_eq_true rfl) (Nat.le_refl _) (Nat.le_refl _) (c_isWithin _ (a := 0) (b := 1) rfl rfl (fun ga11 gb11 => ?_) (fun gn11 => ?_)) 
    · skip
      refine wp_if_ne1 (tgt := 21) dX7_odds_14 (by decide) ?_
      refine wp_aload_n (i := 0) dX7_odds_21 rfl rfl ?_
      refine wp_getR dX7_odds_22 fl_X7_27 rfl (st_k hst rfl) (st_r hst rfl) ?_
      refine wp_iload_n (i := 1) dX7_odds_25 rfl rfl ?_
      refine wp_rld11 (j := j) dX7_odds_26 (st_t hst rfl) rfl (by omega) (sp_34 hst (by omega)) ?_
      refine wp_astore_5_3 dX7_odds_27 rfl ?_
      refine wp_aload_n (i := 3) dX7_odds_28 rfl rfl ?_
      refine wp_getI dX7_odds_29 fl_X7_240 rfl (sp_k0 hst (by omega)) ?_
      refine wp_if_ne (tgt := 39) dX7_odds_32 (by decide) (fun zq32 => ?_) (fun zq32 => ?_) 
      · have ht0 : 0 < tc := Nat.pos_of_ne_zero (fun g => zq32 (by rw [hl, g]; rfl))
        have hpb := pow_b tc hc
        refine wp_aload_n (i := 3) dX7_odds_39 rfl rfl ?_
        refine wp_getR dX7_odds_40 fl_X7_243 rfl (sp_k0 hst (by omega)) (sp_r10 hst (by omega)) ?_
        refine wp_aload_n (i := 3) dX7_odds_43 rfl rfl ?_
        refine wp_getI dX7_odds_44 fl_X7_240 rfl (sp_k0 hst (by omega)) ?_
        refine wp_iconst (v := 0) dX7_odds_47 (by decide) ?_
        refine wp_iconst (v := 0) dX7_odds_48 (by decide) ?_
        rw [hl]
        refine wp_S4i dX7_odds_49 mw_636 mw_637 mi_X7_waysAsGreat (Nat.le_of_ble_eq_true rfl) (Nat.le_refl _) (Nat.le_refl _) (c_wagT _ (sp_t8 hst (by omega)) hc ?_) 
        refine wp_istore_5_4 dX7_odds_52 rfl ?_
        refine wp_iload dX7_odds_54 rfl ?_
        refine wp_iconst (v := 1) dX7_odds_56 (by decide) ?_
        refine wp_aload_n (i := 3) dX7_odds_57 rfl rfl ?_
        refine wp_getI dX7_odds_58 fl_X7_240 rfl (sp_k0 hst (by omega)) ?_
        rw [hl]
        refine wp_ishl dX7_odds_61 ?_
        refine wp_topI (v2 := nI (2 ^ tc)) (shl1 tc hc) ?_
        refine wp_iload_n (i := 2) dX7_odds_62 rfl rfl ?_
        refine wp_S3i dX7_odds_63 mw_622 mw_623 mi_X7_shareNumber (Nat.le_of_ble_eq_true rfl) (Nat.le_refl _) (Nat.le_refl _) (c_share _ hwb hpb.1 hpb.2 ?_) 
        refine wp_i2l dX7_odds_66 ?_
        exact wp_retL dX7_odds_67 rfl (Nat.le_refl _) (Nat.le_refl _) (by have h5 := h4 ⟨ga11, gb11⟩ ht0; rw [nI_l (Nat.lt_of_le_of_lt (shr_b w hwb hpb.1) (by decide : 1024 < 2 ^ 31))]; exact h5)
      · refine wp_ldc2 (v := (-9223372036854775808)) dX7_odds_35 mw_614 ?_
        exact wp_retL dX7_odds_38 rfl (Nat.le_refl _) (Nat.le_refl _) (h3 ⟨ga11, gb11⟩ ((nI_eq (by omega) (by decide)).mp (hl.symm.trans zq32)))
    · skip
      refine wp_if_ne0 (tgt := 21) dX7_odds_14 (by decide) ?_
      refine wp_ldc2 (v := (-9223372036854775808)) dX7_odds_17 mw_614 ?_
      exact wp_retL dX7_odds_20 rfl (Nat.le_refl _) (Nat.le_refl _) (h2 gn11)

theorem lp_sb (d : Nat) {n : Nat} {t : eT} {I : eI} {R : eR} {Q : eQt} (hst : ST n t R) {j tc sm : Nat} (hj : j < 4) (hl : I 121 j = nI tc) (hc : tc ≤ 10) (hsm : sm < 1024) : ∀ (r k : Nat), k + r = tc → wp yX8_sumBy cX8_sumBy 5 (some .int) (d + 1) 0 0 Q 0 0 62 [.ref 94, .int (nI j), .int (nI sm), .int (sB (fun i => I 122 (10 * j + i)) sm tc), .int (nI tc)] [] n t I R → wp yX8_sumBy cX8_sumBy 5 (some .int) (d + 1) 0 0 Q 0 0 5 [.ref 94, .int (nI j), .int (nI sm), .int (sB (fun i => I 122 (10 * j + i)) sm k), .int (nI k)] [] n t I R := by
  intro r
  induction r with
  | zero =>
    intro k hk hq
    obtain rfl : k = tc := by omega
    refine wp_iload dX8_sumBy_5 rfl ?_
    refine wp_aload_n (i := 0) dX8_sumBy_7 rfl rfl ?_
    refine wp_getR dX8_sumBy_8 fl_X8_89 rfl (st_k hst rfl) (st_r hst rfl) ?_
    refine wp_iload_n (i := 1) dX8_sumBy_11 rfl rfl ?_
    refine wp_ild (j := j) dX8_sumBy_12 (st_t hst rfl) rfl (by omega) ?_
    refine wp_icmp_ge (tgt := 62) dX8_sumBy_13 (by decide) (fun zq13 => ?_) (fun zq13 => absurd (by rw [hl]; exact nI_le (Nat.le_refl _) (by omega)) zq13) 
    exact hq
  | succ r ih =>
    intro k hk hq
    refine wp_iload dX8_sumBy_5 rfl ?_
    refine wp_aload_n (i := 0) dX8_sumBy_7 rfl rfl ?_
    refine wp_getR dX8_sumBy_8 fl_X8_89 rfl (st_k hst rfl) (st_r hst rfl) ?_
    refine wp_iload_n (i := 1) dX8_sumBy_11 rfl rfl ?_
    refine wp_ild (j := j) dX8_sumBy_12 (st_t hst rfl) rfl (by omega) ?_
    refine wp_icmp_ge (tgt := 62) dX8_sumBy_13 (by decide) (fun zq13 => absurd (show I 121 j ≤ nI k from zq13) (by rw [hl]; exact nI_ge (show k < tc by omega) (by omega))) (fun zq13 => ?_) 
    refine wp_iload_n (i := 3) dX8_sumBy_16 rfl rfl ?_
    refine wp_iload_n (i := 2) dX8_sumBy_17 rfl rfl ?_
    refine wp_iload dX8_sumBy_18 rfl ?_
    refine wp_S2i dX8_sumBy_20 mw_964 mw_965 mi_X8_hasBit (Nat.le_of_ble_eq_true rfl) (Nat.le_refl _) (Nat.le_refl _) (c_hasBit _ (fun b1 => ?_) (fun b0 => ?_)) 
    · have e9 : sB (fun i => I 122 (10 * j + i)) sm (k + 1) = sB (fun i => I 122 (10 * j + i)) sm k + - I 122 (10 * j + k) := by show _ + (if _ then _ else _) = _; rw [if_pos ((bit_nI sm hsm k (by omega)).mp b1)]
      have ih2 := ih (k + 1) (by omega) hq
      rw [e9] at ih2
      refine wp_if_eq1 (tgt := 42) dX8_sumBy_23 (by decide) ?_
      refine wp_aload_n (i := 0) dX8_sumBy_26 rfl rfl ?_
      refine wp_getR dX8_sumBy_27 fl_X8_92 rfl (st_k hst rfl) (st_r hst rfl) ?_
      refine wp_bipush (v := 10) dX8_sumBy_30 (by decide) ?_
      refine wp_iload_n (i := 1) dX8_sumBy_32 rfl rfl ?_
      refine wp_imul dX8_sumBy_33 ?_
      refine wp_iload dX8_sumBy_34 rfl ?_
      refine wp_iadd dX8_sumBy_36 ?_
      refine wp_ild (j := ((10 * j) + k)) dX8_sumBy_37 (st_t hst rfl) (n_add (n_mul rfl rfl) rfl) (by omega) ?_
      refine wp_ineg dX8_sumBy_38 ?_
      refine wp_goto (tgt := 54) dX8_sumBy_39 (by decide) ?_
      refine wp_iadd dX8_sumBy_54 ?_
      refine wp_istore_5_3 dX8_sumBy_55 rfl ?_
      refine wp_iinc_5_4 (v := nI (k + 1)) dX8_sumBy_56 (n_add rfl rfl) ?_
      refine wp_goto (tgt := 5) dX8_sumBy_59 (by decide) ?_
      exact ih2
    · have e9 : sB (fun i => I 122 (10 * j + i)) sm (k + 1) = sB (fun i => I 122 (10 * j + i)) sm k + I 122 (10 * j + k) := by show _ + (if _ then _ else _) = _; rw [if_neg (fun z => b0 ((bit_nI sm hsm k (by omega)).mpr z))]
      have ih2 := ih (k + 1) (by omega) hq
      rw [e9] at ih2
      refine wp_if_eq0 (tgt := 42) dX8_sumBy_23 (by decide) ?_
      refine wp_aload_n (i := 0) dX8_sumBy_42 rfl rfl ?_
      refine wp_getR dX8_sumBy_43 fl_X8_92 rfl (st_k hst rfl) (st_r hst rfl) ?_
      refine wp_bipush (v := 10) dX8_sumBy_46 (by decide) ?_
      refine wp_iload_n (i := 1) dX8_sumBy_48 rfl rfl ?_
      refine wp_imul dX8_sumBy_49 ?_
      refine wp_iload dX8_sumBy_50 rfl ?_
      refine wp_iadd dX8_sumBy_52 ?_
      refine wp_ild (j := ((10 * j) + k)) dX8_sumBy_53 (st_t hst rfl) (n_add (n_mul rfl rfl) rfl) (by omega) ?_
      refine wp_iadd dX8_sumBy_54 ?_
      refine wp_istore_5_3 dX8_sumBy_55 rfl ?_
      refine wp_iinc_5_4 (v := nI (k + 1)) dX8_sumBy_56 (n_add rfl rfl) ?_
      refine wp_goto (tgt := 5) dX8_sumBy_59 (by decide) ?_
      exact ih2

theorem c_sumBy (d : Nat) {n : Nat} {t : eT} {I : eI} {R : eR} {Q : Int32 → Nat → eT → eI → eR → Prop} (hst : ST n t R) {j tc sm : Nat} (hj : j < 4) (hl : I 121 j = nI tc) (hc : tc ≤ 10) (hsm : sm < 1024) (hq : Q (sB (fun i => I 122 (10 * j + i)) sm tc) n t I R) : MC yX8_sumBy cX8_sumBy 5 (some .int) (d + 1) 0 0 [.ref 94, .int (nI j), .int (nI sm)] n t I R (qI Q) := by
  refine mc_intro (L0 := [.ref 94, .int (nI j), .int (nI sm), vU, vU]) (by decide) rfl (Nat.le_of_ble_eq_true rfl) ?_
  refine wp_iconst (v := 0) dX8_sumBy_0 (by decide) ?_
  refine wp_istore_5_3 dX8_sumBy_1 rfl ?_
  refine wp_iconst (v := 0) dX8_sumBy_2 (by decide) ?_
  refine wp_istore_5_4 dX8_sumBy_3 rfl ?_
  refine lp_sb d hst hj hl hc hsm tc 0 (by omega) ?_
  refine wp_iload_n (i := 3) dX8_sumBy_62 rfl rfl ?_
  exact wp_retI dX8_sumBy_63 rfl (Nat.le_refl _) (Nat.le_refl _) hq

theorem lp_om (d : Nat) {n : Nat} {t : eT} {I : eI} {R : eR} {Q : eQt} (hst : ST n t R) {j tc : Nat} (hj : j < 4) (hl : I 121 j = nI tc) (hc : tc ≤ 10) {w : Int32} : ∀ (r s : Nat), s + r = 2 ^ tc → wp yX8_odds cX8_odds 6 (some .long) (d + 2) 0 0 Q 0 0 84 [.ref 94, .int (nI j), .int w, .int (nI (2 ^ tc)), .int (nI (cN (tS (fun i => I 122 (10 * j + i)) tc) (2 ^ tc))), .int (nI (2 ^ tc))] [] n t I R → wp yX8_odds cX8_odds 6 (some .long) (d + 2) 0 0 Q 0 0 46 [.ref 94, .int (nI j), .int w, .int (nI (2 ^ tc)), .int (nI (cN (tS (fun i => I 122 (10 * j + i)) tc) s)), .int (nI s)] [] n t I R := by
  intro r
  induction r with
  | zero =>
    intro s hs hq
    obtain rfl : s = 2 ^ tc := by omega
    refine wp_iload dX8_odds_46 rfl ?_
    refine wp_iload_n (i := 3) dX8_odds_48 rfl rfl ?_
    refine wp_icmp_ge (tgt := 84) dX8_odds_49 (by decide) (fun zq49 => ?_) (fun zq49 => absurd (nI_le (Nat.le_refl _) (by have := (pow_b tc hc).1; omega)) zq49) 
    exact hq
  | succ r ih =>
    intro s hs hq
    have hpb := pow_b tc hc
    refine wp_iload dX8_odds_46 rfl ?_
    refine wp_iload_n (i := 3) dX8_odds_48 rfl rfl ?_
    refine wp_icmp_ge (tgt := 84) dX8_odds_49 (by decide) (fun zq49 => absurd zq49 (nI_ge (show s < 2 ^ tc by omega) (by omega))) (fun zq49 => ?_) 
    refine wp_iload dX8_odds_52 rfl ?_
    refine wp_aload_n (i := 0) dX8_odds_54 rfl rfl ?_
    refine wp_iload_n (i := 1) dX8_odds_55 rfl rfl ?_
    refine wp_iload dX8_odds_56 rfl ?_
    refine wp_V2i dX8_odds_58 mw_1122 mw_1124 ms_50 mi_X8_sumBy (Nat.le_of_ble_eq_true rfl) (Nat.le_refl _) (Nat.le_refl _) (st_k hst rfl) (by decide) rfl (c_sumBy _ hst hj hl hc (show s < 1024 by omega) ?_) 
    refine wp_aload_n (i := 0) dX8_odds_61 rfl rfl ?_
    refine wp_iload_n (i := 1) dX8_odds_62 rfl rfl ?_
    refine wp_iconst (v := 0) dX8_odds_63 (by decide) ?_
    refine wp_V2i dX8_odds_64 mw_1122 mw_1124 ms_50 mi_X8_sumBy (Nat.le_of_ble_eq_true rfl) (Nat.le_refl _) (Nat.le_refl _) (st_k hst rfl) (by decide) rfl (c_sumBy _ hst hj hl hc (sm := 0) (by decide) ?_) 
    refine wp_icmp_lt (tgt := 74) dX8_odds_67 (by decide) (fun zq67 => ?_) (fun zq67 => ?_) 
    · refine wp_iconst (v := 0) dX8_odds_74 (by decide) ?_
      refine wp_iadd dX8_odds_75 ?_
      refine wp_topI (v2 := nI (cN (tS (fun i => I 122 (10 * j + i)) tc) (s + 1))) (Eq.trans (n_add rfl rfl) (congrArg nI (show cN (tS (fun i => I 122 (10 * j + i)) tc) s + 0 = cN (tS (fun i => I 122 (10 * j + i)) tc) s + tS (fun i => I 122 (10 * j + i)) tc s by rw [show tS (fun i => I 122 (10 * j + i)) tc s = 0 from if_pos zq67]))) ?_
      refine wp_istore_6_4 dX8_odds_76 rfl ?_
      refine wp_iinc_6_5 (v := nI (s + 1)) dX8_odds_78 (n_add rfl rfl) ?_
      refine wp_goto (tgt := 46) dX8_odds_81 (by decide) ?_
      exact ih (s + 1) (by omega) hq
    · refine wp_iconst (v := 1) dX8_odds_70 (by decide) ?_
      refine wp_goto (tgt := 75) dX8_odds_71 (by decide) ?_
      refine wp_iadd dX8_odds_75 ?_
      refine wp_topI (v2 := nI (cN (tS (fun i => I 122 (10 * j + i)) tc) (s + 1))) (Eq.trans (n_add rfl rfl) (congrArg nI (show cN (tS (fun i => I 122 (10 * j + i)) tc) s + 1 = cN (tS (fun i => I 122 (10 * j + i)) tc) s + tS (fun i => I 122 (10 * j + i)) tc s by rw [show tS (fun i => I 122 (10 * j + i)) tc s = 1 from if_neg zq67]))) ?_
      refine wp_istore_6_4 dX8_odds_76 rfl ?_
      refine wp_iinc_6_5 (v := nI (s + 1)) dX8_odds_78 (n_add rfl rfl) ?_
      refine wp_goto (tgt := 46) dX8_odds_81 (by decide) ?_
      exact ih (s + 1) (by omega) hq

theorem c_oddsM (d : Nat) {n : Nat} {t : eT} {I : eI} {R : eR} {Q : Int64 → Nat → eT → eI → eR → Prop} (hst : ST n t R) {m : Nat} (hmM : I 94 9 = nI m) (hm4 : m ≤ 4) {j : Nat} (hjm : j < m) {tc : Nat} (hl : I 121 j = nI tc) (hc : tc ≤ 10) {w : Int32} (h2 : ¬ (0 ≤ w.toInt ∧ w.toInt ≤ 1) → Q (-9223372036854775808) n t I R) (h3 : (0 ≤ w.toInt ∧ w.toInt ≤ 1) → tc = 0 → Q (-9223372036854775808) n t I R) (h4 : (0 ≤ w.toInt ∧ w.toInt ≤ 1) → 0 < tc → Q (lN (shr w (cN (tS (fun i => I 122 (10 * j + i)) tc) (2 ^ tc)) (2 ^ tc))) n t I R) : MC yX8_odds cX8_odds 6 (some .long) (d + 2) 0 0 [.ref 94, .int (nI j), .int w] n t I R (qL Q) := by
  refine mc_intro (L0 := [.ref 94, .int (nI j), .int w, vU, vU, vU]) (by decide) rfl (Nat.le_of_ble_eq_true rfl) ?_
  refine wp_aload_n (i := 0) dX8_odds_0 rfl rfl ?_
  refine wp_iload_n (i := 1) dX8_odds_1 rfl rfl ?_
  refine wp_V1i dX8_odds_2 mw_942 mw_944 ms_32 mi_X8_noPerson (Nat.le_of_ble_eq_true rfl) (Nat.le_refl _) (Nat.le_refl _) (st_k hst rfl) (by decide) rfl (c_noPerson _ hst (by exact hmM) hm4 (fun _ _ _ => ?_) (fun no => absurd rfl (no j hjm))) 
  · skip
    refine wp_if_ne0 (tgt := 27) dX8_odds_5 (by decide) ?_
    refine wp_iload_n (i := 2) dX8_odds_8 rfl rfl ?_
    refine wp_i2l dX8_odds_9 ?_
    refine wp_lconst (v := 0) dX8_odds_10 (by decide) ?_
    refine wp_lconst (v := 1) dX8_odds_11 (by decide) ?_
    refine wp_S3i dX8_odds_12 mw_887 mw_888 mi_X8_in (Nat.le_of_ble_eq_true rfl) (Nat.le_refl _) (Nat.le_refl _) (c_in _ (a := 0) (b := 1) rfl rfl (fun ga12 gb12 => ?_) (fun gn12 => ?_)) 
    · skip
      refine wp_if_eq1 (tgt := 27) dX8_odds_15 (by decide) ?_
      refine wp_aload_n (i := 0) dX8_odds_18 rfl rfl ?_
      refine wp_getR dX8_odds_19 fl_X8_89 rfl (st_k hst rfl) (st_r hst rfl) ?_
      refine wp_iload_n (i := 1) dX8_odds_22 rfl rfl ?_
      refine wp_ild (j := j) dX8_odds_23 (st_t hst rfl) rfl (by omega) ?_
      refine wp_if_ne (tgt := 31) dX8_odds_24 (by decide) (fun zq24 => ?_) (fun zq24 => ?_) 
      · have ht0 : 0 < tc := Nat.pos_of_ne_zero (fun g => zq24 (by rw [hl, g]; rfl))
        have hpb := pow_b tc hc
        have hcb := cN_b (T := (tS (fun i => I 122 (10 * j + i)) tc)) (2 ^ tc) (tS_1 _ _)
        refine wp_iconst (v := 1) dX8_odds_31 (by decide) ?_
        refine wp_aload_n (i := 0) dX8_odds_32 rfl rfl ?_
        refine wp_getR dX8_odds_33 fl_X8_89 rfl (st_k hst rfl) (st_r hst rfl) ?_
        refine wp_iload_n (i := 1) dX8_odds_36 rfl rfl ?_
        refine wp_ild (j := j) dX8_odds_37 (st_t hst rfl) rfl (by omega) ?_
        rw [hl]
        refine wp_ishl dX8_odds_38 ?_
        refine wp_topI (v2 := nI (2 ^ tc)) (shl1 tc hc) ?_
        refine wp_istore_6_3 dX8_odds_39 rfl ?_
        refine wp_iconst (v := 0) dX8_odds_40 (by decide) ?_
        refine wp_istore_6_4 dX8_odds_41 rfl ?_
        refine wp_iconst (v := 0) dX8_odds_43 (by decide) ?_
        refine wp_istore_6_5 dX8_odds_44 rfl ?_
        refine lp_om _ hst (show j < 4 by omega) hl hc (2 ^ tc) 0 (by omega) ?_
        refine wp_iload dX8_odds_84 rfl ?_
        refine wp_i2l dX8_odds_86 ?_
        refine wp_topL (v2 := lN (cN (tS (fun i => I 122 (10 * j + i)) tc) (2 ^ tc))) (n_i2l rfl (by omega)) ?_
        refine wp_iload_n (i := 3) dX8_odds_87 rfl rfl ?_
        refine wp_i2l dX8_odds_88 ?_
        refine wp_topL (v2 := lN (2 ^ tc)) (n_i2l rfl (by omega)) ?_
        refine wp_iload_n (i := 2) dX8_odds_89 rfl rfl ?_
        refine wp_S3l dX8_odds_90 mw_1111 mw_1112 mi_X8_share (Nat.le_of_ble_eq_true rfl) (Nat.le_refl _) (Nat.le_refl _) (c_shareM _ (by omega) hpb.1 hpb.2 ?_) 
        exact wp_retL dX8_odds_93 rfl (Nat.le_refl _) (Nat.le_refl _) (h4 ⟨ga12, gb12⟩ ht0)
      · refine wp_S0l dX8_odds_27 mw_1107 mw_1108 mi_X8_lost (Nat.le_of_ble_eq_true rfl) (Nat.le_refl _) (Nat.le_refl _) (c_lost _ ?_) 
        exact wp_retL dX8_odds_30 rfl (Nat.le_refl _) (Nat.le_refl _) (h3 ⟨ga12, gb12⟩ ((nI_eq (by omega) (by decide)).mp (hl.symm.trans zq24)))
    · skip
      refine wp_if_eq0 (tgt := 27) dX8_odds_15 (by decide) ?_
      refine wp_S0l dX8_odds_27 mw_1107 mw_1108 mi_X8_lost (Nat.le_of_ble_eq_true rfl) (Nat.le_refl _) (Nat.le_refl _) (c_lost _ ?_) 
      exact wp_retL dX8_odds_30 rfl (Nat.le_refl _) (Nat.le_refl _) (h2 gn12)

