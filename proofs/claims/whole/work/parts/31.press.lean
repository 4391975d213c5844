theorem n_i2l {x : Int32} {a : Nat} (h : x = nI a) (ha : a < 2 ^ 31) : x.toInt64 = lN a := by subst h; exact nI_l ha
theorem l_add {x y : Int64} {a b : Nat} (hx : x = lN a) (hy : y = lN b) : x + y = lN (a + b) := by subst hx; subst hy; exact lN_add a b
theorem l_mul {x y : Int64} {a b : Nat} (hx : x = lN a) (hy : y = lN b) : x * y = lN (a * b) := by subst hx; subst hy; exact lN_mul a b
/-- where a laying has its parts -/
def LayC (I : eI) (u : Nat) (lay : Nat → Option Nat) : Prop := ∀ a, a < 10 → (lay a = none ∧ ¬ bitAt (I u 0) a) ∨ ∃ pl, pl < 12 ∧ lay a = some pl ∧ bitAt (I u 0) a ∧ I (u + 1) a = nI pl
def LayM (I : eI) (r j : Nat) (lay : Nat → Option Nat) : Prop := ∀ a, a < 10 → (lay a = none ∧ I r (10 * j + a) = -9) ∨ ∃ pl, pl < 12 ∧ lay a = some pl ∧ I r (10 * j + a) = nI pl
def axd (c x : Nat) : Nat := if 10 * c + 5 ≤ x then x - (10 * c + 5) else 10 * c + 5 - x
def errN (pl x y : Nat) : Nat := Nat.max (axd (pl % 4) x) (axd (pl / 4) y) / 5
theorem ax_abs : ∀ c, c < 4 → ∀ x, x < 40 → absI (nI x - (10 * nI c + 5)) = nI (axd c x) := by decide +kernel
theorem ax_absM : ∀ c, c < 4 → ∀ x, x < 40 → absI (nI x - 10 * nI c - 5) = nI (axd c x) := by decide +kernel
theorem pl_col : ∀ c, c < 12 → nI c % 4 = nI (c % 4) := by decide +kernel
theorem pl_row : ∀ c, c < 12 → nI c / 4 = nI (c / 4) := by decide +kernel
theorem ax_lt : ∀ c, c < 4 → ∀ x, x < 40 → axd c x < 40 := by decide +kernel
theorem by_5 : ∀ c, c < 40 → nI c / 5 = nI (c / 5) := by decide +kernel
theorem nI_max {a b : Nat} (ha : a < 40) (hb : b < 40) : maxI (nI a) (nI b) = nI (Nat.max a b) := by
  unfold maxI
  by_cases h : a < b
  · rw [if_pos (nI_lt h (by omega)), show Nat.max a b = b from Nat.max_eq_right (by omega)]
  · rw [if_neg (nI_nlt (by omega) (by omega)), show Nat.max a b = a from Nat.max_eq_left (by omega)]
theorem nI_maxM {a b : Nat} (ha : a < 40) (hb : b < 40) : (if nI b < nI a then nI a else nI b) = nI (Nat.max a b) := by
  by_cases h : b < a
  · rw [if_pos (nI_lt h (by omega)), show Nat.max a b = a from Nat.max_eq_left (by omega)]
  · rw [if_neg (nI_nlt (by omega) (by omega)), show Nat.max a b = b from Nat.max_eq_right (by omega)]
theorem max_lt40 {a b : Nat} (ha : a < 40) (hb : b < 40) : Nat.max a b < 40 := Nat.max_lt.mpr ⟨ha, hb⟩
theorem err_eq {v : Int32} {pl x y : Nat} (hv : v = nI pl) (hp : pl < 12) (hx : x < 40) (hy : y < 30) : maxI (absI (nI x - (10 * (v % 4) + 5))) (absI (nI y - (10 * (v / 4) + 5))) / 5 = nI (errN pl x y) := by
  subst hv
  rw [pl_col pl hp, pl_row pl hp, ax_abs _ (by omega) x hx, ax_abs _ (by omega) y (by omega), nI_max (ax_lt _ (by omega) _ hx) (ax_lt _ (by omega) _ (by omega)), by_5 _ (max_lt40 (ax_lt _ (by omega) _ hx) (ax_lt _ (by omega) _ (by omega)))]
  rfl
theorem err_eqM {v : Int32} {pl x y : Nat} (hv : v = nI pl) (hp : pl < 12) (hx : x < 40) (hy : y < 30) : (if absI (nI y - 10 * (v / 4) - 5) < absI (nI x - 10 * (v % 4) - 5) then absI (nI x - 10 * (v % 4) - 5) else absI (nI y - 10 * (v / 4) - 5)) / 5 = nI (errN pl x y) := by
  subst hv
  rw [pl_col pl hp, pl_row pl hp, ax_absM _ (by omega) x hx, ax_absM _ (by omega) y (by omega), nI_maxM (ax_lt _ (by omega) _ hx) (ax_lt _ (by omega) _ (by omega)), by_5 _ (max_lt40 (ax_lt _ (by omega) _ hx) (ax_lt _ (by omega) _ (by omega)))]
  rfl
theorem err_lt {pl x y : Nat} (hp : pl < 12) (hx : x < 40) (hy : y < 30) : errN pl x y < 8 := by
  have := max_lt40 (ax_lt (pl % 4) (by omega) x hx) (ax_lt (pl / 4) (by omega) y (by omega))
  unfold errN
  omega
/-- a weight -/
def wtN (wv cv : Nat → Nat) (lay : Nat → Option Nat) (px py a : Nat) : Nat := match lay a with
  | none => 0
  | some pl => if errN pl px py < 3 then (wv a + 1) * (cv (errN pl px py) + 1) else 0
/-- what the loop has: meant, its weight, all -/
def pAcc (w : Nat → Nat) : Nat → Int32 × Nat × Nat
  | 0 => (-9, 0, 0)
  | k + 1 => (if (pAcc w k).2.1 < w k then nI k else (pAcc w k).1, if (pAcc w k).2.1 < w k then w k else (pAcc w k).2.1, (pAcc w k).2.2 + w k)
theorem pAcc_gt {w : Nat → Nat} {k : Nat} (h : (pAcc w k).2.1 < w k) : pAcc w (k + 1) = (nI k, w k, (pAcc w k).2.2 + w k) := by
  show (_, _, _) = _
  rw [if_pos h, if_pos h]
theorem pAcc_le {w : Nat → Nat} {k : Nat} (h : ¬ (pAcc w k).2.1 < w k) : pAcc w (k + 1) = ((pAcc w k).1, (pAcc w k).2.1, (pAcc w k).2.2 + w k) := by
  show (_, _, _) = _
  rw [if_neg h, if_neg h]
theorem pAcc_0 {w : Nat → Nat} {k : Nat} (h : w k = 0) : pAcc w (k + 1) = pAcc w k := by
  rw [pAcc_le (by omega), h]
  rfl
theorem pAcc_b {w : Nat → Nat} {M : Nat} : ∀ k, (∀ a, a < k → w a ≤ M) → (pAcc w k).2.1 ≤ M ∧ (pAcc w k).2.2 ≤ M * k
  | 0, _ => ⟨Nat.zero_le _, Nat.zero_le _⟩
  | k + 1, h => by
    have ih := pAcc_b (w := w) (M := M) k (fun a ha => h a (by omega))
    have hk := h k (by omega)
    have e : M * (k + 1) = M * k + M := Nat.mul_succ M k
    by_cases g : (pAcc w k).2.1 < w k
    · rw [pAcc_gt g]
      exact ⟨hk, by show (pAcc w k).2.2 + w k ≤ _; omega⟩
    · rw [pAcc_le g]
      exact ⟨ih.1, by show (pAcc w k).2.2 + w k ≤ _; omega⟩
theorem pAcc_s {w : Nat → Nat} : ∀ k, ((pAcc w k).1 = -9 ∧ (pAcc w k).2.1 = 0 ∧ ∀ a, a < k → w a = 0) ∨ ∃ a, a < k ∧ (pAcc w k).1 = nI a ∧ 0 < w a
  | 0 => Or.inl ⟨rfl, rfl, fun a h => absurd h (Nat.not_lt_zero a)⟩
  | k + 1 => by
    by_cases g : (pAcc w k).2.1 < w k
    · rw [pAcc_gt g]
      exact Or.inr ⟨k, by omega, rfl, by omega⟩
    · rw [pAcc_le g]
      rcases pAcc_s (w := w) k with ⟨h1, h2, h3⟩ | ⟨a, h1, h2, h3⟩
      · refine Or.inl ⟨h1, h2, fun a ha => ?_⟩
        rcases Nat.lt_or_ge a k with q | q
        · exact h3 a q
        · obtain rfl : a = k := by omega
          omega
      · exact Or.inr ⟨a, by omega, h2, h3⟩
theorem wtN_b {wv cv : Nat → Nat} {lay : Nat → Option Nat} {px py a : Nat} (hw : wv a ≤ 999) (hc : ∀ e, e < 3 → cv e ≤ 512) : wtN wv cv lay px py a ≤ 513000 := by
  unfold wtN
  split
  · exact Nat.zero_le _
  · split
    · rename_i pl _ h
      have h1 := hc _ h
      exact Nat.le_trans (Nat.mul_le_mul (show wv a + 1 ≤ 1000 by omega) (show cv (errN pl px py) + 1 ≤ 513 by omega)) (by decide)
    · exact Nat.zero_le _
theorem wtN_p {wv cv : Nat → Nat} {lay : Nat → Option Nat} {px py a : Nat} (h : 0 < wtN wv cv lay px py a) : ∃ pl, lay a = some pl ∧ errN pl px py < 3 := by
  unfold wtN at h
  split at h
  · exact absurd h (Nat.lt_irrefl 0)
  · rename_i pl hl
    by_cases g : errN pl px py < 3
    · exact ⟨pl, hl, g⟩
    · rw [if_neg g] at h
      exact absurd h (Nat.lt_irrefl 0)
/-- behind a take -/
def tkC (I : eI) (j c e : Nat) : eI := if c < 12 then (eU (eU (eU (eU I (54 + 10 * j) 4 (-9)) (60 + 10 * j) e (I (60 + 10 * j) e + 1)) (61 + 10 * j) c (nI e)) (54 + 10 * j) 9 (nI (c + 1))) else (eU (eU (eU (eG (eU (eU I (54 + 10 * j) 4 (-9)) (60 + 10 * j) e (I (60 + 10 * j) e + 1)) (61 + 10 * j) (va_cpy (I (61 + 10 * j)) (I (61 + 10 * j)) 1 0 11)) (54 + 10 * j) 9 (nI 11)) (61 + 10 * j) 11 (nI e)) (54 + 10 * j) 9 (nI 12))
def tkM (I : eI) (j c e : Nat) : eI := if c < 12 then (eU (eU (eU (eU I 118 (3 * j + e) (I 118 (3 * j + e) + 1)) 120 (12 * j + c) (nI e)) 119 j (nI (c + 1))) 114 j (-9)) else (eU (eU (eU (eU (eG (eU I 118 (3 * j + e) (I 118 (3 * j + e) + 1)) 120 (fun x => if 12 * j + 0 ≤ x ∧ x < 12 * j + 11 then (eU I 118 (3 * j + e) (I 118 (3 * j + e) + 1)) 120 (x + 1) else (eU I 118 (3 * j + e) (I 118 (3 * j + e) + 1)) 120 x)) 119 j (nI 11)) 120 (12 * j + 11) (nI e)) 119 j (nI 12)) 114 j (-9))
theorem c_takeT (d : Nat) {n : Nat} {t : eT} {I : eI} {R : eR} {Q : Nat → eT → eI → eR → Prop} (hst : ST n t R) {j c e : Nat} (hj : j < 4) (hl : I (54 + 10 * j) 9 = nI c) (hc : c ≤ 12) (he : e < 3) (hq : Q n t (tkC I j c e) R) : MC yX3_take cX3_take 2 none (d + 1) 0 0 [.ref (54 + 10 * j), .int (nI e)] n t I R (qV Q) := c_take d hst hj hl hc he (fun h => by unfold tkC at hq; rw [if_pos h] at hq; exact hq) (fun h => by unfold tkC at hq; rw [if_neg (by omega)] at hq; exact hq)
theorem c_takeTM (d : Nat) {n : Nat} {t : eT} {I : eI} {R : eR} {Q : Nat → eT → eI → eR → Prop} (hst : ST n t R) {j c e : Nat} (hj : j < 4) (hl : I 119 j = nI c) (hc : c ≤ 12) (he : e < 3) (hq : Q n t (tkM I j c e) R) : MC yX8_takePress cX8_takePress 4 none d 0 0 [.ref 94, .int (nI j), .int (nI e)] n t I R (qV Q) := c_takePress d hst hj hl hc he (fun h => by unfold tkM at hq; rw [if_pos h] at hq; exact hq) (fun h => by unfold tkM at hq; rw [if_neg (by omega)] at hq; exact hq)
theorem c_errorOf (d : Nat) {n : Nat} {t : eT} {I : eI} {R : eR} {Q : Int32 → Nat → eT → eI → eR → Prop} {u : Nat} (hta : (t u).1 = 0) (hra : R u 1 = some (u + 1)) (htp : t (u + 1) = (9, 10)) {lay : Nat → Option Nat} (hL : LayC I u lay) {pa px py : Nat} (hpa : pa < 10) (hpx : px < 40) (hpy : py < 30) (h0 : lay pa = none → Q (-9) n t I R) (h1 : ∀ pl, pl < 12 → lay pa = some pl → Q (nI (errN pl px py)) n t I R) : MC yX0_errorOf cX0_errorOf 6 (some .int) (d + 1) 0 0 [.ref u, .int (nI pa), .int (nI px), .int (nI py)] n t I R (qI Q) := by
  refine mc_intro (L0 := [.ref u, .int (nI pa), .int (nI px), .int (nI py), vU, vU]) (by decide) rfl (Nat.le_of_ble_eq_true rfl) ?_
  refine wp_aload_n (i := 0) dX0_errorOf_0 rfl rfl ?_
  refine wp_iload_n (i := 1) dX0_errorOf_1 rfl rfl ?_
  refine wp_V1i dX0_errorOf_2 mw_452 mw_453 mw_454 mi_X0_hasPart (Nat.le_of_ble_eq_true rfl) (Nat.le_refl _) (Nat.le_refl _) hta (by decide) rfl (c_hasPart _ hta (fun ba => ?_) (fun ba => ?_)) 
  · skip
    refine wp_if_ne1 (tgt := 11) dX0_errorOf_5 (by decide) ?_
    obtain ⟨pl, hpl, hsome, hv⟩ : ∃ pl, pl < 12 ∧ lay pa = some pl ∧ I (u + 1) pa = nI pl := by
      rcases hL pa hpa with ⟨-, q⟩ | ⟨pl, q1, q2, -, q3⟩
      · exact absurd ba q
      · exact ⟨pl, q1, q2, q3⟩
    refine wp_bipush (v := 10) dX0_errorOf_11 (by decide) ?_
    refine wp_aload_n (i := 0) dX0_errorOf_13 rfl rfl ?_
    refine wp_getR dX0_errorOf_14 fl_X0_15 rfl hta hra ?_
    refine wp_iload_n (i := 1) dX0_errorOf_17 rfl rfl ?_
    refine wp_ild (j := pa) dX0_errorOf_18 htp rfl (by omega) ?_
    refine wp_SN1i dX0_errorOf_19 mw_97 mw_98 mi_X7_columnOf (Nat.le_of_ble_eq_true rfl) (Nat.le_refl _) (Nat.le_refl _) (c_columnOf _ ?_) 
    refine wp_imul dX0_errorOf_22 ?_
    refine wp_iconst (v := 5) dX0_errorOf_23 (by decide) ?_
    refine wp_iadd dX0_errorOf_24 ?_
    refine wp_istore_6_4 dX0_errorOf_25 rfl ?_
    refine wp_bipush (v := 10) dX0_errorOf_27 (by decide) ?_
    refine wp_aload_n (i := 0) dX0_errorOf_29 rfl rfl ?_
    refine wp_getR dX0_errorOf_30 fl_X0_15 rfl hta hra ?_
    refine wp_iload_n (i := 1) dX0_errorOf_33 rfl rfl ?_
    refine wp_ild (j := pa) dX0_errorOf_34 htp rfl (by omega) ?_
    refine wp_SN1i dX0_errorOf_35 mw_103 mw_104 mi_X7_rowOf (Nat.le_of_ble_eq_true rfl) (Nat.le_refl _) (Nat.le_refl _) (c_rowOf _ ?_) 
    refine wp_imul dX0_errorOf_38 ?_
    refine wp_iconst (v := 5) dX0_errorOf_39 (by decide) ?_
    refine wp_iadd dX0_errorOf_40 ?_
    refine wp_istore_6_5 dX0_errorOf_41 rfl ?_
    refine wp_iload_n (i := 2) dX0_errorOf_43 rfl rfl ?_
    refine wp_iload dX0_errorOf_44 rfl ?_
    refine wp_isub dX0_errorOf_46 ?_
    refine wp_mabs dX0_errorOf_47 mw_100 (Nat.le_of_ble_eq_true rfl) (Nat.le_refl _) (Nat.le_refl _) ?_
    refine wp_iload_n (i := 3) dX0_errorOf_50 rfl rfl ?_
    refine wp_iload dX0_errorOf_51 rfl ?_
    refine wp_isub dX0_errorOf_53 ?_
    refine wp_mabs dX0_errorOf_54 mw_100 (Nat.le_of_ble_eq_true rfl) (Nat.le_refl _) (Nat.le_refl _) ?_
    refine wp_mmax dX0_errorOf_57 mw_109 (Nat.le_of_ble_eq_true rfl) (Nat.le_refl _) (Nat.le_refl _) ?_
    refine wp_iconst (v := 5) dX0_errorOf_60 (by decide) ?_
    refine wp_idiv dX0_errorOf_61 (by decide) ?_
    exact wp_retI dX0_errorOf_62 rfl (Nat.le_refl _) (Nat.le_refl _) (by rw [err_eq hv hpl hpx hpy]; exact h1 pl hpl hsome)
  · skip
    refine wp_if_ne0 (tgt := 11) dX0_errorOf_5 (by decide) ?_
    refine wp_bipush (v := (-9)) dX0_errorOf_8 (by decide) ?_
    have hn : lay pa = none := by
      rcases hL pa hpa with ⟨q, -⟩ | ⟨pl, -, -, q, -⟩
      · exact q
      · exact absurd q ba
    exact wp_retI dX0_errorOf_10 rfl (Nat.le_refl _) (Nat.le_refl _) (h0 hn)

theorem c_errorOfM (d : Nat) {n : Nat} {t : eT} {I : eI} {R : eR} {Q : Int32 → Nat → eT → eI → eR → Prop} (hst : ST n t R) {j : Nat} (hj : j < 4) {lay : Nat → Option Nat} (hL : LayM I 106 j lay) {pa px py : Nat} (hpa : pa < 10) (hpx : px < 40) (hpy : py < 30) (h0 : lay pa = none → Q 99 n t I R) (h1 : ∀ pl, pl < 12 → lay pa = some pl → Q (nI (errN pl px py)) n t I R) : MC yX8_errorOf cX8_errorOf 8 (some .int) (d + 1) 0 0 [.ref 94, .int (nI j), .int (nI pa), .int (nI px), .int (nI py)] n t I R (qI Q) := by
  refine mc_intro (L0 := [.ref 94, .int (nI j), .int (nI pa), .int (nI px), .int (nI py), vU, vU, vU]) (by decide) rfl (Nat.le_of_ble_eq_true rfl) ?_
  refine wp_aload_n (i := 0) dX8_errorOf_0 rfl rfl ?_
  refine wp_getR dX8_errorOf_1 fl_X8_44 rfl (st_k hst rfl) (st_r hst rfl) ?_
  refine wp_bipush (v := 10) dX8_errorOf_4 (by decide) ?_
  refine wp_iload_n (i := 1) dX8_errorOf_6 rfl rfl ?_
  refine wp_imul dX8_errorOf_7 ?_
  refine wp_iload_n (i := 2) dX8_errorOf_8 rfl rfl ?_
  refine wp_iadd dX8_errorOf_9 ?_
  refine wp_ild (j := ((10 * j) + pa)) dX8_errorOf_10 (st_t hst rfl) (n_add (n_mul rfl rfl) rfl) (by omega) ?_
  refine wp_istore_8_5 dX8_errorOf_11 rfl ?_
  refine wp_iload_n (i := 3) dX8_errorOf_13 rfl rfl ?_
  refine wp_bipush (v := 10) dX8_errorOf_14 (by decide) ?_
  refine wp_iload dX8_errorOf_16 rfl ?_
  refine wp_iconst (v := 4) dX8_errorOf_18 (by decide) ?_
  refine wp_irem dX8_errorOf_19 (by decide) ?_
  refine wp_imul dX8_errorOf_20 ?_
  refine wp_isub dX8_errorOf_21 ?_
  refine wp_iconst (v := 5) dX8_errorOf_22 (by decide) ?_
  refine wp_isub dX8_errorOf_23 ?_
  refine wp_S1i dX8_errorOf_24 mw_974 mw_975 mi_X8_sizeOf (Nat.le_of_ble_eq_true rfl) (Nat.le_refl _) (Nat.le_refl _) (c_sizeOf _ ?_) 
  refine wp_istore_8_6 dX8_errorOf_27 rfl ?_
  refine wp_iload dX8_errorOf_29 rfl ?_
  refine wp_bipush (v := 10) dX8_errorOf_31 (by decide) ?_
  refine wp_iload dX8_errorOf_33 rfl ?_
  refine wp_iconst (v := 4) dX8_errorOf_35 (by decide) ?_
  refine wp_idiv dX8_errorOf_36 (by decide) ?_
  refine wp_imul dX8_errorOf_37 ?_
  refine wp_isub dX8_errorOf_38 ?_
  refine wp_iconst (v := 5) dX8_errorOf_39 (by decide) ?_
  refine wp_isub dX8_errorOf_40 ?_
  refine wp_S1i dX8_errorOf_41 mw_974 mw_975 mi_X8_sizeOf (Nat.le_of_ble_eq_true rfl) (Nat.le_refl _) (Nat.le_refl _) (c_sizeOf _ ?_) 
  refine wp_istore_8_7 dX8_errorOf_44 rfl ?_
  rcases hL pa hpa with ⟨hn, hv⟩ | ⟨pl, hpl, hsome, hv⟩
  · skip
    refine wp_iload dX8_errorOf_46 rfl ?_
    refine wp_if_ge (tgt := 56) dX8_errorOf_48 (by decide) (fun zq48 => absurd zq48 (by rw [hv]; decide)) (fun zq48 => ?_) 
    refine wp_bipush (v := 99) dX8_errorOf_51 (by decide) ?_
    refine wp_goto (tgt := 65) dX8_errorOf_53 (by decide) ?_
    exact wp_retI dX8_errorOf_65 rfl (Nat.le_refl _) (Nat.le_refl _) (h0 hn)
  · skip
    refine wp_iload dX8_errorOf_46 rfl ?_
    refine wp_if_ge (tgt := 56) dX8_errorOf_48 (by decide) (fun zq48 => ?_) (fun zq48 => absurd (by rw [hv]; exact nI_pos' (by omega)) zq48) 
    refine wp_iload dX8_errorOf_56 rfl ?_
    refine wp_iload dX8_errorOf_58 rfl ?_
    refine wp_S2i dX8_errorOf_60 mw_980 mw_981 mi_X8_greater (Nat.le_of_ble_eq_true rfl) (Nat.le_refl _) (Nat.le_refl _) (c_greater _ ?_) 
    refine wp_iconst (v := 5) dX8_errorOf_63 (by decide) ?_
    refine wp_idiv dX8_errorOf_64 (by decide) ?_
    exact wp_retI dX8_errorOf_65 rfl (Nat.le_refl _) (Nat.le_refl _) (by have := err_eqM hv hpl hpx hpy; unfold absI at this; rw [this]; exact h1 pl hpl hsome)

theorem c_weightOf (d : Nat) {n : Nat} {t : eT} {I : eI} {R : eR} {Q : Int32 → Nat → eT → eI → eR → Prop} (hst : ST n t R) {k : Nat} (hk : I 5 0 = nI k) (hk4 : k ≤ 10) {j : Nat} (hj : j < 4) {u : Nat} (hta : (t u).1 = 0) (hra : R u 1 = some (u + 1)) (htp : t (u + 1) = (9, 10)) (hru : R (54 + 10 * j) 1 = some u) {wv cv : Nat → Nat} (hW : ∀ a, a < k → I 7 a = nI (wv a) ∧ wv a ≤ 999) (hC : ∀ e, e < 3 → I (60 + 10 * j) e = nI (cv e) ∧ cv e ≤ 512) {lay : Nat → Option Nat} (hL : LayC I u lay) {pa px py : Nat} (hpa : pa < k) (hpx : px < 40) (hpy : py < 30) (hq : Q (nI (wtN wv cv lay px py pa)) n t I R) : MC yX7_weightOf cX7_weightOf 6 (some .int) (d + 2) 0 0 [.ref 4, .ref (54 + 10 * j), .int (nI pa), .int (nI px), .int (nI py)] n t I R (qI Q) := by
  refine mc_intro (L0 := [.ref 4, .ref (54 + 10 * j), .int (nI pa), .int (nI px), .int (nI py), vU]) (by decide) rfl (Nat.le_of_ble_eq_true rfl) ?_
  refine wp_aload_n (i := 1) dX7_weightOf_0 rfl rfl ?_
  refine wp_getR dX7_weightOf_1 fl_X7_147 rfl (sp_k0 hst (by omega)) hru ?_
  refine wp_iload_n (i := 2) dX7_weightOf_4 rfl rfl ?_
  refine wp_iload_n (i := 3) dX7_weightOf_5 rfl rfl ?_
  refine wp_iload dX7_weightOf_6 rfl ?_
  refine wp_V3i dX7_weightOf_8 mw_565 mw_566 mw_567 mi_X0_errorOf (Nat.le_of_ble_eq_true rfl) (Nat.le_refl _) (Nat.le_refl _) hta (by decide) rfl (c_errorOf _ hta hra htp hL (by omega) hpx hpy (fun hn => ?_) (fun pl hpl hsome => ?_)) 
  · have hw0 : wtN wv cv lay px py pa = 0 := by unfold wtN; rw [hn]
    rw [hw0] at hq
    refine wp_istore_6_5 dX7_weightOf_11 rfl ?_
    refine wp_iload dX7_weightOf_13 rfl ?_
    refine wp_iconst (v := 0) dX7_weightOf_15 (by decide) ?_
    refine wp_iconst (v := 2) dX7_weightOf_16 (by decide) ?_
    refine wp_S3i dX7_weightOf_17 mw_267 mw_268 mi_X7_isWithin (Nat.le_of_ble_eq_true rfl) (Nat.le_refl _) (Nat.le_refl _) (c_isWithin _ (a := 0) (b := 2) rfl rfl (fun ga hb => absurd ga (by decide)) (fun gn => ?_)) 
    · skip
      refine wp_if_ne0 (tgt := 25) dX7_weightOf_20 (by decide) ?_
      refine wp_iconst (v := 0) dX7_weightOf_23 (by decide) ?_
      exact wp_retI dX7_weightOf_24 rfl (Nat.le_refl _) (Nat.le_refl _) hq
  · have hlt := err_lt hpl hpx hpy
    refine wp_istore_6_5 dX7_weightOf_11 rfl ?_
    refine wp_iload dX7_weightOf_13 rfl ?_
    refine wp_iconst (v := 0) dX7_weightOf_15 (by decide) ?_
    refine wp_iconst (v := 2) dX7_weightOf_16 (by decide) ?_
    refine wp_S3i dX7_weightOf_17 mw_267 mw_268 mi_X7_isWithin (Nat.le_of_ble_eq_true rfl) (Nat.le_refl _) (Nat.le_refl _) (c_isWithin _ (a := 0) (b := 2) rfl rfl (fun ga gb => ?_) (fun gn => ?_)) 
    · have he : errN pl px py < 3 := by rw [nI_toInt (by omega)] at gb; omega
      have hw0 : wtN wv cv lay px py pa = (wv pa + 1) * (cv (errN pl px py) + 1) := by unfold wtN; rw [hsome]; exact if_pos he
      rw [hw0] at hq
      refine wp_if_ne1 (tgt := 25) dX7_weightOf_20 (by decide) ?_
      refine wp_aload_n (i := 0) dX7_weightOf_25 rfl rfl ?_
      refine wp_getR dX7_weightOf_26 fl_X7_12 rfl (st_k hst rfl) (st_r hst rfl) ?_
      refine wp_getR dX7_weightOf_29 fl_X7_105 rfl (st_k hst rfl) (st_r hst rfl) ?_
      refine wp_iload_n (i := 2) dX7_weightOf_32 rfl rfl ?_
      refine wp_ild (j := pa) dX7_weightOf_33 (st_t hst rfl) rfl (by omega) ?_
      refine wp_iconst (v := 1) dX7_weightOf_34 (by decide) ?_
      refine wp_iadd dX7_weightOf_35 ?_
      refine wp_aload_n (i := 1) dX7_weightOf_36 rfl rfl ?_
      refine wp_getR dX7_weightOf_37 fl_X7_225 rfl (sp_k0 hst (by omega)) (sp_r7 hst (by omega)) ?_
      refine wp_iload dX7_weightOf_40 rfl ?_
      refine wp_ild (j := (errN pl px py)) dX7_weightOf_42 (sp_t6 hst (by omega)) rfl (by omega) ?_
      refine wp_iconst (v := 1) dX7_weightOf_43 (by decide) ?_
      refine wp_iadd dX7_weightOf_44 ?_
      refine wp_imul dX7_weightOf_45 ?_
      refine wp_topI (v2 := nI (((wv pa) + 1) * ((cv (errN pl px py)) + 1))) (n_mul (n_add (hW pa hpa).1 rfl) (n_add (hC _ he).1 rfl)) ?_
      exact wp_retI dX7_weightOf_46 rfl (Nat.le_refl _) (Nat.le_refl _) hq
    · have hw0 : wtN wv cv lay px py pa = 0 := by
        unfold wtN; rw [hsome]; refine if_neg (fun he => gn ?_); rw [nI_toInt (by omega)]; omega
      rw [hw0] at hq
      refine wp_if_ne0 (tgt := 25) dX7_weightOf_20 (by decide) ?_
      refine wp_iconst (v := 0) dX7_weightOf_23 (by decide) ?_
      exact wp_retI dX7_weightOf_24 rfl (Nat.le_refl _) (Nat.le_refl _) hq

theorem c_still (d : Nat) {n : Nat} {t : eT} {I : eI} {R : eR} {Q : Int32 → Nat → eT → eI → eR → Prop} (hst : ST n t R) {j : Nat} (hj : j < 4) {x w g : Int32} (h1 : I (54 + 10 * j) 4 = x → w - I (54 + 10 * j) 6 ≤ g → Q 1 n t I R) (h0 : ¬ (I (54 + 10 * j) 4 = x ∧ w - I (54 + 10 * j) 6 ≤ g) → Q 0 n t I R) : MC yX3_isStillAsked cX3_isStillAsked 4 (some .boolean) d 0 0 [.ref (54 + 10 * j), .int x, .int w, .int g] n t I R (qI Q) := by
  refine mc_intro (L0 := [.ref (54 + 10 * j), .int x, .int w, .int g]) (by decide) rfl (Nat.le_of_ble_eq_true rfl) ?_
  refine wp_aload_n (i := 0) dX3_isStillAsked_0 rfl rfl ?_
  refine wp_getI dX3_isStillAsked_1 fl_X3_29 rfl (sp_k0 hst (by omega)) ?_
  refine wp_iload_n (i := 1) dX3_isStillAsked_4 rfl rfl ?_
  refine wp_icmp_ne (tgt := 22) dX3_isStillAsked_5 (by decide) (fun zq5 => ?_) (fun zq5 => ?_) 
  · refine wp_iconst (v := 0) dX3_isStillAsked_22 (by decide) ?_
    exact wp_retZ dX3_isStillAsked_23 rfl rfl (Nat.le_refl _) (Nat.le_refl _) (h0 (fun g => zq5 g.1))
  · refine wp_iload_n (i := 2) dX3_isStillAsked_8 rfl rfl ?_
    refine wp_aload_n (i := 0) dX3_isStillAsked_9 rfl rfl ?_
    refine wp_getI dX3_isStillAsked_10 fl_X3_35 rfl (sp_k0 hst (by omega)) ?_
    refine wp_isub dX3_isStillAsked_13 ?_
    refine wp_iload_n (i := 3) dX3_isStillAsked_14 rfl rfl ?_
    refine wp_icmp_gt (tgt := 22) dX3_isStillAsked_15 (by decide) (fun zq15 => ?_) (fun zq15 => ?_) 
    · refine wp_iconst (v := 0) dX3_isStillAsked_22 (by decide) ?_
      exact wp_retZ dX3_isStillAsked_23 rfl rfl (Nat.le_refl _) (Nat.le_refl _) (h0 (fun g => absurd g.2 (Int32.not_le.mpr zq15)))
    · refine wp_iconst (v := 1) dX3_isStillAsked_18 (by decide) ?_
      refine wp_goto (tgt := 23) dX3_isStillAsked_19 (by decide) ?_
      exact wp_retZ dX3_isStillAsked_23 rfl rfl (Nat.le_refl _) (Nat.le_refl _) (h1 zq5 (Int32.not_lt.mp zq15))

theorem c_ask (d : Nat) {n : Nat} {t : eT} {I : eI} {R : eR} {Q : Nat → eT → eI → eR → Prop} (hst : ST n t R) {j : Nat} (hj : j < 4) {x w g : Int32} (hq : Q n t (eU (eU (eU I (54 + 10 * j) 4 x) (54 + 10 * j) 5 w) (54 + 10 * j) 6 g) R) : MC yX3_ask cX3_ask 4 none d 0 0 [.ref (54 + 10 * j), .int x, .int w, .int g] n t I R (qV Q) := by
  refine mc_intro (L0 := [.ref (54 + 10 * j), .int x, .int w, .int g]) (by decide) rfl (Nat.le_of_ble_eq_true rfl) ?_
  refine wp_aload_n (i := 0) dX3_ask_0 rfl rfl ?_
  refine wp_iload_n (i := 1) dX3_ask_1 rfl rfl ?_
  refine wp_putI dX3_ask_2 fl_X3_29 rfl (Or.inl rfl) (sp_k0 hst (by omega)) ?_
  refine wp_aload_n (i := 0) dX3_ask_5 rfl rfl ?_
  refine wp_iload_n (i := 2) dX3_ask_6 rfl rfl ?_
  refine wp_putI dX3_ask_7 fl_X3_32 rfl (Or.inl rfl) (sp_k0 hst (by omega)) ?_
  refine wp_aload_n (i := 0) dX3_ask_10 rfl rfl ?_
  refine wp_iload_n (i := 3) dX3_ask_11 rfl rfl ?_
  refine wp_putI dX3_ask_12 fl_X3_35 rfl (Or.inl rfl) (sp_k0 hst (by omega)) ?_
  exact wp_retV dX3_ask_15 rfl (Nat.le_refl _) (Nat.le_refl _) hq

theorem lp_pf (d : Nat) {n : Nat} {t : eT} {I : eI} {R : eR} {Q : eQt} (hst : ST n t R) {k : Nat} (hk : I 5 0 = nI k) (hk4 : k ≤ 10) {j : Nat} (hj : j < 4) {u : Nat} (hta : (t u).1 = 0) (hra : R u 1 = some (u + 1)) (htp : t (u + 1) = (9, 10)) (hru : R (54 + 10 * j) 1 = some u) {wv cv : Nat → Nat} (hW : ∀ a, a < k → I 7 a = nI (wv a) ∧ wv a ≤ 999) (hC : ∀ e, e < 3 → I (60 + 10 * j) e = nI (cv e) ∧ cv e ≤ 512) {lay : Nat → Option Nat} (hL : LayC I u lay) {px py : Nat} (hpx : px < 40) (hpy : py < 30) {w : Int32} : ∀ (r a : Nat), a + r = k → ∀ (x9 x10 : Value), sec x9 = false → (∀ y9 y10 : Value, sec y9 = false → sec y10 = sec x10 → wp yX7_pressFor cX7_pressFor 11 (some .int) (d + 3) 0 0 Q 0 0 64 [.ref 4, .ref (54 + 10 * j), .int (nI px), .int (nI py), .int w, .int (pAcc (wtN wv cv lay px py) k).1, .int (nI (pAcc (wtN wv cv lay px py) k).2.1), .int (nI (pAcc (wtN wv cv lay px py) k).2.2), .int (nI k), y9, y10] [] n t I R) → wp yX7_pressFor cX7_pressFor 11 (some .int) (d + 3) 0 0 Q 0 0 13 [.ref 4, .ref (54 + 10 * j), .int (nI px), .int (nI py), .int w, .int (pAcc (wtN wv cv lay px py) a).1, .int (nI (pAcc (wtN wv cv lay px py) a).2.1), .int (nI (pAcc (wtN wv cv lay px py) a).2.2), .int (nI a), x9, x10] [] n t I R := by
  intro r
  induction r with
  | zero =>
    intro a ha x9 x10 hx9 hq
    obtain rfl : a = k := by omega
    refine wp_iload dX7_pressFor_13 rfl ?_
    refine wp_aload_n (i := 0) dX7_pressFor_15 rfl rfl ?_
    refine wp_getR dX7_pressFor_16 fl_X7_12 rfl (st_k hst rfl) (st_r hst rfl) ?_
    refine wp_getI dX7_pressFor_19 fl_X7_95 rfl (st_k hst rfl) ?_
    refine wp_icmp_ge (tgt := 64) dX7_pressFor_22 (by decide) (fun zq22 => ?_) (fun zq22 => absurd (by rw [hk]; exact nI_le (Nat.le_refl _) (by omega)) zq22) 
    exact hq x9 x10 hx9 rfl
  | succ r ih =>
    intro a ha x9 x10 hx9 hq
    refine wp_iload dX7_pressFor_13 rfl ?_
    refine wp_aload_n (i := 0) dX7_pressFor_15 rfl rfl ?_
    refine wp_getR dX7_pressFor_16 fl_X7_12 rfl (st_k hst rfl) (st_r hst rfl) ?_
    refine wp_getI dX7_pressFor_19 fl_X7_95 rfl (st_k hst rfl) ?_
    refine wp_icmp_ge (tgt := 64) dX7_pressFor_22 (by decide) (fun zq22 => absurd (show I 5 0 ≤ nI a from zq22) (by rw [hk]; exact nI_ge (show a < k by omega) (by omega))) (fun zq22 => ?_) 
    refine wp_aload_n (i := 0) dX7_pressFor_25 rfl rfl ?_
    refine wp_aload_n (i := 1) dX7_pressFor_26 rfl rfl ?_
    refine wp_iload dX7_pressFor_27 rfl ?_
    refine wp_iload_n (i := 2) dX7_pressFor_29 rfl rfl ?_
    refine wp_iload_n (i := 3) dX7_pressFor_30 rfl rfl ?_
    refine wp_V4i dX7_pressFor_31 mw_561 mw_563 ms_19 mi_X7_weightOf (Nat.le_of_ble_eq_true rfl) (Nat.le_refl _) (Nat.le_refl _) (st_k hst rfl) (by decide) rfl (c_weightOf _ hst hk hk4 hj hta hra htp hru hW hC hL (show a < k by omega) hpx hpy ?_) 
    refine wp_istore_11_9 dX7_pressFor_34 (by first | rfl | assumption) ?_
    refine wp_iload dX7_pressFor_36 rfl ?_
    refine wp_iload dX7_pressFor_38 rfl ?_
    refine wp_iadd dX7_pressFor_40 ?_
    refine wp_topI (v2 := nI ((pAcc (wtN wv cv lay px py) a).2.2 + ((wtN wv cv lay px py) a))) (n_add rfl rfl) ?_
    refine wp_istore_11_7 dX7_pressFor_41 (by first | rfl | assumption) ?_
    refine wp_iload dX7_pressFor_43 rfl ?_
    refine wp_iload dX7_pressFor_45 rfl ?_
    have hb := pAcc_b (w := (wtN wv cv lay px py)) (M := 513000) a (fun z hz => wtN_b (hW z (by omega)).2 (fun e he => (hC e he).2))
    have hb2 : (wtN wv cv lay px py) a ≤ 513000 := wtN_b (hW a (by omega)).2 (fun e he => (hC e he).2)
    refine wp_icmp_le (tgt := 58) dX7_pressFor_47 (by decide) (fun zq47 => ?_) (fun zq47 => ?_) 
    · refine wp_iinc_11_8 (v := nI (a + 1)) dX7_pressFor_58 (n_add rfl rfl) ?_
      refine wp_goto (tgt := 13) dX7_pressFor_61 (by decide) ?_
      have e9 := pAcc_le (w := (wtN wv cv lay px py)) (k := a) (fun g => absurd zq47 (by rw [nI_leI (by omega) (by omega)]; omega))
      have ih2 := ih (a + 1) (by omega) (.int (nI ((wtN wv cv lay px py) a))) x10 rfl hq
      rw [e9] at ih2
      exact ih2
    · have e9 := pAcc_gt (w := (wtN wv cv lay px py)) (k := a) (by rw [nI_leI (by omega) (by omega)] at zq47; omega)
      refine wp_iload dX7_pressFor_50 rfl ?_
      refine wp_istore_11_6 dX7_pressFor_52 (by first | rfl | assumption) ?_
      refine wp_iload dX7_pressFor_54 rfl ?_
      refine wp_istore_11_5 dX7_pressFor_56 (by first | rfl | assumption) ?_
      refine wp_iinc_11_8 (v := nI (a + 1)) dX7_pressFor_58 (n_add rfl rfl) ?_
      refine wp_goto (tgt := 13) dX7_pressFor_61 (by decide) ?_
      have ih2 := ih (a + 1) (by omega) (.int (nI ((wtN wv cv lay px py) a))) x10 rfl hq
      rw [e9] at ih2
      exact ih2

theorem nI_m9 (a : Nat) (h : a < 1000) : ¬ nI a = -9 := fun g => by
  have e := congrArg Int32.toInt g
  rw [nI_toInt (by omega)] at e
  have e2 : (-9 : Int32).toInt = -9 := by decide
  omega

theorem c_pressFor (d : Nat) {n : Nat} {t : eT} {I : eI} {R : eR} {Q : Int32 → Nat → eT → eI → eR → Prop} (hst : ST n t R) {k : Nat} (hk : I 5 0 = nI k) (hk4 : k ≤ 10) {j : Nat} (hj : j < 4) {u : Nat} (hta : (t u).1 = 0) (hra : R u 1 = some (u + 1)) (htp : t (u + 1) = (9, 10)) (hru : R (54 + 10 * j) 1 = some u) {wv cv : Nat → Nat} (hW : ∀ a, a < k → I 7 a = nI (wv a) ∧ wv a ≤ 999) (hC : ∀ e, e < 3 → I (60 + 10 * j) e = nI (cv e) ∧ cv e ≤ 512) {lay : Nat → Option Nat} (hL : LayC I u lay) {px py : Nat} (hpx : px < 40) (hpy : py < 30) {w : Int32} {su c : Nat} (hsu : I 52 0 = nI su) (hsu2 : su ≤ 10) (hl : I (54 + 10 * j) 9 = nI c) (hc : c ≤ 12) (h0 : (∀ a, a < k → (wtN wv cv lay px py) a = 0) → Q (-9) n t I R) (h1 : ∀ a pl, a < k → lay a = some pl → errN pl px py < 3 → (pAcc (wtN wv cv lay px py) k).1 = nI a → (¬ 10 * (pAcc (wtN wv cv lay px py) k).2.1 < su * (pAcc (wtN wv cv lay px py) k).2.2 ∧ (¬ I 6 a = 2 ∨ (I (54 + 10 * j) 4 = nI a ∧ w - I (54 + 10 * j) 6 ≤ I 52 1))) → Q (nI a) n t (tkC I j c (errN pl px py)) R) (h2 : ∀ a pl, a < k → lay a = some pl → errN pl px py < 3 → (pAcc (wtN wv cv lay px py) k).1 = nI a → ¬ (¬ 10 * (pAcc (wtN wv cv lay px py) k).2.1 < su * (pAcc (wtN wv cv lay px py) k).2.2 ∧ (¬ I 6 a = 2 ∨ (I (54 + 10 * j) 4 = nI a ∧ w - I (54 + 10 * j) 6 ≤ I 52 1))) → Q (100 + nI a) n t (eU (eU (eU I (54 + 10 * j) 4 (nI a)) (54 + 10 * j) 5 (nI (errN pl px py))) (54 + 10 * j) 6 w) R) : MC yX7_pressFor cX7_pressFor 11 (some .int) (d + 3) 0 0 [.ref 4, .ref (54 + 10 * j), .int (nI px), .int (nI py), .int w] n t I R (qI Q) := by
  refine mc_intro (L0 := [.ref 4, .ref (54 + 10 * j), .int (nI px), .int (nI py), .int w, vU, vU, vU, vU, vU, vU]) (by decide) rfl (Nat.le_of_ble_eq_true rfl) ?_
  refine wp_bipush (v := (-9)) dX7_pressFor_0 (by decide) ?_
  refine wp_istore_11_5 dX7_pressFor_2 (by first | rfl | assumption) ?_
  refine wp_iconst (v := 0) dX7_pressFor_4 (by decide) ?_
  refine wp_istore_11_6 dX7_pressFor_5 (by first | rfl | assumption) ?_
  refine wp_iconst (v := 0) dX7_pressFor_7 (by decide) ?_
  refine wp_istore_11_7 dX7_pressFor_8 (by first | rfl | assumption) ?_
  refine wp_iconst (v := 0) dX7_pressFor_10 (by decide) ?_
  refine wp_istore_11_8 dX7_pressFor_11 (by first | rfl | assumption) ?_
  refine lp_pf _ hst hk hk4 hj hta hra htp hru hW hC hL hpx hpy k 0 (by omega) vU vU rfl (fun y9 y10 hy9 hy10 => ?_)
  have hb := pAcc_b (w := (wtN wv cv lay px py)) (M := 513000) k (fun z hz => wtN_b (hW z (by omega)).2 (fun e he => (hC e he).2))
  have hb3 : su * (pAcc (wtN wv cv lay px py) k).2.2 ≤ 10 * (513000 * k) := Nat.mul_le_mul hsu2 hb.2
  refine wp_iload dX7_pressFor_64 rfl ?_
  refine wp_bipush (v := (-9)) dX7_pressFor_66 (by decide) ?_
  rcases pAcc_s (w := (wtN wv cv lay px py)) k with ⟨ha1, -, ha3⟩ | ⟨a, hak, ha1, hapos⟩
  · rw [ha1]
    refine wp_icmp_ne (tgt := 74) dX7_pressFor_68 (by decide) (fun zq68 => absurd rfl zq68) (fun zq68 => ?_) 
    refine wp_bipush (v := (-9)) dX7_pressFor_71 (by decide) ?_
    exact wp_retI dX7_pressFor_73 rfl (Nat.le_refl _) (Nat.le_refl _) (h0 ha3)
  · obtain ⟨pl, hsome, he3⟩ := wtN_p hapos
    have hpl12 : pl < 12 := by
      rcases hL a (by omega) with ⟨q, -⟩ | ⟨p2, q1, q2, -, -⟩
      · rw [hsome] at q; cases q
      · rw [hsome] at q2; cases q2; exact q1
    rw [ha1]
    refine wp_icmp_ne (tgt := 74) dX7_pressFor_68 (by decide) (fun zq68 => ?_) (fun zq68 => absurd zq68 (nI_m9 a (by omega))) 
    refine wp_aload_n (i := 1) dX7_pressFor_74 rfl rfl ?_
    refine wp_getR dX7_pressFor_75 fl_X7_147 rfl (sp_k0 hst (by omega)) hru ?_
    refine wp_iload dX7_pressFor_78 rfl ?_
    refine wp_iload_n (i := 2) dX7_pressFor_80 rfl rfl ?_
    refine wp_iload_n (i := 3) dX7_pressFor_81 rfl rfl ?_
    refine wp_V3i dX7_pressFor_82 mw_565 mw_566 mw_567 mi_X0_errorOf (Nat.le_of_ble_eq_true rfl) (Nat.le_refl _) (Nat.le_refl _) hta (by decide) rfl (c_errorOf _ hta hra htp hL (show a < 10 by omega) hpx hpy (fun hn => absurd hn (by rw [hsome]; exact fun z => by cases z)) (fun p2 hp2 hs2 => ?_)) 
    · obtain rfl : p2 = pl := by rw [hsome] at hs2; exact (Option.some.inj hs2).symm
      refine wp_istore_11_8 dX7_pressFor_85 (by first | rfl | assumption) ?_
      refine wp_bipush (v := 10) dX7_pressFor_87 (by decide) ?_
      refine wp_iload dX7_pressFor_89 rfl ?_
      refine wp_imul dX7_pressFor_91 ?_
      refine wp_aload_n (i := 0) dX7_pressFor_92 rfl rfl ?_
      refine wp_getR dX7_pressFor_93 fl_X7_49 rfl (st_k hst rfl) (st_r hst rfl) ?_
      refine wp_iconst (v := 0) dX7_pressFor_96 (by decide) ?_
      refine wp_ild (j := 0) dX7_pressFor_97 (st_t hst rfl) rfl (by omega) ?_
      refine wp_iload dX7_pressFor_98 rfl ?_
      refine wp_imul dX7_pressFor_100 ?_
      refine wp_icmp_lt (tgt := 108) dX7_pressFor_101 (by decide) (fun zs => ?_) (fun zs => ?_) 
      · refine wp_iconst (v := 0) dX7_pressFor_108 (by decide) ?_
        refine wp_istore_11_9 dX7_pressFor_109 (by first | rfl | assumption) ?_
        refine wp_aload_n (i := 0) dX7_pressFor_111 rfl rfl ?_
        refine wp_getR dX7_pressFor_112 fl_X7_12 rfl (st_k hst rfl) (st_r hst rfl) ?_
        refine wp_getR dX7_pressFor_115 fl_X7_102 rfl (st_k hst rfl) (st_r hst rfl) ?_
        refine wp_iload dX7_pressFor_118 rfl ?_
        refine wp_ild (j := a) dX7_pressFor_120 (st_t hst rfl) rfl (by omega) ?_
        refine wp_iconst (v := 2) dX7_pressFor_121 (by decide) ?_
        refine wp_icmp_ne (tgt := 142) dX7_pressFor_122 (by decide) (fun zk => ?_) (fun zk => ?_) 
        · refine wp_iconst (v := 1) dX7_pressFor_142 (by decide) ?_
          refine wp_goto (tgt := 147) dX7_pressFor_143 (by decide) ?_
          refine wp_istore_11_10 dX7_pressFor_147 (by first | rfl | assumption) ?_
          refine wp_iload dX7_pressFor_149 rfl ?_
          refine wp_if_eq0 (tgt := 168) dX7_pressFor_151 (by decide) ?_
          refine wp_aload_n (i := 1) dX7_pressFor_168 rfl rfl ?_
          refine wp_iload dX7_pressFor_169 rfl ?_
          refine wp_iload dX7_pressFor_171 rfl ?_
          refine wp_iload dX7_pressFor_173 rfl ?_
          refine wp_V3v dX7_pressFor_175 mw_578 mw_579 mw_580 mi_X3_ask (Nat.le_of_ble_eq_true rfl) (Nat.le_refl _) (Nat.le_refl _) (sp_k0 hst (by omega)) (by decide) rfl (c_ask _ hst hj ?_) 
          refine wp_bipush (v := 100) dX7_pressFor_178 (by decide) ?_
          refine wp_iload dX7_pressFor_180 rfl ?_
          refine wp_iadd dX7_pressFor_182 ?_
          exact wp_retI dX7_pressFor_183 rfl (Nat.le_refl _) (Nat.le_refl _) (h2 a p2 hak hsome he3 ha1 (fun g => g.1 (by rw [hsu] at zs; have zs2 : nI 10 * nI (pAcc (wtN wv cv lay px py) k).2.1 < nI su * nI (pAcc (wtN wv cv lay px py) k).2.2 := zs; rw [pk_mul, pk_mul, nI_ltI (by omega) (by omega)] at zs2; exact zs2)))
        · refine wp_aload_n (i := 1) dX7_pressFor_125 rfl rfl ?_
          refine wp_iload dX7_pressFor_126 rfl ?_
          refine wp_iload dX7_pressFor_128 rfl ?_
          refine wp_aload_n (i := 0) dX7_pressFor_130 rfl rfl ?_
          refine wp_getR dX7_pressFor_131 fl_X7_49 rfl (st_k hst rfl) (st_r hst rfl) ?_
          refine wp_iconst (v := 1) dX7_pressFor_134 (by decide) ?_
          refine wp_ild (j := 1) dX7_pressFor_135 (st_t hst rfl) rfl (by omega) ?_
          refine wp_V3i dX7_pressFor_136 mw_569 mw_570 mw_571 mi_X3_isStillAsked (Nat.le_of_ble_eq_true rfl) (Nat.le_refl _) (Nat.le_refl _) (sp_k0 hst (by omega)) (by decide) rfl (c_still _ hst hj (fun g1 g2 => ?_) (fun g1 => ?_)) 
          · skip
            refine wp_if_eq1 (tgt := 146) dX7_pressFor_139 (by decide) ?_
            refine wp_iconst (v := 1) dX7_pressFor_142 (by decide) ?_
            refine wp_goto (tgt := 147) dX7_pressFor_143 (by decide) ?_
            refine wp_istore_11_10 dX7_pressFor_147 (by first | rfl | assumption) ?_
            refine wp_iload dX7_pressFor_149 rfl ?_
            refine wp_if_eq0 (tgt := 168) dX7_pressFor_151 (by decide) ?_
            refine wp_aload_n (i := 1) dX7_pressFor_168 rfl rfl ?_
            refine wp_iload dX7_pressFor_169 rfl ?_
            refine wp_iload dX7_pressFor_171 rfl ?_
            refine wp_iload dX7_pressFor_173 rfl ?_
            refine wp_V3v dX7_pressFor_175 mw_578 mw_579 mw_580 mi_X3_ask (Nat.le_of_ble_eq_true rfl) (Nat.le_refl _) (Nat.le_refl _) (sp_k0 hst (by omega)) (by decide) rfl (c_ask _ hst hj ?_) 
            refine wp_bipush (v := 100) dX7_pressFor_178 (by decide) ?_
            refine wp_iload dX7_pressFor_180 rfl ?_
            refine wp_iadd dX7_pressFor_182 ?_
            exact wp_retI dX7_pressFor_183 rfl (Nat.le_refl _) (Nat.le_refl _) (h2 a p2 hak hsome he3 ha1 (fun g => g.1 (by rw [hsu] at zs; have zs2 : nI 10 * nI (pAcc (wtN wv cv lay px py) k).2.1 < nI su * nI (pAcc (wtN wv cv lay px py) k).2.2 := zs; rw [pk_mul, pk_mul, nI_ltI (by omega) (by omega)] at zs2; exact zs2)))
          · skip
            refine wp_if_eq0 (tgt := 146) dX7_pressFor_139 (by decide) ?_
            refine wp_iconst (v := 0) dX7_pressFor_146 (by decide) ?_
            refine wp_istore_11_10 dX7_pressFor_147 (by first | rfl | assumption) ?_
            refine wp_iload dX7_pressFor_149 rfl ?_
            refine wp_if_eq0 (tgt := 168) dX7_pressFor_151 (by decide) ?_
            refine wp_aload_n (i := 1) dX7_pressFor_168 rfl rfl ?_
            refine wp_iload dX7_pressFor_169 rfl ?_
            refine wp_iload dX7_pressFor_171 rfl ?_
            refine wp_iload dX7_pressFor_173 rfl ?_
            refine wp_V3v dX7_pressFor_175 mw_578 mw_579 mw_580 mi_X3_ask (Nat.le_of_ble_eq_true rfl) (Nat.le_refl _) (Nat.le_refl _) (sp_k0 hst (by omega)) (by decide) rfl (c_ask _ hst hj ?_) 
            refine wp_bipush (v := 100) dX7_pressFor_178 (by decide) ?_
            refine wp_iload dX7_pressFor_180 rfl ?_
            refine wp_iadd dX7_pressFor_182 ?_
            exact wp_retI dX7_pressFor_183 rfl (Nat.le_refl _) (Nat.le_refl _) (h2 a p2 hak hsome he3 ha1 (fun g => g.1 (by rw [hsu] at zs; have zs2 : nI 10 * nI (pAcc (wtN wv cv lay px py) k).2.1 < nI su * nI (pAcc (wtN wv cv lay px py) k).2.2 := zs; rw [pk_mul, pk_mul, nI_ltI (by omega) (by omega)] at zs2; exact zs2)))
      · refine wp_iconst (v := 1) dX7_pressFor_104 (by decide) ?_
        refine wp_goto (tgt := 109) dX7_pressFor_105 (by decide) ?_
        refine wp_istore_11_9 dX7_pressFor_109 (by first | rfl | assumption) ?_
        refine wp_aload_n (i := 0) dX7_pressFor_111 rfl rfl ?_
        refine wp_getR dX7_pressFor_112 fl_X7_12 rfl (st_k hst rfl) (st_r hst rfl) ?_
        refine wp_getR dX7_pressFor_115 fl_X7_102 rfl (st_k hst rfl) (st_r hst rfl) ?_
        refine wp_iload dX7_pressFor_118 rfl ?_
        refine wp_ild (j := a) dX7_pressFor_120 (st_t hst rfl) rfl (by omega) ?_
        refine wp_iconst (v := 2) dX7_pressFor_121 (by decide) ?_
        refine wp_icmp_ne (tgt := 142) dX7_pressFor_122 (by decide) (fun zk => ?_) (fun zk => ?_) 
        · refine wp_iconst (v := 1) dX7_pressFor_142 (by decide) ?_
          refine wp_goto (tgt := 147) dX7_pressFor_143 (by decide) ?_
          refine wp_istore_11_10 dX7_pressFor_147 (by first | rfl | assumption) ?_
          refine wp_iload dX7_pressFor_149 rfl ?_
          refine wp_if_eq1 (tgt := 168) dX7_pressFor_151 (by decide) ?_
          refine wp_iload dX7_pressFor_154 rfl ?_
          refine wp_if_eq1 (tgt := 168) dX7_pressFor_156 (by decide) ?_
          refine wp_aload_n (i := 1) dX7_pressFor_159 rfl rfl ?_
          refine wp_iload dX7_pressFor_160 rfl ?_
          refine wp_V1v dX7_pressFor_162 mw_573 mw_574 mw_575 mi_X3_take (Nat.le_of_ble_eq_true rfl) (Nat.le_refl _) (Nat.le_refl _) (sp_k0 hst (by omega)) (by decide) rfl (c_takeT _ hst hj hl hc he3 ?_) 
          refine wp_iload dX7_pressFor_165 rfl ?_
          exact wp_retI dX7_pressFor_167 rfl (Nat.le_refl _) (Nat.le_refl _) (h1 a p2 hak hsome he3 ha1 ⟨(by intro g; exact zs (by rw [hsu]; show nI 10 * _ < _; rw [pk_mul, pk_mul, nI_ltI (by omega) (by omega)]; exact g)), Or.inl zk⟩)
        · refine wp_aload_n (i := 1) dX7_pressFor_125 rfl rfl ?_
          refine wp_iload dX7_pressFor_126 rfl ?_
          refine wp_iload dX7_pressFor_128 rfl ?_
          refine wp_aload_n (i := 0) dX7_pressFor_130 rfl rfl ?_
          refine wp_getR dX7_pressFor_131 fl_X7_49 rfl (st_k hst rfl) (st_r hst rfl) ?_
          refine wp_iconst (v := 1) dX7_pressFor_134 (by decide) ?_
          refine wp_ild (j := 1) dX7_pressFor_135 (st_t hst rfl) rfl (by omega) ?_
          refine wp_V3i dX7_pressFor_136 mw_569 mw_570 mw_571 mi_X3_isStillAsked (Nat.le_of_ble_eq_true rfl) (Nat.le_refl _) (Nat.le_refl _) (sp_k0 hst (by omega)) (by decide) rfl (c_still _ hst hj (fun g1 g2 => ?_) (fun g1 => ?_)) 
          · skip
            refine wp_if_eq1 (tgt := 146) dX7_pressFor_139 (by decide) ?_
            refine wp_iconst (v := 1) dX7_pressFor_142 (by decide) ?_
            refine wp_goto (tgt := 147) dX7_pressFor_143 (by decide) ?_
            refine wp_istore_11_10 dX7_pressFor_147 (by first | rfl | assumption) ?_
            refine wp_iload dX7_pressFor_149 rfl ?_
            refine wp_if_eq1 (tgt := 168) dX7_pressFor_151 (by decide) ?_
            refine wp_iload dX7_pressFor_154 rfl ?_
            refine wp_if_eq1 (tgt := 168) dX7_pressFor_156 (by decide) ?_
            refine wp_aload_n (i := 1) dX7_pressFor_159 rfl rfl ?_
            refine wp_iload dX7_pressFor_160 rfl ?_
            refine wp_V1v dX7_pressFor_162 mw_573 mw_574 mw_575 mi_X3_take (Nat.le_of_ble_eq_true rfl) (Nat.le_refl _) (Nat.le_refl _) (sp_k0 hst (by omega)) (by decide) rfl (c_takeT _ hst hj hl hc he3 ?_) 
            refine wp_iload dX7_pressFor_165 rfl ?_
            exact wp_retI dX7_pressFor_167 rfl (Nat.le_refl _) (Nat.le_refl _) (h1 a p2 hak hsome he3 ha1 ⟨(by intro g; exact zs (by rw [hsu]; show nI 10 * _ < _; rw [pk_mul, pk_mul, nI_ltI (by omega) (by omega)]; exact g)), Or.inr ⟨g1, g2⟩⟩)
          · skip
            refine wp_if_eq0 (tgt := 146) dX7_pressFor_139 (by decide) ?_
            refine wp_iconst (v := 0) dX7_pressFor_146 (by decide) ?_
            refine wp_istore_11_10 dX7_pressFor_147 (by first | rfl | assumption) ?_
            refine wp_iload dX7_pressFor_149 rfl ?_
            refine wp_if_eq1 (tgt := 168) dX7_pressFor_151 (by decide) ?_
            refine wp_iload dX7_pressFor_154 rfl ?_
            refine wp_if_eq0 (tgt := 168) dX7_pressFor_156 (by decide) ?_
            refine wp_aload_n (i := 1) dX7_pressFor_168 rfl rfl ?_
            refine wp_iload dX7_pressFor_169 rfl ?_
            refine wp_iload dX7_pressFor_171 rfl ?_
            refine wp_iload dX7_pressFor_173 rfl ?_
            refine wp_V3v dX7_pressFor_175 mw_578 mw_579 mw_580 mi_X3_ask (Nat.le_of_ble_eq_true rfl) (Nat.le_refl _) (Nat.le_refl _) (sp_k0 hst (by omega)) (by decide) rfl (c_ask _ hst hj ?_) 
            refine wp_bipush (v := 100) dX7_pressFor_178 (by decide) ?_
            refine wp_iload dX7_pressFor_180 rfl ?_
            refine wp_iadd dX7_pressFor_182 ?_
            exact wp_retI dX7_pressFor_183 rfl (Nat.le_refl _) (Nat.le_refl _) (h2 a p2 hak hsome he3 ha1 (fun g => g.2.elim (fun z => z zk) g1))

