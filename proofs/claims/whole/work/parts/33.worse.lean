theorem nI_mod {a b : Nat} (ha : a < 2 ^ 31) (hb : b < 2 ^ 31) (h0 : 0 < b) : nI a % nI b = nI (a % b) := by
  apply Int32.toInt_inj.mp
  rw [Int32.toInt_mod, nI_toInt ha, nI_toInt hb, nI_toInt (Nat.lt_of_le_of_lt (Nat.mod_le a b) ha)]
  rfl
theorem lN_div {a b : Nat} (ha : a < 2 ^ 31) (hb : b < 2 ^ 31) (h0 : 0 < b) : lN a / lN b = lN (a / b) := by
  apply Int64.toInt_inj.mp
  have h1 : a / b < 2 ^ 31 := Nat.lt_of_le_of_lt (Nat.div_le_self a b) ha
  rw [Int64.toInt_div, lN_toInt ha, lN_toInt hb, lN_toInt h1]
  show (((a / b : Nat) : Int)).bmod (2 ^ 64) = _
  generalize a / b = q at h1 ⊢
  exact Int.bmod_eq_of_le (by omega) (by omega)
theorem lN_rem {a b : Nat} (ha : a < 2 ^ 31) (hb : b < 2 ^ 31) (h0 : 0 < b) : lN a - lN a / lN b * lN b = lN (a % b) := by
  rw [lN_div ha hb h0, lN_mul, lN_sub (Nat.div_mul_le_self a b)]
  exact congrArg lN (by have := Nat.div_add_mod' a b; omega)
def gOk : Nat → Nat → Nat → Bool
  | 0, _, y => y == 0
  | f + 1, x, y => y == 0 || gOk f y (x % y)
theorem gOk_of : ∀ m x y, y < 2 ^ m → gOk (2 * m + 1) x y = true
  | 0, x, y, h => by
    have h0 : y = 0 := by
      have : (2 : Nat) ^ 0 = 1 := rfl
      omega
    subst h0
    rfl
  | m + 1, x, y, h => by
    have hp : (2 : Nat) ^ (m + 1) = 2 ^ m * 2 := Nat.pow_succ 2 m
    show (y == 0 || gOk (2 * m + 2) y (x % y)) = true
    by_cases h0 : y = 0
    · subst h0; rfl
    · have hr : x % y < y := Nat.mod_lt x (by omega)
      rw [Bool.or_eq_true]
      right
      show (x % y == 0 || gOk (2 * m + 1) (x % y) (y % (x % y))) = true
      by_cases h1 : x % y = 0
      · rw [h1]; rfl
      · rw [Bool.or_eq_true]
        right
        apply gOk_of
        have h2 : y % (x % y) < x % y := Nat.mod_lt y (by omega)
        have h3 : y % (x % y) = (y - x % y) % (x % y) := Nat.mod_eq_sub_mod (by omega)
        have h4 : (y - x % y) % (x % y) ≤ y - x % y := Nat.mod_le _ _
        omega
theorem gcd_step (x y : Nat) : Nat.gcd y (x % y) = Nat.gcd x y := by
  rw [Nat.gcd_comm y (x % y), ← Nat.gcd_rec, Nat.gcd_comm]
theorem gcd_big {x y : Nat} (hx : x ≤ 1024) (hy : y ≤ 1024) (h : 0 < y) : 0 < Nat.gcd x y ∧ Nat.gcd x y ≤ 1024 := ⟨Nat.gcd_pos_of_pos_right x h, Nat.le_trans (Nat.gcd_le_right x h) hy⟩
/-- counts of pairs -/
def cI (T : Nat → Nat → Nat) (b : Nat) : Nat → Nat
  | 0 => 0
  | k + 1 => cI T b k + T b k
def cO (T : Nat → Nat → Nat) : Nat → Nat
  | 0 => 0
  | b + 1 => cO T b + cI T b b
theorem cI_1 {T : Nat → Nat → Nat} {C b k : Nat} (h : T b k = 1) : C + cI T b k + 1 = C + cI T b (k + 1) := by
  show _ = C + (cI T b k + T b k)
  omega
theorem cI_0 {T : Nat → Nat → Nat} {C b k : Nat} (h : T b k = 0) : C + cI T b k + 0 = C + cI T b (k + 1) := by
  show _ = C + (cI T b k + T b k)
  omega
theorem cI_b {T : Nat → Nat → Nat} {b : Nat} (h : ∀ k, T b k ≤ 1) : ∀ k, cI T b k ≤ k
  | 0 => Nat.le_refl 0
  | k + 1 => by
    have := cI_b h k
    have := h k
    show cI T b k + T b k ≤ k + 1
    omega
theorem cO_b {T : Nat → Nat → Nat} (h : ∀ b k, T b k ≤ 1) : ∀ b, b ≤ 12 → cO T b ≤ 12 * b
  | 0, _ => Nat.le_refl 0
  | b + 1, hb => by
    have h1 := cO_b h b (by omega)
    have h2 := cI_b (h b) b
    show cO T b + cI T b b ≤ 12 * (b + 1)
    omega
theorem cI_congr {T U : Nat → Nat → Nat} {b : Nat} : ∀ k, (∀ i, i < k → T b i = U b i) → cI T b k = cI U b k
  | 0, _ => rfl
  | k + 1, h => by
    show cI T b k + T b k = cI U b k + U b k
    rw [cI_congr k (fun i hi => h i (by omega)), h k (by omega)]
theorem cO_congr {T U : Nat → Nat → Nat} : ∀ b, (∀ x, x < b → ∀ i, i < x → T x i = U x i) → cO T b = cO U b
  | 0, _ => rfl
  | b + 1, h => by
    show cO T b + cI T b b = cO U b + cI U b b
    rw [cO_congr b (fun x hx => h x (by omega)), cI_congr b (h b (by omega))]
theorem cI_add {T U V : Nat → Nat → Nat} {b : Nat} : ∀ k, (∀ i, i < k → V b i = T b i + U b i) → cI V b k = cI T b k + cI U b k
  | 0, _ => rfl
  | k + 1, h => by
    have h1 := cI_add (T := T) (U := U) (V := V) (b := b) k (fun i hi => h i (by omega))
    have h2 := h k (by omega)
    show cI V b k + V b k = cI T b k + T b k + (cI U b k + U b k)
    omega
theorem cO_add {T U V : Nat → Nat → Nat} : ∀ b, (∀ x, x < b → ∀ i, i < x → V x i = T x i + U x i) → cO V b = cO T b + cO U b
  | 0, _ => rfl
  | b + 1, h => by
    have h1 := cO_add (T := T) (U := U) (V := V) b (fun x hx => h x (by omega))
    have h2 := cI_add (T := T) (U := U) (V := V) (b := b) b (h b (by omega))
    show cO V b + cI V b b = cO T b + cI T b b + (cO U b + cI U b b)
    omega
def tP (I : eI) (j : Nat) (g : Int32) : Nat → Nat → Nat := fun b k => if cmpI (I (61 + 10 * j) b) (I (61 + 10 * j) k) = g then 1 else 0
def tA (I : eI) (j : Nat) : Nat → Nat → Nat := fun a b => if I 120 (12 * j + a) - I 120 (12 * j + b) = 0 then 0 else 1
def tW (I : eI) (j : Nat) : Nat → Nat → Nat := fun a b => if 0 < I 120 (12 * j + a) - I 120 (12 * j + b) then 1 else 0
theorem tP_1 (I : eI) (j : Nat) (g : Int32) (b k : Nat) : tP I j g b k ≤ 1 := by unfold tP; split <;> omega
theorem tA_1 (I : eI) (j : Nat) (b k : Nat) : tA I j b k ≤ 1 := by unfold tA; split <;> omega
theorem tW_1 (I : eI) (j : Nat) (b k : Nat) : tW I j b k ≤ 1 := by unfold tW; split <;> omega
theorem max_1 {q : Nat} (h : 0 < q ∧ q ≤ 1024) : maxI 1 (nI q) = nI q := by
  unfold maxI
  rcases Nat.lt_or_ge 1 q with g | g
  · rw [if_pos (by rw [show (1 : Int32) = nI 1 from rfl]; exact nI_lt g (by omega))]
  · obtain rfl : q = 1 := by omega
    rfl
def shr (w : Int32) (u v : Nat) : Nat := (if w = 0 then u else v) / Nat.gcd u v
theorem lp_gd (d : Nat) {n : Nat} {t : eT} {I : eI} {R : eR} {Q : Int32 → Nat → eT → eI → eR → Prop} {a b : Int32} : ∀ (f x y c : Nat) (x5 : Value), gOk f x y = true → c + f ≤ 100 → x < 2 ^ 31 → y < 2 ^ 31 → sec x5 = false → Q (nI (Nat.gcd x y)) n t I R → wp yX7_greatestDivisor cX7_greatestDivisor 6 (some .int) d 0 0 (qI Q) 0 0 7 [.int a, .int b, .int (nI x), .int (nI y), .int (nI c), x5] [] n t I R := by
  intro f
  induction f with
  | zero =>
    intro x y c x5 hg hc hx hy hx5 hq
    have hy0 : y = 0 := by simpa [gOk] using hg
    subst hy0
    refine wp_iload dX7_greatestDivisor_7 rfl ?_
    refine wp_bipush (v := 100) dX7_greatestDivisor_9 (by decide) ?_
    refine wp_icmp_ge (tgt := 34) dX7_greatestDivisor_11 (by decide) (fun zq11 => ?_) (fun zq11 => ?_) 
    · refine wp_iload_n (i := 2) dX7_greatestDivisor_34 rfl rfl ?_
      exact wp_retI dX7_greatestDivisor_35 rfl (Nat.le_refl _) (Nat.le_refl _) (by rw [Nat.gcd_zero_right] at hq; exact hq)
    · refine wp_iload_n (i := 3) dX7_greatestDivisor_14 rfl rfl ?_
      refine wp_if_eq (tgt := 34) dX7_greatestDivisor_15 (by decide) (fun zq15 => ?_) (fun zq15 => absurd rfl zq15) 
      refine wp_iload_n (i := 2) dX7_greatestDivisor_34 rfl rfl ?_
      exact wp_retI dX7_greatestDivisor_35 rfl (Nat.le_refl _) (Nat.le_refl _) (by rw [Nat.gcd_zero_right] at hq; exact hq)
  | succ f ih =>
    intro x y c x5 hg hc hx hy hx5 hq
    have hg : y = 0 ∨ gOk f y (x % y) = true := by
      have h2 : (y == 0 || gOk f y (x % y)) = true := hg
      rw [Bool.or_eq_true, beq_iff_eq] at h2
      exact h2
    refine wp_iload dX7_greatestDivisor_7 rfl ?_
    refine wp_bipush (v := 100) dX7_greatestDivisor_9 (by decide) ?_
    refine wp_icmp_ge (tgt := 34) dX7_greatestDivisor_11 (by decide) (fun zq11 => absurd zq11 (nI_ge (show c < 100 by omega) (by decide))) (fun zq11 => ?_) 
    refine wp_iload_n (i := 3) dX7_greatestDivisor_14 rfl rfl ?_
    refine wp_if_eq (tgt := 34) dX7_greatestDivisor_15 (by decide) (fun zq15 => ?_) (fun zq15 => ?_) 
    · refine wp_iload_n (i := 2) dX7_greatestDivisor_34 rfl rfl ?_
      have hy0 : y = 0 := (nI_eq (by omega) (by decide)).mp zq15
      subst hy0
      exact wp_retI dX7_greatestDivisor_35 rfl (Nat.le_refl _) (Nat.le_refl _) (by rw [Nat.gcd_zero_right] at hq; exact hq)
    · have hy0 : y ≠ 0 := fun g => zq15 (by rw [g]; rfl)
      refine wp_iload_n (i := 2) dX7_greatestDivisor_18 rfl rfl ?_
      refine wp_iload_n (i := 3) dX7_greatestDivisor_19 rfl rfl ?_
      refine wp_irem dX7_greatestDivisor_20 zq15 ?_
      refine wp_topI (v2 := nI (x % y)) (nI_mod hx hy (by omega)) ?_
      refine wp_istore_6_5 dX7_greatestDivisor_21 (by first | rfl | assumption) ?_
      refine wp_iload_n (i := 3) dX7_greatestDivisor_23 rfl rfl ?_
      refine wp_istore_6_2 dX7_greatestDivisor_24 (by first | rfl | assumption) ?_
      refine wp_iload dX7_greatestDivisor_25 rfl ?_
      refine wp_istore_6_3 dX7_greatestDivisor_27 (by first | rfl | assumption) ?_
      refine wp_iinc_6_4 (v := nI (c + 1)) dX7_greatestDivisor_28 (n_add rfl rfl) ?_
      refine wp_goto (tgt := 7) dX7_greatestDivisor_31 (by decide) ?_
      exact ih y (x % y) (c + 1) _ (by rcases hg with g | g; exact absurd g hy0; exact g) (by omega) hy (Nat.lt_of_le_of_lt (Nat.mod_le x y) hx) rfl (by rw [gcd_step]; exact hq)

theorem c_gcd (d : Nat) {n : Nat} {t : eT} {I : eI} {R : eR} {Q : Int32 → Nat → eT → eI → eR → Prop} {u v : Nat} (hu : u ≤ 1024) (hv : v ≤ 1024) (hq : Q (nI (Nat.gcd u v)) n t I R) : MC yX7_greatestDivisor cX7_greatestDivisor 6 (some .int) d 0 0 [.int (nI u), .int (nI v)] n t I R (qI Q) := by
  refine mc_intro (L0 := [.int (nI u), .int (nI v), vU, vU, vU, vU]) (by decide) rfl (Nat.le_of_ble_eq_true rfl) ?_
  refine wp_iload_n (i := 0) dX7_greatestDivisor_0 rfl rfl ?_
  refine wp_istore_6_2 dX7_greatestDivisor_1 rfl ?_
  refine wp_iload_n (i := 1) dX7_greatestDivisor_2 rfl rfl ?_
  refine wp_istore_6_3 dX7_greatestDivisor_3 rfl ?_
  refine wp_iconst (v := 0) dX7_greatestDivisor_4 (by decide) ?_
  refine wp_istore_6_4 dX7_greatestDivisor_5 rfl ?_
  exact lp_gd d 23 u v 0 vU (gOk_of 11 u v (by omega)) (by decide) (by omega) (by omega) rfl hq

theorem c_share (d : Nat) {n : Nat} {t : eT} {I : eI} {R : eR} {Q : Int32 → Nat → eT → eI → eR → Prop} {u v : Nat} {w : Int32} (hu : u ≤ 1024) (hv : v ≤ 1024) (hp : 0 < v) (hq : Q (nI (shr w u v)) n t I R) : MC yX7_shareNumber cX7_shareNumber 4 (some .int) (d + 1) 0 0 [.int (nI u), .int (nI v), .int w] n t I R (qI Q) := by
  refine mc_intro (L0 := [.int (nI u), .int (nI v), .int w, vU]) (by decide) rfl (Nat.le_of_ble_eq_true rfl) ?_
  refine wp_iconst (v := 1) dX7_shareNumber_0 (by decide) ?_
  refine wp_iload_n (i := 0) dX7_shareNumber_1 rfl rfl ?_
  refine wp_iload_n (i := 1) dX7_shareNumber_2 rfl rfl ?_
  refine wp_S2i dX7_shareNumber_3 mw_625 mw_626 mi_X7_greatestDivisor (Nat.le_of_ble_eq_true rfl) (Nat.le_refl _) (Nat.le_refl _) (c_gcd _ hu hv ?_) 
  refine wp_mmax dX7_shareNumber_6 mw_542 (Nat.le_of_ble_eq_true rfl) (Nat.le_refl _) (Nat.le_refl _) ?_
  refine wp_topI (v2 := nI (Nat.gcd u v)) (max_1 (gcd_big hu hv hp)) ?_
  refine wp_istore_4_3 dX7_shareNumber_9 rfl ?_
  refine wp_iload_n (i := 2) dX7_shareNumber_10 rfl rfl ?_
  refine wp_if_ne (tgt := 18) dX7_shareNumber_11 (by decide) (fun zq11 => ?_) (fun zq11 => ?_) 
  · refine wp_iload_n (i := 1) dX7_shareNumber_18 rfl rfl ?_
    refine wp_iload_n (i := 3) dX7_shareNumber_19 rfl rfl ?_
    refine wp_idiv dX7_shareNumber_20 (nI_ne0 (gcd_big hu hv hp).1 (by have := (gcd_big hu hv hp).2; omega)) ?_
    exact wp_retI dX7_shareNumber_21 rfl (Nat.le_refl _) (Nat.le_refl _) (by rw [pk_div (by omega) (gcd_big hu hv hp).1 (by have := (gcd_big hu hv hp).2; omega)]; unfold shr at hq; rw [if_neg zq11] at hq; exact hq)
  · refine wp_iload_n (i := 0) dX7_shareNumber_14 rfl rfl ?_
    refine wp_goto (tgt := 19) dX7_shareNumber_15 (by decide) ?_
    refine wp_iload_n (i := 3) dX7_shareNumber_19 rfl rfl ?_
    refine wp_idiv dX7_shareNumber_20 (nI_ne0 (gcd_big hu hv hp).1 (by have := (gcd_big hu hv hp).2; omega)) ?_
    exact wp_retI dX7_shareNumber_21 rfl (Nat.le_refl _) (Nat.le_refl _) (by rw [pk_div (by omega) (gcd_big hu hv hp).1 (by have := (gcd_big hu hv hp).2; omega)]; unfold shr at hq; rw [if_pos zq11] at hq; exact hq)

theorem lp_sh (d : Nat) {n : Nat} {t : eT} {I : eI} {R : eR} {Q : eQt} {u v : Int64} {w : Int32} : ∀ (f x y : Nat) (x9 x10 : Value), gOk f x y = true → x < 2 ^ 31 → y < 2 ^ 31 → sec x9 = false → (∀ y7 y9 y10 : Value, wp yX8_share cX8_share 11 (some .long) d 0 0 Q 0 0 31 [.long u, vM, .long v, vM, .int w, .long (lN (Nat.gcd x y)), vM, y7, vM, y9, y10] [] n t I R) → wp yX8_share cX8_share 11 (some .long) d 0 0 Q 0 0 6 [.long u, vM, .long v, vM, .int w, .long (lN x), vM, .long (lN y), vM, x9, x10] [] n t I R := by
  intro f
  induction f with
  | zero =>
    intro x y x9 x10 hg hx hy hx9 hq
    have hy0 : y = 0 := by simpa [gOk] using hg
    subst hy0
    refine wp_lload dX8_share_6 rfl ?_
    refine wp_lconst (v := 0) dX8_share_8 (by decide) ?_
    refine wp_lcmp dX8_share_9 ?_
    refine wp_if_eq (tgt := 31) dX8_share_10 (by decide) (fun zq10 => ?_) (fun zq10 => absurd ((lg_cmp_eq _ _).mpr rfl) zq10) 
    rw [Nat.gcd_zero_right] at hq
    exact hq _ _ _
  | succ f ih =>
    intro x y x9 x10 hg hx hy hx9 hq
    have hg : y = 0 ∨ gOk f y (x % y) = true := by
      have h2 : (y == 0 || gOk f y (x % y)) = true := hg
      rw [Bool.or_eq_true, beq_iff_eq] at h2
      exact h2
    refine wp_lload dX8_share_6 rfl ?_
    refine wp_lconst (v := 0) dX8_share_8 (by decide) ?_
    refine wp_lcmp dX8_share_9 ?_
    refine wp_if_eq (tgt := 31) dX8_share_10 (by decide) (fun zq10 => ?_) (fun zq10 => ?_) 
    · have hy0 : y = 0 := (lN_eq hy (by decide)).mp ((lg_cmp_eq _ _).mp zq10)
      subst hy0
      rw [Nat.gcd_zero_right] at hq
      exact hq _ _ _
    · have hy0 : y ≠ 0 := fun g => zq10 ((lg_cmp_eq _ _).mpr (by rw [g]; rfl))
      refine wp_lload dX8_share_13 rfl ?_
      refine wp_lload dX8_share_15 rfl ?_
      refine wp_lrem dX8_share_17 (fun g => hy0 ((lN_eq hy (by decide)).mp g)) ?_
      refine wp_topL (v2 := lN (x % y)) (lN_rem hx hy (by omega)) ?_
      refine wp_lstore_11_9 dX8_share_18 (by first | rfl | assumption) ?_
      refine wp_lload dX8_share_20 rfl ?_
      refine wp_lstore_11_5 dX8_share_22 (by first | rfl | assumption) ?_
      refine wp_lload dX8_share_24 rfl ?_
      refine wp_lstore_11_7 dX8_share_26 (by first | rfl | assumption) ?_
      refine wp_goto (tgt := 6) dX8_share_28 (by decide) ?_
      exact ih y (x % y) _ _ (by rcases hg with g | g; exact absurd g hy0; exact g) hy (Nat.lt_of_le_of_lt (Nat.mod_le x y) hx) rfl (by rw [gcd_step]; exact hq)

theorem c_shareM (d : Nat) {n : Nat} {t : eT} {I : eI} {R : eR} {Q : Int64 → Nat → eT → eI → eR → Prop} {u v : Nat} {w : Int32} (hu : u ≤ 1024) (hv : v ≤ 1024) (hp : 0 < v) (hq : Q (lN (shr w u v)) n t I R) : MC yX8_share cX8_share 11 (some .long) d 0 0 [.long (lN u), .long (lN v), .int w] n t I R (qL Q) := by
  refine mc_intro (L0 := [.long (lN u), vM, .long (lN v), vM, .int w, vU, vU, vU, vU, vU, vU]) (by decide) rfl (Nat.le_of_ble_eq_true rfl) ?_
  refine wp_lload_n (i := 0) dX8_share_0 rfl rfl ?_
  refine wp_lstore_11_5 dX8_share_1 rfl ?_
  refine wp_lload_n (i := 2) dX8_share_3 rfl rfl ?_
  refine wp_lstore_11_7 dX8_share_4 rfl ?_
  refine lp_sh d 23 u v vU vU (gOk_of 11 u v (by omega)) (by omega) (by omega) rfl (fun y7 y9 y10 => ?_)
  refine wp_iload dX8_share_31 rfl ?_
  refine wp_if_ne (tgt := 40) dX8_share_33 (by decide) (fun zq33 => ?_) (fun zq33 => ?_) 
  · refine wp_lload_n (i := 2) dX8_share_40 rfl rfl ?_
    refine wp_lload dX8_share_41 rfl ?_
    refine wp_ldiv dX8_share_43 (fun g => absurd ((lN_eq (b := 0) (by have := (gcd_big hu hv hp).2; omega) (by decide)).mp g) (by have := (gcd_big hu hv hp).1; omega)) ?_
    exact wp_retL dX8_share_44 rfl (Nat.le_refl _) (Nat.le_refl _) (by rw [(lN_div (by omega) (by have := (gcd_big hu hv hp).2; omega) (gcd_big hu hv hp).1)]; unfold shr at hq; rw [if_neg zq33] at hq; exact hq)
  · refine wp_lload_n (i := 0) dX8_share_36 rfl rfl ?_
    refine wp_goto (tgt := 41) dX8_share_37 (by decide) ?_
    refine wp_lload dX8_share_41 rfl ?_
    refine wp_ldiv dX8_share_43 (fun g => absurd ((lN_eq (b := 0) (by have := (gcd_big hu hv hp).2; omega) (by decide)).mp g) (by have := (gcd_big hu hv hp).1; omega)) ?_
    exact wp_retL dX8_share_44 rfl (Nat.le_refl _) (Nat.le_refl _) (by rw [(lN_div (by omega) (by have := (gcd_big hu hv hp).2; omega) (gcd_big hu hv hp).1)]; unfold shr at hq; rw [if_pos zq33] at hq; exact hq)

theorem lp_pg1 (d : Nat) {n : Nat} {t : eT} {I : eI} {R : eR} {Q : eQt} (hst : ST n t R) {j lc : Nat} (hj : j < 4) (hl : I (54 + 10 * j) 9 = nI lc) (hc : lc ≤ 12) {g : Int32} {b : Nat} (hb : b < lc) : ∀ (r k : Nat), k + r = b → wp yX3_pairsThatGo cX3_pairsThatGo 5 (some .int) (d + 1) 0 0 Q 0 0 50 [.ref (54 + 10 * j), .int g, .int (nI (cO (tP I j g) b + cI (tP I j g) b b)), .int (nI b), .int (nI b)] [] n t I R → wp yX3_pairsThatGo cX3_pairsThatGo 5 (some .int) (d + 1) 0 0 Q 0 0 15 [.ref (54 + 10 * j), .int g, .int (nI (cO (tP I j g) b + cI (tP I j g) b k)), .int (nI b), .int (nI k)] [] n t I R := by
  intro r
  induction r with
  | zero =>
    intro k hk hq
    obtain rfl : k = b := by omega
    refine wp_iload dX3_pairsThatGo_15 rfl ?_
    refine wp_iload_n (i := 3) dX3_pairsThatGo_17 rfl rfl ?_
    refine wp_icmp_ge (tgt := 50) dX3_pairsThatGo_18 (by decide) (fun zq18 => ?_) (fun zq18 => absurd (nI_le (Nat.le_refl _) (by omega)) zq18) 
    exact hq
  | succ r ih =>
    intro k hk hq
    refine wp_iload dX3_pairsThatGo_15 rfl ?_
    refine wp_iload_n (i := 3) dX3_pairsThatGo_17 rfl rfl ?_
    refine wp_icmp_ge (tgt := 50) dX3_pairsThatGo_18 (by decide) (fun zq18 => absurd zq18 (nI_ge (show k < b by omega) (by omega))) (fun zq18 => ?_) 
    refine wp_aload_n (i := 0) dX3_pairsThatGo_21 rfl rfl ?_
    refine wp_getR dX3_pairsThatGo_22 fl_X3_41 rfl (sp_k0 hst (by omega)) (sp_r8 hst (by omega)) ?_
    refine wp_iload_n (i := 3) dX3_pairsThatGo_25 rfl rfl ?_
    refine wp_ild (j := b) dX3_pairsThatGo_26 (sp_t7 hst (by omega)) rfl (by omega) ?_
    refine wp_aload_n (i := 0) dX3_pairsThatGo_27 rfl rfl ?_
    refine wp_getR dX3_pairsThatGo_28 fl_X3_41 rfl (sp_k0 hst (by omega)) (sp_r8 hst (by omega)) ?_
    refine wp_iload dX3_pairsThatGo_31 rfl ?_
    refine wp_ild (j := k) dX3_pairsThatGo_33 (sp_t7 hst (by omega)) rfl (by omega) ?_
    refine wp_S2i dX3_pairsThatGo_34 mw_619 mw_620 mi_J6_compare_7cf53 (Nat.le_of_ble_eq_true rfl) (Nat.le_refl _) (Nat.le_refl _) (c_compare _ ?_) 
    refine wp_iload_n (i := 1) dX3_pairsThatGo_37 rfl rfl ?_
    refine wp_icmp_ne (tgt := 44) dX3_pairsThatGo_38 (by decide) (fun zq38 => ?_) (fun zq38 => ?_) 
    · refine wp_iinc_5_4 (v := nI (k + 1)) dX3_pairsThatGo_44 (n_add rfl rfl) ?_
      refine wp_goto (tgt := 15) dX3_pairsThatGo_47 (by decide) ?_
      have e9 : (cO (tP I j g) b + cI (tP I j g) b k) = (cO (tP I j g) b + cI (tP I j g) b (k + 1)) := cI_0 (T := (tP I j g)) (show tP I j g b k = 0 from if_neg zq38)
      rw [e9]
      exact ih (k + 1) (by omega) hq
    · refine wp_iinc_5_2 (v := nI (cO (tP I j g) b + cI (tP I j g) b (k + 1))) dX3_pairsThatGo_41 (Eq.trans (nI_add _ 1) (congrArg nI (cI_1 (T := (tP I j g)) (show tP I j g b k = 1 from if_pos zq38)))) ?_
      refine wp_iinc_5_4 (v := nI (k + 1)) dX3_pairsThatGo_44 (n_add rfl rfl) ?_
      refine wp_goto (tgt := 15) dX3_pairsThatGo_47 (by decide) ?_
      exact ih (k + 1) (by omega) hq

theorem lp_pg2 (d : Nat) {n : Nat} {t : eT} {I : eI} {R : eR} {Q : eQt} (hst : ST n t R) {j lc : Nat} (hj : j < 4) (hl : I (54 + 10 * j) 9 = nI lc) (hc : lc ≤ 12) {g : Int32} : ∀ (r b : Nat), b + r = lc → ∀ (x4 : Value), sec x4 = false → (∀ x5 : Value, wp yX3_pairsThatGo cX3_pairsThatGo 5 (some .int) (d + 1) 0 0 Q 0 0 56 [.ref (54 + 10 * j), .int g, .int (nI (cO (tP I j g) lc)), .int (nI lc), x5] [] n t I R) → wp yX3_pairsThatGo cX3_pairsThatGo 5 (some .int) (d + 1) 0 0 Q 0 0 4 [.ref (54 + 10 * j), .int g, .int (nI (cO (tP I j g) b)), .int (nI b), x4] [] n t I R := by
  intro r
  induction r with
  | zero =>
    intro b hb x4 hx hq
    obtain rfl : b = lc := by omega
    refine wp_iload_n (i := 3) dX3_pairsThatGo_4 rfl rfl ?_
    refine wp_aload_n (i := 0) dX3_pairsThatGo_5 rfl rfl ?_
    refine wp_getI dX3_pairsThatGo_6 fl_X3_44 rfl (sp_k0 hst (by omega)) ?_
    refine wp_icmp_ge (tgt := 56) dX3_pairsThatGo_9 (by decide) (fun zq9 => ?_) (fun zq9 => absurd (by rw [hl]; exact nI_le (Nat.le_refl _) (by omega)) zq9) 
    exact hq x4
  | succ r ih =>
    intro b hb x4 hx hq
    refine wp_iload_n (i := 3) dX3_pairsThatGo_4 rfl rfl ?_
    refine wp_aload_n (i := 0) dX3_pairsThatGo_5 rfl rfl ?_
    refine wp_getI dX3_pairsThatGo_6 fl_X3_44 rfl (sp_k0 hst (by omega)) ?_
    refine wp_icmp_ge (tgt := 56) dX3_pairsThatGo_9 (by decide) (fun zq9 => absurd (show I (54 + 10 * j) 9 ≤ nI b from zq9) (by rw [hl]; exact nI_ge (show b < lc by omega) (by omega))) (fun zq9 => ?_) 
    refine wp_iconst (v := 0) dX3_pairsThatGo_12 (by decide) ?_
    refine wp_istore_5_4 dX3_pairsThatGo_13 hx ?_
    refine lp_pg1 d hst hj hl hc (show b < lc by omega) b 0 (by omega) ?_
    refine wp_iinc_5_3 (v := nI (b + 1)) dX3_pairsThatGo_50 (n_add rfl rfl) ?_
    refine wp_goto (tgt := 4) dX3_pairsThatGo_53 (by decide) ?_
    exact ih (b + 1) (by omega) _ rfl hq

theorem c_pairs (d : Nat) {n : Nat} {t : eT} {I : eI} {R : eR} {Q : Int32 → Nat → eT → eI → eR → Prop} (hst : ST n t R) {j lc : Nat} (hj : j < 4) (hl : I (54 + 10 * j) 9 = nI lc) (hc : lc ≤ 12) {g : Int32} (hq : Q (nI (cO (tP I j g) lc)) n t I R) : MC yX3_pairsThatGo cX3_pairsThatGo 5 (some .int) (d + 1) 0 0 [.ref (54 + 10 * j), .int g] n t I R (qI Q) := by
  refine mc_intro (L0 := [.ref (54 + 10 * j), .int g, vU, vU, vU]) (by decide) rfl (Nat.le_of_ble_eq_true rfl) ?_
  refine wp_iconst (v := 0) dX3_pairsThatGo_0 (by decide) ?_
  refine wp_istore_5_2 dX3_pairsThatGo_1 rfl ?_
  refine wp_iconst (v := 0) dX3_pairsThatGo_2 (by decide) ?_
  refine wp_istore_5_3 dX3_pairsThatGo_3 rfl ?_
  refine lp_pg2 d hst hj hl hc lc 0 (by omega) vU rfl (fun x5 => ?_)
  refine wp_iload_n (i := 2) dX3_pairsThatGo_56 rfl rfl ?_
  exact wp_retI dX3_pairsThatGo_57 rfl (Nat.le_refl _) (Nat.le_refl _) hq

theorem shr_b (w : Int32) {u v : Nat} (hu : u ≤ 1024) (hv : v ≤ 1024) : shr w u v ≤ 1024 := by
  unfold shr
  refine Nat.le_trans (Nat.div_le_self _ _) ?_
  split <;> assumption

theorem c_worse (d : Nat) {n : Nat} {t : eT} {I : eI} {R : eR} {Q : Int64 → Nat → eT → eI → eR → Prop} (hst : ST n t R) {m : Nat} (hm : I 4 3 = nI m) (hm4 : m ≤ 4) {j : Nat} (hjm : j < m) {lc : Nat} (hl : I (54 + 10 * j) 9 = nI lc) (hc : lc ≤ 12) {w : Int32} (h2 : ¬ (0 ≤ w.toInt ∧ w.toInt ≤ 1) → Q (-9223372036854775808) n t I R) (h3 : (0 ≤ w.toInt ∧ w.toInt ≤ 1) → cO (tP I j 1) lc + cO (tP I j (-1)) lc = 0 → Q (-9223372036854775808) n t I R) (h4 : (0 ≤ w.toInt ∧ w.toInt ≤ 1) → 0 < cO (tP I j 1) lc + cO (tP I j (-1)) lc → Q (lN (shr w (cO (tP I j 1) lc) (cO (tP I j 1) lc + cO (tP I j (-1)) lc))) n t I R) : MC yX7_worse cX7_worse 5 (some .long) (d + 3) 0 0 [.ref 4, .int (nI j), .int w] n t I R (qL Q) := by
  refine mc_intro (L0 := [.ref 4, .int (nI j), .int w, vU, vU]) (by decide) rfl (Nat.le_of_ble_eq_true rfl) ?_
  refine wp_aload_n (i := 0) dX7_worse_0 rfl rfl ?_
  refine wp_iload_n (i := 1) dX7_worse_1 rfl rfl ?_
  refine wp_V1i dX7_worse_2 mw_375 mw_377 ms_7 mi_X7_isPerson (Nat.le_of_ble_eq_true rfl) (Nat.le_refl _) (Nat.le_refl _) (st_k hst rfl) (by decide) rfl (c_isPerson _ hst (by exact hm) hm4 (fun _ _ _ => ?_) (fun no => absurd rfl (no j hjm))) 
  · skip
    refine wp_if_eq1 (tgt := 17) dX7_worse_5 (by decide) ?_
    refine wp_iload_n (i := 2) dX7_worse_8 rfl rfl ?_
    refine wp_iconst (v := 0) dX7_worse_9 (by decide) ?_
    refine wp_iconst (v := 1) dX7_worse_10 (by decide) ?_
    refine wp_S3i dX7_worse_11 mw_267 mw_268 mi_X7_isWithin (Nat.le_of_ble_eq_true rfl) (Nat.le_refl _) (Nat.le_refl _) (c_isWithin _ (a := 0) (b := 1) rfl rfl (fun ga11 gb11 => ?_) (fun gn11 => ?_)) 
    · skip
      refine wp_if_ne1 (tgt := 21) dX7_worse_14 (by decide) ?_
      refine wp_aload_n (i := 0) dX7_worse_21 rfl rfl ?_
      refine wp_getR dX7_worse_22 fl_X7_27 rfl (st_k hst rfl) (st_r hst rfl) ?_
      refine wp_iload_n (i := 1) dX7_worse_25 rfl rfl ?_
      refine wp_rld11 (j := j) dX7_worse_26 (st_t hst rfl) rfl (by omega) (sp_34 hst (by omega)) ?_
      refine wp_iconst (v := 1) dX7_worse_27 (by decide) ?_
      refine wp_V1i dX7_worse_28 mw_615 mw_616 mw_617 mi_X3_pairsThatGo (Nat.le_of_ble_eq_true rfl) (Nat.le_refl _) (Nat.le_refl _) (sp_k0 hst (by omega)) (by decide) rfl (c_pairs _ hst (show j < 4 by omega) hl hc ?_) 
      refine wp_istore_5_3 dX7_worse_31 rfl ?_
      refine wp_aload_n (i := 0) dX7_worse_32 rfl rfl ?_
      refine wp_getR dX7_worse_33 fl_X7_27 rfl (st_k hst rfl) (st_r hst rfl) ?_
      refine wp_iload_n (i := 1) dX7_worse_36 rfl rfl ?_
      refine wp_rld11 (j := j) dX7_worse_37 (st_t hst rfl) rfl (by omega) (sp_34 hst (by omega)) ?_
      refine wp_iconst (v := (-1)) dX7_worse_38 (by decide) ?_
      refine wp_V1i dX7_worse_39 mw_615 mw_616 mw_617 mi_X3_pairsThatGo (Nat.le_of_ble_eq_true rfl) (Nat.le_refl _) (Nat.le_refl _) (sp_k0 hst (by omega)) (by decide) rfl (c_pairs _ hst (show j < 4 by omega) hl hc ?_) 
      refine wp_istore_5_4 dX7_worse_42 rfl ?_
      refine wp_iload_n (i := 3) dX7_worse_44 rfl rfl ?_
      refine wp_iload dX7_worse_45 rfl ?_
      refine wp_iadd dX7_worse_47 ?_
      refine wp_topI (v2 := nI ((cO (tP I j 1) lc) + (cO (tP I j (-1)) lc))) (n_add rfl rfl) ?_
      have hb1 := cO_b (T := tP I j 1) (tP_1 I j _) lc hc
      have hb2 := cO_b (T := tP I j (-1)) (tP_1 I j _) lc hc
      refine wp_if_ne (tgt := 55) dX7_worse_48 (by decide) (fun zq48 => ?_) (fun zq48 => ?_) 
      · refine wp_iload_n (i := 3) dX7_worse_55 rfl rfl ?_
        refine wp_iload_n (i := 3) dX7_worse_56 rfl rfl ?_
        refine wp_iload dX7_worse_57 rfl ?_
        refine wp_iadd dX7_worse_59 ?_
        refine wp_topI (v2 := nI ((cO (tP I j 1) lc) + (cO (tP I j (-1)) lc))) (n_add rfl rfl) ?_
        refine wp_iload_n (i := 2) dX7_worse_60 rfl rfl ?_
        refine wp_S3i dX7_worse_61 mw_622 mw_623 mi_X7_shareNumber (Nat.le_of_ble_eq_true rfl) (Nat.le_refl _) (Nat.le_refl _) (c_share _ (by omega) (by omega) (Nat.pos_of_ne_zero (fun g => zq48 (by rw [g]; rfl))) ?_) 
        refine wp_i2l dX7_worse_64 ?_
        exact wp_retL dX7_worse_65 rfl (Nat.le_refl _) (Nat.le_refl _) (by have h5 := h4 ⟨ga11, gb11⟩ (Nat.pos_of_ne_zero (fun g => zq48 (by rw [g]; rfl))); rw [nI_l (Nat.lt_of_le_of_lt (shr_b w (by omega) (by omega)) (by decide : 1024 < 2 ^ 31))]; exact h5)
      · refine wp_ldc2 (v := (-9223372036854775808)) dX7_worse_51 mw_614 ?_
        exact wp_retL dX7_worse_54 rfl (Nat.le_refl _) (Nat.le_refl _) (h3 ⟨ga11, gb11⟩ ((nI_eq (by omega) (by decide)).mp zq48))
    · skip
      refine wp_if_ne0 (tgt := 21) dX7_worse_14 (by decide) ?_
      refine wp_ldc2 (v := (-9223372036854775808)) dX7_worse_17 mw_614 ?_
      exact wp_retL dX7_worse_20 rfl (Nat.le_refl _) (Nat.le_refl _) (h2 gn11)

theorem lp_wm1 (d : Nat) {n : Nat} {t : eT} {I : eI} {R : eR} {Q : eQt} (hst : ST n t R) {j lc : Nat} (hj : j < 4) (hl : I 119 j = nI lc) (hc : lc ≤ 12) {w : Int32} {a : Nat} (ha : a < lc) : ∀ (r b : Nat) (x9 : Value), b + r = a → sec x9 = false → (∀ y9 : Value, sec y9 = false → wp yX8_worse cX8_worse 10 (some .long) (d + 2) 0 0 Q 0 0 112 [.ref 94, .int (nI j), .int w, .long (lN (cO (tW I j) a + cI (tW I j) a a)), vM, .long (lN (cO (tA I j) a + cI (tA I j) a a)), vM, .int (nI a), .int (nI a), y9] [] n t I R) → wp yX8_worse cX8_worse 10 (some .long) (d + 2) 0 0 Q 0 0 44 [.ref 94, .int (nI j), .int w, .long (lN (cO (tW I j) a + cI (tW I j) a b)), vM, .long (lN (cO (tA I j) a + cI (tA I j) a b)), vM, .int (nI a), .int (nI b), x9] [] n t I R := by
  intro r
  induction r with
  | zero =>
    intro b x9 hb hx9 hq
    obtain rfl : b = a := by omega
    refine wp_iload dX8_worse_44 rfl ?_
    refine wp_iload dX8_worse_46 rfl ?_
    refine wp_icmp_ge (tgt := 112) dX8_worse_48 (by decide) (fun zq48 => ?_) (fun zq48 => absurd (nI_le (Nat.le_refl _) (by omega)) zq48) 
    exact hq _ hx9
  | succ r ih =>
    intro b x9 hb hx9 hq
    refine wp_iload dX8_worse_44 rfl ?_
    refine wp_iload dX8_worse_46 rfl ?_
    refine wp_icmp_ge (tgt := 112) dX8_worse_48 (by decide) (fun zq48 => absurd zq48 (nI_ge (show b < a by omega) (by omega))) (fun zq48 => ?_) 
    refine wp_aload_n (i := 0) dX8_worse_51 rfl rfl ?_
    refine wp_getR dX8_worse_52 fl_X8_86 rfl (st_k hst rfl) (st_r hst rfl) ?_
    refine wp_bipush (v := 12) dX8_worse_55 (by decide) ?_
    refine wp_iload_n (i := 1) dX8_worse_57 rfl rfl ?_
    refine wp_imul dX8_worse_58 ?_
    refine wp_iload dX8_worse_59 rfl ?_
    refine wp_iadd dX8_worse_61 ?_
    refine wp_ild (j := ((12 * j) + a)) dX8_worse_62 (st_t hst rfl) (n_add (n_mul rfl rfl) rfl) (by omega) ?_
    refine wp_aload_n (i := 0) dX8_worse_63 rfl rfl ?_
    refine wp_getR dX8_worse_64 fl_X8_86 rfl (st_k hst rfl) (st_r hst rfl) ?_
    refine wp_bipush (v := 12) dX8_worse_67 (by decide) ?_
    refine wp_iload_n (i := 1) dX8_worse_69 rfl rfl ?_
    refine wp_imul dX8_worse_70 ?_
    refine wp_iload dX8_worse_71 rfl ?_
    refine wp_iadd dX8_worse_73 ?_
    refine wp_ild (j := ((12 * j) + b)) dX8_worse_74 (st_t hst rfl) (n_add (n_mul rfl rfl) rfl) (by omega) ?_
    refine wp_isub dX8_worse_75 ?_
    refine wp_istore_10_9 dX8_worse_76 (by first | rfl | assumption) ?_
    refine wp_lload dX8_worse_78 rfl ?_
    refine wp_iload dX8_worse_80 rfl ?_
    refine wp_if_eq (tgt := 89) dX8_worse_82 (by decide) (fun zq82 => ?_) (fun zq82 => ?_) 
    · refine wp_lconst (v := 0) dX8_worse_89 (by decide) ?_
      refine wp_ladd dX8_worse_90 ?_
      refine wp_topL (v2 := lN (cO (tA I j) a + cI (tA I j) a (b + 1))) (Eq.trans (l_add rfl rfl) (congrArg lN (cI_0 (T := tA I j) (show tA I j a b = 0 from if_pos zq82)))) ?_
      refine wp_lstore_10_5 dX8_worse_91 (by first | rfl | assumption) ?_
      refine wp_lload_n (i := 3) dX8_worse_93 rfl rfl ?_
      refine wp_iload dX8_worse_94 rfl ?_
      refine wp_if_le (tgt := 103) dX8_worse_96 (by decide) (fun zq96 => ?_) (fun zq96 => ?_) 
      · refine wp_lconst (v := 0) dX8_worse_103 (by decide) ?_
        refine wp_ladd dX8_worse_104 ?_
        refine wp_topL (v2 := lN (cO (tW I j) a + cI (tW I j) a (b + 1))) (Eq.trans (l_add rfl rfl) (congrArg lN (cI_0 (T := tW I j) (show tW I j a b = 0 from if_neg (Int32.not_lt.mpr zq96))))) ?_
        refine wp_lstore_10_3 dX8_worse_105 (by first | rfl | assumption) ?_
        refine wp_iinc_10_8 (v := nI (b + 1)) dX8_worse_106 (n_add rfl rfl) ?_
        refine wp_goto (tgt := 44) dX8_worse_109 (by decide) ?_
        exact ih (b + 1) _ (by omega) rfl hq
      · refine wp_lconst (v := 1) dX8_worse_99 (by decide) ?_
        refine wp_goto (tgt := 104) dX8_worse_100 (by decide) ?_
        refine wp_ladd dX8_worse_104 ?_
        refine wp_topL (v2 := lN (cO (tW I j) a + cI (tW I j) a (b + 1))) (Eq.trans (l_add rfl rfl) (congrArg lN (cI_1 (T := tW I j) (show tW I j a b = 1 from if_pos (Int32.not_le.mp zq96))))) ?_
        refine wp_lstore_10_3 dX8_worse_105 (by first | rfl | assumption) ?_
        refine wp_iinc_10_8 (v := nI (b + 1)) dX8_worse_106 (n_add rfl rfl) ?_
        refine wp_goto (tgt := 44) dX8_worse_109 (by decide) ?_
        exact ih (b + 1) _ (by omega) rfl hq
    · refine wp_lconst (v := 1) dX8_worse_85 (by decide) ?_
      refine wp_goto (tgt := 90) dX8_worse_86 (by decide) ?_
      refine wp_ladd dX8_worse_90 ?_
      refine wp_topL (v2 := lN (cO (tA I j) a + cI (tA I j) a (b + 1))) (Eq.trans (l_add rfl rfl) (congrArg lN (cI_1 (T := tA I j) (show tA I j a b = 1 from if_neg zq82)))) ?_
      refine wp_lstore_10_5 dX8_worse_91 (by first | rfl | assumption) ?_
      refine wp_lload_n (i := 3) dX8_worse_93 rfl rfl ?_
      refine wp_iload dX8_worse_94 rfl ?_
      refine wp_if_le (tgt := 103) dX8_worse_96 (by decide) (fun zq96 => ?_) (fun zq96 => ?_) 
      · refine wp_lconst (v := 0) dX8_worse_103 (by decide) ?_
        refine wp_ladd dX8_worse_104 ?_
        refine wp_topL (v2 := lN (cO (tW I j) a + cI (tW I j) a (b + 1))) (Eq.trans (l_add rfl rfl) (congrArg lN (cI_0 (T := tW I j) (show tW I j a b = 0 from if_neg (Int32.not_lt.mpr zq96))))) ?_
        refine wp_lstore_10_3 dX8_worse_105 (by first | rfl | assumption) ?_
        refine wp_iinc_10_8 (v := nI (b + 1)) dX8_worse_106 (n_add rfl rfl) ?_
        refine wp_goto (tgt := 44) dX8_worse_109 (by decide) ?_
        exact ih (b + 1) _ (by omega) rfl hq
      · refine wp_lconst (v := 1) dX8_worse_99 (by decide) ?_
        refine wp_goto (tgt := 104) dX8_worse_100 (by decide) ?_
        refine wp_ladd dX8_worse_104 ?_
        refine wp_topL (v2 := lN (cO (tW I j) a + cI (tW I j) a (b + 1))) (Eq.trans (l_add rfl rfl) (congrArg lN (cI_1 (T := tW I j) (show tW I j a b = 1 from if_pos (Int32.not_le.mp zq96))))) ?_
        refine wp_lstore_10_3 dX8_worse_105 (by first | rfl | assumption) ?_
        refine wp_iinc_10_8 (v := nI (b + 1)) dX8_worse_106 (n_add rfl rfl) ?_
        refine wp_goto (tgt := 44) dX8_worse_109 (by decide) ?_
        exact ih (b + 1) _ (by omega) rfl hq

theorem lp_wm2 (d : Nat) {n : Nat} {t : eT} {I : eI} {R : eR} {Q : eQt} (hst : ST n t R) {j lc : Nat} (hj : j < 4) (hl : I 119 j = nI lc) (hc : lc ≤ 12) {w : Int32} : ∀ (r a : Nat), a + r = lc → ∀ (x8 x9 : Value), sec x8 = false → sec x9 = false → (∀ y8 y9 : Value, wp yX8_worse cX8_worse 10 (some .long) (d + 2) 0 0 Q 0 0 118 [.ref 94, .int (nI j), .int w, .long (lN (cO (tW I j) lc)), vM, .long (lN (cO (tA I j) lc)), vM, .int (nI lc), y8, y9] [] n t I R) → wp yX8_worse cX8_worse 10 (some .long) (d + 2) 0 0 Q 0 0 30 [.ref 94, .int (nI j), .int w, .long (lN (cO (tW I j) a)), vM, .long (lN (cO (tA I j) a)), vM, .int (nI a), x8, x9] [] n t I R := by
  intro r
  induction r with
  | zero =>
    intro a ha x8 x9 hx8 hx9 hq
    obtain rfl : a = lc := by omega
    refine wp_iload dX8_worse_30 rfl ?_
    refine wp_aload_n (i := 0) dX8_worse_32 rfl rfl ?_
    refine wp_getR dX8_worse_33 fl_X8_83 rfl (st_k hst rfl) (st_r hst rfl) ?_
    refine wp_iload_n (i := 1) dX8_worse_36 rfl rfl ?_
    refine wp_ild (j := j) dX8_worse_37 (st_t hst rfl) rfl (by omega) ?_
    refine wp_icmp_ge (tgt := 118) dX8_worse_38 (by decide) (fun zq38 => ?_) (fun zq38 => absurd (by rw [hl]; exact nI_le (Nat.le_refl _) (by omega)) zq38) 
    exact hq _ _
  | succ r ih =>
    intro a ha x8 x9 hx8 hx9 hq
    refine wp_iload dX8_worse_30 rfl ?_
    refine wp_aload_n (i := 0) dX8_worse_32 rfl rfl ?_
    refine wp_getR dX8_worse_33 fl_X8_83 rfl (st_k hst rfl) (st_r hst rfl) ?_
    refine wp_iload_n (i := 1) dX8_worse_36 rfl rfl ?_
    refine wp_ild (j := j) dX8_worse_37 (st_t hst rfl) rfl (by omega) ?_
    refine wp_icmp_ge (tgt := 118) dX8_worse_38 (by decide) (fun zq38 => absurd (show I 119 j ≤ nI a from zq38) (by rw [hl]; exact nI_ge (show a < lc by omega) (by omega))) (fun zq38 => ?_) 
    refine wp_iconst (v := 0) dX8_worse_41 (by decide) ?_
    refine wp_istore_10_8 dX8_worse_42 hx8 ?_
    refine lp_wm1 d hst hj hl hc (show a < lc by omega) a 0 _ (by omega) hx9 (fun y9 hy9 => ?_)
    refine wp_iinc_10_7 (v := nI (a + 1)) dX8_worse_112 (n_add rfl rfl) ?_
    refine wp_goto (tgt := 30) dX8_worse_115 (by decide) ?_
    exact ih (a + 1) (by omega) _ _ rfl hy9 hq

theorem c_worseM (d : Nat) {n : Nat} {t : eT} {I : eI} {R : eR} {Q : Int64 → Nat → eT → eI → eR → Prop} (hst : ST n t R) {m : Nat} (hmM : I 94 9 = nI m) (hm4 : m ≤ 4) {j : Nat} (hjm : j < m) {lc : Nat} (hl : I 119 j = nI lc) (hc : lc ≤ 12) {w : Int32} (h2 : ¬ (0 ≤ w.toInt ∧ w.toInt ≤ 1) → Q (-9223372036854775808) n t I R) (h3 : (0 ≤ w.toInt ∧ w.toInt ≤ 1) → cO (tA I j) lc = 0 → Q (-9223372036854775808) n t I R) (h4 : (0 ≤ w.toInt ∧ w.toInt ≤ 1) → 0 < cO (tA I j) lc → Q (lN (shr w (cO (tW I j) lc) (cO (tA I j) lc))) n t I R) : MC yX8_worse cX8_worse 10 (some .long) (d + 2) 0 0 [.ref 94, .int (nI j), .int w] n t I R (qL Q) := by
  refine mc_intro (L0 := [.ref 94, .int (nI j), .int w, vU, vU, vU, vU, vU, vU, vU]) (by decide) rfl (Nat.le_of_ble_eq_true rfl) ?_
  refine wp_aload_n (i := 0) dX8_worse_0 rfl rfl ?_
  refine wp_iload_n (i := 1) dX8_worse_1 rfl rfl ?_
  refine wp_V1i dX8_worse_2 mw_942 mw_944 ms_32 mi_X8_noPerson (Nat.le_of_ble_eq_true rfl) (Nat.le_refl _) (Nat.le_refl _) (st_k hst rfl) (by decide) rfl (c_noPerson _ hst (by exact hmM) hm4 (fun _ _ _ => ?_) (fun no => absurd rfl (no j hjm))) 
  · skip
    refine wp_if_ne0 (tgt := 18) dX8_worse_5 (by decide) ?_
    refine wp_iload_n (i := 2) dX8_worse_8 rfl rfl ?_
    refine wp_i2l dX8_worse_9 ?_
    refine wp_lconst (v := 0) dX8_worse_10 (by decide) ?_
    refine wp_lconst (v := 1) dX8_worse_11 (by decide) ?_
    refine wp_S3i dX8_worse_12 mw_887 mw_888 mi_X8_in (Nat.le_of_ble_eq_true rfl) (Nat.le_refl _) (Nat.le_refl _) (c_in _ (a := 0) (b := 1) rfl rfl (fun ga12 gb12 => ?_) (fun gn12 => ?_)) 
    · skip
      refine wp_if_ne1 (tgt := 22) dX8_worse_15 (by decide) ?_
      refine wp_lconst (v := 0) dX8_worse_22 (by decide) ?_
      refine wp_lstore_10_3 dX8_worse_23 rfl ?_
      refine wp_lconst (v := 0) dX8_worse_24 (by decide) ?_
      refine wp_lstore_10_5 dX8_worse_25 rfl ?_
      refine wp_iconst (v := 0) dX8_worse_27 (by decide) ?_
      refine wp_istore_10_7 dX8_worse_28 rfl ?_
      refine lp_wm2 _ hst (show j < 4 by omega) hl hc lc 0 (by omega) vU vU rfl rfl (fun y8 y9 => ?_)
      have hb1 := cO_b (tW_1 I j) lc hc
      have hb2 := cO_b (tA_1 I j) lc hc
      refine wp_lload dX8_worse_118 rfl ?_
      refine wp_lconst (v := 0) dX8_worse_120 (by decide) ?_
      refine wp_lcmp dX8_worse_121 ?_
      refine wp_if_ne (tgt := 131) dX8_worse_122 (by decide) (fun zq122 => ?_) (fun zq122 => ?_) 
      · refine wp_lload_n (i := 3) dX8_worse_131 rfl rfl ?_
        refine wp_lload dX8_worse_132 rfl ?_
        refine wp_iload_n (i := 2) dX8_worse_134 rfl rfl ?_
        refine wp_S3l dX8_worse_135 mw_1111 mw_1112 mi_X8_share (Nat.le_of_ble_eq_true rfl) (Nat.le_refl _) (Nat.le_refl _) (c_shareM _ (by omega) (by omega) (Nat.pos_of_ne_zero (fun g => zq122 ((lg_cmp_eq _ _).mpr (by rw [g]; rfl)))) ?_) 
        exact wp_retL dX8_worse_138 rfl (Nat.le_refl _) (Nat.le_refl _) (h4 ⟨ga12, gb12⟩ (Nat.pos_of_ne_zero (fun g => zq122 ((lg_cmp_eq _ _).mpr (by rw [g]; rfl)))))
      · refine wp_S0l dX8_worse_125 mw_1107 mw_1108 mi_X8_lost (Nat.le_of_ble_eq_true rfl) (Nat.le_refl _) (Nat.le_refl _) (c_lost _ ?_) 
        refine wp_goto (tgt := 138) dX8_worse_128 (by decide) ?_
        exact wp_retL dX8_worse_138 rfl (Nat.le_refl _) (Nat.le_refl _) (h3 ⟨ga12, gb12⟩ ((lN_eq (by omega) (by decide)).mp ((lg_cmp_eq _ _).mp zq122)))
    · skip
      refine wp_if_ne0 (tgt := 22) dX8_worse_15 (by decide) ?_
      refine wp_S0l dX8_worse_18 mw_1107 mw_1108 mi_X8_lost (Nat.le_of_ble_eq_true rfl) (Nat.le_refl _) (Nat.le_refl _) (c_lost _ ?_) 
      exact wp_retL dX8_worse_21 rfl (Nat.le_refl _) (Nat.le_refl _) (h2 gn12)

