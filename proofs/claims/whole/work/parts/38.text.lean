theorem lp_become (d : Nat) {n : Nat} {t : eT} {R : eR} {Q : Nat → eT → eI → eR → Prop} (hst : ST n t R) : ∀ (r k : Nat) (I : eI), k + r = 10 → (∀ I2 : eI, (∀ a, k ≤ a → a < 10 → ∀ b, b < 10 → I2 (9 + a) b = I (24 + a) b) → (∀ z, (z < 9 + k ∨ 19 ≤ z) → I2 z = I z) → Q n t I2 R) → wp yX2_become cX2_become 3 none (d + 1) 0 0 (qV Q) 0 0 40 [.ref 5, .ref 20, .int (nI k)] [] n t I R := by
  intro r
  induction r with
  | zero =>
    intro k I hk hq
    obtain rfl : k = 10 := by omega
    refine wp_iload_n (i := 2) dX2_become_40 rfl rfl ?_
    refine wp_bipush (v := 10) dX2_become_41 (by decide) ?_
    refine wp_icmp_ge (tgt := 71) dX2_become_43 (by decide) (fun zq43 => ?_) (fun zq43 => absurd (nI_le (show 10 ≤ 10 by decide) (by decide)) zq43) 
    exact wp_retV dX2_become_71 rfl (Nat.le_refl _) (Nat.le_refl _) (hq I (fun a h1 h2 => by omega) (fun _ _ => rfl))
  | succ r ih =>
    intro k I hk hq
    refine wp_iload_n (i := 2) dX2_become_40 rfl rfl ?_
    refine wp_bipush (v := 10) dX2_become_41 (by decide) ?_
    refine wp_icmp_ge (tgt := 71) dX2_become_43 (by decide) (fun zq43 => absurd zq43 (nI_ge (show k < 10 by omega) (by decide))) (fun zq43 => ?_) 
    refine wp_aload_n (i := 1) dX2_become_46 rfl rfl ?_
    refine wp_getR dX2_become_47 fl_X2_24 rfl (st_k hst rfl) (st_r hst rfl) ?_
    refine wp_iload_n (i := 2) dX2_become_50 rfl rfl ?_
    refine wp_rld13 (j := k) dX2_become_51 (st_t hst rfl) rfl (by omega) (sg_r hst (by omega)) ?_
    refine wp_iconst (v := 0) dX2_become_52 (by decide) ?_
    refine wp_aload_n (i := 0) dX2_become_53 rfl rfl ?_
    refine wp_getR dX2_become_54 fl_X2_24 rfl (st_k hst rfl) (st_r hst rfl) ?_
    refine wp_iload_n (i := 2) dX2_become_57 rfl rfl ?_
    refine wp_rld13 (j := k) dX2_become_58 (st_t hst rfl) rfl (by omega) (sf_r hst (by omega)) ?_
    refine wp_iconst (v := 0) dX2_become_59 (by decide) ?_
    refine wp_bipush (v := 10) dX2_become_60 (by decide) ?_
    refine wp_copy dX2_become_62 mw_336 (by rw [sg_t hst (show k < 10 by omega)]) (by rw [sf_t hst (show k < 10 by omega)]) (by decide) (by decide) (by decide) (by rw [sg_t hst (show k < 10 by omega)]; decide) (by rw [sf_t hst (show k < 10 by omega)]; decide) (Nat.le_of_ble_eq_true rfl) ?_
    rw [show (0 : Int32).toNatClampNeg = 0 by decide, show (10 : Int32).toNatClampNeg = 10 by decide]
    refine wp_iinc_3_2 (v := nI (k + 1)) dX2_become_65 (n_add rfl rfl) ?_
    refine wp_goto (tgt := 40) dX2_become_68 (by decide) ?_
    refine ih (k + 1) _ (by omega) (fun I2 h1 h2 => hq I2 (fun a ha1 ha2 b hb => ?_) (fun z hz => (h2 z (by omega)).trans (eG_ne (by omega))))
    by_cases e : a = k
    · subst e
      rw [h2 (9 + a) (Or.inl (by omega)), eG_eq, pk_cpy_in (by omega) (by omega)]
      exact congrArg _ (by omega)
    · rw [h1 a (by omega) ha2 b hb, eG_ne (by omega)]

theorem c_become (d : Nat) {n : Nat} {t : eT} {I : eI} {R : eR} {Q : Nat → eT → eI → eR → Prop} (hst : ST n t R) (hq : ∀ I2 : eI, I2 5 0 = I 20 0 → (∀ x, x < 10 → I2 6 x = I 21 x ∧ I2 7 x = I 22 x) → (∀ a, a < 10 → ∀ b, b < 10 → I2 (9 + a) b = I (24 + a) b) → (∀ z, (z < 5 ∨ 19 ≤ z) → I2 z = I z) → Q n t I2 R) : MC yX2_become cX2_become 3 none (d + 1) 0 0 [.ref 5, .ref 20] n t I R (qV Q) := by
  refine mc_intro (L0 := [.ref 5, .ref 20, vU]) (by decide) rfl (Nat.le_of_ble_eq_true rfl) ?_
  refine wp_aload_n (i := 0) dX2_become_0 rfl rfl ?_
  refine wp_aload_n (i := 1) dX2_become_1 rfl rfl ?_
  refine wp_getI dX2_become_2 fl_X2_9 rfl (st_k hst rfl) ?_
  refine wp_putI dX2_become_5 fl_X2_9 rfl (Or.inl rfl) (st_k hst rfl) ?_
  refine wp_aload_n (i := 1) dX2_become_8 rfl rfl ?_
  refine wp_getR dX2_become_9 fl_X2_15 rfl (st_k hst rfl) (st_r hst rfl) ?_
  refine wp_iconst (v := 0) dX2_become_12 (by decide) ?_
  refine wp_aload_n (i := 0) dX2_become_13 rfl rfl ?_
  refine wp_getR dX2_become_14 fl_X2_15 rfl (st_k hst rfl) (st_r hst rfl) ?_
  refine wp_iconst (v := 0) dX2_become_17 (by decide) ?_
  refine wp_bipush (v := 10) dX2_become_18 (by decide) ?_
  refine wp_copy dX2_become_20 mw_336 (by rw [st_t hst (show T0 21 = some (9, 10) from rfl)]) (by rw [st_t hst (show T0 6 = some (9, 10) from rfl)]) (by decide) (by decide) (by decide) (by rw [st_t hst (show T0 21 = some (9, 10) from rfl)]; decide) (by rw [st_t hst (show T0 6 = some (9, 10) from rfl)]; decide) (Nat.le_of_ble_eq_true rfl) ?_
  rw [show (0 : Int32).toNatClampNeg = 0 by decide, show (10 : Int32).toNatClampNeg = 10 by decide]
  refine wp_aload_n (i := 1) dX2_become_23 rfl rfl ?_
  refine wp_getR dX2_become_24 fl_X2_19 rfl (st_k hst rfl) (st_r hst rfl) ?_
  refine wp_iconst (v := 0) dX2_become_27 (by decide) ?_
  refine wp_aload_n (i := 0) dX2_become_28 rfl rfl ?_
  refine wp_getR dX2_become_29 fl_X2_19 rfl (st_k hst rfl) (st_r hst rfl) ?_
  refine wp_iconst (v := 0) dX2_become_32 (by decide) ?_
  refine wp_bipush (v := 10) dX2_become_33 (by decide) ?_
  refine wp_copy dX2_become_35 mw_336 (by rw [st_t hst (show T0 22 = some (9, 10) from rfl)]) (by rw [st_t hst (show T0 7 = some (9, 10) from rfl)]) (by decide) (by decide) (by decide) (by rw [st_t hst (show T0 22 = some (9, 10) from rfl)]; decide) (by rw [st_t hst (show T0 7 = some (9, 10) from rfl)]; decide) (Nat.le_of_ble_eq_true rfl) ?_
  rw [show (0 : Int32).toNatClampNeg = 0 by decide, show (10 : Int32).toNatClampNeg = 10 by decide]
  refine wp_iconst (v := 0) dX2_become_38 (by decide) ?_
  refine wp_istore_3_2 dX2_become_39 rfl ?_
  refine lp_become d hst 10 0 _ rfl (fun I2 h1 h2 => hq I2 ?_ (fun x hx => ⟨?_, ?_⟩) (fun a ha b hb => ?_) (fun z hz => ?_))
  · rw [h2 5 (by decide)]; rfl
  · rw [h2 6 (by decide), eG_ne (show (6 : Nat) ≠ 7 by decide), eG_eq, pk_cpy_in (by omega) (by omega)]
    exact congrArg _ (by omega)
  · rw [h2 7 (by decide), eG_eq, pk_cpy_in (by omega) (by omega)]
    exact congrArg _ (by omega)
  · rw [h1 a (by omega) ha b hb, eG_ne (by omega), eG_ne (by omega), eU_o (by omega)]
  · rw [h2 z (by omega), eG_ne (by omega), eG_ne (by omega), eU_ne (by omega)]

theorem c_lclear (d : Nat) {n : Nat} {t : eT} {I : eI} {R : eR} {Q : Nat → eT → eI → eR → Prop} {a : Nat} (hta : (t a).1 = 0) (hq : Q n t (eU I a 0 0) R) : MC yX0_clear cX0_clear 1 none d 0 0 [.ref a] n t I R (qV Q) := by
  refine mc_intro (L0 := [.ref a]) (by decide) rfl (Nat.le_of_ble_eq_true rfl) ?_
  refine wp_aload_n (i := 0) dX0_clear_0 rfl rfl ?_
  refine wp_iconst (v := 0) dX0_clear_1 (by decide) ?_
  refine wp_putI dX0_clear_2 fl_X0_9 rfl (Or.inl rfl) hta ?_
  exact wp_retV dX0_clear_5 rfl (Nat.le_refl _) (Nat.le_refl _) hq

theorem c_forget (d : Nat) {n : Nat} {t : eT} {I : eI} {R : eR} {Q : Nat → eT → eI → eR → Prop} (hst : ST n t R) {j u v : Nat} (hj : j < 4) (hu : R (54 + 10 * j) 1 = some u) (hv : R (54 + 10 * j) 2 = some v) (htu : (t u).1 = 0) (htv : (t v).1 = 0) (hq : Q n t (eU (eU (eU I u 0 0) v 0 0) (54 + 10 * j) 4 (-9)) R) : MC yX3_forgetLayings cX3_forgetLayings 1 none (d + 1) 0 0 [.ref (54 + 10 * j)] n t I R (qV Q) := by
  refine mc_intro (L0 := [.ref (54 + 10 * j)]) (by decide) rfl (Nat.le_of_ble_eq_true rfl) ?_
  refine wp_aload_n (i := 0) dX3_forgetLayings_0 rfl rfl ?_
  refine wp_getR dX3_forgetLayings_1 fl_X3_18 rfl (sp_k0 hst (by omega)) hu ?_
  refine wp_V0v dX3_forgetLayings_4 mw_343 mw_344 mw_345 mi_X0_clear (Nat.le_of_ble_eq_true rfl) (Nat.le_refl _) (Nat.le_refl _) htu (by decide) rfl (c_lclear _ htu ?_) 
  refine wp_aload_n (i := 0) dX3_forgetLayings_7 rfl rfl ?_
  refine wp_getR dX3_forgetLayings_8 fl_X3_22 rfl (sp_k0 hst (by omega)) hv ?_
  refine wp_V0v dX3_forgetLayings_11 mw_343 mw_344 mw_345 mi_X0_clear (Nat.le_of_ble_eq_true rfl) (Nat.le_refl _) (Nat.le_refl _) htv (by decide) rfl (c_lclear _ htv ?_) 
  refine wp_aload_n (i := 0) dX3_forgetLayings_14 rfl rfl ?_
  refine wp_bipush (v := (-9)) dX3_forgetLayings_15 (by decide) ?_
  refine wp_putI dX3_forgetLayings_17 fl_X3_29 rfl (Or.inl rfl) (sp_k0 hst (by omega)) ?_
  exact wp_retV dX3_forgetLayings_20 rfl (Nat.le_refl _) (Nat.le_refl _) hq

/-- the two layings of each person stand at their places, in either order -/
def LY (R : eR) : Prop := ∀ p, p < 4 → (R (54 + 10 * p) 1 = some (56 + 10 * p) ∧ R (54 + 10 * p) 2 = some (58 + 10 * p)) ∨ (R (54 + 10 * p) 1 = some (58 + 10 * p) ∧ R (54 + 10 * p) 2 = some (56 + 10 * p))
def CLR (k p f z : Nat) : Prop := k ≤ p ∧ p < 4 ∧ ((z = 54 + 10 * p ∧ f = 4) ∨ ((z = 56 + 10 * p ∨ z = 58 + 10 * p) ∧ f = 0))

theorem lp_forget (d : Nat) {n : Nat} {t : eT} {R : eR} {Q : Nat → eT → eI → eR → Prop} (hst : ST n t R) (hly : LY R) : ∀ (r k : Nat) (I : eI), k + r = 4 → (∀ I2 : eI, (∀ p, k ≤ p → p < 4 → I2 (56 + 10 * p) 0 = 0 ∧ I2 (58 + 10 * p) 0 = 0 ∧ I2 (54 + 10 * p) 4 = -9) → (∀ z f, (¬ ∃ p, CLR k p f z) → I2 z f = I z f) → Q n t I2 R) → wp yX7_takeParts cX7_takeParts 3 none (d + 2) 0 0 (qV Q) 0 0 10 [.ref 4, .ref 20, .int (nI k)] [] n t I R := by
  intro r
  induction r with
  | zero =>
    intro k I hk hq
    obtain rfl : k = 4 := by omega
    refine wp_iload_n (i := 2) dX7_takeParts_10 rfl rfl ?_
    refine wp_iconst (v := 4) dX7_takeParts_11 (by decide) ?_
    refine wp_icmp_ge (tgt := 30) dX7_takeParts_12 (by decide) (fun zq12 => ?_) (fun zq12 => absurd (nI_le (show 4 ≤ 4 by decide) (by decide)) zq12) 
    exact wp_retV dX7_takeParts_30 rfl (Nat.le_refl _) (Nat.le_refl _) (hq I (fun a h1 h2 => by omega) (fun _ _ _ => rfl))
  | succ r ih =>
    intro k I hk hq
    refine wp_iload_n (i := 2) dX7_takeParts_10 rfl rfl ?_
    refine wp_iconst (v := 4) dX7_takeParts_11 (by decide) ?_
    refine wp_icmp_ge (tgt := 30) dX7_takeParts_12 (by decide) (fun zq12 => absurd zq12 (nI_ge (show k < 4 by omega) (by decide))) (fun zq12 => ?_) 
    refine wp_aload_n (i := 0) dX7_takeParts_15 rfl rfl ?_
    refine wp_getR dX7_takeParts_16 fl_X7_27 rfl (st_k hst rfl) (st_r hst rfl) ?_
    refine wp_iload_n (i := 2) dX7_takeParts_19 rfl rfl ?_
    have hk4 : k < 4 := by omega
    obtain ⟨u, v, hu, hv, huv⟩ : ∃ u v, R (54 + 10 * k) 1 = some u ∧ R (54 + 10 * k) 2 = some v ∧ ((u = 56 + 10 * k ∧ v = 58 + 10 * k) ∨ (u = 58 + 10 * k ∧ v = 56 + 10 * k)) := by
      rcases hly k hk4 with ⟨q1, q2⟩ | ⟨q1, q2⟩
      · exact ⟨_, _, q1, q2, Or.inl ⟨rfl, rfl⟩⟩
      · exact ⟨_, _, q1, q2, Or.inr ⟨rfl, rfl⟩⟩
    have htu : (t u).1 = 0 := by rcases huv with ⟨q, -⟩ | ⟨q, -⟩ <;> rw [q]; exact sp_k2 hst hk4; exact sp_k4 hst hk4
    have htv : (t v).1 = 0 := by rcases huv with ⟨-, q⟩ | ⟨-, q⟩ <;> rw [q]; exact sp_k4 hst hk4; exact sp_k2 hst hk4
    refine wp_rld11 (j := k) dX7_takeParts_20 (st_t hst rfl) rfl (by omega) (sp_34 hst (by omega)) ?_
    refine wp_V0v dX7_takeParts_21 mw_339 mw_340 mw_341 mi_X3_forgetLayings (Nat.le_of_ble_eq_true rfl) (Nat.le_refl _) (Nat.le_refl _) (sp_k0 hst (by omega)) (by decide) rfl (c_forget _ hst hk4 hu hv htu htv ?_) 
    refine wp_iinc_3_2 (v := nI (k + 1)) dX7_takeParts_24 (n_add rfl rfl) ?_
    refine wp_goto (tgt := 10) dX7_takeParts_27 (by decide) ?_
    refine ih (k + 1) _ (by omega) (fun I2 h1 h2 => hq I2 (fun p hp1 hp2 => ?_) (fun z f hz => ?_))
    · by_cases e : p = k
      · subst e
        rcases huv with ⟨rfl, rfl⟩ | ⟨rfl, rfl⟩
        · refine ⟨(h2 _ _ (fun g => by obtain ⟨q, g⟩ := g; unfold CLR at g; omega)).trans ?_, (h2 _ _ (fun g => by obtain ⟨q, g⟩ := g; unfold CLR at g; omega)).trans ?_, (h2 _ _ (fun g => by obtain ⟨q, g⟩ := g; unfold CLR at g; omega)).trans ?_⟩
          · rw [eU_o (by omega), eU_o (by omega), eU_at]
          · rw [eU_o (by omega), eU_at]
          · rw [eU_at]
        · refine ⟨(h2 _ _ (fun g => by obtain ⟨q, g⟩ := g; unfold CLR at g; omega)).trans ?_, (h2 _ _ (fun g => by obtain ⟨q, g⟩ := g; unfold CLR at g; omega)).trans ?_, (h2 _ _ (fun g => by obtain ⟨q, g⟩ := g; unfold CLR at g; omega)).trans ?_⟩
          · rw [eU_o (by omega), eU_at]
          · rw [eU_o (by omega), eU_o (by omega), eU_at]
          · rw [eU_at]
      · exact h1 p (by omega) hp2
    · have hz2 : ¬ CLR k k f z := fun g => hz ⟨k, g⟩
      unfold CLR at hz2
      rw [h2 z f (fun g => hz (by obtain ⟨q, g⟩ := g; exact ⟨q, by unfold CLR at g ⊢; omega⟩))]
      have e1 : eU (eU (eU I u 0 0) v 0 0) (54 + 10 * k) 4 (-9) z f = eU (eU I u 0 0) v 0 0 z f := if_neg (by omega)
      have e2 : eU (eU I u 0 0) v 0 0 z f = eU I u 0 0 z f := if_neg (by omega)
      have e3 : eU I u 0 0 z f = I z f := if_neg (by omega)
      rw [e1, e2, e3]

/-- what a taken text leaves -/
def TC (I I2 : eI) (m : Nat) (K V : Nat → Nat) (F : Nat → Nat → Nat) : Prop := I2 5 0 = nI (m + 1) ∧ (∀ x, x ≤ m → I2 6 x = nI (K x) ∧ I2 7 x = nI (V x)) ∧ (∀ a, a < 10 → ∀ b, b < 10 → I2 (9 + a) b = nI (F a b)) ∧ (∀ p, p < 4 → I2 (56 + 10 * p) 0 = 0 ∧ I2 (58 + 10 * p) 0 = 0 ∧ I2 (54 + 10 * p) 4 = -9) ∧ ∀ z f, (z < 5 ∨ 34 ≤ z) → (¬ ∃ p, CLR 0 p f z) → I2 z f = I z f

theorem c_takeParts (d : Nat) {n : Nat} {t : eT} {I : eI} {R : eR} {Q : Nat → eT → eI → eR → Prop} (hst : ST n t R) (hly : LY R) {w m : Nat} {K V : Nat → Nat} {F : Nat → Nat → Nat} (hR : RC I w m K V F) (hw : 1 < w) (hq : ∀ I2 : eI, TC I I2 m K V F → Q n t I2 R) : MC yX7_takeParts cX7_takeParts 3 none (d + 2) 0 0 [.ref 4, .ref 20] n t I R (qV Q) := by
  refine mc_intro (L0 := [.ref 4, .ref 20, vU]) (by decide) rfl (Nat.le_of_ble_eq_true rfl) ?_
  refine wp_aload_n (i := 0) dX7_takeParts_0 rfl rfl ?_
  refine wp_getR dX7_takeParts_1 fl_X7_12 rfl (st_k hst rfl) (st_r hst rfl) ?_
  refine wp_aload_n (i := 1) dX7_takeParts_4 rfl rfl ?_
  refine wp_V1v dX7_takeParts_5 mw_332 mw_333 mw_334 mi_X2_become (Nat.le_of_ble_eq_true rfl) (Nat.le_refl _) (Nat.le_refl _) (st_k hst rfl) (by decide) rfl (c_become _ hst (fun I2 h1 h2 h3 h4 => ?_)) 
  refine wp_iconst (v := 0) dX7_takeParts_8 (by decide) ?_
  refine wp_istore_3_2 dX7_takeParts_9 rfl ?_
  have hcn : I 20 0 = nI (m + 1) := by
    rcases hR.2.1 with ⟨q, -, -⟩ | ⟨q, -, -, -⟩ | ⟨-, -, -, q⟩ | ⟨-, -, q⟩ | ⟨-, -, q⟩
    · omega
    · omega
    · exact q
    · exact q
    · exact q
  have hm9 := hR.1
  refine lp_forget _ hst hly 4 0 I2 rfl (fun I3 g1 g2 => hq I3 ⟨?_, fun x hx => ?_, fun a ha b hb => ?_, fun p hp => g1 p (by omega) hp, fun z f hz hz2 => ?_⟩)
  · rw [g2 5 0 (fun g => by obtain ⟨q, g⟩ := g; unfold CLR at g; omega), h1]; exact hcn
  · rw [g2 6 x (fun g => by obtain ⟨q, g⟩ := g; unfold CLR at g; omega), g2 7 x (fun g => by obtain ⟨q, g⟩ := g; unfold CLR at g; omega), (h2 x (by omega)).1, (h2 x (by omega)).2]
    exact hR.2.2.1 x (by omega)
  · rw [g2 (9 + a) b (fun g => by obtain ⟨q, g⟩ := g; unfold CLR at g; omega), h3 a ha b hb]
    exact hR.2.2.2 a b ha hb
  · rw [g2 z f hz2, h4 z (by omega)]

theorem c_text (d : Nat) {n : Nat} {t : eT} {I : eI} {R : eR} {Q : Int32 → Nat → eT → eI → eR → Prop} (hst : ST n t R) (hly : LY R) (hsh : ∀ j a, j < 4 → R 53 j = some a → 128 ≤ a ∧ (t a).1 = 6 ∧ ∃ c len, 128 ≤ c ∧ R a 1 = some c ∧ t c = (9, len) ∧ len ≤ 60) {x l i v : Int32} (h1 : (∀ j, j < 4 → x ≠ nI j) → Q (-1) n t (eU I 4 9 0) R) (h2 : ∀ j, j < 4 → x = nI j → ¬ (0 ≤ l.toInt ∧ l.toInt ≤ 2) → Q (-2) n t (eU I 4 9 0) R) (h3 : ∀ j, j < 4 → x = nI j → (0 ≤ l.toInt ∧ l.toInt ≤ 2) → R 53 j = none → Q (-11) n t (eU (eU I 4 9 0) 4 9 1) R) (h4 : ∀ j a, j < 4 → x = nI j → (0 ≤ l.toInt ∧ l.toInt ≤ 2) → R 53 j = some a → ¬ I a 0 = l → Q (-12) n t (eU (eU I 4 9 0) 4 9 2) R) (h5 : ∀ j a ca la, j < 4 → x = nI j → R 53 j = some a → R a 1 = some ca → t ca = (9, la) → I a 0 = l → (0 ≤ l.toInt ∧ l.toInt ≤ 2) → v.toInt < 0 → Q (-14) n t (eU (eU I 4 9 0) 4 9 4) R) (h6 : ∀ j a ca la, j < 4 → x = nI j → R 53 j = some a → R a 1 = some ca → t ca = (9, la) → I a 0 = l → (0 ≤ l.toInt ∧ l.toInt ≤ 2) → 0 ≤ v.toInt → ¬ (0 ≤ i.toInt ∧ i.toInt + v.toInt ≤ la) → Q (-13) n t (eU (eU I 4 9 0) 4 9 3) R) (h7 : ∀ j a ca la, j < 4 → x = nI j → R 53 j = some a → R a 1 = some ca → t ca = (9, la) → I a 0 = l → (0 ≤ l.toInt ∧ l.toInt ≤ 2) → ∀ i0 v0, i0 + v0 ≤ la → i = nI i0 → v = nI v0 → ∀ z I2, z < v0 → (∃ s, aft (fun z => I ca (i0 + z)) z = some s) → aft (fun z => I ca (i0 + z)) (z + 1) = none → FrC (eU I 4 9 0) I2 → Q (-100 - nI z) n t I2 R) (h8 : ∀ j a ca la, j < 4 → x = nI j → R 53 j = some a → R a 1 = some ca → t ca = (9, la) → I a 0 = l → (0 ≤ l.toInt ∧ l.toInt ≤ 2) → ∀ i0 v0, i0 + v0 ≤ la → i = nI i0 → v = nI v0 → ∀ s I2, aft (fun z => I ca (i0 + z)) v0 = some s → ¬ (1 < s.1 ∧ s.1 < 5) → FrC (eU I 4 9 0) I2 → Q (-100 - nI v0) n t I2 R) (h9 : ∀ j a ca la, j < 4 → x = nI j → R 53 j = some a → R a 1 = some ca → t ca = (9, la) → I a 0 = l → (0 ≤ l.toInt ∧ l.toInt ≤ 2) → ∀ i0 v0, i0 + v0 ≤ la → i = nI i0 → v = nI v0 → ∀ w m K V F I2 I3, aft (fun z => I ca (i0 + z)) v0 = some (w, m, K, V, F) → (1 < w ∧ w < 5) → m ≤ 9 → FrC (eU I 4 9 0) I2 → TC I2 I3 m K V F → Q (nI (m + 1)) n t I3 R) : MC yX7_text cX7_text 7 (some .int) (d + 5) 0 0 [.ref 4, .int x, .int l, .int i, .int v] n t I R (qI Q) := by
  refine mc_intro (L0 := [.ref 4, .int x, .int l, .int i, .int v, vU, vU]) (by decide) rfl (Nat.le_of_ble_eq_true rfl) ?_
  refine wp_aload_n (i := 0) dX7_text_0 rfl rfl ?_
  refine wp_iconst (v := 0) dX7_text_1 (by decide) ?_
  refine wp_putI dX7_text_2 fl_X7_62 rfl (Or.inl rfl) (st_k hst rfl) ?_
  refine wp_iload_n (i := 1) dX7_text_5 rfl rfl ?_
  refine wp_iconst (v := 0) dX7_text_6 (by decide) ?_
  refine wp_iconst (v := 3) dX7_text_7 (by decide) ?_
  refine wp_S3i dX7_text_8 mw_267 mw_268 mi_X7_isWithin (Nat.le_of_ble_eq_true rfl) (Nat.le_refl _) (Nat.le_refl _) (c_isWithin _ (a := 0) (b := 3) rfl rfl (fun ga8 gb8 => ?_) (fun gn8 => ?_)) 
  · skip
    refine wp_if_ne1 (tgt := 16) dX7_text_11 (by decide) ?_
    obtain ⟨j, hj, ej⟩ := nat_yes (x := x) (m := 4) (by omega) ga8 (by omega)
    subst ej
    refine wp_iload_n (i := 2) dX7_text_16 rfl rfl ?_
    refine wp_iconst (v := 0) dX7_text_17 (by decide) ?_
    refine wp_iconst (v := 2) dX7_text_18 (by decide) ?_
    refine wp_S3i dX7_text_19 mw_267 mw_268 mi_X7_isWithin (Nat.le_of_ble_eq_true rfl) (Nat.le_refl _) (Nat.le_refl _) (c_isWithin _ (a := 0) (b := 2) rfl rfl (fun ga19 gb19 => ?_) (fun gn19 => ?_)) 
    · skip
      refine wp_if_ne1 (tgt := 28) dX7_text_22 (by decide) ?_
      refine wp_aload_n (i := 0) dX7_text_28 rfl rfl ?_
      refine wp_getR dX7_text_29 fl_X7_55 rfl (st_k hst rfl) (st_r hst rfl) ?_
      refine wp_iload_n (i := 1) dX7_text_32 rfl rfl ?_
      rcases hr33 : R 53 j with _ | ra33
      · refine wp_rld12N (j := j) dX7_text_33 (st_t hst rfl) rfl (by omega) hr33 ?_
        refine wp_astoreN_7_5 dX7_text_34 rfl ?_
        refine wp_aloadN dX7_text_36 rfl ?_
        refine wp_ifnonnullN dX7_text_38 ?_
        refine wp_aload_n (i := 0) dX7_text_41 rfl rfl ?_
        refine wp_iconst (v := 1) dX7_text_42 (by decide) ?_
        refine wp_V1i dX7_text_43 mw_270 mw_272 ms_0 mi_X7_faulted (Nat.le_of_ble_eq_true rfl) (Nat.le_refl _) (Nat.le_refl _) (st_k hst rfl) (by decide) rfl (c_faulted _ hst (r := -11) (by decide) ?_) 
        exact wp_retI dX7_text_46 rfl (Nat.le_refl _) (Nat.le_refl _) (h3 j hj rfl ⟨ga19, gb19⟩ hr33)
      · refine wp_rld12 (j := j) dX7_text_33 (st_t hst rfl) rfl (by omega) hr33 ?_
        refine wp_astore_7_5 dX7_text_34 rfl ?_
        refine wp_aload dX7_text_36 rfl ?_
        refine wp_ifnonnull (tgt := 47) dX7_text_38 (by decide) ?_
        obtain ⟨ha128, hta, ca, la, hc128, hrca, htca, hla⟩ := hsh j ra33 hj hr33
        refine wp_aload dX7_text_47 rfl ?_
        refine wp_getI dX7_text_49 fl_X7_74 rfl hta ?_
        refine wp_iload_n (i := 2) dX7_text_52 rfl rfl ?_
        rw [eU_o (show ra33 ≠ 4 by omega)]
        refine wp_icmp_eq (tgt := 62) dX7_text_53 (by decide) (fun zq53 => ?_) (fun zq53 => ?_) 
        · refine wp_iload dX7_text_62 rfl ?_
          refine wp_if_ge (tgt := 73) dX7_text_64 (by decide) (fun zq64 => ?_) (fun zq64 => ?_) 
          · refine wp_aload dX7_text_73 rfl ?_
            refine wp_iload_n (i := 3) dX7_text_75 rfl rfl ?_
            refine wp_iload dX7_text_76 rfl ?_
            refine wp_V2i dX7_text_78 mw_274 mw_275 mw_276 mi_X6_hasCells (Nat.le_of_ble_eq_true rfl) (Nat.le_refl _) (Nat.le_refl _) hta (by decide) rfl (c_hasCells _ hta hrca htca hla (fun i0 v0 hiv ei ev => ?_) (fun gno => ?_)) 
            · subst ei; subst ev
              refine wp_if_ne1 (tgt := 90) dX7_text_81 (by decide) ?_
              refine wp_aload_n (i := 0) dX7_text_90 rfl rfl ?_
              refine wp_getR dX7_text_91 fl_X7_21 rfl (st_k hst rfl) (st_r hst rfl) ?_
              refine wp_aload dX7_text_94 rfl ?_
              refine wp_getR dX7_text_96 fl_X7_81 rfl hta hrca ?_
              refine wp_iload_n (i := 3) dX7_text_99 rfl rfl ?_
              refine wp_iload dX7_text_100 rfl ?_
              refine wp_V3i dX7_text_102 mw_278 mw_279 mw_280 mi_X4_firstFault (Nat.le_of_ble_eq_true rfl) (Nat.le_refl _) (Nat.le_refl _) (st_k hst rfl) (by decide) rfl (c_firstFault _ hst (show 34 ≤ ca by omega) htca hla hiv (cds := (fun z => I ca (i0 + z))) (fun z hz => by rw [eU_o (show ca ≠ 4 by omega)]) (fun z I2 hz hs0 hs1 hf => ?_) (fun s I2 hs0 hs1 hf => ?_) (fun w m K V F I2 hs0 hs1 hR hf => ?_)) 
              · have hz60 : z < 1000 := by omega
                refine wp_istore_7_6 dX7_text_105 rfl ?_
                refine wp_iload dX7_text_107 rfl ?_
                refine wp_bipush (v := (-9)) dX7_text_109 (by decide) ?_
                refine wp_icmp_eq (tgt := 120) dX7_text_111 (by decide) (fun zq111 => absurd zq111 (nI_m9 _ (by omega))) (fun zq111 => ?_) 
                refine wp_bipush (v := (-100)) dX7_text_114 (by decide) ?_
                refine wp_iload dX7_text_116 rfl ?_
                refine wp_isub dX7_text_118 ?_
                exact wp_retI dX7_text_119 rfl (Nat.le_refl _) (Nat.le_refl _) (h7 j ra33 ca la hj rfl hr33 hrca htca zq53 ⟨ga19, gb19⟩ i0 v0 hiv rfl rfl z I2 hz hs0 hs1 hf)
              · skip
                refine wp_istore_7_6 dX7_text_105 rfl ?_
                refine wp_iload dX7_text_107 rfl ?_
                refine wp_bipush (v := (-9)) dX7_text_109 (by decide) ?_
                refine wp_icmp_eq (tgt := 120) dX7_text_111 (by decide) (fun zq111 => absurd zq111 (nI_m9 _ (by omega))) (fun zq111 => ?_) 
                refine wp_bipush (v := (-100)) dX7_text_114 (by decide) ?_
                refine wp_iload dX7_text_116 rfl ?_
                refine wp_isub dX7_text_118 ?_
                exact wp_retI dX7_text_119 rfl (Nat.le_refl _) (Nat.le_refl _) (h8 j ra33 ca la hj rfl hr33 hrca htca zq53 ⟨ga19, gb19⟩ i0 v0 hiv rfl rfl s I2 hs0 hs1 hf)
              · skip
                refine wp_istore_7_6 dX7_text_105 rfl ?_
                refine wp_iload dX7_text_107 rfl ?_
                refine wp_bipush (v := (-9)) dX7_text_109 (by decide) ?_
                refine wp_icmp_eq (tgt := 120) dX7_text_111 (by decide) (fun zq111 => ?_) (fun zq111 => absurd rfl zq111) 
                refine wp_aload_n (i := 0) dX7_text_120 rfl rfl ?_
                refine wp_aload_n (i := 0) dX7_text_121 rfl rfl ?_
                refine wp_getR dX7_text_122 fl_X7_21 rfl (st_k hst rfl) (st_r hst rfl) ?_
                refine wp_getR dX7_text_125 fl_X7_88 rfl (st_k hst rfl) (st_r hst rfl) ?_
                refine wp_V1v dX7_text_128 mw_328 mw_330 ms_6 mi_X7_takeParts (Nat.le_of_ble_eq_true rfl) (Nat.le_refl _) (Nat.le_refl _) (st_k hst rfl) (by decide) rfl (c_takeParts _ hst hly hR hs1.1 (fun I3 hT => ?_)) 
                refine wp_aload_n (i := 0) dX7_text_131 rfl rfl ?_
                refine wp_getR dX7_text_132 fl_X7_12 rfl (st_k hst rfl) (st_r hst rfl) ?_
                refine wp_getI dX7_text_135 fl_X7_95 rfl (st_k hst rfl) ?_
                exact wp_retI dX7_text_138 rfl (Nat.le_refl _) (Nat.le_refl _) (by rw [hT.1]; exact h9 j ra33 ca la hj rfl hr33 hrca htca zq53 ⟨ga19, gb19⟩ i0 v0 hiv rfl rfl w m K V F I2 I3 hs0 hs1 hR.1 hf hT)
            · skip
              refine wp_if_ne0 (tgt := 90) dX7_text_81 (by decide) ?_
              refine wp_aload_n (i := 0) dX7_text_84 rfl rfl ?_
              refine wp_iconst (v := 3) dX7_text_85 (by decide) ?_
              refine wp_V1i dX7_text_86 mw_270 mw_272 ms_0 mi_X7_faulted (Nat.le_of_ble_eq_true rfl) (Nat.le_refl _) (Nat.le_refl _) (st_k hst rfl) (by decide) rfl (c_faulted _ hst (r := -13) (by decide) ?_) 
              exact wp_retI dX7_text_89 rfl (Nat.le_refl _) (Nat.le_refl _) (h6 j ra33 ca la hj rfl hr33 hrca htca zq53 ⟨ga19, gb19⟩ (by rw [i_le, i0] at zq64; omega) (fun g => gno ⟨g.1, by rw [i_le, i0] at zq64; omega, g.2⟩))
          · refine wp_aload_n (i := 0) dX7_text_67 rfl rfl ?_
            refine wp_iconst (v := 4) dX7_text_68 (by decide) ?_
            refine wp_V1i dX7_text_69 mw_270 mw_272 ms_0 mi_X7_faulted (Nat.le_of_ble_eq_true rfl) (Nat.le_refl _) (Nat.le_refl _) (st_k hst rfl) (by decide) rfl (c_faulted _ hst (r := -14) (by decide) ?_) 
            exact wp_retI dX7_text_72 rfl (Nat.le_refl _) (Nat.le_refl _) (h5 j ra33 ca la hj rfl hr33 hrca htca zq53 ⟨ga19, gb19⟩ (by rw [i_le, i0] at zq64; omega))
        · refine wp_aload_n (i := 0) dX7_text_56 rfl rfl ?_
          refine wp_iconst (v := 2) dX7_text_57 (by decide) ?_
          refine wp_V1i dX7_text_58 mw_270 mw_272 ms_0 mi_X7_faulted (Nat.le_of_ble_eq_true rfl) (Nat.le_refl _) (Nat.le_refl _) (st_k hst rfl) (by decide) rfl (c_faulted _ hst (r := -12) (by decide) ?_) 
          exact wp_retI dX7_text_61 rfl (Nat.le_refl _) (Nat.le_refl _) (h4 j ra33 hj rfl ⟨ga19, gb19⟩ hr33 zq53)
    · skip
      refine wp_if_ne0 (tgt := 28) dX7_text_22 (by decide) ?_
      refine wp_bipush (v := (-2)) dX7_text_25 (by decide) ?_
      exact wp_retI dX7_text_27 rfl (Nat.le_refl _) (Nat.le_refl _) (h2 j hj rfl gn19)
  · skip
    refine wp_if_ne0 (tgt := 16) dX7_text_11 (by decide) ?_
    refine wp_iconst (v := (-1)) dX7_text_14 (by decide) ?_
    exact wp_retI dX7_text_15 rfl (Nat.le_refl _) (Nat.le_refl _) (h1 (nat_no (m := 4) (by omega) (by omega)))

theorem c_barred (d : Nat) {n : Nat} {t : eT} {I : eI} {R : eR} {Q : Int32 → Nat → eT → eI → eR → Prop} (hst : ST n t R) (hsz : ∀ j, j < 4 → I 124 j < 0 ∨ ∃ len, len ≤ 60 ∧ I 124 j = nI len) {j : Nat} (hj : j < 4) {l i v : Int32} (h2 : ¬ (0 ≤ l.toInt ∧ l.toInt ≤ 2) → Q (-2) n t (eU I 94 0 0) R) (h3 : (0 ≤ l.toInt ∧ l.toInt ≤ 2) → I 124 j < 0 → Q (-11) n t (eU I 94 0 1) R) (h4 : ∀ la, (0 ≤ l.toInt ∧ l.toInt ≤ 2) → la ≤ 60 → I 124 j = nI la → ¬ I 125 j = l → Q (-12) n t (eU I 94 0 2) R) (h5 : ∀ la, (0 ≤ l.toInt ∧ l.toInt ≤ 2) → la ≤ 60 → I 124 j = nI la → I 125 j = l → v.toInt < 0 → Q (-14) n t (eU I 94 0 4) R) (h6 : ∀ la, (0 ≤ l.toInt ∧ l.toInt ≤ 2) → la ≤ 60 → I 124 j = nI la → I 125 j = l → 0 ≤ v.toInt → ¬ (0 ≤ i.toInt ∧ i.toInt + v.toInt ≤ la) → Q (-13) n t (eU I 94 0 3) R) (h7 : ∀ la i0 v0, (0 ≤ l.toInt ∧ l.toInt ≤ 2) → la ≤ 60 → I 124 j = nI la → I 125 j = l → i0 + v0 ≤ la → i = nI i0 → v = nI v0 → Q 0 n t I R) : MC yX8_barred cX8_barred 6 (some .int) (d + 1) 0 0 [.ref 94, .int (nI j), .int l, .int i, .long v.toInt64] n t I R (qI Q) := by
  refine mc_intro (L0 := [.ref 94, .int (nI j), .int l, .int i, .long v.toInt64, vM]) (by decide) rfl (Nat.le_of_ble_eq_true rfl) ?_
  refine wp_iload_n (i := 2) dX8_barred_0 rfl rfl ?_
  refine wp_i2l dX8_barred_1 ?_
  refine wp_lconst (v := 0) dX8_barred_2 (by decide) ?_
  refine wp_ldc2 (v := 2) dX8_barred_3 mw_898 ?_
  refine wp_S3i dX8_barred_6 mw_887 mw_888 mi_X8_in (Nat.le_of_ble_eq_true rfl) (Nat.le_refl _) (Nat.le_refl _) (c_in _ (a := 0) (b := 2) rfl rfl (fun ga6 gb6 => ?_) (fun gn6 => ?_)) 
  · skip
    refine wp_if_ne1 (tgt := 19) dX8_barred_9 (by decide) ?_
    refine wp_aload_n (i := 0) dX8_barred_19 rfl rfl ?_
    refine wp_getR dX8_barred_20 fl_X8_98 rfl (st_k hst rfl) (st_r hst rfl) ?_
    refine wp_iload_n (i := 1) dX8_barred_23 rfl rfl ?_
    refine wp_ild (j := j) dX8_barred_24 (st_t hst rfl) rfl (by omega) ?_
    refine wp_if_lt (tgt := 44) dX8_barred_25 (by decide) (fun zq25 => ?_) (fun zq25 => ?_) 
    · refine wp_aload_n (i := 0) dX8_barred_44 rfl rfl ?_
      refine wp_getR dX8_barred_45 fl_X8_98 rfl (st_k hst rfl) (st_r hst rfl) ?_
      refine wp_iload_n (i := 1) dX8_barred_48 rfl rfl ?_
      refine wp_ild (j := j) dX8_barred_49 (st_t hst rfl) rfl (by omega) ?_
      refine wp_if_ge (tgt := 59) dX8_barred_50 (by decide) (fun zq50 => absurd zq50 (Int32.not_le.mpr zq25)) (fun zq50 => ?_) 
      refine wp_aload_n (i := 0) dX8_barred_53 rfl rfl ?_
      refine wp_iconst (v := 1) dX8_barred_54 (by decide) ?_
      refine wp_V1i dX8_barred_55 mw_899 mw_901 ms_29 mi_X8_failed (Nat.le_of_ble_eq_true rfl) (Nat.le_refl _) (Nat.le_refl _) (st_k hst rfl) (by decide) rfl (c_failed _ hst (r := -11) (by decide) ?_) 
      exact wp_retI dX8_barred_58 rfl (Nat.le_refl _) (Nat.le_refl _) (h3 ⟨ga6, gb6⟩ zq25)
    · obtain ⟨la, hla, ela⟩ := (hsz j hj).resolve_left zq25
      refine wp_aload_n (i := 0) dX8_barred_28 rfl rfl ?_
      refine wp_getR dX8_barred_29 fl_X8_101 rfl (st_k hst rfl) (st_r hst rfl) ?_
      refine wp_iload_n (i := 1) dX8_barred_32 rfl rfl ?_
      refine wp_ild (j := j) dX8_barred_33 (st_t hst rfl) rfl (by omega) ?_
      refine wp_iload_n (i := 2) dX8_barred_34 rfl rfl ?_
      refine wp_icmp_eq (tgt := 44) dX8_barred_35 (by decide) (fun zq35 => ?_) (fun zq35 => ?_) 
      · refine wp_aload_n (i := 0) dX8_barred_44 rfl rfl ?_
        refine wp_getR dX8_barred_45 fl_X8_98 rfl (st_k hst rfl) (st_r hst rfl) ?_
        refine wp_iload_n (i := 1) dX8_barred_48 rfl rfl ?_
        refine wp_ild (j := j) dX8_barred_49 (st_t hst rfl) rfl (by omega) ?_
        refine wp_if_ge (tgt := 59) dX8_barred_50 (by decide) (fun zq50 => ?_) (fun zq50 => absurd (Int32.not_lt.mp zq25) zq50) 
        refine wp_lload dX8_barred_59 rfl ?_
        refine wp_lconst (v := 0) dX8_barred_61 (by decide) ?_
        refine wp_lcmp dX8_barred_62 ?_
        refine wp_if_ge (tgt := 72) dX8_barred_63 (by decide) (fun zq63 => ?_) (fun zq63 => ?_) 
        · refine wp_iload_n (i := 3) dX8_barred_72 rfl rfl ?_
          refine wp_lload dX8_barred_73 rfl ?_
          refine wp_aload_n (i := 0) dX8_barred_75 rfl rfl ?_
          refine wp_getR dX8_barred_76 fl_X8_98 rfl (st_k hst rfl) (st_r hst rfl) ?_
          refine wp_iload_n (i := 1) dX8_barred_79 rfl rfl ?_
          refine wp_ild (j := j) dX8_barred_80 (st_t hst rfl) rfl (by omega) ?_
          rw [ela]
          refine wp_S3i dX8_barred_81 mw_903 mw_904 mi_X8_isBeyond (Nat.le_of_ble_eq_true rfl) (Nat.le_refl _) (Nat.le_refl _) (c_isBeyond _ hla (fun i0 v0 hiv ei ev => ?_) (fun gno => ?_)) 
          · skip
            refine wp_if_eq0 (tgt := 95) dX8_barred_84 (by decide) ?_
            refine wp_iconst (v := 0) dX8_barred_95 (by decide) ?_
            exact wp_retI dX8_barred_96 rfl (Nat.le_refl _) (Nat.le_refl _) (h7 la i0 v0 ⟨ga6, gb6⟩ hla ela zq35 hiv ei ev)
          · skip
            refine wp_if_eq1 (tgt := 95) dX8_barred_84 (by decide) ?_
            refine wp_aload_n (i := 0) dX8_barred_87 rfl rfl ?_
            refine wp_iconst (v := 3) dX8_barred_88 (by decide) ?_
            refine wp_V1i dX8_barred_89 mw_899 mw_901 ms_29 mi_X8_failed (Nat.le_of_ble_eq_true rfl) (Nat.le_refl _) (Nat.le_refl _) (st_k hst rfl) (by decide) rfl (c_failed _ hst (r := -13) (by decide) ?_) 
            refine wp_goto (tgt := 96) dX8_barred_92 (by decide) ?_
            have h0 : 0 ≤ v.toInt := by rw [lg_cmp_ge, l_le, Int32.toInt_toInt64, show (0 : Int64).toInt = 0 from rfl] at zq63; omega
            exact wp_retI dX8_barred_96 rfl (Nat.le_refl _) (Nat.le_refl _) (h6 la ⟨ga6, gb6⟩ hla ela zq35 h0 (fun g => gno ⟨g.1, h0, g.2⟩))
        · refine wp_aload_n (i := 0) dX8_barred_66 rfl rfl ?_
          refine wp_iconst (v := 4) dX8_barred_67 (by decide) ?_
          refine wp_V1i dX8_barred_68 mw_899 mw_901 ms_29 mi_X8_failed (Nat.le_of_ble_eq_true rfl) (Nat.le_refl _) (Nat.le_refl _) (st_k hst rfl) (by decide) rfl (c_failed _ hst (r := -14) (by decide) ?_) 
          exact wp_retI dX8_barred_71 rfl (Nat.le_refl _) (Nat.le_refl _) (h5 la ⟨ga6, gb6⟩ hla ela zq35 (by rw [lg_cmp_ge, l_le, Int32.toInt_toInt64, show (0 : Int64).toInt = 0 from rfl] at zq63; omega))
      · refine wp_aload_n (i := 0) dX8_barred_38 rfl rfl ?_
        refine wp_iconst (v := 2) dX8_barred_39 (by decide) ?_
        refine wp_V1i dX8_barred_40 mw_899 mw_901 ms_29 mi_X8_failed (Nat.le_of_ble_eq_true rfl) (Nat.le_refl _) (Nat.le_refl _) (st_k hst rfl) (by decide) rfl (c_failed _ hst (r := -12) (by decide) ?_) 
        exact wp_retI dX8_barred_43 rfl (Nat.le_refl _) (Nat.le_refl _) (h4 la ⟨ga6, gb6⟩ hla ela zq35)
  · skip
    refine wp_if_ne0 (tgt := 19) dX8_barred_9 (by decide) ?_
    refine wp_aload_n (i := 0) dX8_barred_12 rfl rfl ?_
    refine wp_bipush (v := (-2)) dX8_barred_13 (by decide) ?_
    refine wp_V1i dX8_barred_15 mw_890 mw_892 ms_27 mi_X8_refused (Nat.le_of_ble_eq_true rfl) (Nat.le_refl _) (Nat.le_refl _) (st_k hst rfl) (by decide) rfl (c_refused _ hst ?_) 
    exact wp_retI dX8_barred_18 rfl (Nat.le_refl _) (Nat.le_refl _) (h2 gn6)

theorem eG2_st {I : eI} {p q x : Nat} {a b : Int32} {f f2 g g2 : Nat → Int32} (h1 : ∀ y, f y = f2 y) (h2 : ∀ y, g y = g2 y) : eG (eG (eU (eU I p x a) q x b) p f) q g = eG (eG I p f2) q g2 := by
  funext z y
  by_cases hz : z = q
  · subst hz; rw [eG_eq, eG_eq]; exact h2 y
  · rw [eG_ne hz, eG_ne hz]
    by_cases hz2 : z = p
    · subst hz2; rw [eG_eq, eG_eq]; exact h1 y
    · rw [eG_ne hz2, eG_ne hz2, eU_ne hz, eU_ne hz2]
theorem eG2_id {I : eI} {p q : Nat} {f g : Nat → Int32} (h1 : ∀ y, f y = I p y) (h2 : ∀ y, g y = I q y) : eG (eG I p f) q g = I := by
  funext z y
  by_cases hz : z = q
  · subst hz; rw [eG_eq]; exact h2 y
  · rw [eG_ne hz]
    by_cases hz2 : z = p
    · subst hz2; rw [eG_eq]; exact h1 y
    · rw [eG_ne hz2]
theorem eG3_st {I : eI} {p q s x : Nat} {a b c : Int32} {f f2 g g2 h h2 : Nat → Int32} (e1 : ∀ y, f y = f2 y) (e2 : ∀ y, g y = g2 y) (e3 : ∀ y, h y = h2 y) : eG (eG (eG (eU (eU (eU I p x a) q x b) s x c) p f) q g) s h = eG (eG (eG I p f2) q g2) s h2 := by
  funext z y
  by_cases hz0 : z = s
  · subst hz0; rw [eG_eq, eG_eq]; exact e3 y
  · rw [eG_ne hz0, eG_ne hz0]
    by_cases hz : z = q
    · subst hz; rw [eG_eq, eG_eq]; exact e2 y
    · rw [eG_ne hz, eG_ne hz]
      by_cases hz2 : z = p
      · subst hz2; rw [eG_eq, eG_eq]; exact e1 y
      · rw [eG_ne hz2, eG_ne hz2, eU_ne hz0, eU_ne hz, eU_ne hz2]
theorem eG3_id {I : eI} {p q s : Nat} {f g h : Nat → Int32} (e1 : ∀ y, f y = I p y) (e2 : ∀ y, g y = I q y) (e3 : ∀ y, h y = I s y) : eG (eG (eG I p f) q g) s h = I := by
  funext z y
  by_cases hz0 : z = s
  · subst hz0; rw [eG_eq]; exact e3 y
  · rw [eG_ne hz0]
    by_cases hz : z = q
    · subst hz; rw [eG_eq]; exact e2 y
    · rw [eG_ne hz]
      by_cases hz2 : z = p
      · subst hz2; rw [eG_eq]; exact e1 y
      · rw [eG_ne hz2]
/-- one more cell of a row -/
theorem row_st {x N y : Nat} {r r2 : Nat → Int32} {v : Nat → Int32} (hx : x < N) (h1 : r x = v x) (h2 : ∀ y, y ≠ x → r y = r2 y) : (if x + 1 ≤ y ∧ y < N then v y else r y) = if x ≤ y ∧ y < N then v y else r2 y := by
  by_cases e : y = x
  · subst e
    rw [if_neg (by omega), if_pos (by omega), h1]
  · by_cases g : x + 1 ≤ y ∧ y < N
    · rw [if_pos g, if_pos (by omega)]
    · rw [if_neg g, if_neg (by omega), h2 y e]

theorem lp_t1 (d : Nat) {n : Nat} {t : eT} {R : eR} {Q : eQt} (hst : ST n t R) {x1 x2 x3 x4 x5 x6 : Value} {kk : Nat} (hk10 : kk ≤ 10) : ∀ (r x : Nat) (I : eI), x + r = kk → I 94 1 = nI kk → wp yX8_text cX8_text 8 (some .int) d 0 0 Q 0 0 116 [.ref 94, x1, x2, x3, x4, x5, x6, .int (nI kk)] [] n t (eG (eG I 95 (fun y => if x ≤ y ∧ y < kk then I 98 y else I 95 y)) 96 (fun y => if x ≤ y ∧ y < kk then I 99 y else I 96 y)) R → wp yX8_text cX8_text 8 (some .int) d 0 0 Q 0 0 73 [.ref 94, x1, x2, x3, x4, x5, x6, .int (nI x)] [] n t I R := by
  intro r
  induction r with
  | zero =>
    intro x I hx hk hq
    obtain rfl : x = kk := by omega
    have e0 : (eG (eG I 95 (fun y => if x ≤ y ∧ y < x then I 98 y else I 95 y)) 96 (fun y => if x ≤ y ∧ y < x then I 99 y else I 96 y)) = I := eG2_id (fun y => if_neg (by omega)) (fun y => if_neg (by omega))
    rw [e0] at hq
    refine wp_iload dX8_text_73 rfl ?_
    refine wp_aload_n (i := 0) dX8_text_75 rfl rfl ?_
    refine wp_getI dX8_text_76 fl_X8_143 rfl (st_k hst rfl) ?_
    refine wp_icmp_ge (tgt := 116) dX8_text_79 (by decide) (fun zq79 => ?_) (fun zq79 => absurd (by rw [hk]; exact nI_le (Nat.le_refl _) (by omega)) zq79) 
    exact hq
  | succ r ih =>
    intro x I hx hk hq
    refine wp_iload dX8_text_73 rfl ?_
    refine wp_aload_n (i := 0) dX8_text_75 rfl rfl ?_
    refine wp_getI dX8_text_76 fl_X8_143 rfl (st_k hst rfl) ?_
    refine wp_icmp_ge (tgt := 116) dX8_text_79 (by decide) (fun zq79 => absurd (show I 94 1 ≤ nI x from zq79) (by rw [hk]; exact nI_ge (show x < kk by omega) (by omega))) (fun zq79 => ?_) 
    refine wp_aload_n (i := 0) dX8_text_82 rfl rfl ?_
    refine wp_getR dX8_text_83 fl_X8_7 rfl (st_k hst rfl) (st_r hst rfl) ?_
    refine wp_iload dX8_text_86 rfl ?_
    refine wp_aload_n (i := 0) dX8_text_88 rfl rfl ?_
    refine wp_getR dX8_text_89 fl_X8_19 rfl (st_k hst rfl) (st_r hst rfl) ?_
    refine wp_iload dX8_text_92 rfl ?_
    refine wp_ild (j := x) dX8_text_94 (st_t hst rfl) rfl (by omega) ?_
    refine wp_ist (j := x) dX8_text_95 (st_t hst rfl) rfl (by omega) ?_
    refine wp_aload_n (i := 0) dX8_text_96 rfl rfl ?_
    refine wp_getR dX8_text_97 fl_X8_13 rfl (st_k hst rfl) (st_r hst rfl) ?_
    refine wp_iload dX8_text_100 rfl ?_
    refine wp_aload_n (i := 0) dX8_text_102 rfl rfl ?_
    refine wp_getR dX8_text_103 fl_X8_22 rfl (st_k hst rfl) (st_r hst rfl) ?_
    refine wp_iload dX8_text_106 rfl ?_
    refine wp_ild (j := x) dX8_text_108 (st_t hst rfl) rfl (by omega) ?_
    refine wp_ist (j := x) dX8_text_109 (st_t hst rfl) rfl (by omega) ?_
    refine wp_iinc_8_7 (v := nI (x + 1)) dX8_text_110 (n_add rfl rfl) ?_
    refine wp_goto (tgt := 73) dX8_text_113 (by decide) ?_
    refine ih (x + 1) (eU (eU I 95 x (I 98 x)) 96 x (I 99 x)) (by omega) (by exact hk) ?_
    have e9 : (eG (eG (eU (eU I 95 x (I 98 x)) 96 x (I 99 x)) 95 (fun y => if x + 1 ≤ y ∧ y < kk then (eU (eU I 95 x (I 98 x)) 96 x (I 99 x)) 98 y else (eU (eU I 95 x (I 98 x)) 96 x (I 99 x)) 95 y)) 96 (fun y => if x + 1 ≤ y ∧ y < kk then (eU (eU I 95 x (I 98 x)) 96 x (I 99 x)) 99 y else (eU (eU I 95 x (I 98 x)) 96 x (I 99 x)) 96 y)) = (eG (eG I 95 (fun y => if x ≤ y ∧ y < kk then I 98 y else I 95 y)) 96 (fun y => if x ≤ y ∧ y < kk then I 99 y else I 96 y)) := eG2_st (fun y => row_st (r := (eU (eU I 95 x (I 98 x)) 96 x (I 99 x)) 95) (r2 := I 95) (v := fun y => I 98 y) (show x < kk by omega) (by rw [eU_o (show (95 : Nat) ≠ 96 by decide), eU_at]) (fun y hy => by rw [eU_o (show (95 : Nat) ≠ 96 by decide), eU_c hy])) (fun y => row_st (r := (eU (eU I 95 x (I 98 x)) 96 x (I 99 x)) 96) (r2 := I 96) (v := fun y => I 99 y) (show x < kk by omega) (by rw [eU_at]) (fun y hy => by rw [eU_c hy, eU_o (show (96 : Nat) ≠ 95 by decide)]))
    rw [e9]
    exact hq

theorem lp_t2 (d : Nat) {n : Nat} {t : eT} {R : eR} {Q : eQt} (hst : ST n t R) {x1 x2 x3 x4 x5 x6 : Value} : ∀ (r x : Nat) (I : eI), x + r = 100 → wp yX8_text cX8_text 8 (some .int) d 0 0 Q 0 0 146 [.ref 94, x1, x2, x3, x4, x5, x6, .int (nI 100)] [] n t (eG I 97 (fun y => if x ≤ y ∧ y < 100 then I 100 y else I 97 y)) R → wp yX8_text cX8_text 8 (some .int) d 0 0 Q 0 0 119 [.ref 94, x1, x2, x3, x4, x5, x6, .int (nI x)] [] n t I R := by
  intro r
  induction r with
  | zero =>
    intro x I hx hq
    obtain rfl : x = 100 := by omega
    have e0 : (eG I 97 (fun y => if 100 ≤ y ∧ y < 100 then I 100 y else I 97 y)) = I := eG_id (fun y => if_neg (by omega))
    rw [e0] at hq
    refine wp_iload dX8_text_119 rfl ?_
    refine wp_bipush (v := 100) dX8_text_121 (by decide) ?_
    refine wp_icmp_ge (tgt := 146) dX8_text_123 (by decide) (fun zq123 => ?_) (fun zq123 => absurd (nI_le (show 100 ≤ 100 by decide) (by decide)) zq123) 
    exact hq
  | succ r ih =>
    intro x I hx hq
    refine wp_iload dX8_text_119 rfl ?_
    refine wp_bipush (v := 100) dX8_text_121 (by decide) ?_
    refine wp_icmp_ge (tgt := 146) dX8_text_123 (by decide) (fun zq123 => absurd zq123 (nI_ge (show x < 100 by omega) (by decide))) (fun zq123 => ?_) 
    refine wp_aload_n (i := 0) dX8_text_126 rfl rfl ?_
    refine wp_getR dX8_text_127 fl_X8_16 rfl (st_k hst rfl) (st_r hst rfl) ?_
    refine wp_iload dX8_text_130 rfl ?_
    refine wp_aload_n (i := 0) dX8_text_132 rfl rfl ?_
    refine wp_getR dX8_text_133 fl_X8_25 rfl (st_k hst rfl) (st_r hst rfl) ?_
    refine wp_iload dX8_text_136 rfl ?_
    refine wp_ild (j := x) dX8_text_138 (st_t hst rfl) rfl (by omega) ?_
    refine wp_ist (j := x) dX8_text_139 (st_t hst rfl) rfl (by omega) ?_
    refine wp_iinc_8_7 (v := nI (x + 1)) dX8_text_140 (n_add rfl rfl) ?_
    refine wp_goto (tgt := 119) dX8_text_143 (by decide) ?_
    refine ih (x + 1) (eU I 97 x (I 100 x)) (by omega) ?_
    have e9 : (eG (eU I 97 x (I 100 x)) 97 (fun y => if x + 1 ≤ y ∧ y < 100 then (eU I 97 x (I 100 x)) 100 y else (eU I 97 x (I 100 x)) 97 y)) = (eG I 97 (fun y => if x ≤ y ∧ y < 100 then I 100 y else I 97 y)) := eG_st (fun y => row_st (r := (eU I 97 x (I 100 x)) 97) (r2 := I 97) (v := fun y => I 100 y) (show x < 100 by omega) (by rw [eU_at]) (fun y hy => by rw [eU_c hy]))
    rw [e9]
    exact hq

theorem lp_t3 (d : Nat) {n : Nat} {t : eT} {R : eR} {Q : eQt} (hst : ST n t R) {x1 x2 x3 x4 x5 x6 : Value} : ∀ (r x : Nat) (I : eI), x + r = 40 → wp yX8_text cX8_text 8 (some .int) d 0 0 Q 0 0 180 [.ref 94, x1, x2, x3, x4, x5, x6, .int (nI 40)] [] n t (eG (eG I 106 (fun y => if x ≤ y ∧ y < 40 then (-9) else I 106 y)) 107 (fun y => if x ≤ y ∧ y < 40 then (-9) else I 107 y)) R → wp yX8_text cX8_text 8 (some .int) d 0 0 Q 0 0 149 [.ref 94, x1, x2, x3, x4, x5, x6, .int (nI x)] [] n t I R := by
  intro r
  induction r with
  | zero =>
    intro x I hx hq
    obtain rfl : x = 40 := by omega
    have e0 : (eG (eG I 106 (fun y => if 40 ≤ y ∧ y < 40 then (-9) else I 106 y)) 107 (fun y => if 40 ≤ y ∧ y < 40 then (-9) else I 107 y)) = I := eG2_id (fun y => if_neg (by omega)) (fun y => if_neg (by omega))
    rw [e0] at hq
    refine wp_iload dX8_text_149 rfl ?_
    refine wp_bipush (v := 40) dX8_text_151 (by decide) ?_
    refine wp_icmp_ge (tgt := 180) dX8_text_153 (by decide) (fun zq153 => ?_) (fun zq153 => absurd (nI_le (show 40 ≤ 40 by decide) (by decide)) zq153) 
    exact hq
  | succ r ih =>
    intro x I hx hq
    refine wp_iload dX8_text_149 rfl ?_
    refine wp_bipush (v := 40) dX8_text_151 (by decide) ?_
    refine wp_icmp_ge (tgt := 180) dX8_text_153 (by decide) (fun zq153 => absurd zq153 (nI_ge (show x < 40 by omega) (by decide))) (fun zq153 => ?_) 
    refine wp_aload_n (i := 0) dX8_text_156 rfl rfl ?_
    refine wp_getR dX8_text_157 fl_X8_44 rfl (st_k hst rfl) (st_r hst rfl) ?_
    refine wp_iload dX8_text_160 rfl ?_
    refine wp_bipush (v := (-9)) dX8_text_162 (by decide) ?_
    refine wp_ist (j := x) dX8_text_164 (st_t hst rfl) rfl (by omega) ?_
    refine wp_aload_n (i := 0) dX8_text_165 rfl rfl ?_
    refine wp_getR dX8_text_166 fl_X8_47 rfl (st_k hst rfl) (st_r hst rfl) ?_
    refine wp_iload dX8_text_169 rfl ?_
    refine wp_bipush (v := (-9)) dX8_text_171 (by decide) ?_
    refine wp_ist (j := x) dX8_text_173 (st_t hst rfl) rfl (by omega) ?_
    refine wp_iinc_8_7 (v := nI (x + 1)) dX8_text_174 (n_add rfl rfl) ?_
    refine wp_goto (tgt := 149) dX8_text_177 (by decide) ?_
    refine ih (x + 1) (eU (eU I 106 x ((-9))) 107 x ((-9))) (by omega) ?_
    have e9 : (eG (eG (eU (eU I 106 x ((-9))) 107 x ((-9))) 106 (fun y => if x + 1 ≤ y ∧ y < 40 then (-9) else (eU (eU I 106 x ((-9))) 107 x ((-9))) 106 y)) 107 (fun y => if x + 1 ≤ y ∧ y < 40 then (-9) else (eU (eU I 106 x ((-9))) 107 x ((-9))) 107 y)) = (eG (eG I 106 (fun y => if x ≤ y ∧ y < 40 then (-9) else I 106 y)) 107 (fun y => if x ≤ y ∧ y < 40 then (-9) else I 107 y)) := eG2_st (fun y => row_st (r := (eU (eU I 106 x ((-9))) 107 x ((-9))) 106) (r2 := I 106) (v := fun y => (-9)) (show x < 40 by omega) (by rw [eU_o (show (106 : Nat) ≠ 107 by decide), eU_at]) (fun y hy => by rw [eU_o (show (106 : Nat) ≠ 107 by decide), eU_c hy])) (fun y => row_st (r := (eU (eU I 106 x ((-9))) 107 x ((-9))) 107) (r2 := I 107) (v := fun y => (-9)) (show x < 40 by omega) (by rw [eU_at]) (fun y hy => by rw [eU_c hy, eU_o (show (107 : Nat) ≠ 106 by decide)]))
    rw [e9]
    exact hq

theorem lp_t4 (d : Nat) {n : Nat} {t : eT} {R : eR} {Q : eQt} (hst : ST n t R) {x1 x2 x3 x4 x5 x6 : Value} : ∀ (r x : Nat) (I : eI), x + r = 4 → wp yX8_text cX8_text 8 (some .int) d 0 0 Q 0 0 220 [.ref 94, x1, x2, x3, x4, x5, x6, .int (nI 4)] [] n t (eG (eG (eG I 104 (fun y => if x ≤ y ∧ y < 4 then 0 else I 104 y)) 105 (fun y => if x ≤ y ∧ y < 4 then 0 else I 105 y)) 114 (fun y => if x ≤ y ∧ y < 4 then (-9) else I 114 y)) R → wp yX8_text cX8_text 8 (some .int) d 0 0 Q 0 0 183 [.ref 94, x1, x2, x3, x4, x5, x6, .int (nI x)] [] n t I R := by
  intro r
  induction r with
  | zero =>
    intro x I hx hq
    obtain rfl : x = 4 := by omega
    have e0 : (eG (eG (eG I 104 (fun y => if 4 ≤ y ∧ y < 4 then 0 else I 104 y)) 105 (fun y => if 4 ≤ y ∧ y < 4 then 0 else I 105 y)) 114 (fun y => if 4 ≤ y ∧ y < 4 then (-9) else I 114 y)) = I := eG3_id (fun y => if_neg (by omega)) (fun y => if_neg (by omega)) (fun y => if_neg (by omega))
    rw [e0] at hq
    refine wp_iload dX8_text_183 rfl ?_
    refine wp_iconst (v := 4) dX8_text_185 (by decide) ?_
    refine wp_icmp_ge (tgt := 220) dX8_text_186 (by decide) (fun zq186 => ?_) (fun zq186 => absurd (nI_le (show 4 ≤ 4 by decide) (by decide)) zq186) 
    exact hq
  | succ r ih =>
    intro x I hx hq
    refine wp_iload dX8_text_183 rfl ?_
    refine wp_iconst (v := 4) dX8_text_185 (by decide) ?_
    refine wp_icmp_ge (tgt := 220) dX8_text_186 (by decide) (fun zq186 => absurd zq186 (nI_ge (show x < 4 by omega) (by decide))) (fun zq186 => ?_) 
    refine wp_aload_n (i := 0) dX8_text_189 rfl rfl ?_
    refine wp_getR dX8_text_190 fl_X8_37 rfl (st_k hst rfl) (st_r hst rfl) ?_
    refine wp_iload dX8_text_193 rfl ?_
    refine wp_iconst (v := 0) dX8_text_195 (by decide) ?_
    refine wp_zst (j := x) dX8_text_196 (st_t hst rfl) rfl (by omega) rfl ?_
    refine wp_aload_n (i := 0) dX8_text_197 rfl rfl ?_
    refine wp_getR dX8_text_198 fl_X8_41 rfl (st_k hst rfl) (st_r hst rfl) ?_
    refine wp_iload dX8_text_201 rfl ?_
    refine wp_iconst (v := 0) dX8_text_203 (by decide) ?_
    refine wp_zst (j := x) dX8_text_204 (st_t hst rfl) rfl (by omega) rfl ?_
    refine wp_aload_n (i := 0) dX8_text_205 rfl rfl ?_
    refine wp_getR dX8_text_206 fl_X8_68 rfl (st_k hst rfl) (st_r hst rfl) ?_
    refine wp_iload dX8_text_209 rfl ?_
    refine wp_bipush (v := (-9)) dX8_text_211 (by decide) ?_
    refine wp_ist (j := x) dX8_text_213 (st_t hst rfl) rfl (by omega) ?_
    refine wp_iinc_8_7 (v := nI (x + 1)) dX8_text_214 (n_add rfl rfl) ?_
    refine wp_goto (tgt := 183) dX8_text_217 (by decide) ?_
    refine ih (x + 1) (eU (eU (eU I 104 x (0)) 105 x (0)) 114 x ((-9))) (by omega) ?_
    have e9 : (eG (eG (eG (eU (eU (eU I 104 x (0)) 105 x (0)) 114 x ((-9))) 104 (fun y => if x + 1 ≤ y ∧ y < 4 then 0 else (eU (eU (eU I 104 x (0)) 105 x (0)) 114 x ((-9))) 104 y)) 105 (fun y => if x + 1 ≤ y ∧ y < 4 then 0 else (eU (eU (eU I 104 x (0)) 105 x (0)) 114 x ((-9))) 105 y)) 114 (fun y => if x + 1 ≤ y ∧ y < 4 then (-9) else (eU (eU (eU I 104 x (0)) 105 x (0)) 114 x ((-9))) 114 y)) = (eG (eG (eG I 104 (fun y => if x ≤ y ∧ y < 4 then 0 else I 104 y)) 105 (fun y => if x ≤ y ∧ y < 4 then 0 else I 105 y)) 114 (fun y => if x ≤ y ∧ y < 4 then (-9) else I 114 y)) := eG3_st (fun y => row_st (r := (eU (eU (eU I 104 x (0)) 105 x (0)) 114 x ((-9))) 104) (r2 := I 104) (v := fun y => 0) (show x < 4 by omega) (by rw [eU_o (show (104 : Nat) ≠ 114 by decide), eU_o (show (104 : Nat) ≠ 105 by decide), eU_at]) (fun y hy => by rw [eU_o (show (104 : Nat) ≠ 114 by decide), eU_o (show (104 : Nat) ≠ 105 by decide), eU_c hy])) (fun y => row_st (r := (eU (eU (eU I 104 x (0)) 105 x (0)) 114 x ((-9))) 105) (r2 := I 105) (v := fun y => 0) (show x < 4 by omega) (by rw [eU_o (show (105 : Nat) ≠ 114 by decide), eU_at]) (fun y hy => by rw [eU_o (show (105 : Nat) ≠ 114 by decide), eU_c hy, eU_o (show (105 : Nat) ≠ 104 by decide)])) (fun y => row_st (r := (eU (eU (eU I 104 x (0)) 105 x (0)) 114 x ((-9))) 114) (r2 := I 114) (v := fun y => (-9)) (show x < 4 by omega) (by rw [eU_at]) (fun y hy => by rw [eU_c hy, eU_o (show (114 : Nat) ≠ 105 by decide), eU_o (show (114 : Nat) ≠ 104 by decide)]))
    rw [e9]
    exact hq

def TM (I I2 : eI) (m : Nat) (K V : Nat → Nat) (F : Nat → Nat → Nat) : Prop := I2 94 1 = nI (m + 1) ∧ (∀ x, x ≤ m → I2 95 x = nI (K x) ∧ I2 96 x = nI (V x)) ∧ (∀ a, a < 10 → ∀ b, b < 10 → I2 97 (10 * a + b) = nI (F a b)) ∧ (∀ x, x < 40 → I2 106 x = -9 ∧ I2 107 x = -9) ∧ (∀ p, p < 4 → I2 104 p = 0 ∧ I2 105 p = 0 ∧ I2 114 p = -9) ∧ I2 94 0 = 0 ∧ (∀ f, f ≠ 0 → f ≠ 1 → f ≠ 5 → I2 94 f = I 94 f) ∧ ∀ z, (z < 94 ∨ (100 < z ∧ z < 104) ∨ (107 < z ∧ z ≠ 114)) → I2 z = I z

theorem c_textM (d : Nat) {n : Nat} {t : eT} {I : eI} {R : eR} {Q : Int32 → Nat → eT → eI → eR → Prop} (hst : ST n t R) (hsz : ∀ j, j < 4 → I 124 j < 0 ∨ ∃ len, len ≤ 60 ∧ I 124 j = nI len) {x l i v : Int32} (h1 : (∀ j, j < 4 → x ≠ nI j) → Q (-1) n t (eU I 94 0 0) R) (h2 : ∀ j, j < 4 → x = nI j → ¬ (0 ≤ l.toInt ∧ l.toInt ≤ 2) → Q (-2) n t (eU I 94 0 0) R) (h3 : ∀ j, j < 4 → x = nI j → (0 ≤ l.toInt ∧ l.toInt ≤ 2) → I 124 j < 0 → Q (-11) n t (eU I 94 0 1) R) (h4 : ∀ j la, j < 4 → x = nI j → (0 ≤ l.toInt ∧ l.toInt ≤ 2) → la ≤ 60 → I 124 j = nI la → ¬ I 125 j = l → Q (-12) n t (eU I 94 0 2) R) (h5 : ∀ j la, j < 4 → x = nI j → la ≤ 60 → I 124 j = nI la → I 125 j = l → (0 ≤ l.toInt ∧ l.toInt ≤ 2) → v.toInt < 0 → Q (-14) n t (eU I 94 0 4) R) (h6 : ∀ j la, j < 4 → x = nI j → la ≤ 60 → I 124 j = nI la → I 125 j = l → (0 ≤ l.toInt ∧ l.toInt ≤ 2) → 0 ≤ v.toInt → ¬ (0 ≤ i.toInt ∧ i.toInt + v.toInt ≤ la) → Q (-13) n t (eU I 94 0 3) R) (h7 : ∀ j la, j < 4 → x = nI j → la ≤ 60 → I 124 j = nI la → I 125 j = l → (0 ≤ l.toInt ∧ l.toInt ≤ 2) → ∀ i0 v0, i0 + v0 ≤ la → i = nI i0 → v = nI v0 → ∀ z I2, z < v0 → (∃ s, aft (fun z => I 126 (60 * j + i0 + z)) z = some s) → aft (fun z => I 126 (60 * j + i0 + z)) (z + 1) = none → FrM I I2 → Q (-100 - nI z) n t (eU I2 94 0 0) R) (h8 : ∀ j la, j < 4 → x = nI j → la ≤ 60 → I 124 j = nI la → I 125 j = l → (0 ≤ l.toInt ∧ l.toInt ≤ 2) → ∀ i0 v0, i0 + v0 ≤ la → i = nI i0 → v = nI v0 → ∀ s I2, aft (fun z => I 126 (60 * j + i0 + z)) v0 = some s → ¬ (1 < s.1 ∧ s.1 < 5) → FrM I I2 → Q (-100 - nI v0) n t (eU I2 94 0 0) R) (h9 : ∀ j la, j < 4 → x = nI j → la ≤ 60 → I 124 j = nI la → I 125 j = l → (0 ≤ l.toInt ∧ l.toInt ≤ 2) → ∀ i0 v0, i0 + v0 ≤ la → i = nI i0 → v = nI v0 → ∀ w m K V F I2 I3, aft (fun z => I 126 (60 * j + i0 + z)) v0 = some (w, m, K, V, F) → (1 < w ∧ w < 5) → m ≤ 9 → FrM I I2 → TM I2 I3 m K V F → Q (nI (m + 1)) n t I3 R) : MC yX8_text cX8_text 8 (some .int) (d + 3) 0 0 [.ref 94, .int x, .int l, .int i, .int v] n t I R (qI Q) := by
  refine mc_intro (L0 := [.ref 94, .int x, .int l, .int i, .int v, vU, vU, vU]) (by decide) rfl (Nat.le_of_ble_eq_true rfl) ?_
  refine wp_iload_n (i := 1) dX8_text_0 rfl rfl ?_
  refine wp_S1i dX8_text_1 mw_883 mw_884 mi_X8_noSheet (Nat.le_of_ble_eq_true rfl) (Nat.le_refl _) (Nat.le_refl _) (c_noSheet _ (fun j hj ej => ?_) (fun no => ?_)) 
  · subst ej
    refine wp_if_eq0 (tgt := 13) dX8_text_4 (by decide) ?_
    refine wp_aload_n (i := 0) dX8_text_13 rfl rfl ?_
    refine wp_iload_n (i := 1) dX8_text_14 rfl rfl ?_
    refine wp_iload_n (i := 2) dX8_text_15 rfl rfl ?_
    refine wp_iload_n (i := 3) dX8_text_16 rfl rfl ?_
    refine wp_iload dX8_text_17 rfl ?_
    refine wp_i2l dX8_text_19 ?_
    refine wp_V4i dX8_text_20 mw_894 mw_896 ms_28 mi_X8_barred (Nat.le_of_ble_eq_true rfl) (Nat.le_refl _) (Nat.le_refl _) (st_k hst rfl) (by decide) rfl (c_barred _ hst hsz hj (fun g1 => ?_) (fun g1 g2 => ?_) (fun la g1 g2 g3 g4 => ?_) (fun la g1 g2 g3 g4 g5 => ?_) (fun la g1 g2 g3 g4 g5 g6 => ?_) (fun la i0 v0 g1 hla ela g4 hiv ei ev => ?_)) 
    · skip
      refine wp_istore_8_5 dX8_text_23 (by first | rfl | assumption) ?_
      refine wp_iload dX8_text_25 rfl ?_
      refine wp_if_ge (tgt := 33) dX8_text_27 (by decide) (fun zq27 => absurd zq27 (by decide)) (fun zq27 => ?_) 
      refine wp_iload dX8_text_30 rfl ?_
      exact wp_retI dX8_text_32 rfl (Nat.le_refl _) (Nat.le_refl _) (h2 j hj rfl g1)
    · skip
      refine wp_istore_8_5 dX8_text_23 (by first | rfl | assumption) ?_
      refine wp_iload dX8_text_25 rfl ?_
      refine wp_if_ge (tgt := 33) dX8_text_27 (by decide) (fun zq27 => absurd zq27 (by decide)) (fun zq27 => ?_) 
      refine wp_iload dX8_text_30 rfl ?_
      exact wp_retI dX8_text_32 rfl (Nat.le_refl _) (Nat.le_refl _) (h3 j hj rfl g1 g2)
    · skip
      refine wp_istore_8_5 dX8_text_23 (by first | rfl | assumption) ?_
      refine wp_iload dX8_text_25 rfl ?_
      refine wp_if_ge (tgt := 33) dX8_text_27 (by decide) (fun zq27 => absurd zq27 (by decide)) (fun zq27 => ?_) 
      refine wp_iload dX8_text_30 rfl ?_
      exact wp_retI dX8_text_32 rfl (Nat.le_refl _) (Nat.le_refl _) (h4 j la hj rfl g1 g2 g3 g4)
    · skip
      refine wp_istore_8_5 dX8_text_23 (by first | rfl | assumption) ?_
      refine wp_iload dX8_text_25 rfl ?_
      refine wp_if_ge (tgt := 33) dX8_text_27 (by decide) (fun zq27 => absurd zq27 (by decide)) (fun zq27 => ?_) 
      refine wp_iload dX8_text_30 rfl ?_
      exact wp_retI dX8_text_32 rfl (Nat.le_refl _) (Nat.le_refl _) (h5 j la hj rfl g2 g3 g4 g1 g5)
    · skip
      refine wp_istore_8_5 dX8_text_23 (by first | rfl | assumption) ?_
      refine wp_iload dX8_text_25 rfl ?_
      refine wp_if_ge (tgt := 33) dX8_text_27 (by decide) (fun zq27 => absurd zq27 (by decide)) (fun zq27 => ?_) 
      refine wp_iload dX8_text_30 rfl ?_
      exact wp_retI dX8_text_32 rfl (Nat.le_refl _) (Nat.le_refl _) (h6 j la hj rfl g2 g3 g4 g1 g5 g6)
    · subst ei; subst ev
      refine wp_istore_8_5 dX8_text_23 (by first | rfl | assumption) ?_
      refine wp_iload dX8_text_25 rfl ?_
      refine wp_if_ge (tgt := 33) dX8_text_27 (by decide) (fun zq27 => ?_) (fun zq27 => absurd zq27 (by decide)) 
      refine wp_aload_n (i := 0) dX8_text_33 rfl rfl ?_
      refine wp_bipush (v := 60) dX8_text_34 (by decide) ?_
      refine wp_iload_n (i := 1) dX8_text_36 rfl rfl ?_
      refine wp_imul dX8_text_37 ?_
      refine wp_iload_n (i := 3) dX8_text_38 rfl rfl ?_
      refine wp_iadd dX8_text_39 ?_
      refine wp_topI (v2 := nI ((60 * j) + i0)) (n_add (n_mul rfl rfl) rfl) ?_
      refine wp_iload dX8_text_40 rfl ?_
      refine wp_V2i dX8_text_42 mw_906 mw_908 ms_30 mi_X8_read (Nat.le_of_ble_eq_true rfl) (Nat.le_refl _) (Nat.le_refl _) (st_k hst rfl) (by decide) rfl (c_read _ hst (show 60 * j + i0 + v0 ≤ 240 by omega) (cds := (fun z => I 126 (60 * j + i0 + z))) (fun z hz => rfl) (fun z I2 hz hs0 hs1 hf => ?_) (fun s I2 hs0 hs1 hf => ?_) (fun w m K V F I2 hs0 hs1 hR hf => ?_)) 
      · have hz60 : z < 1000 := by omega
        refine wp_istore_8_6 dX8_text_45 (by first | rfl | assumption) ?_
        refine wp_iload dX8_text_47 rfl ?_
        refine wp_if_lt (tgt := 62) dX8_text_49 (by decide) (fun zq49 => absurd zq49 (nI_pos (by omega))) (fun zq49 => ?_) 
        refine wp_aload_n (i := 0) dX8_text_52 rfl rfl ?_
        refine wp_bipush (v := (-100)) dX8_text_53 (by decide) ?_
        refine wp_iload dX8_text_55 rfl ?_
        refine wp_isub dX8_text_57 ?_
        refine wp_V1i dX8_text_58 mw_890 mw_892 ms_27 mi_X8_refused (Nat.le_of_ble_eq_true rfl) (Nat.le_refl _) (Nat.le_refl _) (st_k hst rfl) (by decide) rfl (c_refused _ hst ?_) 
        exact wp_retI dX8_text_61 rfl (Nat.le_refl _) (Nat.le_refl _) (h7 j la hj rfl hla ela g4 g1 i0 v0 hiv rfl rfl z I2 hz hs0 hs1 hf)
      · skip
        refine wp_istore_8_6 dX8_text_45 (by first | rfl | assumption) ?_
        refine wp_iload dX8_text_47 rfl ?_
        refine wp_if_lt (tgt := 62) dX8_text_49 (by decide) (fun zq49 => absurd zq49 (nI_pos (by omega))) (fun zq49 => ?_) 
        refine wp_aload_n (i := 0) dX8_text_52 rfl rfl ?_
        refine wp_bipush (v := (-100)) dX8_text_53 (by decide) ?_
        refine wp_iload dX8_text_55 rfl ?_
        refine wp_isub dX8_text_57 ?_
        refine wp_V1i dX8_text_58 mw_890 mw_892 ms_27 mi_X8_refused (Nat.le_of_ble_eq_true rfl) (Nat.le_refl _) (Nat.le_refl _) (st_k hst rfl) (by decide) rfl (c_refused _ hst ?_) 
        exact wp_retI dX8_text_61 rfl (Nat.le_refl _) (Nat.le_refl _) (h8 j la hj rfl hla ela g4 g1 i0 v0 hiv rfl rfl s I2 hs0 hs1 hf)
      · have hm9 := hR.2.1
        refine wp_istore_8_6 dX8_text_45 (by first | rfl | assumption) ?_
        refine wp_iload dX8_text_47 rfl ?_
        refine wp_if_lt (tgt := 62) dX8_text_49 (by decide) (fun zq49 => ?_) (fun zq49 => absurd zq49 (by decide)) 
        refine wp_aload_n (i := 0) dX8_text_62 rfl rfl ?_
        refine wp_aload_n (i := 0) dX8_text_63 rfl rfl ?_
        refine wp_getI dX8_text_64 fl_X8_146 rfl (st_k hst rfl) ?_
        refine wp_putI dX8_text_67 fl_X8_143 rfl (Or.inl rfl) (st_k hst rfl) ?_
        refine wp_iconst (v := 0) dX8_text_70 (by decide) ?_
        refine wp_istore_8_7 dX8_text_71 (by first | rfl | assumption) ?_
        refine lp_t1 _ hst (kk := m + 1) (by omega) (m + 1) 0 _ (by omega) rfl ?_
        refine wp_iconst (v := 0) dX8_text_116 (by decide) ?_
        refine wp_istore_8_7 dX8_text_117 (by first | rfl | assumption) ?_
        refine lp_t2 _ hst 100 0 _ rfl ?_
        refine wp_iconst (v := 0) dX8_text_146 (by decide) ?_
        refine wp_istore_8_7 dX8_text_147 (by first | rfl | assumption) ?_
        refine lp_t3 _ hst 40 0 _ rfl ?_
        refine wp_iconst (v := 0) dX8_text_180 (by decide) ?_
        refine wp_istore_8_7 dX8_text_181 (by first | rfl | assumption) ?_
        refine lp_t4 _ hst 4 0 _ rfl ?_
        refine wp_aload_n (i := 0) dX8_text_220 rfl rfl ?_
        refine wp_aload_n (i := 0) dX8_text_221 rfl rfl ?_
        refine wp_getI dX8_text_222 fl_X8_143 rfl (st_k hst rfl) ?_
        refine wp_V1i dX8_text_225 mw_890 mw_892 ms_27 mi_X8_refused (Nat.le_of_ble_eq_true rfl) (Nat.le_refl _) (Nat.le_refl _) (st_k hst rfl) (by decide) rfl (c_refused _ hst ?_) 
        refine wp_retI dX8_text_228 rfl (Nat.le_refl _) (Nat.le_refl _) (h9 j la hj rfl hla ela g4 g1 i0 v0 hiv rfl rfl w m K V F I2 _ hs0 hs1 hm9 hf ⟨rfl, fun x hx => ?_, fun a ha b hb => ?_, fun x hx => ?_, fun p hp => ?_, rfl, fun f h1 h2 h3 => ?_, fun z hz => ?_⟩)
        · refine ⟨?_, ?_⟩
          · show (if 0 ≤ x ∧ x < m + 1 then I2 98 x else _) = _
            rw [if_pos (by omega)]
            exact (hR.2.2.2.1 x (by omega)).1
          · show (if 0 ≤ x ∧ x < m + 1 then I2 99 x else _) = _
            rw [if_pos (by omega)]
            exact (hR.2.2.2.1 x (by omega)).2
        · show (if 0 ≤ 10 * a + b ∧ 10 * a + b < 100 then I2 100 (10 * a + b) else _) = _
          rw [if_pos (by omega)]
          exact hR.2.2.2.2 a b ha hb
        · refine ⟨?_, ?_⟩
          · show (if 0 ≤ x ∧ x < 40 then (-9 : Int32) else _) = _
            rw [if_pos (by omega)]
          · show (if 0 ≤ x ∧ x < 40 then (-9 : Int32) else _) = _
            rw [if_pos (by omega)]
        · refine ⟨?_, ?_, ?_⟩
          · show (if 0 ≤ p ∧ p < 4 then (0 : Int32) else _) = _
            rw [if_pos (by omega)]
          · show (if 0 ≤ p ∧ p < 4 then (0 : Int32) else _) = _
            rw [if_pos (by omega)]
          · show (if 0 ≤ p ∧ p < 4 then (-9 : Int32) else _) = _
            rw [if_pos (by omega)]
        · rw [eU_c h1]
          show eU (eU I2 94 5 (nI (m + 1))) 94 1 _ 94 f = _
          rw [eU_c h2, eU_c h3]
        · rw [eU_ne (by omega), eG_ne (by omega), eG_ne (by omega), eG_ne (by omega), eG_ne (by omega), eG_ne (by omega), eG_ne (by omega), eG_ne (by omega), eG_ne (by omega), eU_ne (by omega), eU_ne (by omega)]
        skip
  · skip
    refine wp_if_eq1 (tgt := 13) dX8_text_4 (by decide) ?_
    refine wp_aload_n (i := 0) dX8_text_7 rfl rfl ?_
    refine wp_iconst (v := (-1)) dX8_text_8 (by decide) ?_
    refine wp_V1i dX8_text_9 mw_890 mw_892 ms_27 mi_X8_refused (Nat.le_of_ble_eq_true rfl) (Nat.le_refl _) (Nat.le_refl _) (st_k hst rfl) (by decide) rfl (c_refused _ hst ?_) 
    exact wp_retI dX8_text_12 rfl (Nat.le_refl _) (Nat.le_refl _) (h1 no)

