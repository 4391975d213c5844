def atB (sel : Nat → Bool) (b : BS) (x : Nat) : Int32 := match b with
  | none => -9
  | some q => if sel x = true then nI (q.2 (ci sel x)) else -9
theorem selF_bt {k sm : Nat} (hk : k ≤ 10) (h : sm < 2 ^ k) : ∀ x, x < 10 → bt (nI sm) x = selF k sm x := by
  intro x hx
  have hp := pow_b k hk
  have e1 := bt_iff (nI sm) (show x < 16 by omega)
  have e2 := bit_nI sm (by omega) x hx
  rw [selF_ext hk h]
  cases hb : selF 10 sm x with
  | true => exact e1.mp (e2.mpr (selF_t.mp hb).2)
  | false =>
    cases hc : bt (nI sm) x with
    | false => rfl
    | true =>
      have h1 : selF 10 sm x = true := selF_t.mpr ⟨hx, e2.mp (e1.mpr hc)⟩
      rw [hb] at h1
      cases h1
theorem ci_pos10 {k sm : Nat} (hk : k ≤ 10) (h : sm < 2 ^ k) (h0 : 0 < sm) : 1 ≤ ci (selF k sm) 10 := Nat.le_trans (ci_pos k hk sm h h0) (ci_mono _ hk)
/-- what a new laying leaves -/
def RcC (I I2 : eI) (j v : Nat) (sel : Nat → Bool) (q : Nat × (Nat → Nat)) : Prop := (∀ a, a < 10 → bt (I2 v 0) a = sel a) ∧ (∀ x, x < 10 → sel x = true → I2 (v + 1) x = nI (q.2 (ci sel x)) ∧ q.2 (ci sel x) < 12) ∧ I2 (54 + 10 * j) 4 = -9 ∧ (∀ a, (a < 35 ∨ (47 < a ∧ a < 128) ∨ 131 < a) → a ≠ 54 + 10 * j → a ≠ v → a ≠ v + 1 → I2 a = I a) ∧ ∀ f, f ≠ 4 → I2 (54 + 10 * j) f = I (54 + 10 * j) f
def RcM (I I2 : eI) (j : Nat) (sel : Nat → Bool) (q : Nat × (Nat → Nat)) : Prop := (∀ x, x < 10 → I2 106 (10 * j + x) = if sel x = true then nI (q.2 (ci sel x)) else -9) ∧ (∀ x, x < 10 → I2 107 (10 * j + x) = I 106 (10 * j + x)) ∧ I2 104 j = 1 ∧ I2 105 j = I 104 j ∧ I2 114 j = -9 ∧ (∀ y, (y < 10 * j ∨ 10 * j + 10 ≤ y) → I2 106 y = I 106 y ∧ I2 107 y = I 107 y) ∧ (∀ y, y ≠ j → I2 104 y = I 104 y ∧ I2 105 y = I 105 y ∧ I2 114 y = I 114 y) ∧ (∀ a, (a < 94 ∨ (94 < a ∧ a < 104) ∨ (110 < a ∧ a ≠ 114)) → I2 a = I a) ∧ ∀ f, f ≠ 17 → f ≠ 21 → I2 94 f = I 94 f
theorem c_lbecome (d : Nat) {n : Nat} {t : eT} {I : eI} {R : eR} {Q : Nat → eT → eI → eR → Prop} (hst : ST n t R) {v : Nat} (hv : 47 < v) (htv : (t v).1 = 0) (hr1 : R v 1 = some (v + 1)) (htp : t (v + 1) = (9, 10)) (hq : ∀ I2 : eI, I2 v 0 = I 36 0 → (∀ x, x < 10 → I2 (v + 1) x = I 37 x) → (∀ a, a ≠ v → a ≠ v + 1 → I2 a = I a) → Q n t I2 R) : MC yX0_become cX0_become 2 none (d + 1) 0 0 [.ref v, .ref 36] n t I R (qV Q) := by
  refine mc_intro (L0 := [.ref v, .ref 36]) (by decide) rfl (Nat.le_of_ble_eq_true rfl) ?_
  refine wp_aload_n (i := 0) dX0_become_0 rfl rfl ?_
  refine wp_aload_n (i := 1) dX0_become_1 rfl rfl ?_
  refine wp_getI dX0_become_2 fl_X0_9 rfl (st_k hst rfl) ?_
  refine wp_putI dX0_become_5 fl_X0_9 rfl (Or.inl rfl) htv ?_
  refine wp_aload_n (i := 1) dX0_become_8 rfl rfl ?_
  refine wp_getR dX0_become_9 fl_X0_15 rfl (st_k hst rfl) (st_r hst rfl) ?_
  refine wp_iconst (v := 0) dX0_become_12 (by decide) ?_
  refine wp_aload_n (i := 0) dX0_become_13 rfl rfl ?_
  refine wp_getR dX0_become_14 fl_X0_15 rfl htv hr1 ?_
  refine wp_iconst (v := 0) dX0_become_17 (by decide) ?_
  refine wp_bipush (v := 10) dX0_become_18 (by decide) ?_
  refine wp_copy dX0_become_20 mw_472 (by rw [st_t hst (show T0 37 = some (9, 10) from rfl)]) (by rw [htp]) (by decide) (by decide) (by decide) (by rw [st_t hst (show T0 37 = some (9, 10) from rfl)]; decide) (by rw [htp]; decide) (Nat.le_of_ble_eq_true rfl) ?_
  rw [show (0 : Int32).toNatClampNeg = 0 by decide, show (10 : Int32).toNatClampNeg = 10 by decide]
  exact wp_retV dX0_become_23 rfl (Nat.le_refl _) (Nat.le_refl _) (hq _ (by rw [eG_ne (by omega), eU_at]) (fun x hx => by rw [eG_eq, pk_cpy_in (by omega) (by omega), eU_ne (by omega)]; exact congrArg _ (by omega)) (fun a a1 a2 => by rw [eG_ne a2, eU_ne a1]))

theorem ST_sw {n : Nat} {t : eT} {R : eR} {j : Nat} {a b : Option Nat} (h : ST n t R) (hj : j < 4) : ST n t (eU (eU R (54 + 10 * j) 1 a) (54 + 10 * j) 2 b) := by
  refine ⟨h.1, h.2.1, fun x f y e => ?_⟩
  have hne : ¬ (x = 54 + 10 * j ∧ (f = 1 ∨ f = 2)) := by
    rintro ⟨rfl, g⟩
    rcases (show j = 0 ∨ j = 1 ∨ j = 2 ∨ j = 3 by omega) with rfl | rfl | rfl | rfl <;> rcases g with rfl | rfl <;> cases e
  have e1 : eU (eU R (54 + 10 * j) 1 a) (54 + 10 * j) 2 b x f = eU R (54 + 10 * j) 1 a x f := if_neg (fun g => hne ⟨g.1, Or.inr g.2⟩)
  have e2 : eU R (54 + 10 * j) 1 a x f = R x f := if_neg (fun g => hne ⟨g.1, Or.inl g.2⟩)
  rw [e1, e2]
  exact h.2.2 x f y e

theorem c_recv (d : Nat) {n : Nat} {t : eT} {I : eI} {R : eR} {Q : Nat → eT → eI → eR → Prop} (hst : ST n t R) {j u v : Nat} (hj : j < 4) (hu : R (54 + 10 * j) 1 = some u) (hv : R (54 + 10 * j) 2 = some v) (hv47 : 47 < v) (hvA : v ≠ 54 + 10 * j) (hvB : v + 1 ≠ 54 + 10 * j) (htv : (t v).1 = 0) (hr1 : R v 1 = some (v + 1)) (htp : t (v + 1) = (9, 10)) (hq : ∀ I2 : eI, I2 v 0 = I 36 0 → (∀ x, x < 10 → I2 (v + 1) x = I 37 x) → I2 (54 + 10 * j) 4 = -9 → (∀ a, a ≠ 54 + 10 * j → a ≠ v → a ≠ v + 1 → I2 a = I a) → (∀ f, f ≠ 4 → I2 (54 + 10 * j) f = I (54 + 10 * j) f) → Q n t I2 (eU (eU R (54 + 10 * j) 1 (some v)) (54 + 10 * j) 2 (some u))) : MC yX3_receiveLaying cX3_receiveLaying 2 none (d + 2) 0 0 [.ref (54 + 10 * j), .ref 36] n t I R (qV Q) := by
  refine mc_intro (L0 := [.ref (54 + 10 * j), .ref 36]) (by decide) rfl (Nat.le_of_ble_eq_true rfl) ?_
  refine wp_aload_n (i := 0) dX3_receiveLaying_0 rfl rfl ?_
  refine wp_V0v dX3_receiveLaying_1 mw_464 mw_465 mw_466 mi_X3_swapLayings (Nat.le_of_ble_eq_true rfl) (Nat.le_refl _) (Nat.le_refl _) (sp_k0 hst (by omega)) (by decide) rfl (c_swap _ hst hj hu hv ?_) 
  refine wp_aload_n (i := 0) dX3_receiveLaying_4 rfl rfl ?_
  refine wp_getR dX3_receiveLaying_5 fl_X3_18 rfl (sp_k0 hst (by omega)) (by rw [eU_c (show (1 : Nat) ≠ 2 by decide), eU_at]) ?_
  refine wp_aload_n (i := 1) dX3_receiveLaying_8 rfl rfl ?_
  have hst2 : ST n t (eU (eU R (54 + 10 * j) 1 (some v)) (54 + 10 * j) 2 (some u)) := ST_sw hst hj
  refine wp_V1v dX3_receiveLaying_9 mw_468 mw_469 mw_470 mi_X0_become (Nat.le_of_ble_eq_true rfl) (Nat.le_refl _) (Nat.le_refl _) htv (by decide) rfl (c_lbecome _ hst2 hv47 htv (by rw [eU_o hvA, eU_o hvA]; exact hr1) htp (fun I2 g1 g2 g3 => ?_)) 
  exact wp_retV dX3_receiveLaying_12 rfl (Nat.le_refl _) (Nat.le_refl _) (hq I2 (by rw [g1, eU_o (by omega)]) (fun x hx => by rw [g2 x hx, eU_o (by omega)]) (by rw [g3 _ hvA.symm hvB.symm, eU_at]) (fun a a1 a2 a3 => by rw [g3 a a2 a3, eU_ne a1]) (fun f hf => by rw [g3 _ hvA.symm hvB.symm, eU_c hf]))

theorem c_placeOf (d : Nat) {n : Nat} {t : eT} {I : eI} {R : eR} {Q : Int32 → Nat → eT → eI → eR → Prop} (hst : ST n t R) {x : Nat} (hx : x < 10) (h1 : bt (I 36 0) x = true → Q (I 37 x) n t I R) (h0 : ¬ bt (I 36 0) x = true → Q (-9) n t I R) : MC yX0_placeOf cX0_placeOf 2 (some .int) (d + 1) 0 0 [.ref 36, .int (nI x)] n t I R (qI Q) := by
  refine mc_intro (L0 := [.ref 36, .int (nI x)]) (by decide) rfl (Nat.le_of_ble_eq_true rfl) ?_
  refine wp_aload_n (i := 0) dX0_placeOf_0 rfl rfl ?_
  refine wp_iload_n (i := 1) dX0_placeOf_1 rfl rfl ?_
  refine wp_V1i dX0_placeOf_2 mw_452 mw_453 mw_454 mi_X0_hasPart (Nat.le_of_ble_eq_true rfl) (Nat.le_refl _) (Nat.le_refl _) (st_k hst rfl) (by decide) rfl (c_hasPart _ (st_k hst rfl) (fun ba => ?_) (fun ba => ?_)) 
  · skip
    refine wp_if_eq1 (tgt := 17) dX0_placeOf_5 (by decide) ?_
    refine wp_aload_n (i := 0) dX0_placeOf_8 rfl rfl ?_
    refine wp_getR dX0_placeOf_9 fl_X0_15 rfl (st_k hst rfl) (st_r hst rfl) ?_
    refine wp_iload_n (i := 1) dX0_placeOf_12 rfl rfl ?_
    refine wp_ild (j := x) dX0_placeOf_13 (st_t hst rfl) rfl (by omega) ?_
    refine wp_goto (tgt := 19) dX0_placeOf_14 (by decide) ?_
    exact wp_retI dX0_placeOf_19 rfl (Nat.le_refl _) (Nat.le_refl _) (h1 ((bt_at _ (by omega)).mp ba))
  · skip
    refine wp_if_eq0 (tgt := 17) dX0_placeOf_5 (by decide) ?_
    refine wp_bipush (v := (-9)) dX0_placeOf_17 (by decide) ?_
    exact wp_retI dX0_placeOf_19 rfl (Nat.le_refl _) (Nat.le_refl _) (h0 (fun g => ba ((bt_at _ (by omega)).mpr g)))

theorem nI_m9x {a : Nat} (h : a ≤ 24750) : ¬ nI a = -9 := fun g => by
  have e := congrArg Int32.toInt g
  rw [nI_toInt (by omega)] at e
  have e2 : (-9 : Int32).toInt = -9 := by decide
  omega

theorem c_best (d : Nat) {n : Nat} {t : eT} {I : eI} {R : eR} {Q : Int32 → Nat → eT → eI → eR → Prop} (hst : ST n t R) {m : Nat} (hm : I 4 3 = nI m) (hm4 : m ≤ 4) {k : Nat} (hk : I 5 0 = nI k) (hk4 : k ≤ 10) {j : Nat} (hjm : j < m) {fv : Nat → Nat → Nat} (hfb : ∀ x y, fv x y ≤ 99) {w hd : Nat} (hw2 : w ≤ 2) (hd10 : hd ≤ 10) {rv : Int32} (hF : ∀ x y, x < k → y < k → I (9 + x) y = nI (fv x y)) (hw0 : I (55 + 10 * j) 0 = nI w) (hrv : I (55 + 10 * j) 1 = rv) (hhd : I (55 + 10 * j) 2 = nI hd) (hSK : SK I) {v x : Int32} (h1 : (∀ i, i < k → x ≠ nI i) → x ≠ -1 → Q (-1) n t I R) (h2 : ((∃ i, i < k ∧ x = nI i) ∨ x = -1) → ¬ (0 < v.toInt ∧ v.toInt < 2 ^ k) → Q (-2) n t I R) (h2b : ((∃ i, i < k ∧ x = nI i) ∨ x = -1) → ∀ sm, 0 < sm → sm < 2 ^ k → v = nI sm → ¬ ci (selF k sm) 10 ≤ 5 → Q (-2) n t I R) (h3 : x = -1 → ∀ sm, 0 < sm → sm < 2 ^ k → v = nI sm → ci (selF k sm) 10 ≤ 5 → ∀ I2, FrS I I2 → Q (bsI (seekB (selF k sm) fv w hd rv)) n t I2 R) (h4 : ∀ i, i < k → x = nI i → ∀ sm, 0 < sm → sm < 2 ^ k → v = nI sm → ci (selF k sm) 10 ≤ 5 → ∀ I2, FrS I I2 → Q (atB (selF k sm) (seekB (selF k sm) fv w hd rv) i) n t I2 R) : MC yX7_best cX7_best 5 (some .int) (d + 10) 0 0 [.ref 4, .int (nI j), .int v, .int x] n t I R (qI Q) := by
  refine mc_intro (L0 := [.ref 4, .int (nI j), .int v, .int x, vU]) (by decide) rfl (Nat.le_of_ble_eq_true rfl) ?_
  refine wp_aload_n (i := 0) dX7_best_0 rfl rfl ?_
  refine wp_iload_n (i := 1) dX7_best_1 rfl rfl ?_
  refine wp_V1i dX7_best_2 mw_375 mw_377 ms_7 mi_X7_isPerson (Nat.le_of_ble_eq_true rfl) (Nat.le_refl _) (Nat.le_refl _) (st_k hst rfl) (by decide) rfl (c_isPerson _ hst (by exact hm) hm4 (fun _ _ _ => ?_) (fun no => absurd rfl (no j hjm))) 
  · skip
    refine wp_if_eq1 (tgt := 16) dX7_best_5 (by decide) ?_
    refine wp_aload_n (i := 0) dX7_best_8 rfl rfl ?_
    refine wp_iload_n (i := 3) dX7_best_9 rfl rfl ?_
    refine wp_V1i dX7_best_10 mw_386 mw_388 ms_8 mi_X7_isPartOrAll (Nat.le_of_ble_eq_true rfl) (Nat.le_refl _) (Nat.le_refl _) (st_k hst rfl) (by decide) rfl (c_isPartOrAll _ hst hk hk4 (fun i hi ei => ?_) (fun ex => ?_) (fun g1 g2 => ?_)) 
    · subst ei
      refine wp_if_ne1 (tgt := 18) dX7_best_13 (by decide) ?_
      refine wp_aload_n (i := 0) dX7_best_18 rfl rfl ?_
      refine wp_getR dX7_best_19 fl_X7_12 rfl (st_k hst rfl) (st_r hst rfl) ?_
      refine wp_iload_n (i := 2) dX7_best_22 rfl rfl ?_
      refine wp_V1i dX7_best_23 mw_390 mw_391 mw_392 mi_X2_canBeLaid (Nat.le_of_ble_eq_true rfl) (Nat.le_refl _) (Nat.le_refl _) (st_k hst rfl) (by decide) rfl (c_canBeLaid _ hst hk hk4 (fun sm hsp hsl esm hfew => ?_) (fun sm hsp hsl esm hfew => ?_) (fun gs => ?_)) 
      · subst esm
        have hpb := pow_b k hk4
        refine wp_if_ne1 (tgt := 32) dX7_best_26 (by decide) ?_
        refine wp_aload_n (i := 0) dX7_best_32 rfl rfl ?_
        refine wp_getR dX7_best_33 fl_X7_38 rfl (st_k hst rfl) (st_r hst rfl) ?_
        refine wp_aload_n (i := 0) dX7_best_36 rfl rfl ?_
        refine wp_getR dX7_best_37 fl_X7_12 rfl (st_k hst rfl) (st_r hst rfl) ?_
        refine wp_iload_n (i := 2) dX7_best_40 rfl rfl ?_
        refine wp_aload_n (i := 0) dX7_best_41 rfl rfl ?_
        refine wp_getR dX7_best_42 fl_X7_27 rfl (st_k hst rfl) (st_r hst rfl) ?_
        refine wp_iload_n (i := 1) dX7_best_45 rfl rfl ?_
        refine wp_rld11 (j := j) dX7_best_46 (st_t hst rfl) rfl (by omega) (sp_34 hst (by omega)) ?_
        refine wp_V3i dX7_best_47 mw_404 mw_405 mw_406 mi_X5_seek (Nat.le_of_ble_eq_true rfl) (Nat.le_refl _) (Nat.le_refl _) (st_k hst rfl) (by decide) rfl (c_seek _ hst (sel := (selF k sm)) hfew (ci_pos10 hk4 hsl hsp) hk4 (fun x hx => (selF_t.mp hx).1) hfb (show j < 4 by omega) hw2 hd10 (selF_bt hk4 hsl) hF hw0 hrv hhd hSK (fun I2 hB hf => ?_)) 
        have hh4 := h4 i hi rfl sm hsp hsl rfl hfew I2 hf
        generalize (seekB (selF k sm) fv w hd rv) = b at hB hh4 ⊢
        refine wp_istore_5_4 dX7_best_50 rfl ?_
        refine wp_iload_n (i := 3) dX7_best_52 rfl rfl ?_
        refine wp_if_lt (tgt := 63) dX7_best_53 (by decide) (fun zq53 => absurd zq53 (nI_pos (by omega))) (fun zq53 => ?_) 
        refine wp_iload dX7_best_56 rfl ?_
        refine wp_bipush (v := (-9)) dX7_best_58 (by decide) ?_
        refine wp_icmp_ne (tgt := 66) dX7_best_60 (by decide) (fun zq60 => ?_) (fun zq60 => ?_) 
        · obtain ⟨q, hbq⟩ : ∃ q, b = some q := by
            cases b with
            | none => exact absurd rfl zq60
            | some q => exact ⟨q, rfl⟩
          subst hbq
          have hbi := hB.2.1 i (by omega)
          refine wp_aload_n (i := 0) dX7_best_66 rfl rfl ?_
          refine wp_getR dX7_best_67 fl_X7_38 rfl (st_k hst rfl) (st_r hst rfl) ?_
          refine wp_getR dX7_best_70 fl_X7_134 rfl (st_k hst rfl) (st_r hst rfl) ?_
          refine wp_iload_n (i := 3) dX7_best_73 rfl rfl ?_
          refine wp_V1i dX7_best_74 mw_448 mw_449 mw_450 mi_X0_placeOf (Nat.le_of_ble_eq_true rfl) (Nat.le_refl _) (Nat.le_refl _) (st_k hst rfl) (by decide) rfl (c_placeOf _ hst (show i < 10 by omega) (fun gb => ?_) (fun gb => ?_)) 
          · have hsi : (selF k sm) i = true := by rw [← hbi]; exact gb
            have hci := ch_i (sel := (selF k sm)) 10 i (by omega) hsi
            have hpl := hB.2.2 (ci (selF k sm) i) hci.2
            rw [show chv (selF k sm) (ci (selF k sm) i) = i from hci.1] at hpl
            have e4 : atB (selF k sm) (some q) i = nI (q.2 (ci (selF k sm) i)) := if_pos hsi
            rw [e4] at hh4
            rw [hpl.1]
            exact wp_retI dX7_best_77 rfl (Nat.le_refl _) (Nat.le_refl _) hh4
          · have e4 : atB (selF k sm) (some q) i = -9 := if_neg (fun g => gb (by rw [hbi]; exact g))
            rw [e4] at hh4
            exact wp_retI dX7_best_77 rfl (Nat.le_refl _) (Nat.le_refl _) hh4
        · refine wp_iload dX7_best_63 rfl ?_
          have hbn : b = none := by
            cases b with
            | none => rfl
            | some q => exact absurd zq60 (nI_m9x (by have := hB.1; omega))
          subst hbn
          exact wp_retI dX7_best_65 rfl (Nat.le_refl _) (Nat.le_refl _) hh4
      · subst esm
        refine wp_if_ne0 (tgt := 32) dX7_best_26 (by decide) ?_
        refine wp_bipush (v := (-2)) dX7_best_29 (by decide) ?_
        exact wp_retI dX7_best_31 rfl (Nat.le_refl _) (Nat.le_refl _) (h2b (Or.inl ⟨i, hi, rfl⟩) sm hsp hsl rfl hfew)
      · skip
        refine wp_if_ne0 (tgt := 32) dX7_best_26 (by decide) ?_
        refine wp_bipush (v := (-2)) dX7_best_29 (by decide) ?_
        exact wp_retI dX7_best_31 rfl (Nat.le_refl _) (Nat.le_refl _) (h2 (Or.inl ⟨i, hi, rfl⟩) gs)
    · subst ex
      refine wp_if_ne1 (tgt := 18) dX7_best_13 (by decide) ?_
      refine wp_aload_n (i := 0) dX7_best_18 rfl rfl ?_
      refine wp_getR dX7_best_19 fl_X7_12 rfl (st_k hst rfl) (st_r hst rfl) ?_
      refine wp_iload_n (i := 2) dX7_best_22 rfl rfl ?_
      refine wp_V1i dX7_best_23 mw_390 mw_391 mw_392 mi_X2_canBeLaid (Nat.le_of_ble_eq_true rfl) (Nat.le_refl _) (Nat.le_refl _) (st_k hst rfl) (by decide) rfl (c_canBeLaid _ hst hk hk4 (fun sm hsp hsl esm hfew => ?_) (fun sm hsp hsl esm hfew => ?_) (fun gs => ?_)) 
      · subst esm
        have hpb := pow_b k hk4
        refine wp_if_ne1 (tgt := 32) dX7_best_26 (by decide) ?_
        refine wp_aload_n (i := 0) dX7_best_32 rfl rfl ?_
        refine wp_getR dX7_best_33 fl_X7_38 rfl (st_k hst rfl) (st_r hst rfl) ?_
        refine wp_aload_n (i := 0) dX7_best_36 rfl rfl ?_
        refine wp_getR dX7_best_37 fl_X7_12 rfl (st_k hst rfl) (st_r hst rfl) ?_
        refine wp_iload_n (i := 2) dX7_best_40 rfl rfl ?_
        refine wp_aload_n (i := 0) dX7_best_41 rfl rfl ?_
        refine wp_getR dX7_best_42 fl_X7_27 rfl (st_k hst rfl) (st_r hst rfl) ?_
        refine wp_iload_n (i := 1) dX7_best_45 rfl rfl ?_
        refine wp_rld11 (j := j) dX7_best_46 (st_t hst rfl) rfl (by omega) (sp_34 hst (by omega)) ?_
        refine wp_V3i dX7_best_47 mw_404 mw_405 mw_406 mi_X5_seek (Nat.le_of_ble_eq_true rfl) (Nat.le_refl _) (Nat.le_refl _) (st_k hst rfl) (by decide) rfl (c_seek _ hst (sel := (selF k sm)) hfew (ci_pos10 hk4 hsl hsp) hk4 (fun x hx => (selF_t.mp hx).1) hfb (show j < 4 by omega) hw2 hd10 (selF_bt hk4 hsl) hF hw0 hrv hhd hSK (fun I2 hB hf => ?_)) 
        refine wp_istore_5_4 dX7_best_50 rfl ?_
        refine wp_iload_n (i := 3) dX7_best_52 rfl rfl ?_
        refine wp_if_lt (tgt := 63) dX7_best_53 (by decide) (fun zq53 => ?_) (fun zq53 => absurd zq53 (by decide)) 
        refine wp_iload dX7_best_63 rfl ?_
        exact wp_retI dX7_best_65 rfl (Nat.le_refl _) (Nat.le_refl _) (h3 rfl sm hsp hsl rfl hfew I2 hf)
      · subst esm
        refine wp_if_ne0 (tgt := 32) dX7_best_26 (by decide) ?_
        refine wp_bipush (v := (-2)) dX7_best_29 (by decide) ?_
        exact wp_retI dX7_best_31 rfl (Nat.le_refl _) (Nat.le_refl _) (h2b (Or.inr rfl) sm hsp hsl rfl hfew)
      · skip
        refine wp_if_ne0 (tgt := 32) dX7_best_26 (by decide) ?_
        refine wp_bipush (v := (-2)) dX7_best_29 (by decide) ?_
        exact wp_retI dX7_best_31 rfl (Nat.le_refl _) (Nat.le_refl _) (h2 (Or.inr rfl) gs)
    · skip
      refine wp_if_ne0 (tgt := 18) dX7_best_13 (by decide) ?_
      refine wp_iconst (v := (-1)) dX7_best_16 (by decide) ?_
      exact wp_retI dX7_best_17 rfl (Nat.le_refl _) (Nat.le_refl _) (h1 g1 g2)

theorem c_lay (d : Nat) {n : Nat} {t : eT} {I : eI} {R : eR} {Q : Int32 → Nat → eT → eI → eR → Prop} (hst : ST n t R) {m : Nat} (hm : I 4 3 = nI m) (hm4 : m ≤ 4) {k : Nat} (hk : I 5 0 = nI k) (hk4 : k ≤ 10) {j : Nat} (hjm : j < m) {fv : Nat → Nat → Nat} (hfb : ∀ x y, fv x y ≤ 99) {w hd : Nat} (hw2 : w ≤ 2) (hd10 : hd ≤ 10) {rv : Int32} (hF : ∀ x y, x < k → y < k → I (9 + x) y = nI (fv x y)) (hw0 : I (55 + 10 * j) 0 = nI w) (hrv : I (55 + 10 * j) 1 = rv) (hhd : I (55 + 10 * j) 2 = nI hd) (hSK : SK I) {u v2 : Nat} (hu : R (54 + 10 * j) 1 = some u) (hv2 : R (54 + 10 * j) 2 = some v2) (hv47 : 53 < v2) (hvA : v2 ≠ 54 + 10 * j) (hvB : v2 + 1 ≠ 54 + 10 * j) (htv : (t v2).1 = 0) (hr1 : R v2 1 = some (v2 + 1)) (htp : t (v2 + 1) = (9, 10)) {v : Int32} (h2 : ¬ (0 < v.toInt ∧ v.toInt < 2 ^ k) → Q (-2) n t I R) (h2b : ∀ sm, 0 < sm → sm < 2 ^ k → v = nI sm → ¬ ci (selF k sm) 10 ≤ 5 → Q (-2) n t I R) (h3 : ∀ sm, 0 < sm → sm < 2 ^ k → v = nI sm → ci (selF k sm) 10 ≤ 5 → (seekB (selF k sm) fv w hd rv) = none → ∀ I2, FrS I I2 → Q (-9) n t I2 R) (h4 : ∀ sm, 0 < sm → sm < 2 ^ k → v = nI sm → ci (selF k sm) 10 ≤ 5 → ∀ q, (seekB (selF k sm) fv w hd rv) = some q → ∀ I2, RcC I I2 j v2 (selF k sm) q → Q (nI q.1) n t I2 (eU (eU R (54 + 10 * j) 1 (some v2)) (54 + 10 * j) 2 (some u))) : MC yX7_lay cX7_lay 4 (some .int) (d + 10) 0 0 [.ref 4, .int (nI j), .int v] n t I R (qI Q) := by
  refine mc_intro (L0 := [.ref 4, .int (nI j), .int v, vU]) (by decide) rfl (Nat.le_of_ble_eq_true rfl) ?_
  refine wp_aload_n (i := 0) dX7_lay_0 rfl rfl ?_
  refine wp_iload_n (i := 1) dX7_lay_1 rfl rfl ?_
  refine wp_V1i dX7_lay_2 mw_375 mw_377 ms_7 mi_X7_isPerson (Nat.le_of_ble_eq_true rfl) (Nat.le_refl _) (Nat.le_refl _) (st_k hst rfl) (by decide) rfl (c_isPerson _ hst (by exact hm) hm4 (fun _ _ _ => ?_) (fun no => absurd rfl (no j hjm))) 
  · skip
    refine wp_if_ne1 (tgt := 10) dX7_lay_5 (by decide) ?_
    refine wp_aload_n (i := 0) dX7_lay_10 rfl rfl ?_
    refine wp_getR dX7_lay_11 fl_X7_12 rfl (st_k hst rfl) (st_r hst rfl) ?_
    refine wp_iload_n (i := 2) dX7_lay_14 rfl rfl ?_
    refine wp_V1i dX7_lay_15 mw_390 mw_391 mw_392 mi_X2_canBeLaid (Nat.le_of_ble_eq_true rfl) (Nat.le_refl _) (Nat.le_refl _) (st_k hst rfl) (by decide) rfl (c_canBeLaid _ hst hk hk4 (fun sm hsp hsl esm hfew => ?_) (fun sm hsp hsl esm hfew => ?_) (fun gs => ?_)) 
    · subst esm
      have hpb := pow_b k hk4
      refine wp_if_ne1 (tgt := 24) dX7_lay_18 (by decide) ?_
      refine wp_aload_n (i := 0) dX7_lay_24 rfl rfl ?_
      refine wp_getR dX7_lay_25 fl_X7_38 rfl (st_k hst rfl) (st_r hst rfl) ?_
      refine wp_aload_n (i := 0) dX7_lay_28 rfl rfl ?_
      refine wp_getR dX7_lay_29 fl_X7_12 rfl (st_k hst rfl) (st_r hst rfl) ?_
      refine wp_iload_n (i := 2) dX7_lay_32 rfl rfl ?_
      refine wp_aload_n (i := 0) dX7_lay_33 rfl rfl ?_
      refine wp_getR dX7_lay_34 fl_X7_27 rfl (st_k hst rfl) (st_r hst rfl) ?_
      refine wp_iload_n (i := 1) dX7_lay_37 rfl rfl ?_
      refine wp_rld11 (j := j) dX7_lay_38 (st_t hst rfl) rfl (by omega) (sp_34 hst (by omega)) ?_
      refine wp_V3i dX7_lay_39 mw_404 mw_405 mw_406 mi_X5_seek (Nat.le_of_ble_eq_true rfl) (Nat.le_refl _) (Nat.le_refl _) (st_k hst rfl) (by decide) rfl (c_seek _ hst (sel := (selF k sm)) hfew (ci_pos10 hk4 hsl hsp) hk4 (fun x hx => (selF_t.mp hx).1) hfb (show j < 4 by omega) hw2 hd10 (selF_bt hk4 hsl) hF hw0 hrv hhd hSK (fun I2 hB hf => ?_)) 
      have hh3 := h3 sm hsp hsl rfl hfew
      have hh4 := h4 sm hsp hsl rfl hfew
      generalize (seekB (selF k sm) fv w hd rv) = b at hB hh3 hh4 ⊢
      refine wp_istore_4_3 dX7_lay_42 rfl ?_
      refine wp_iload_n (i := 3) dX7_lay_43 rfl rfl ?_
      refine wp_bipush (v := (-9)) dX7_lay_44 (by decide) ?_
      refine wp_icmp_eq (tgt := 65) dX7_lay_46 (by decide) (fun zq46 => ?_) (fun zq46 => ?_) 
      · have hbn : b = none := by
          cases b with
          | none => rfl
          | some q => exact absurd zq46 (nI_m9x hB.1)
        subst hbn
        refine wp_iload_n (i := 3) dX7_lay_65 rfl rfl ?_
        exact wp_retI dX7_lay_66 rfl (Nat.le_refl _) (Nat.le_refl _) (hh3 rfl I2 hf)
      · obtain ⟨q, hbq⟩ : ∃ q, b = some q := by
          cases b with
          | none => exact absurd rfl zq46
          | some q => exact ⟨q, rfl⟩
        subst hbq
        refine wp_aload_n (i := 0) dX7_lay_49 rfl rfl ?_
        refine wp_getR dX7_lay_50 fl_X7_27 rfl (st_k hst rfl) (st_r hst rfl) ?_
        refine wp_iload_n (i := 1) dX7_lay_53 rfl rfl ?_
        refine wp_rld11 (j := j) dX7_lay_54 (st_t hst rfl) rfl (by omega) (sp_34 hst (by omega)) ?_
        refine wp_aload_n (i := 0) dX7_lay_55 rfl rfl ?_
        refine wp_getR dX7_lay_56 fl_X7_38 rfl (st_k hst rfl) (st_r hst rfl) ?_
        refine wp_getR dX7_lay_59 fl_X7_134 rfl (st_k hst rfl) (st_r hst rfl) ?_
        refine wp_V1v dX7_lay_62 mw_460 mw_461 mw_462 mi_X3_receiveLaying (Nat.le_of_ble_eq_true rfl) (Nat.le_refl _) (Nat.le_refl _) (sp_k0 hst (by omega)) (by decide) rfl (c_recv _ hst (show j < 4 by omega) hu hv2 (by omega) hvA hvB htv hr1 htp (fun I3 p1 p2 p3 p4 p5 => ?_)) 
        have hRC : RcC I I3 j v2 (selF k sm) q := by
          refine ⟨fun a ha => ?_, fun x hx hs => ?_, p3, fun a a1 a2 a3 a4 => ?_, fun f hff => ?_⟩
          · rw [p1]; exact hB.2.1 a ha
          · have hci := ch_i (sel := (selF k sm)) 10 x hx hs
            have hpl := hB.2.2 (ci (selF k sm) x) hci.2
            rw [show chv (selF k sm) (ci (selF k sm) x) = x from hci.1] at hpl
            rw [p2 x hx]
            exact hpl
          · rw [p4 a a2 a3 a4]; exact hf a a1
          · rw [p5 f hff, hf _ (by omega)]
        refine wp_iload_n (i := 3) dX7_lay_65 rfl rfl ?_
        exact wp_retI dX7_lay_66 rfl (Nat.le_refl _) (Nat.le_refl _) (hh4 q rfl I3 hRC)
    · subst esm
      refine wp_if_ne0 (tgt := 24) dX7_lay_18 (by decide) ?_
      refine wp_bipush (v := (-2)) dX7_lay_21 (by decide) ?_
      exact wp_retI dX7_lay_23 rfl (Nat.le_refl _) (Nat.le_refl _) (h2b sm hsp hsl rfl hfew)
    · skip
      refine wp_if_ne0 (tgt := 24) dX7_lay_18 (by decide) ?_
      refine wp_bipush (v := (-2)) dX7_lay_21 (by decide) ?_
      exact wp_retI dX7_lay_23 rfl (Nat.le_refl _) (Nat.le_refl _) (h2 gs)

theorem c_offer (d : Nat) {n : Nat} {t : eT} {I : eI} {R : eR} {Q : Int32 → Nat → eT → eI → eR → Prop} (hst : ST n t R) {m : Nat} (hm : I 4 3 = nI m) (hm4 : m ≤ 4) {k : Nat} (hk : I 5 0 = nI k) (hk4 : k ≤ 10) {j : Nat} (hjm : j < m) {fv : Nat → Nat → Nat} (hfb : ∀ x y, fv x y ≤ 99) {w hd : Nat} (hw2 : w ≤ 2) (hd10 : hd ≤ 10) {rv : Int32} (hF : ∀ x y, x < k → y < k → I (9 + x) y = nI (fv x y)) (hw0 : I (55 + 10 * j) 0 = nI w) (hrv : I (55 + 10 * j) 1 = rv) (hhd : I (55 + 10 * j) 2 = nI hd) (hSK : SK I) {u v2 : Nat} (hu : R (54 + 10 * j) 1 = some u) (hv2 : R (54 + 10 * j) 2 = some v2) (hv47 : 53 < v2) (hvA : v2 ≠ 54 + 10 * j) (hvB : v2 + 1 ≠ 54 + 10 * j) (htv : (t v2).1 = 0) (hr1 : R v2 1 = some (v2 + 1)) (htp : t (v2 + 1) = (9, 10)) (hu47 : 53 < u ∧ u < 120) (htu : (t u).1 = 0) (hru : R u 1 = some (u + 1)) (htpu : t (u + 1) = (9, 10)) {sel : Nat → Bool} (hc5 : ci sel 10 ≤ 5) (hsk : ∀ x, sel x = true → x < k) (hsel : ∀ x, x < 10 → bt (I u 0) x = sel x) (hemp : I u 0 = 0 ↔ ∀ a, a < 10 → sel a = false) {g : Int32} (h2 : ¬ (0 ≤ g.toInt ∧ g.toInt ≤ 9999) → Q (-2) n t I R) (h3 : (0 ≤ g.toInt ∧ g.toInt ≤ 9999) → I u 0 = 0 → Q (-3) n t I R) (h4 : (0 ≤ g.toInt ∧ g.toInt ≤ 9999) → ¬ I u 0 = 0 → (seekB sel fv w hd rv) = none → ∀ I2, FrS I I2 → Q (-9) n t I2 R) (h5 : (0 ≤ g.toInt ∧ g.toInt ≤ 9999) → ¬ I u 0 = 0 → ∀ q, (seekB sel fv w hd rv) = some q → addO (tC I u) k - nI q.1 < g → ∀ I2, FrS I I2 → Q 0 n t I2 R) (h6 : (0 ≤ g.toInt ∧ g.toInt ≤ 9999) → ¬ I u 0 = 0 → ∀ q, (seekB sel fv w hd rv) = some q → ¬ addO (tC I u) k - nI q.1 < g → ∀ I2, RcC I I2 j v2 sel q → Q 1 n t I2 (eU (eU R (54 + 10 * j) 1 (some v2)) (54 + 10 * j) 2 (some u))) : MC yX7_offer cX7_offer 5 (some .int) (d + 10) 0 0 [.ref 4, .int (nI j), .int g] n t I R (qI Q) := by
  refine mc_intro (L0 := [.ref 4, .int (nI j), .int g, vU, vU]) (by decide) rfl (Nat.le_of_ble_eq_true rfl) ?_
  refine wp_aload_n (i := 0) dX7_offer_0 rfl rfl ?_
  refine wp_iload_n (i := 1) dX7_offer_1 rfl rfl ?_
  refine wp_V1i dX7_offer_2 mw_375 mw_377 ms_7 mi_X7_isPerson (Nat.le_of_ble_eq_true rfl) (Nat.le_refl _) (Nat.le_refl _) (st_k hst rfl) (by decide) rfl (c_isPerson _ hst (by exact hm) hm4 (fun _ _ _ => ?_) (fun no => absurd rfl (no j hjm))) 
  · skip
    refine wp_if_ne1 (tgt := 10) dX7_offer_5 (by decide) ?_
    refine wp_iload_n (i := 2) dX7_offer_10 rfl rfl ?_
    refine wp_iconst (v := 0) dX7_offer_11 (by decide) ?_
    refine wp_sipush (v := 9999) dX7_offer_12 (by decide) ?_
    refine wp_S3i dX7_offer_15 mw_267 mw_268 mi_X7_isWithin (Nat.le_of_ble_eq_true rfl) (Nat.le_refl _) (Nat.le_refl _) (c_isWithin _ (a := 0) (b := 9999) rfl rfl (fun ga15 gb15 => ?_) (fun gn15 => ?_)) 
    · skip
      refine wp_if_ne1 (tgt := 24) dX7_offer_18 (by decide) ?_
      refine wp_aload_n (i := 0) dX7_offer_24 rfl rfl ?_
      refine wp_getR dX7_offer_25 fl_X7_27 rfl (st_k hst rfl) (st_r hst rfl) ?_
      refine wp_iload_n (i := 1) dX7_offer_28 rfl rfl ?_
      refine wp_rld11 (j := j) dX7_offer_29 (st_t hst rfl) rfl (by omega) (sp_34 hst (by omega)) ?_
      refine wp_astore_5_3 dX7_offer_30 rfl ?_
      refine wp_aload_n (i := 3) dX7_offer_31 rfl rfl ?_
      refine wp_getR dX7_offer_32 fl_X7_147 rfl (sp_k0 hst (by omega)) hu ?_
      refine wp_V0i dX7_offer_35 mw_477 mw_445 mw_446 mi_X0_isEmpty (Nat.le_of_ble_eq_true rfl) (Nat.le_refl _) (Nat.le_refl _) htu (by decide) rfl (c_isEmpty _ htu (fun ge => ?_) (fun ge => ?_)) 
      · skip
        refine wp_if_eq1 (tgt := 44) dX7_offer_38 (by decide) ?_
        refine wp_bipush (v := (-3)) dX7_offer_41 (by decide) ?_
        exact wp_retI dX7_offer_43 rfl (Nat.le_refl _) (Nat.le_refl _) (h3 ⟨ga15, gb15⟩ ge)
      · skip
        refine wp_if_eq0 (tgt := 44) dX7_offer_38 (by decide) ?_
        refine wp_aload_n (i := 0) dX7_offer_44 rfl rfl ?_
        refine wp_getR dX7_offer_45 fl_X7_38 rfl (st_k hst rfl) (st_r hst rfl) ?_
        refine wp_aload_n (i := 0) dX7_offer_48 rfl rfl ?_
        refine wp_getR dX7_offer_49 fl_X7_12 rfl (st_k hst rfl) (st_r hst rfl) ?_
        refine wp_aload_n (i := 3) dX7_offer_52 rfl rfl ?_
        refine wp_getR dX7_offer_53 fl_X7_147 rfl (sp_k0 hst (by omega)) hu ?_
        refine wp_V0i dX7_offer_56 mw_478 mw_479 mw_480 mi_X0_partSet (Nat.le_of_ble_eq_true rfl) (Nat.le_refl _) (Nat.le_refl _) htu (by decide) rfl (c_partSet _ htu ?_) 
        refine wp_aload_n (i := 3) dX7_offer_59 rfl rfl ?_
        have hc1 : 1 ≤ ci sel 10 := by
          refine Decidable.byContradiction (fun g3 => ge (hemp.mpr (fun a ha => ?_)))
          cases hs : sel a with
          | false => rfl
          | true => have := (ch_i (sel := sel) 10 a ha hs).2; omega
        refine wp_V3i dX7_offer_60 mw_404 mw_405 mw_406 mi_X5_seek (Nat.le_of_ble_eq_true rfl) (Nat.le_refl _) (Nat.le_refl _) (st_k hst rfl) (by decide) rfl (c_seek _ hst (sel := sel) hc5 hc1 hk4 hsk hfb (show j < 4 by omega) hw2 hd10 hsel hF hw0 hrv hhd hSK (fun I2 hB hf => ?_)) 
        have hh4 := h4 ⟨ga15, gb15⟩ ge
        have hh5 := h5 ⟨ga15, gb15⟩ ge
        have hh6 := h6 ⟨ga15, gb15⟩ ge
        generalize (seekB sel fv w hd rv) = b at hB hh4 hh5 hh6 ⊢
        refine wp_istore_5_4 dX7_offer_63 rfl ?_
        refine wp_iload dX7_offer_65 rfl ?_
        refine wp_bipush (v := (-9)) dX7_offer_67 (by decide) ?_
        refine wp_icmp_ne (tgt := 75) dX7_offer_69 (by decide) (fun zq69 => ?_) (fun zq69 => ?_) 
        · obtain ⟨q, hbq⟩ : ∃ q, b = some q := by
            cases b with
            | none => exact absurd rfl zq69
            | some q => exact ⟨q, rfl⟩
          subst hbq
          have ep : addO (tC I2 u) k = addO (tC I u) k := addO_congr k (fun b1 hb1 a1 ha1 => by unfold tC; simp only [hf u (by omega), hf (u + 1) (by omega), hf (9 + a1) (by omega), hf (9 + b1) (by omega)])
          refine wp_aload_n (i := 3) dX7_offer_75 rfl rfl ?_
          refine wp_getR dX7_offer_76 fl_X7_147 rfl (sp_k0 hst (by omega)) hu ?_
          refine wp_aload_n (i := 0) dX7_offer_79 rfl rfl ?_
          refine wp_getR dX7_offer_80 fl_X7_12 rfl (st_k hst rfl) (st_r hst rfl) ?_
          refine wp_V1i dX7_offer_83 mw_482 mw_483 mw_484 mi_X0_priceBy (Nat.le_of_ble_eq_true rfl) (Nat.le_refl _) (Nat.le_refl _) htu (by decide) rfl (c_priceBy _ hst htu hru htpu (by rw [hf 5 (by decide)]; exact hk) hk4 ?_) 
          rw [ep]
          refine wp_iload dX7_offer_86 rfl ?_
          refine wp_isub dX7_offer_88 ?_
          refine wp_iload_n (i := 2) dX7_offer_89 rfl rfl ?_
          refine wp_icmp_ge (tgt := 95) dX7_offer_90 (by decide) (fun zq90 => ?_) (fun zq90 => ?_) 
          · refine wp_aload_n (i := 3) dX7_offer_95 rfl rfl ?_
            refine wp_aload_n (i := 0) dX7_offer_96 rfl rfl ?_
            refine wp_getR dX7_offer_97 fl_X7_38 rfl (st_k hst rfl) (st_r hst rfl) ?_
            refine wp_getR dX7_offer_100 fl_X7_134 rfl (st_k hst rfl) (st_r hst rfl) ?_
            refine wp_V1v dX7_offer_103 mw_460 mw_461 mw_462 mi_X3_receiveLaying (Nat.le_of_ble_eq_true rfl) (Nat.le_refl _) (Nat.le_refl _) (sp_k0 hst (by omega)) (by decide) rfl (c_recv _ hst (show j < 4 by omega) hu hv2 (by omega) hvA hvB htv hr1 htp (fun I3 p1 p2 p3 p4 p5 => ?_)) 
            have hRC : RcC I I3 j v2 sel q := by
              refine ⟨fun a ha => ?_, fun x hx hs => ?_, p3, fun a a1 a2 a3 a4 => ?_, fun f hff => ?_⟩
              · rw [p1]; exact hB.2.1 a ha
              · have hci := ch_i (sel := sel) 10 x hx hs
                have hpl := hB.2.2 (ci sel x) hci.2
                rw [show chv sel (ci sel x) = x from hci.1] at hpl
                rw [p2 x hx]
                exact hpl
              · rw [p4 a a2 a3 a4]; exact hf a a1
              · rw [p5 f hff, hf _ (by omega)]
            refine wp_iconst (v := 1) dX7_offer_106 (by decide) ?_
            exact wp_retI dX7_offer_107 rfl (Nat.le_refl _) (Nat.le_refl _) (hh6 q rfl (Int32.not_lt.mpr zq90) I3 hRC)
          · refine wp_iconst (v := 0) dX7_offer_93 (by decide) ?_
            exact wp_retI dX7_offer_94 rfl (Nat.le_refl _) (Nat.le_refl _) (hh5 q rfl (Int32.not_le.mp zq90) I2 hf)
        · refine wp_bipush (v := (-9)) dX7_offer_72 (by decide) ?_
          have hbn : b = none := by
            cases b with
            | none => rfl
            | some q => exact absurd zq69 (nI_m9x hB.1)
          subst hbn
          exact wp_retI dX7_offer_74 rfl (Nat.le_refl _) (Nat.le_refl _) (hh4 rfl I2 hf)
    · skip
      refine wp_if_ne0 (tgt := 24) dX7_offer_18 (by decide) ?_
      refine wp_bipush (v := (-2)) dX7_offer_21 (by decide) ?_
      exact wp_retI dX7_offer_23 rfl (Nat.le_refl _) (Nat.le_refl _) (h2 gn15)

