theorem ci_pos : ∀ k, k ≤ 10 → ∀ sm, sm < 2 ^ k → 0 < sm → 1 ≤ ci (selF k sm) k := by decide +kernel
theorem ci_lt {k sm : Nat} {s : WS} {r : Nat} (e : s.1 = ci (selF k sm) k + 1 + r) : ∀ x, selF k sm x = true → ci (selF k sm) x < s.1 := fun x hx => by
  have hxk := (selF_t.mp hx).1
  have g1 := ci_mono (selF k sm) (a := x + 1) (b := k) (by omega)
  rw [ci_t hx] at g1
  omega
def cst (sel : Nat → Bool) (wv : Nat → Nat) (M : Nat → Option Nat) : Nat → Int32 := fun x => if sel x = true then nI (wv x) * stp sel M x else 0
def orA (T : Nat → Int32) : Nat → Int32
  | 0 => 0
  | x + 1 => orA T x ||| T x
theorem orA_z {T : Nat → Int32} {x : Nat} (h : T x = 0) : orA T x = orA T (x + 1) := by
  show _ = orA T x ||| T x
  rw [h, Int32.or_zero]
theorem orA_s {T : Nat → Int32} {x : Nat} {v : Int32} (h : T x = v) : orA T x ||| v = orA T (x + 1) := by
  show _ = orA T x ||| T x
  rw [h]
def kpt (kv : Nat → Nat) (w : Int32) (S : Nat → Int32) : Nat → Int32 := fun x => if 0 < kv x ∧ w < S x then (1 : Int32) <<< (nI x &&& 31) else 0
def clH (hd : Nat) : Nat := if hd < 2 then 2 else if 9 < hd then 9 else hd
theorem clH_c : ∀ hd, hd ≤ 10 → minI (maxI (nI hd) 2) 9 = nI (clH hd) := by decide +kernel
theorem clH_b (hd : Nat) : 2 ≤ clH hd ∧ clH hd ≤ 9 := by unfold clH; split <;> (try split) <;> omega
theorem stp_n {sel : Nat → Bool} {M : Nat → Option Nat} {x : Nat} (h : ¬ sel x = true) : stp sel M x = -9 := if_neg h
theorem stp_y {sel : Nat → Bool} {M : Nat → Option Nat} {x : Nat} (h : sel x = true) : ¬ stp sel M x < 0 := by
  unfold stp
  rw [if_pos h]
  exact nI_pos (by have := dpt_b M 20 (ci sel x); omega)
theorem c_ways (d : Nat) {n : Nat} {t : eT} {I : eI} {R : eR} {Q : Int32 → Nat → eT → eI → eR → Prop} (hst : ST n t R) {k : Nat} (hk : I 5 0 = nI k) (hk4 : k ≤ 10) {wv : Nat → Nat} (hwb : ∀ y, y < k → wv y ≤ 999) (hW : ∀ y, y < k → I 7 y = nI (wv y)) {v h x : Int32} (h1 : ¬ ((0 < v.toInt ∧ v.toInt < 2 ^ k) ∧ (2 ≤ h.toInt ∧ h.toInt ≤ 9)) → Q (-2) n t I R) (h2 : ∀ sm h0, 0 < sm → sm < 2 ^ k → v = nI sm → h = nI h0 → 2 ≤ h0 → h0 ≤ 9 → (∀ j, j < k → x ≠ nI j) → x ≠ -1 → Q (-1) n t I R) (h3 : ∀ sm h0, 0 < sm → sm < 2 ^ k → v = nI sm → h = nI h0 → 2 ≤ h0 → h0 ≤ 9 → x = -1 → ∀ I2, FrB I I2 → Q (addI 0 (cst (selF k sm) wv (bld (selF k sm) wv k h0).2.2) k) n t I2 R) (h4 : ∀ sm h0, 0 < sm → sm < 2 ^ k → v = nI sm → h = nI h0 → 2 ≤ h0 → h0 ≤ 9 → ∀ j, j < k → x = nI j → ∀ I2, FrB I I2 → Q (stp (selF k sm) (bld (selF k sm) wv k h0).2.2 j) n t I2 R) : MC yX7_ways cX7_ways 4 (some .int) (d + 3) 0 0 [.ref 4, .int v, .int h, .int x] n t I R (qI Q) := by
  refine mc_intro (L0 := [.ref 4, .int v, .int h, .int x]) (by decide) rfl (Nat.le_of_ble_eq_true rfl) ?_
  refine wp_aload_n (i := 0) dX7_ways_0 rfl rfl ?_
  refine wp_getR dX7_ways_1 fl_X7_12 rfl (st_k hst rfl) (st_r hst rfl) ?_
  refine wp_iload_n (i := 1) dX7_ways_4 rfl rfl ?_
  refine wp_V1i dX7_ways_5 mw_512 mw_395 mw_396 mi_X2_hasSet (Nat.le_of_ble_eq_true rfl) (Nat.le_refl _) (Nat.le_refl _) (st_k hst rfl) (by decide) rfl (c_hasSet _ hst hk hk4 (fun sm hsp hsl esm => ?_) (fun gs => ?_)) 
  · subst esm
    refine wp_if_eq1 (tgt := 21) dX7_ways_8 (by decide) ?_
    refine wp_iload_n (i := 2) dX7_ways_11 rfl rfl ?_
    refine wp_iconst (v := 2) dX7_ways_12 (by decide) ?_
    refine wp_bipush (v := 9) dX7_ways_13 (by decide) ?_
    refine wp_S3i dX7_ways_15 mw_267 mw_268 mi_X7_isWithin (Nat.le_of_ble_eq_true rfl) (Nat.le_refl _) (Nat.le_refl _) (c_isWithin _ (a := 2) (b := 9) rfl rfl (fun ga15 gb15 => ?_) (fun gn15 => ?_)) 
    · skip
      refine wp_if_ne1 (tgt := 24) dX7_ways_18 (by decide) ?_
      obtain ⟨h0, hh0, eh0⟩ := nat_yes (x := h) (m := 10) (by omega) (by omega) (by omega)
      subst eh0
      rw [nI_toInt (by omega)] at ga15
      refine wp_aload_n (i := 0) dX7_ways_24 rfl rfl ?_
      refine wp_iload_n (i := 3) dX7_ways_25 rfl rfl ?_
      refine wp_V1i dX7_ways_26 mw_386 mw_388 ms_8 mi_X7_isPartOrAll (Nat.le_of_ble_eq_true rfl) (Nat.le_refl _) (Nat.le_refl _) (st_k hst rfl) (by decide) rfl (c_isPartOrAll _ hst hk hk4 (fun j hj ej => ?_) (fun ex => ?_) (fun g1 g2 => ?_)) 
      · subst ej
        refine wp_if_ne1 (tgt := 34) dX7_ways_29 (by decide) ?_
        have hpb := pow_b k hk4
        have hN1 := ci_pos k hk4 sm hsl hsp
        have b0 := bld_ok (sel := (selF k sm)) (wv := wv) hk4 hwb hN1 (show 2 ≤ h0 by omega)
        have hcx := ci_lt (k := k) (sm := sm) b0.2.1
        refine wp_aload_n (i := 0) dX7_ways_34 rfl rfl ?_
        refine wp_getR dX7_ways_35 fl_X7_45 rfl (st_k hst rfl) (st_r hst rfl) ?_
        refine wp_aload_n (i := 0) dX7_ways_38 rfl rfl ?_
        refine wp_getR dX7_ways_39 fl_X7_12 rfl (st_k hst rfl) (st_r hst rfl) ?_
        refine wp_iload_n (i := 1) dX7_ways_42 rfl rfl ?_
        refine wp_iload_n (i := 2) dX7_ways_43 rfl rfl ?_
        refine wp_V3v dX7_ways_44 mw_513 mw_514 mw_515 mi_X1_build (Nat.le_of_ble_eq_true rfl) (Nat.le_refl _) (Nat.le_refl _) (st_k hst rfl) (by decide) rfl (c_build _ hst hk4 (show sm < 1024 by omega) (show 2 ≤ h0 by omega) (show h0 ≤ 9 by omega) hwb hN1 hk hW (fun I2 hR hO hf => ?_)) 
        refine wp_iload_n (i := 3) dX7_ways_47 rfl rfl ?_
        refine wp_if_ge (tgt := 65) dX7_ways_48 (by decide) (fun zq48 => ?_) (fun zq48 => absurd (nI_pos' (by omega)) zq48) 
        refine wp_aload_n (i := 0) dX7_ways_65 rfl rfl ?_
        refine wp_getR dX7_ways_66 fl_X7_45 rfl (st_k hst rfl) (st_r hst rfl) ?_
        refine wp_iload_n (i := 3) dX7_ways_69 rfl rfl ?_
        refine wp_V1i dX7_ways_70 mw_537 mw_534 mw_535 mi_X1_stepsOf (Nat.le_of_ble_eq_true rfl) (Nat.le_refl _) (Nat.le_refl _) (st_k hst rfl) (by decide) rfl (c_stepsOf _ hst b0.1 b0.2.2 hR hO (show j < 10 by omega) (hcx j) ?_) 
        exact wp_retI dX7_ways_73 rfl (Nat.le_refl _) (Nat.le_refl _) (h4 sm h0 hsp hsl rfl rfl (by omega) (by omega) j hj rfl I2 hf)
      · subst ex
        refine wp_if_ne1 (tgt := 34) dX7_ways_29 (by decide) ?_
        have hpb := pow_b k hk4
        have hN1 := ci_pos k hk4 sm hsl hsp
        have b0 := bld_ok (sel := (selF k sm)) (wv := wv) hk4 hwb hN1 (show 2 ≤ h0 by omega)
        have hcx := ci_lt (k := k) (sm := sm) b0.2.1
        refine wp_aload_n (i := 0) dX7_ways_34 rfl rfl ?_
        refine wp_getR dX7_ways_35 fl_X7_45 rfl (st_k hst rfl) (st_r hst rfl) ?_
        refine wp_aload_n (i := 0) dX7_ways_38 rfl rfl ?_
        refine wp_getR dX7_ways_39 fl_X7_12 rfl (st_k hst rfl) (st_r hst rfl) ?_
        refine wp_iload_n (i := 1) dX7_ways_42 rfl rfl ?_
        refine wp_iload_n (i := 2) dX7_ways_43 rfl rfl ?_
        refine wp_V3v dX7_ways_44 mw_513 mw_514 mw_515 mi_X1_build (Nat.le_of_ble_eq_true rfl) (Nat.le_refl _) (Nat.le_refl _) (st_k hst rfl) (by decide) rfl (c_build _ hst hk4 (show sm < 1024 by omega) (show 2 ≤ h0 by omega) (show h0 ≤ 9 by omega) hwb hN1 hk hW (fun I2 hR hO hf => ?_)) 
        refine wp_iload_n (i := 3) dX7_ways_47 rfl rfl ?_
        refine wp_if_ge (tgt := 65) dX7_ways_48 (by decide) (fun zq48 => absurd zq48 (by decide)) (fun zq48 => ?_) 
        refine wp_aload_n (i := 0) dX7_ways_51 rfl rfl ?_
        refine wp_getR dX7_ways_52 fl_X7_45 rfl (st_k hst rfl) (st_r hst rfl) ?_
        refine wp_aload_n (i := 0) dX7_ways_55 rfl rfl ?_
        refine wp_getR dX7_ways_56 fl_X7_12 rfl (st_k hst rfl) (st_r hst rfl) ?_
        refine wp_V1i dX7_ways_59 mw_529 mw_530 mw_531 mi_X1_costBy (Nat.le_of_ble_eq_true rfl) (Nat.le_refl _) (Nat.le_refl _) (st_k hst rfl) (by decide) rfl (c_costBy _ hst (by rw [hf.1 5 (by decide) (by decide) (by decide) (by decide)]; exact hk) hk4 b0.1 b0.2.2 hR hO (fun x g _ => hcx x g) (fun y hy => by rw [hf.1 7 (by decide) (by decide) (by decide) (by decide)]; exact hW y hy) ?_) 
        refine wp_goto (tgt := 73) dX7_ways_62 (by decide) ?_
        exact wp_retI dX7_ways_73 rfl (Nat.le_refl _) (Nat.le_refl _) (h3 sm h0 hsp hsl rfl rfl (by omega) (by omega) rfl I2 hf)
      · skip
        refine wp_if_ne0 (tgt := 34) dX7_ways_29 (by decide) ?_
        refine wp_iconst (v := (-1)) dX7_ways_32 (by decide) ?_
        exact wp_retI dX7_ways_33 rfl (Nat.le_refl _) (Nat.le_refl _) (h2 sm h0 hsp hsl rfl rfl (by omega) (by omega) g1 g2)
    · skip
      refine wp_if_ne0 (tgt := 24) dX7_ways_18 (by decide) ?_
      refine wp_bipush (v := (-2)) dX7_ways_21 (by decide) ?_
      exact wp_retI dX7_ways_23 rfl (Nat.le_refl _) (Nat.le_refl _) (h1 (fun g => gn15 g.2))
  · skip
    refine wp_if_eq0 (tgt := 21) dX7_ways_8 (by decide) ?_
    refine wp_bipush (v := (-2)) dX7_ways_21 (by decide) ?_
    exact wp_retI dX7_ways_23 rfl (Nat.le_refl _) (Nat.le_refl _) (h1 (fun g => gs g.1))

theorem lp_ws (d : Nat) {n : Nat} {t : eT} {I : eI} {R : eR} {Q : eQt} (hst : ST n t R) {k sm : Nat} (hkM : I 94 1 = nI k) (hk4 : k ≤ 10) {wv : Nat → Nat} (hW : ∀ y, y < k → I 96 y = nI (wv y)) {M : Nat → Option Nat} (hS : ∀ y, y < k → I 113 y = stp (selF k sm) M y) {x1 x2 x3 : Value} : ∀ (r x : Nat), x + r = k → wp yX8_ways cX8_ways 6 (some .int) d 0 0 Q 0 0 106 [.ref 94, x1, x2, x3, .int (addI 0 (cst (selF k sm) wv M) k), .int (nI k)] [] n t I R → wp yX8_ways cX8_ways 6 (some .int) d 0 0 Q 0 0 57 [.ref 94, x1, x2, x3, .int (addI 0 (cst (selF k sm) wv M) x), .int (nI x)] [] n t I R := by
  intro r
  induction r with
  | zero =>
    intro x hx hq
    obtain rfl : x = k := by omega
    refine wp_iload dX8_ways_57 rfl ?_
    refine wp_aload_n (i := 0) dX8_ways_59 rfl rfl ?_
    refine wp_getI dX8_ways_60 fl_X8_143 rfl (st_k hst rfl) ?_
    refine wp_icmp_ge (tgt := 106) dX8_ways_63 (by decide) (fun zq63 => ?_) (fun zq63 => absurd (by rw [hkM]; exact nI_le (Nat.le_refl _) (by omega)) zq63) 
    exact hq
  | succ r ih =>
    intro x hx hq
    refine wp_iload dX8_ways_57 rfl ?_
    refine wp_aload_n (i := 0) dX8_ways_59 rfl rfl ?_
    refine wp_getI dX8_ways_60 fl_X8_143 rfl (st_k hst rfl) ?_
    refine wp_icmp_ge (tgt := 106) dX8_ways_63 (by decide) (fun zq63 => absurd (show I 94 1 ≤ nI x from zq63) (by rw [hkM]; exact nI_ge (show x < k by omega) (by omega))) (fun zq63 => ?_) 
    refine wp_iload dX8_ways_66 rfl ?_
    refine wp_aload_n (i := 0) dX8_ways_68 rfl rfl ?_
    refine wp_getR dX8_ways_69 fl_X8_65 rfl (st_k hst rfl) (st_r hst rfl) ?_
    refine wp_iload dX8_ways_72 rfl ?_
    refine wp_ild (j := x) dX8_ways_74 (st_t hst rfl) rfl (by omega) ?_
    refine wp_if_ge (tgt := 82) dX8_ways_75 (by decide) (fun zq75 => ?_) (fun zq75 => ?_) 
    · refine wp_aload_n (i := 0) dX8_ways_82 rfl rfl ?_
      refine wp_getR dX8_ways_83 fl_X8_13 rfl (st_k hst rfl) (st_r hst rfl) ?_
      refine wp_iload dX8_ways_86 rfl ?_
      refine wp_ild (j := x) dX8_ways_88 (st_t hst rfl) rfl (by omega) ?_
      refine wp_aload_n (i := 0) dX8_ways_89 rfl rfl ?_
      refine wp_getR dX8_ways_90 fl_X8_65 rfl (st_k hst rfl) (st_r hst rfl) ?_
      refine wp_iload dX8_ways_93 rfl ?_
      refine wp_ild (j := x) dX8_ways_95 (st_t hst rfl) rfl (by omega) ?_
      refine wp_imul dX8_ways_96 ?_
      have hsx : (selF k sm) x = true := Decidable.byContradiction (fun g => absurd (show (0 : Int32) ≤ I 113 x from zq75) (by rw [hS x (by omega), stp_n g]; decide))
      rw [show I 96 x = nI (wv x) from hW x (by omega), show I 113 x = _ from hS x (by omega)]
      refine wp_iadd dX8_ways_97 ?_
      rw [addI_s (T := (cst (selF k sm) wv M)) (a := x) (if_pos hsx)]
      refine wp_istore_6_4 dX8_ways_98 rfl ?_
      refine wp_iinc_6_5 (v := nI (x + 1)) dX8_ways_100 (n_add rfl rfl) ?_
      refine wp_goto (tgt := 57) dX8_ways_103 (by decide) ?_
      exact ih (x + 1) (by omega) hq
    · refine wp_iconst (v := 0) dX8_ways_78 (by decide) ?_
      refine wp_goto (tgt := 97) dX8_ways_79 (by decide) ?_
      refine wp_iadd dX8_ways_97 ?_
      have hns : ¬ (selF k sm) x = true := fun g => zq75 (Int32.not_lt.mp (by rw [hS x (by omega)]; exact stp_y g))
      rw [Int32.add_zero, addI_z (T := (cst (selF k sm) wv M)) (a := x) (if_neg hns)]
      refine wp_istore_6_4 dX8_ways_98 rfl ?_
      refine wp_iinc_6_5 (v := nI (x + 1)) dX8_ways_100 (n_add rfl rfl) ?_
      refine wp_goto (tgt := 57) dX8_ways_103 (by decide) ?_
      exact ih (x + 1) (by omega) hq

theorem c_waysM (d : Nat) {n : Nat} {t : eT} {I : eI} {R : eR} {Q : Int32 → Nat → eT → eI → eR → Prop} (hst : ST n t R) {k : Nat} (hkM : I 94 1 = nI k) (hk4 : k ≤ 10) {wv : Nat → Nat} (hwb : ∀ y, y < k → wv y ≤ 999) (hW : ∀ y, y < k → I 96 y = nI (wv y)) {v h x : Int32} (h1 : ¬ ((0 < v.toInt ∧ v.toInt < 2 ^ k) ∧ (2 ≤ h.toInt ∧ h.toInt ≤ 9)) → Q (-2) n t I R) (h2 : ∀ sm h0, 0 < sm → sm < 2 ^ k → v = nI sm → h = nI h0 → 2 ≤ h0 → h0 ≤ 9 → (∀ j, j < k → x ≠ nI j) → x ≠ -1 → Q (-1) n t I R) (h3 : ∀ sm h0, 0 < sm → sm < 2 ^ k → v = nI sm → h = nI h0 → 2 ≤ h0 → h0 ≤ 9 → x = -1 → ∀ I2, FrY I I2 → Q (addI 0 (cst (selF k sm) wv (bld (selF k sm) wv k h0).2.2) k) n t I2 R) (h4 : ∀ sm h0, 0 < sm → sm < 2 ^ k → v = nI sm → h = nI h0 → 2 ≤ h0 → h0 ≤ 9 → ∀ j, j < k → x = nI j → ∀ I2, FrY I I2 → Q (stp (selF k sm) (bld (selF k sm) wv k h0).2.2 j) n t I2 R) : MC yX8_ways cX8_ways 6 (some .int) (d + 3) 0 0 [.ref 94, .int v, .int h, .int x] n t I R (qI Q) := by
  refine mc_intro (L0 := [.ref 94, .int v, .int h, .int x, vU, vU]) (by decide) rfl (Nat.le_of_ble_eq_true rfl) ?_
  refine wp_aload_n (i := 0) dX8_ways_0 rfl rfl ?_
  refine wp_iload_n (i := 1) dX8_ways_1 rfl rfl ?_
  refine wp_V1i dX8_ways_2 mw_1040 mw_1042 ms_43 mi_X8_areParts (Nat.le_of_ble_eq_true rfl) (Nat.le_refl _) (Nat.le_refl _) (st_k hst rfl) (by decide) rfl (c_areParts _ hst hkM hk4 (fun sm hsp hsl esm => ?_) (fun gs => ?_)) 
  · subst esm
    refine wp_if_eq1 (tgt := 22) dX8_ways_5 (by decide) ?_
    refine wp_iload_n (i := 2) dX8_ways_8 rfl rfl ?_
    refine wp_i2l dX8_ways_9 ?_
    refine wp_ldc2 (v := 2) dX8_ways_10 mw_898 ?_
    refine wp_ldc2 (v := 9) dX8_ways_13 mw_1044 ?_
    refine wp_S3i dX8_ways_16 mw_887 mw_888 mi_X8_in (Nat.le_of_ble_eq_true rfl) (Nat.le_refl _) (Nat.le_refl _) (c_in _ (a := 2) (b := 9) rfl rfl (fun ga16 gb16 => ?_) (fun gn16 => ?_)) 
    · skip
      refine wp_if_ne1 (tgt := 25) dX8_ways_19 (by decide) ?_
      obtain ⟨h0, hh0, eh0⟩ := nat_yes (x := h) (m := 10) (by omega) (by omega) (by omega)
      subst eh0
      rw [nI_toInt (by omega)] at ga16
      refine wp_iload_n (i := 3) dX8_ways_25 rfl rfl ?_
      refine wp_i2l dX8_ways_26 ?_
      refine wp_ldc2 (v := (-1)) dX8_ways_27 mw_952 ?_
      refine wp_aload_n (i := 0) dX8_ways_30 rfl rfl ?_
      refine wp_getI dX8_ways_31 fl_X8_143 rfl (st_k hst rfl) ?_
      refine wp_i2l dX8_ways_34 ?_
      refine wp_lconst (v := 1) dX8_ways_35 (by decide) ?_
      refine wp_lsub dX8_ways_36 ?_
      rw [hkM]
      refine wp_S3i dX8_ways_37 mw_887 mw_888 mi_X8_in (Nat.le_of_ble_eq_true rfl) (Nat.le_refl _) (Nat.le_refl _) (c_in _ (a := -1) (b := (k : Int) - 1) rfl (nI_subL (by omega)) (fun ga gb => ?_) (fun gn => ?_)) 
      · have hpb := pow_b k hk4
        have hN1 := ci_pos k hk4 sm hsl hsp
        have b0 := bld_ok (sel := (selF k sm)) (wv := wv) hk4 hwb hN1 (show 2 ≤ h0 by omega)
        have hcx := ci_lt (k := k) (sm := sm) b0.2.1
        refine wp_if_ne1 (tgt := 45) dX8_ways_40 (by decide) ?_
        refine wp_aload_n (i := 0) dX8_ways_45 rfl rfl ?_
        refine wp_iload_n (i := 1) dX8_ways_46 rfl rfl ?_
        refine wp_iload_n (i := 2) dX8_ways_47 rfl rfl ?_
        refine wp_V2v dX8_ways_48 mw_1045 mw_1047 ms_44 mi_X8_layWays (Nat.le_of_ble_eq_true rfl) (Nat.le_refl _) (Nat.le_refl _) (st_k hst rfl) (by decide) rfl (c_layWays _ hst hk4 (show sm < 1024 by omega) (show 2 ≤ h0 by omega) (show h0 ≤ 9 by omega) hwb hN1 hkM hW (fun I2 hS hf => ?_)) 
        refine wp_iconst (v := 0) dX8_ways_51 (by decide) ?_
        refine wp_istore_6_4 dX8_ways_52 rfl ?_
        refine wp_iconst (v := 0) dX8_ways_54 (by decide) ?_
        refine wp_istore_6_5 dX8_ways_55 rfl ?_
        refine lp_ws _ hst (show I2 94 1 = nI k by rw [hf.2 1 (by decide)]; exact hkM) hk4 (wv := wv) (fun y hy => by rw [hf.1 96 (by decide) (by decide) (by decide) (by decide)]; exact hW y hy) hS k 0 (by omega) ?_
        refine wp_iload_n (i := 3) dX8_ways_106 rfl rfl ?_
        refine wp_if_ge (tgt := 115) dX8_ways_107 (by decide) (fun zq107 => ?_) (fun zq107 => ?_) 
        · obtain ⟨j, hj, ej⟩ := nat_yes (x := x) (m := k) (by omega) (by rw [i_le, i0] at zq107; omega) gb
          subst ej
          refine wp_aload_n (i := 0) dX8_ways_115 rfl rfl ?_
          refine wp_getR dX8_ways_116 fl_X8_65 rfl (st_k hst rfl) (st_r hst rfl) ?_
          refine wp_iload_n (i := 3) dX8_ways_119 rfl rfl ?_
          refine wp_ild (j := j) dX8_ways_120 (st_t hst rfl) rfl (by omega) ?_
          rw [hS j hj]
          exact wp_retI dX8_ways_121 rfl (Nat.le_refl _) (Nat.le_refl _) (h4 sm h0 hsp hsl rfl rfl (by omega) (by omega) j hj rfl I2 hf)
        · refine wp_iload dX8_ways_110 rfl ?_
          refine wp_goto (tgt := 121) dX8_ways_112 (by decide) ?_
          exact wp_retI dX8_ways_121 rfl (Nat.le_refl _) (Nat.le_refl _) (h3 sm h0 hsp hsl rfl rfl (by omega) (by omega) (by apply Int32.toInt_inj.mp; rw [im1]; rw [i_le, i0] at zq107; omega) I2 hf)
      · skip
        refine wp_if_ne0 (tgt := 45) dX8_ways_40 (by decide) ?_
        refine wp_iconst (v := (-1)) dX8_ways_43 (by decide) ?_
        exact wp_retI dX8_ways_44 rfl (Nat.le_refl _) (Nat.le_refl _) (h2 sm h0 hsp hsl rfl rfl (by omega) (by omega) (fun j hj e => gn (by rw [e, nI_toInt (by omega)]; omega)) (fun e => gn (by rw [e, im1]; omega)))
    · skip
      refine wp_if_ne0 (tgt := 25) dX8_ways_19 (by decide) ?_
      refine wp_bipush (v := (-2)) dX8_ways_22 (by decide) ?_
      exact wp_retI dX8_ways_24 rfl (Nat.le_refl _) (Nat.le_refl _) (h1 (fun g => gn16 g.2))
  · skip
    refine wp_if_eq0 (tgt := 22) dX8_ways_5 (by decide) ?_
    refine wp_bipush (v := (-2)) dX8_ways_22 (by decide) ?_
    exact wp_retI dX8_ways_24 rfl (Nat.le_refl _) (Nat.le_refl _) (h1 (fun g => gs g.1))

theorem lp_kept (d : Nat) {n : Nat} {t : eT} {I : eI} {R : eR} {Q : eQt} (hst : ST n t R) {k : Nat} (hk : I 5 0 = nI k) (hk4 : k ≤ 10) {s : WS} (hs : OKW s) (hN : s.1 ≤ 20) (hR : RWc I s) {sel : Nat → Bool} (hO : NOf I sel 10) (hcx : ∀ x, sel x = true → ci sel x < s.1) {kv : Nat → Nat} (hK : ∀ y, y < k → I 6 y = nI (kv y) ∧ kv y ≤ 2) {w : Int32} {x1 x2 x4 : Value} : ∀ (r x : Nat), x + r = k → wp yX7_kept cX7_kept 7 (some .int) (d + 1) 0 0 Q 0 0 130 [.ref 4, x1, x2, .int w, x4, .int (orA (kpt kv w (stp sel s.2.2)) k), .int (nI k)] [] n t I R → wp yX7_kept cX7_kept 7 (some .int) (d + 1) 0 0 Q 0 0 76 [.ref 4, x1, x2, .int w, x4, .int (orA (kpt kv w (stp sel s.2.2)) x), .int (nI x)] [] n t I R := by
  intro r
  induction r with
  | zero =>
    intro x hx hq
    obtain rfl : x = k := by omega
    refine wp_iload dX7_kept_76 rfl ?_
    refine wp_aload_n (i := 0) dX7_kept_78 rfl rfl ?_
    refine wp_getR dX7_kept_79 fl_X7_12 rfl (st_k hst rfl) (st_r hst rfl) ?_
    refine wp_getI dX7_kept_82 fl_X7_95 rfl (st_k hst rfl) ?_
    refine wp_icmp_ge (tgt := 130) dX7_kept_85 (by decide) (fun zq85 => ?_) (fun zq85 => absurd (by rw [hk]; exact nI_le (Nat.le_refl _) (by omega)) zq85) 
    exact hq
  | succ r ih =>
    intro x hx hq
    refine wp_iload dX7_kept_76 rfl ?_
    refine wp_aload_n (i := 0) dX7_kept_78 rfl rfl ?_
    refine wp_getR dX7_kept_79 fl_X7_12 rfl (st_k hst rfl) (st_r hst rfl) ?_
    refine wp_getI dX7_kept_82 fl_X7_95 rfl (st_k hst rfl) ?_
    refine wp_icmp_ge (tgt := 130) dX7_kept_85 (by decide) (fun zq85 => absurd (show I 5 0 ≤ nI x from zq85) (by rw [hk]; exact nI_ge (show x < k by omega) (by omega))) (fun zq85 => ?_) 
    have hkx := hK x (by omega)
    refine wp_aload_n (i := 0) dX7_kept_88 rfl rfl ?_
    refine wp_getR dX7_kept_89 fl_X7_12 rfl (st_k hst rfl) (st_r hst rfl) ?_
    refine wp_getR dX7_kept_92 fl_X7_102 rfl (st_k hst rfl) (st_r hst rfl) ?_
    refine wp_iload dX7_kept_95 rfl ?_
    refine wp_ild (j := x) dX7_kept_97 (st_t hst rfl) rfl (by omega) ?_
    refine wp_iconst (v := 1) dX7_kept_98 (by decide) ?_
    refine wp_icmp_lt (tgt := 124) dX7_kept_99 (by decide) (fun zq99 => ?_) (fun zq99 => ?_) 
    · refine wp_iinc_7_6 (v := nI (x + 1)) dX7_kept_124 (n_add rfl rfl) ?_
      refine wp_goto (tgt := 76) dX7_kept_127 (by decide) ?_
      have hz : (kpt kv w (stp sel s.2.2)) x = 0 := if_neg (fun g => absurd zq99 (by rw [hkx.1]; exact nI_nlt (b := 1) g.1 (by omega)))
      rw [orA_z hz]
      exact ih (x + 1) (by omega) hq
    · refine wp_aload_n (i := 0) dX7_kept_102 rfl rfl ?_
      refine wp_getR dX7_kept_103 fl_X7_45 rfl (st_k hst rfl) (st_r hst rfl) ?_
      refine wp_iload dX7_kept_106 rfl ?_
      refine wp_V1i dX7_kept_108 mw_537 mw_534 mw_535 mi_X1_stepsOf (Nat.le_of_ble_eq_true rfl) (Nat.le_refl _) (Nat.le_refl _) (st_k hst rfl) (by decide) rfl (c_stepsOf _ hst hs hN hR hO (show x < 10 by omega) (hcx x) ?_) 
      refine wp_iload_n (i := 3) dX7_kept_111 rfl rfl ?_
      refine wp_icmp_le (tgt := 124) dX7_kept_112 (by decide) (fun zq112 => ?_) (fun zq112 => ?_) 
      · refine wp_iinc_7_6 (v := nI (x + 1)) dX7_kept_124 (n_add rfl rfl) ?_
        refine wp_goto (tgt := 76) dX7_kept_127 (by decide) ?_
        have hz : (kpt kv w (stp sel s.2.2)) x = 0 := if_neg (fun g => absurd zq112 (Int32.not_le.mpr g.2))
        rw [orA_z hz]
        exact ih (x + 1) (by omega) hq
      · refine wp_iload dX7_kept_115 rfl ?_
        refine wp_iconst (v := 1) dX7_kept_117 (by decide) ?_
        refine wp_iload dX7_kept_118 rfl ?_
        refine wp_ishl dX7_kept_120 ?_
        refine wp_ior dX7_kept_121 ?_
        have hz : (kpt kv w (stp sel s.2.2)) x = (1 : Int32) <<< (nI x &&& 31) := if_pos ⟨Nat.pos_of_ne_zero (fun g => zq99 (by rw [hkx.1, g]; decide)), Int32.not_le.mp zq112⟩
        rw [orA_s hz]
        refine wp_istore_7_5 dX7_kept_122 rfl ?_
        refine wp_iinc_7_6 (v := nI (x + 1)) dX7_kept_124 (n_add rfl rfl) ?_
        refine wp_goto (tgt := 76) dX7_kept_127 (by decide) ?_
        exact ih (x + 1) (by omega) hq

theorem c_kept (d : Nat) {n : Nat} {t : eT} {I : eI} {R : eR} {Q : Int32 → Nat → eT → eI → eR → Prop} (hst : ST n t R) {m : Nat} (hm : I 4 3 = nI m) (hm4 : m ≤ 4) {k : Nat} (hk : I 5 0 = nI k) (hk4 : k ≤ 10) {j : Nat} (hjm : j < m) {wv : Nat → Nat} (hwb : ∀ y, y < k → wv y ≤ 999) (hW : ∀ y, y < k → I 7 y = nI (wv y)) {kv : Nat → Nat} (hK : ∀ y, y < k → I 6 y = nI (kv y) ∧ kv y ≤ 2) {hd : Nat} (hd10 : hd ≤ 10) (hhd : I (55 + 10 * j) 2 = nI hd) {v w : Int32} (h1 : ¬ ((0 < v.toInt ∧ v.toInt < 2 ^ k) ∧ (1 ≤ w.toInt ∧ w.toInt ≤ 9)) → Q (-2) n t I R) (h3 : ∀ sm, 0 < sm → sm < 2 ^ k → v = nI sm → (1 ≤ w.toInt ∧ w.toInt ≤ 9) → ∀ I2, FrB I I2 → Q (orA (kpt kv w (stp (selF k sm) (bld (selF k sm) wv k (clH hd)).2.2)) k) n t I2 R) : MC yX7_kept cX7_kept 7 (some .int) (d + 3) 0 0 [.ref 4, .int (nI j), .int v, .int w] n t I R (qI Q) := by
  refine mc_intro (L0 := [.ref 4, .int (nI j), .int v, .int w, vU, vU, vU]) (by decide) rfl (Nat.le_of_ble_eq_true rfl) ?_
  refine wp_aload_n (i := 0) dX7_kept_0 rfl rfl ?_
  refine wp_iload_n (i := 1) dX7_kept_1 rfl rfl ?_
  refine wp_V1i dX7_kept_2 mw_375 mw_377 ms_7 mi_X7_isPerson (Nat.le_of_ble_eq_true rfl) (Nat.le_refl _) (Nat.le_refl _) (st_k hst rfl) (by decide) rfl (c_isPerson _ hst (by exact hm) hm4 (fun _ _ _ => ?_) (fun no => absurd rfl (no j hjm))) 
  · skip
    refine wp_if_ne1 (tgt := 10) dX7_kept_5 (by decide) ?_
    refine wp_aload_n (i := 0) dX7_kept_10 rfl rfl ?_
    refine wp_getR dX7_kept_11 fl_X7_12 rfl (st_k hst rfl) (st_r hst rfl) ?_
    refine wp_iload_n (i := 2) dX7_kept_14 rfl rfl ?_
    refine wp_V1i dX7_kept_15 mw_512 mw_395 mw_396 mi_X2_hasSet (Nat.le_of_ble_eq_true rfl) (Nat.le_refl _) (Nat.le_refl _) (st_k hst rfl) (by decide) rfl (c_hasSet _ hst hk hk4 (fun sm hsp hsl esm => ?_) (fun gs => ?_)) 
    · subst esm
      refine wp_if_eq1 (tgt := 31) dX7_kept_18 (by decide) ?_
      refine wp_iload_n (i := 3) dX7_kept_21 rfl rfl ?_
      refine wp_iconst (v := 1) dX7_kept_22 (by decide) ?_
      refine wp_bipush (v := 9) dX7_kept_23 (by decide) ?_
      refine wp_S3i dX7_kept_25 mw_267 mw_268 mi_X7_isWithin (Nat.le_of_ble_eq_true rfl) (Nat.le_refl _) (Nat.le_refl _) (c_isWithin _ (a := 1) (b := 9) rfl rfl (fun ga25 gb25 => ?_) (fun gn25 => ?_)) 
      · skip
        refine wp_if_ne1 (tgt := 34) dX7_kept_28 (by decide) ?_
        have hpb := pow_b k hk4
        have hN1 := ci_pos k hk4 sm hsl hsp
        have b0 := bld_ok (sel := (selF k sm)) (wv := wv) hk4 hwb hN1 (clH_b hd).1
        have hcx := ci_lt (k := k) (sm := sm) b0.2.1
        refine wp_aload_n (i := 0) dX7_kept_34 rfl rfl ?_
        refine wp_getR dX7_kept_35 fl_X7_27 rfl (st_k hst rfl) (st_r hst rfl) ?_
        refine wp_iload_n (i := 1) dX7_kept_38 rfl rfl ?_
        refine wp_rld11 (j := j) dX7_kept_39 (st_t hst rfl) rfl (by omega) (sp_34 hst (by omega)) ?_
        refine wp_getR dX7_kept_40 fl_X7_121 rfl (sp_k0 hst (by omega)) (sp_r0 hst (by omega)) ?_
        refine wp_iconst (v := 2) dX7_kept_43 (by decide) ?_
        refine wp_ild (j := 2) dX7_kept_44 (sp_t1 hst (by omega)) rfl (by omega) ?_
        refine wp_iconst (v := 2) dX7_kept_45 (by decide) ?_
        rw [hhd]
        refine wp_mmax dX7_kept_46 mw_542 (Nat.le_of_ble_eq_true rfl) (Nat.le_refl _) (Nat.le_refl _) ?_
        refine wp_bipush (v := 9) dX7_kept_49 (by decide) ?_
        refine wp_mmin dX7_kept_51 mw_543 (Nat.le_of_ble_eq_true rfl) (Nat.le_refl _) (Nat.le_refl _) ?_
        refine wp_topI (v2 := nI (clH hd)) (clH_c hd hd10) ?_
        refine wp_istore_7_4 dX7_kept_54 (by first | rfl | assumption) ?_
        refine wp_aload_n (i := 0) dX7_kept_56 rfl rfl ?_
        refine wp_getR dX7_kept_57 fl_X7_45 rfl (st_k hst rfl) (st_r hst rfl) ?_
        refine wp_aload_n (i := 0) dX7_kept_60 rfl rfl ?_
        refine wp_getR dX7_kept_61 fl_X7_12 rfl (st_k hst rfl) (st_r hst rfl) ?_
        refine wp_iload_n (i := 2) dX7_kept_64 rfl rfl ?_
        refine wp_iload dX7_kept_65 rfl ?_
        refine wp_V3v dX7_kept_67 mw_513 mw_514 mw_515 mi_X1_build (Nat.le_of_ble_eq_true rfl) (Nat.le_refl _) (Nat.le_refl _) (st_k hst rfl) (by decide) rfl (c_build _ hst hk4 (show sm < 1024 by omega) (clH_b hd).1 (clH_b hd).2 hwb hN1 hk hW (fun I2 hR hO hf => ?_)) 
        refine wp_iconst (v := 0) dX7_kept_70 (by decide) ?_
        refine wp_istore_7_5 dX7_kept_71 (by first | rfl | assumption) ?_
        refine wp_iconst (v := 0) dX7_kept_73 (by decide) ?_
        refine wp_istore_7_6 dX7_kept_74 (by first | rfl | assumption) ?_
        refine lp_kept _ hst (show I2 5 0 = nI k by rw [hf.1 5 (by decide) (by decide) (by decide) (by decide)]; exact hk) hk4 b0.1 b0.2.2 hR hO hcx (kv := kv) (fun y hy => by rw [hf.1 6 (by decide) (by decide) (by decide) (by decide)]; exact hK y hy) k 0 (by omega) ?_
        refine wp_iload dX7_kept_130 rfl ?_
        exact wp_retI dX7_kept_132 rfl (Nat.le_refl _) (Nat.le_refl _) (h3 sm hsp hsl rfl ⟨ga25, gb25⟩ I2 hf)
      · skip
        refine wp_if_ne0 (tgt := 34) dX7_kept_28 (by decide) ?_
        refine wp_bipush (v := (-2)) dX7_kept_31 (by decide) ?_
        exact wp_retI dX7_kept_33 rfl (Nat.le_refl _) (Nat.le_refl _) (h1 (fun g => gn25 g.2))
    · skip
      refine wp_if_eq0 (tgt := 31) dX7_kept_18 (by decide) ?_
      refine wp_bipush (v := (-2)) dX7_kept_31 (by decide) ?_
      exact wp_retI dX7_kept_33 rfl (Nat.le_refl _) (Nat.le_refl _) (h1 (fun g => gs g.1))

theorem lp_keptM (d : Nat) {n : Nat} {t : eT} {I : eI} {R : eR} {Q : eQt} (hst : ST n t R) {k : Nat} (hkM : I 94 1 = nI k) (hk4 : k ≤ 10) {kv : Nat → Nat} (hK : ∀ y, y < k → I 95 y = nI (kv y) ∧ kv y ≤ 2) {S : Nat → Int32} (hS : ∀ y, y < k → I 113 y = S y) {w : Int32} {x1 x2 x4 : Value} : ∀ (r x : Nat), x + r = k → wp yX8_kept cX8_kept 7 (some .int) d 0 0 Q 0 0 125 [.ref 94, x1, x2, .int w, x4, .int (orA (kpt kv w S) k), .int (nI k)] [] n t I R → wp yX8_kept cX8_kept 7 (some .int) d 0 0 Q 0 0 76 [.ref 94, x1, x2, .int w, x4, .int (orA (kpt kv w S) x), .int (nI x)] [] n t I R := by
  intro r
  induction r with
  | zero =>
    intro x hx hq
    obtain rfl : x = k := by omega
    refine wp_iload dX8_kept_76 rfl ?_
    refine wp_aload_n (i := 0) dX8_kept_78 rfl rfl ?_
    refine wp_getI dX8_kept_79 fl_X8_143 rfl (st_k hst rfl) ?_
    refine wp_icmp_ge (tgt := 125) dX8_kept_82 (by decide) (fun zq82 => ?_) (fun zq82 => absurd (by rw [hkM]; exact nI_le (Nat.le_refl _) (by omega)) zq82) 
    exact hq
  | succ r ih =>
    intro x hx hq
    refine wp_iload dX8_kept_76 rfl ?_
    refine wp_aload_n (i := 0) dX8_kept_78 rfl rfl ?_
    refine wp_getI dX8_kept_79 fl_X8_143 rfl (st_k hst rfl) ?_
    refine wp_icmp_ge (tgt := 125) dX8_kept_82 (by decide) (fun zq82 => absurd (show I 94 1 ≤ nI x from zq82) (by rw [hkM]; exact nI_ge (show x < k by omega) (by omega))) (fun zq82 => ?_) 
    have hkx := hK x (by omega)
    refine wp_iload dX8_kept_85 rfl ?_
    refine wp_aload_n (i := 0) dX8_kept_87 rfl rfl ?_
    refine wp_getR dX8_kept_88 fl_X8_7 rfl (st_k hst rfl) (st_r hst rfl) ?_
    refine wp_iload dX8_kept_91 rfl ?_
    refine wp_ild (j := x) dX8_kept_93 (st_t hst rfl) rfl (by omega) ?_
    refine wp_if_le (tgt := 115) dX8_kept_94 (by decide) (fun zq94 => ?_) (fun zq94 => ?_) 
    · refine wp_iconst (v := 0) dX8_kept_115 (by decide) ?_
      refine wp_ior dX8_kept_116 ?_
      have hz : (kpt kv w S) x = 0 := if_neg (fun g => absurd (show I 95 x ≤ 0 from zq94) (by rw [hkx.1]; exact nI_nle g.1 (by omega)))
      rw [Int32.or_zero, orA_z hz]
      refine wp_istore_7_5 dX8_kept_117 rfl ?_
      refine wp_iinc_7_6 (v := nI (x + 1)) dX8_kept_119 (n_add rfl rfl) ?_
      refine wp_goto (tgt := 76) dX8_kept_122 (by decide) ?_
      exact ih (x + 1) (by omega) hq
    · refine wp_aload_n (i := 0) dX8_kept_97 rfl rfl ?_
      refine wp_getR dX8_kept_98 fl_X8_65 rfl (st_k hst rfl) (st_r hst rfl) ?_
      refine wp_iload dX8_kept_101 rfl ?_
      refine wp_ild (j := x) dX8_kept_103 (st_t hst rfl) rfl (by omega) ?_
      refine wp_iload_n (i := 3) dX8_kept_104 rfl rfl ?_
      refine wp_icmp_le (tgt := 115) dX8_kept_105 (by decide) (fun zq105 => ?_) (fun zq105 => ?_) 
      · refine wp_iconst (v := 0) dX8_kept_115 (by decide) ?_
        refine wp_ior dX8_kept_116 ?_
        have hz : (kpt kv w S) x = 0 := if_neg (fun g => absurd (show I 113 x ≤ w from zq105) (by rw [hS x (by omega)]; exact Int32.not_le.mpr g.2))
        rw [Int32.or_zero, orA_z hz]
        refine wp_istore_7_5 dX8_kept_117 rfl ?_
        refine wp_iinc_7_6 (v := nI (x + 1)) dX8_kept_119 (n_add rfl rfl) ?_
        refine wp_goto (tgt := 76) dX8_kept_122 (by decide) ?_
        exact ih (x + 1) (by omega) hq
      · refine wp_iconst (v := 1) dX8_kept_108 (by decide) ?_
        refine wp_iload dX8_kept_109 rfl ?_
        refine wp_ishl dX8_kept_111 ?_
        refine wp_goto (tgt := 116) dX8_kept_112 (by decide) ?_
        refine wp_ior dX8_kept_116 ?_
        have hz : (kpt kv w S) x = (1 : Int32) <<< (nI x &&& 31) := if_pos ⟨Nat.pos_of_ne_zero (fun g => zq94 (by show I 95 x ≤ 0; rw [hkx.1, g]; decide)), by rw [← hS x (by omega)]; exact Int32.not_le.mp zq105⟩
        rw [orA_s hz]
        refine wp_istore_7_5 dX8_kept_117 rfl ?_
        refine wp_iinc_7_6 (v := nI (x + 1)) dX8_kept_119 (n_add rfl rfl) ?_
        refine wp_goto (tgt := 76) dX8_kept_122 (by decide) ?_
        exact ih (x + 1) (by omega) hq

theorem c_keptM (d : Nat) {n : Nat} {t : eT} {I : eI} {R : eR} {Q : Int32 → Nat → eT → eI → eR → Prop} (hst : ST n t R) {m : Nat} (hmM : I 94 9 = nI m) (hm4 : m ≤ 4) {k : Nat} (hkM : I 94 1 = nI k) (hk4 : k ≤ 10) {j : Nat} (hjm : j < m) {wv : Nat → Nat} (hwb : ∀ y, y < k → wv y ≤ 999) (hW : ∀ y, y < k → I 96 y = nI (wv y)) {kv : Nat → Nat} (hK : ∀ y, y < k → I 95 y = nI (kv y) ∧ kv y ≤ 2) {hd : Nat} (hd10 : hd ≤ 10) (hhd : I 103 j = nI hd) {v w : Int32} (h1 : ¬ ((0 < v.toInt ∧ v.toInt < 2 ^ k) ∧ (1 ≤ w.toInt ∧ w.toInt ≤ 9)) → Q (-2) n t I R) (h3 : ∀ sm, 0 < sm → sm < 2 ^ k → v = nI sm → (1 ≤ w.toInt ∧ w.toInt ≤ 9) → ∀ I2, FrY I I2 → Q (orA (kpt kv w (stp (selF k sm) (bld (selF k sm) wv k (clH hd)).2.2)) k) n t I2 R) : MC yX8_kept cX8_kept 7 (some .int) (d + 3) 0 0 [.ref 94, .int (nI j), .int v, .int w] n t I R (qI Q) := by
  refine mc_intro (L0 := [.ref 94, .int (nI j), .int v, .int w, vU, vU, vU]) (by decide) rfl (Nat.le_of_ble_eq_true rfl) ?_
  refine wp_aload_n (i := 0) dX8_kept_0 rfl rfl ?_
  refine wp_iload_n (i := 1) dX8_kept_1 rfl rfl ?_
  refine wp_V1i dX8_kept_2 mw_942 mw_944 ms_32 mi_X8_noPerson (Nat.le_of_ble_eq_true rfl) (Nat.le_refl _) (Nat.le_refl _) (st_k hst rfl) (by decide) rfl (c_noPerson _ hst (by exact hmM) hm4 (fun _ _ _ => ?_) (fun no => absurd rfl (no j hjm))) 
  · skip
    refine wp_if_eq0 (tgt := 10) dX8_kept_5 (by decide) ?_
    refine wp_aload_n (i := 0) dX8_kept_10 rfl rfl ?_
    refine wp_iload_n (i := 2) dX8_kept_11 rfl rfl ?_
    refine wp_V1i dX8_kept_12 mw_1040 mw_1042 ms_43 mi_X8_areParts (Nat.le_of_ble_eq_true rfl) (Nat.le_refl _) (Nat.le_refl _) (st_k hst rfl) (by decide) rfl (c_areParts _ hst hkM hk4 (fun sm hsp hsl esm => ?_) (fun gs => ?_)) 
    · subst esm
      refine wp_if_eq1 (tgt := 30) dX8_kept_15 (by decide) ?_
      refine wp_iload_n (i := 3) dX8_kept_18 rfl rfl ?_
      refine wp_i2l dX8_kept_19 ?_
      refine wp_lconst (v := 1) dX8_kept_20 (by decide) ?_
      refine wp_ldc2 (v := 9) dX8_kept_21 mw_1044 ?_
      refine wp_S3i dX8_kept_24 mw_887 mw_888 mi_X8_in (Nat.le_of_ble_eq_true rfl) (Nat.le_refl _) (Nat.le_refl _) (c_in _ (a := 1) (b := 9) rfl rfl (fun ga24 gb24 => ?_) (fun gn24 => ?_)) 
      · skip
        refine wp_if_ne1 (tgt := 33) dX8_kept_27 (by decide) ?_
        have hpb := pow_b k hk4
        have hN1 := ci_pos k hk4 sm hsl hsp
        have b0 := bld_ok (sel := (selF k sm)) (wv := wv) hk4 hwb hN1 (clH_b hd).1
        have hcx := ci_lt (k := k) (sm := sm) b0.2.1
        refine wp_aload_n (i := 0) dX8_kept_33 rfl rfl ?_
        refine wp_getR dX8_kept_34 fl_X8_34 rfl (st_k hst rfl) (st_r hst rfl) ?_
        refine wp_iload_n (i := 1) dX8_kept_37 rfl rfl ?_
        refine wp_ild (j := j) dX8_kept_38 (st_t hst rfl) rfl (by omega) ?_
        refine wp_topI (v2 := nI hd) hhd ?_
        refine wp_istore_7_4 dX8_kept_39 (by first | rfl | assumption) ?_
        refine wp_aload_n (i := 0) dX8_kept_41 rfl rfl ?_
        refine wp_iload_n (i := 2) dX8_kept_42 rfl rfl ?_
        refine wp_iload dX8_kept_43 rfl ?_
        refine wp_iconst (v := 2) dX8_kept_45 (by decide) ?_
        refine wp_icmp_ge (tgt := 53) dX8_kept_46 (by decide) (fun zq46 => ?_) (fun zq46 => ?_) 
        · refine wp_iload dX8_kept_53 rfl ?_
          refine wp_bipush (v := 9) dX8_kept_55 (by decide) ?_
          refine wp_icmp_le (tgt := 65) dX8_kept_57 (by decide) (fun zq57 => ?_) (fun zq57 => ?_) 
          · refine wp_iload dX8_kept_65 rfl ?_
            refine wp_topI (v2 := nI (clH hd)) (show (nI hd : Int32) = nI (clH hd) by rw [show clH hd = hd from (if_neg (fun g => absurd zq46 (nI_ge (b := 2) g (by decide)))).trans (if_neg (fun g => absurd zq57 (nI_ge (a := 9) g (by omega))))]) ?_
            refine wp_V2v dX8_kept_67 mw_1045 mw_1047 ms_44 mi_X8_layWays (Nat.le_of_ble_eq_true rfl) (Nat.le_refl _) (Nat.le_refl _) (st_k hst rfl) (by decide) rfl (c_layWays _ hst hk4 (show sm < 1024 by omega) (clH_b hd).1 (clH_b hd).2 hwb hN1 hkM hW (fun I2 hS hf => ?_)) 
            refine wp_iconst (v := 0) dX8_kept_70 (by decide) ?_
            refine wp_istore_7_5 dX8_kept_71 (by first | rfl | assumption) ?_
            refine wp_iconst (v := 0) dX8_kept_73 (by decide) ?_
            refine wp_istore_7_6 dX8_kept_74 (by first | rfl | assumption) ?_
            refine lp_keptM _ hst (show I2 94 1 = nI k by rw [hf.2 1 (by decide)]; exact hkM) hk4 (kv := kv) (fun y hy => by rw [hf.1 95 (by decide) (by decide) (by decide) (by decide)]; exact hK y hy) hS k 0 (by omega) ?_
            refine wp_iload dX8_kept_125 rfl ?_
            exact wp_retI dX8_kept_127 rfl (Nat.le_refl _) (Nat.le_refl _) (h3 sm hsp hsl rfl ⟨ga24, gb24⟩ I2 hf)
          · refine wp_bipush (v := 9) dX8_kept_60 (by decide) ?_
            refine wp_goto (tgt := 67) dX8_kept_62 (by decide) ?_
            refine wp_topI (v2 := nI (clH hd)) (show (9 : Int32) = nI (clH hd) by rw [show clH hd = 9 from (if_neg (fun g => absurd zq46 (nI_ge (b := 2) g (by decide)))).trans (if_pos (Nat.lt_of_not_le (fun g => zq57 (nI_le (b := 9) g (by decide)))))]; rfl) ?_
            refine wp_V2v dX8_kept_67 mw_1045 mw_1047 ms_44 mi_X8_layWays (Nat.le_of_ble_eq_true rfl) (Nat.le_refl _) (Nat.le_refl _) (st_k hst rfl) (by decide) rfl (c_layWays _ hst hk4 (show sm < 1024 by omega) (clH_b hd).1 (clH_b hd).2 hwb hN1 hkM hW (fun I2 hS hf => ?_)) 
            refine wp_iconst (v := 0) dX8_kept_70 (by decide) ?_
            refine wp_istore_7_5 dX8_kept_71 (by first | rfl | assumption) ?_
            refine wp_iconst (v := 0) dX8_kept_73 (by decide) ?_
            refine wp_istore_7_6 dX8_kept_74 (by first | rfl | assumption) ?_
            refine lp_keptM _ hst (show I2 94 1 = nI k by rw [hf.2 1 (by decide)]; exact hkM) hk4 (kv := kv) (fun y hy => by rw [hf.1 95 (by decide) (by decide) (by decide) (by decide)]; exact hK y hy) hS k 0 (by omega) ?_
            refine wp_iload dX8_kept_125 rfl ?_
            exact wp_retI dX8_kept_127 rfl (Nat.le_refl _) (Nat.le_refl _) (h3 sm hsp hsl rfl ⟨ga24, gb24⟩ I2 hf)
        · refine wp_iconst (v := 2) dX8_kept_49 (by decide) ?_
          refine wp_goto (tgt := 67) dX8_kept_50 (by decide) ?_
          refine wp_topI (v2 := nI (clH hd)) (show (2 : Int32) = nI (clH hd) by rw [show clH hd = 2 from if_pos (Nat.lt_of_not_le (fun g => zq46 (nI_le (a := 2) g (by omega))))]; rfl) ?_
          refine wp_V2v dX8_kept_67 mw_1045 mw_1047 ms_44 mi_X8_layWays (Nat.le_of_ble_eq_true rfl) (Nat.le_refl _) (Nat.le_refl _) (st_k hst rfl) (by decide) rfl (c_layWays _ hst hk4 (show sm < 1024 by omega) (clH_b hd).1 (clH_b hd).2 hwb hN1 hkM hW (fun I2 hS hf => ?_)) 
          refine wp_iconst (v := 0) dX8_kept_70 (by decide) ?_
          refine wp_istore_7_5 dX8_kept_71 (by first | rfl | assumption) ?_
          refine wp_iconst (v := 0) dX8_kept_73 (by decide) ?_
          refine wp_istore_7_6 dX8_kept_74 (by first | rfl | assumption) ?_
          refine lp_keptM _ hst (show I2 94 1 = nI k by rw [hf.2 1 (by decide)]; exact hkM) hk4 (kv := kv) (fun y hy => by rw [hf.1 95 (by decide) (by decide) (by decide) (by decide)]; exact hK y hy) hS k 0 (by omega) ?_
          refine wp_iload dX8_kept_125 rfl ?_
          exact wp_retI dX8_kept_127 rfl (Nat.le_refl _) (Nat.le_refl _) (h3 sm hsp hsl rfl ⟨ga24, gb24⟩ I2 hf)
      · skip
        refine wp_if_ne0 (tgt := 33) dX8_kept_27 (by decide) ?_
        refine wp_bipush (v := (-2)) dX8_kept_30 (by decide) ?_
        exact wp_retI dX8_kept_32 rfl (Nat.le_refl _) (Nat.le_refl _) (h1 (fun g => gn24 g.2))
    · skip
      refine wp_if_eq0 (tgt := 30) dX8_kept_15 (by decide) ?_
      refine wp_bipush (v := (-2)) dX8_kept_30 (by decide) ?_
      exact wp_retI dX8_kept_32 rfl (Nat.le_refl _) (Nat.le_refl _) (h1 (fun g => gs g.1))

