def seekB (sel : Nat → Bool) (fv : Nat → Nat → Nat) (w hd : Nat) (rv : Int32) : BS := if hd < ci sel 10 then none else vcs (plF fv (chv sel)) w (ci sel 10) 0 0 (fun q => bt rv q) (fun _ => 0) none
def bsI : BS → Int32
  | none => -9
  | some q => nI q.1
def BF (I : eI) (sel : Nat → Bool) (b : BS) : Prop := match b with
  | none => I 36 0 = 0
  | some q => q.1 ≤ 24750 ∧ (∀ a, a < 10 → bt (I 36 0) a = sel a) ∧ ∀ i, i < ci sel 10 → I 37 (chv sel i) = nI (q.2 i) ∧ q.2 i < 12
def FrS (I I2 : eI) : Prop := ∀ a, (a < 35 ∨ (47 < a ∧ a < 128) ∨ 131 < a) → I2 a = I a
theorem plF_b {fv : Nat → Nat → Nat} {ch : Nat → Nat} (h : ∀ x y, fv x y ≤ 99) : ∀ a b, plF fv ch a b ≤ 198 := fun a b => by
  have h1 := h (ch a) (ch b)
  have h2 := h (ch b) (ch a)
  show fv (ch a) (ch b) + fv (ch b) (ch a) ≤ 198
  omega
theorem ch_inj {sel : Nat → Bool} : ∀ i i2, i < ci sel 10 → i2 < ci sel 10 → chv sel i = chv sel i2 → i = i2 := fun i i2 h1 h2 e => by
  have a1 := (ch_s (sel := sel) 10 i h1).2.2
  have a2 := (ch_s (sel := sel) 10 i2 h2).2.2
  rw [← a1, ← a2]
  exact congrArg _ e
theorem c_layFromT (d : Nat) {n : Nat} {t : eT} {I : eI} {R : eR} {Q : Nat → eT → eI → eR → Prop} (hst : ST n t R) {c : Nat} (hc : c ≤ 5) {ch : Nat → Nat} {sel : Nat → Bool} (hch : ∀ i, i < c → ch i < 10 ∧ sel (ch i) = true) (hinj : ∀ i i2, i < c → i2 < c → ch i = ch i2 → i = i2) (hsi : ∀ a, a < 10 → sel a = true → ∃ i, i < c ∧ ch i = a) {pull : Nat → Nat → Nat} (hu : ∀ a b, pull a b ≤ 198) (hsy : ∀ a b, pull a b = pull b a) {w : Nat} (hw : w ≤ 2) {rv : Int32} (hS : SC I c ch pull w) (hB : BC I c ch sel none) (hq : ∀ I2 : eI, BC I2 c ch sel (vcs pull w c 0 0 (fun q => bt rv q) (fun _ => 0) none) → FrL I I2 → Q n t I2 R) : MC yX5_layFrom cX5_layFrom 7 none (d + 8) 0 0 [.ref 35, .int 0, .int 0, .int rv] n t I R (qV Q) := by
  have h := c_layFrom (d + (5 - c)) hst hc hch hinj hsi hu hsy hw c 0 (fun _ => 0) 0 (fun q => bt rv q) rv none I Q (by omega) hS hB (fun x hx => absurd hx (Nat.not_lt_zero x)) rfl (fun q _ => rfl) (fun l _ h2 q h3 _ => show I 132 (l * 12 + q) = 0 from hS.2.2.2.2.2.1 (l * 12 + q) (by omega)) (fun I2 h1 h2 _ _ => hq I2 h1 h2)
  rw [show d + (5 - c) + c + 3 = d + 8 by omega] at h
  exact h
theorem c_seek (d : Nat) {n : Nat} {t : eT} {I : eI} {R : eR} {Q : Int32 → Nat → eT → eI → eR → Prop} (hst : ST n t R) {sv : Int32} {sel : Nat → Bool} (hc5 : ci sel 10 ≤ 5) (hc1 : 1 ≤ ci sel 10) {k : Nat} (hk4 : k ≤ 10) (hsk : ∀ x, sel x = true → x < k) {fv : Nat → Nat → Nat} (hfb : ∀ x y, fv x y ≤ 99) {j : Nat} (hj : j < 4) {w hd : Nat} (hw2 : w ≤ 2) (hd10 : hd ≤ 10) {rv : Int32} (hsel : ∀ x, x < 10 → (bt sv x = sel x)) (hF : ∀ x y, x < k → y < k → I (9 + x) y = nI (fv x y)) (hw0 : I (55 + 10 * j) 0 = nI w) (hrv : I (55 + 10 * j) 1 = rv) (hhd : I (55 + 10 * j) 2 = nI hd) (hSK : SK I) (hq : ∀ I2 : eI, BF I2 sel (seekB sel fv w hd rv) → FrS I I2 → Q (bsI (seekB sel fv w hd rv)) n t I2 R) : MC yX5_seek cX5_seek 4 (some .int) (d + 9) 0 0 [.ref 35, .ref 5, .int sv, .ref (54 + 10 * j)] n t I R (qI Q) := by
  refine mc_intro (L0 := [.ref 35, .ref 5, .int sv, .ref (54 + 10 * j)]) (by decide) rfl (Nat.le_of_ble_eq_true rfl) ?_
  refine wp_aload_n (i := 0) dX5_seek_0 rfl rfl ?_
  refine wp_getR dX5_seek_1 fl_X5_12 rfl (st_k hst rfl) (st_r hst rfl) ?_
  refine wp_V0v dX5_seek_4 mw_408 mw_344 mw_345 mi_X0_clear (Nat.le_of_ble_eq_true rfl) (Nat.le_refl _) (Nat.le_refl _) (st_k hst rfl) (by decide) rfl (c_lclear _ (st_k hst rfl) ?_) 
  refine wp_aload_n (i := 0) dX5_seek_7 rfl rfl ?_
  refine wp_iload_n (i := 2) dX5_seek_8 rfl rfl ?_
  refine wp_V1v dX5_seek_9 mw_409 mw_411 ms_9 mi_X5_choose (Nat.le_of_ble_eq_true rfl) (Nat.le_refl _) (Nat.le_refl _) (st_k hst rfl) (by decide) rfl (c_choose _ hst hsel hc5 (fun I2 g1 g2 g3 g4 => ?_)) 
  have hcc : ∀ i, i < ci sel 10 → chv sel i < 10 ∧ sel (chv sel i) = true := fun i hi => ⟨(ch_s (sel := sel) 10 i hi).1, (ch_s (sel := sel) 10 i hi).2.1⟩
  have hck : ∀ i, i < ci sel 10 → chv sel i < k := fun i hi => hsk _ (hcc i hi).2
  have hsi : ∀ a, a < 10 → sel a = true → ∃ i, i < ci sel 10 ∧ chv sel i = a := fun a ha hs => ⟨ci sel a, (ch_i (sel := sel) 10 a ha hs).2, (ch_i (sel := sel) 10 a ha hs).1⟩
  have hA2 : I2 (55 + 10 * j) = I (55 + 10 * j) := by rw [g3 (55 + 10 * j) (by omega) (by omega), eU_ne (by omega)]
  have hL2 : I2 36 0 = 0 := by rw [g3 36 (by decide) (by decide)]; exact eU_at _ _ _ _
  have hfS2 : FrS I I2 := fun a ha => by rw [g3 a (by omega) (by omega), eU_ne (by omega)]
  refine wp_aload_n (i := 0) dX5_seek_12 rfl rfl ?_
  refine wp_getI dX5_seek_13 fl_X5_42 rfl (st_k hst rfl) ?_
  refine wp_aload_n (i := 3) dX5_seek_16 rfl rfl ?_
  refine wp_getR dX5_seek_17 fl_X5_67 rfl (sp_k0 hst (by omega)) (sp_r0 hst (by omega)) ?_
  refine wp_iconst (v := 2) dX5_seek_20 (by decide) ?_
  refine wp_ild (j := 2) dX5_seek_21 (sp_t1 hst (by omega)) rfl (by omega) ?_
  rw [g1, hA2, hhd]
  refine wp_icmp_le (tgt := 28) dX5_seek_22 (by decide) (fun zq22 => ?_) (fun zq22 => ?_) 
  · refine wp_aload_n (i := 0) dX5_seek_28 rfl rfl ?_
    refine wp_aload_n (i := 3) dX5_seek_29 rfl rfl ?_
    refine wp_getR dX5_seek_30 fl_X5_67 rfl (sp_k0 hst (by omega)) (sp_r0 hst (by omega)) ?_
    refine wp_iconst (v := 0) dX5_seek_33 (by decide) ?_
    refine wp_ild (j := 0) dX5_seek_34 (sp_t1 hst (by omega)) rfl (by omega) ?_
    have hle : ¬ hd < ci sel 10 := fun g => absurd zq22 (nI_ge g (by omega))
    rw [hA2, hw0]
    refine wp_putI dX5_seek_35 fl_X5_46 rfl (Or.inl rfl) (st_k hst rfl) ?_
    refine wp_aload_n (i := 0) dX5_seek_38 rfl rfl ?_
    refine wp_aload_n (i := 1) dX5_seek_39 rfl rfl ?_
    refine wp_V1v dX5_seek_40 mw_413 mw_415 ms_10 mi_X5_weighPairs (Nat.le_of_ble_eq_true rfl) (Nat.le_refl _) (Nat.le_refl _) (st_k hst rfl) (by decide) rfl (c_weigh _ hst hc5 hk4 (ch := (chv sel)) hck hfb hw2 (I := eU I2 35 9 (nI w)) g1 (eU_at _ _ _ _) (fun x y hx hy => by rw [eU_o (by omega), hfS2 (9 + x) (by omega)]; exact hF x y hx hy) g2 (fun I3 q1 q2 q3 => ?_)) 
    have hA3 : I3 (55 + 10 * j) = I (55 + 10 * j) := by rw [q3 (55 + 10 * j) (by omega), eU_ne (by omega), hA2]
    refine wp_aload_n (i := 0) dX5_seek_43 rfl rfl ?_
    refine wp_ldc (v := 1048576) dX5_seek_44 mw_93 ?_
    refine wp_putI dX5_seek_46 fl_X5_50 rfl (Or.inl rfl) (st_k hst rfl) ?_
    refine wp_aload_n (i := 0) dX5_seek_49 rfl rfl ?_
    refine wp_iconst (v := 0) dX5_seek_50 (by decide) ?_
    refine wp_iconst (v := 0) dX5_seek_51 (by decide) ?_
    refine wp_aload_n (i := 3) dX5_seek_52 rfl rfl ?_
    refine wp_getR dX5_seek_53 fl_X5_67 rfl (sp_k0 hst (by omega)) (sp_r0 hst (by omega)) ?_
    refine wp_iconst (v := 1) dX5_seek_56 (by decide) ?_
    refine wp_ild (j := 1) dX5_seek_57 (sp_t1 hst (by omega)) rfl (by omega) ?_
    have e63 : eU I3 35 10 1048576 (55 + 10 * j) 1 = rv := by rw [eU_o (by omega), hA3]; exact hrv
    rw [e63]
    refine wp_V3v dX5_seek_58 mw_421 mw_423 ms_11 mi_X5_layFrom (Nat.le_of_ble_eq_true rfl) (Nat.le_refl _) (Nat.le_refl _) (st_k hst rfl) (by decide) rfl (c_layFromT _ hst hc5 (ch := (chv sel)) (sel := sel) hcc ch_inj hsi (pull := (plF fv (chv sel))) (plF_b hfb) (plF_s _ _) hw2 (I := eU I3 35 10 1048576) ⟨?_, ?_, fun i hi => ?_, fun a b hb ha => ?_, fun a ha => ?_, ?_⟩ ⟨?_, ?_⟩ (fun I5 hB5 hf5 => ?_)) 
    · show I3 35 8 = _
      rw [q3 35 (by decide)]; exact g1
    · show I3 35 9 = _
      rw [q3 35 (by decide)]; exact eU_at _ _ _ _
    · show I3 38 i = _
      rw [q3 38 (by decide)]; exact g2 i hi
    · rw [eU_o (by omega)]; exact q1 a b hb ha
    · show I3 46 a = _
      exact q2 a ha
    · exact hSK.fr (fun a h1 h2 => by rw [eU_ne (by omega), q3 a (by omega), eU_ne (by omega), hfS2 a (by omega)])
    · show I3 36 0 = 0
      rw [q3 36 (by decide)]; exact hL2
    · exact eU_at _ _ _ _
    · have hfS5 : FrS I I5 := fun a ha => by rw [hf5.1 a (by omega) (by omega) (by omega) (by omega) (by omega), eU_ne (by omega), q3 a (by omega), eU_ne (by omega), hfS2 a ha]
      have h9 : seekB sel fv w hd rv = vcs (plF fv (chv sel)) w (ci sel 10) 0 0 (fun q => bt rv q) (fun _ => 0) none := if_neg hle
      rw [h9] at hq
      generalize vcs (plF fv (chv sel)) w (ci sel 10) 0 0 (fun q => bt rv q) (fun _ => 0) none = b at hq hB5
      refine wp_aload_n (i := 0) dX5_seek_61 rfl rfl ?_
      refine wp_getR dX5_seek_62 fl_X5_12 rfl (st_k hst rfl) (st_r hst rfl) ?_
      refine wp_V0i dX5_seek_65 mw_444 mw_445 mw_446 mi_X0_isEmpty (Nat.le_of_ble_eq_true rfl) (Nat.le_refl _) (Nat.le_refl _) (st_k hst rfl) (by decide) rfl (c_isEmpty _ (st_k hst rfl) (fun ge => ?_) (fun ge => ?_)) 
      · skip
        refine wp_if_eq1 (tgt := 76) dX5_seek_68 (by decide) ?_
        refine wp_bipush (v := (-9)) dX5_seek_71 (by decide) ?_
        refine wp_goto (tgt := 80) dX5_seek_73 (by decide) ?_
        have hbn : b = none := by
          cases b with
          | none => rfl
          | some q =>
            obtain ⟨i, hi⟩ : ∃ i, i < ci sel 10 := ⟨0, hc1⟩
            have e1 := hB5.2.2.1 (chv sel i) (hcc i hi).1
            rw [ge, bt_0, (hcc i hi).2] at e1
            cases e1
        subst hbn
        exact wp_retI dX5_seek_80 rfl (Nat.le_refl _) (Nat.le_refl _) (hq I5 ge hfS5)
      · skip
        refine wp_if_eq0 (tgt := 76) dX5_seek_68 (by decide) ?_
        obtain ⟨q, hbq⟩ : ∃ q, b = some q := by
          cases b with
          | none => exact absurd hB5.1 ge
          | some q => exact ⟨q, rfl⟩
        subst hbq
        refine wp_aload_n (i := 0) dX5_seek_76 rfl rfl ?_
        refine wp_getI dX5_seek_77 fl_X5_50 rfl (st_k hst rfl) ?_
        rw [show I5 35 10 = nI q.1 from hB5.1]
        exact wp_retI dX5_seek_80 rfl (Nat.le_refl _) (Nat.le_refl _) (hq I5 ⟨hB5.2.1, hB5.2.2.1, hB5.2.2.2⟩ hfS5)
  · refine wp_bipush (v := (-9)) dX5_seek_25 (by decide) ?_
    exact wp_retI dX5_seek_27 rfl (Nat.le_refl _) (Nat.le_refl _) (by have h9 : seekB sel fv w hd rv = none := if_pos (Nat.lt_of_not_le (fun g => zq22 (nI_le g (by omega)))); rw [h9] at hq; exact hq I2 hL2 hfS2)

