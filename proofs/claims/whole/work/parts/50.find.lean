def FrZ (I I2 : eI) : Prop := (∀ a, a ≠ 94 → a ≠ 108 → a ≠ 109 → a ≠ 110 → I2 a = I a) ∧ ∀ f, f ≠ 17 → f ≠ 21 → I2 94 f = I 94 f
theorem seek_vis {sel : Nat → Bool} {fv : Nat → Nat → Nat} {w hd : Nat} {rv : Int32} (hfb : ∀ x y, fv x y ≤ 99) (hw : w ≤ 2) (hc5 : ci sel 10 ≤ 5) : seekB sel fv w hd rv = if hd < ci sel 10 then none else vis (plF fv (chv sel)) (fun q => bt rv q) w (ci sel 10) 0 (fun _ => 0) none := by
  unfold seekB
  rw [vcs_vis (rb := fun q => bt rv q) (plF_b hfb) (plF_s _ _) (ci sel 10) 0 0 (fun q => bt rv q) (fun _ => 0) none (by omega) (fun x hx => absurd hx (Nat.not_lt_zero x)) rfl (fun q _ => rfl) (fun _ => show 0 < 1048576 by decide)]
def bsS : BS → Int32
  | none => 0
  | some _ => 1
theorem lp_f1 (d : Nat) {n : Nat} {t : eT} {R : eR} {Q : eQt} (hst : ST n t R) {k : Nat} (hk4 : k ≤ 10) {sv pj : Int32} {sel : Nat → Bool} (hsel : ∀ x, x < 10 → (bt sv x = sel x)) (hc5 : ci sel 10 ≤ 5) : ∀ (r x : Nat) (I : eI), x + r = k → I 94 1 = nI k → I 94 17 = nI (ci sel x) → (∀ i, i < ci sel x → I 108 i = nI (wi sel (fun y => y) x i)) → (∀ I2 : eI, I2 94 17 = nI (ci sel k) → (∀ i, i < ci sel k → I2 108 i = nI (wi sel (fun y => y) k i)) → (∀ a, a ≠ 94 → a ≠ 108 → I2 a = I a) → (∀ f, f ≠ 17 → I2 94 f = I 94 f) → wp yX8_findBest cX8_findBest 4 (some .boolean) (d + 1) 0 0 Q 0 0 49 [.ref 94, .int pj, .int sv, .int (nI k)] [] n t I2 R) → wp yX8_findBest cX8_findBest 4 (some .boolean) (d + 1) 0 0 Q 0 0 7 [.ref 94, .int pj, .int sv, .int (nI x)] [] n t I R := by
  intro r
  induction r with
  | zero =>
    intro x I hx hk h1 h2 hq
    obtain rfl : x = k := by omega
    refine wp_iload_n (i := 3) dX8_findBest_7 rfl rfl ?_
    refine wp_aload_n (i := 0) dX8_findBest_8 rfl rfl ?_
    refine wp_getI dX8_findBest_9 fl_X8_143 rfl (st_k hst rfl) ?_
    refine wp_icmp_ge (tgt := 49) dX8_findBest_12 (by decide) (fun zq12 => ?_) (fun zq12 => absurd (by rw [hk]; exact nI_le (Nat.le_refl _) (by omega)) zq12) 
    exact hq I h1 h2 (fun _ _ _ => rfl) (fun _ _ => rfl)
  | succ r ih =>
    intro x I hx hk h1 h2 hq
    refine wp_iload_n (i := 3) dX8_findBest_7 rfl rfl ?_
    refine wp_aload_n (i := 0) dX8_findBest_8 rfl rfl ?_
    refine wp_getI dX8_findBest_9 fl_X8_143 rfl (st_k hst rfl) ?_
    refine wp_icmp_ge (tgt := 49) dX8_findBest_12 (by decide) (fun zq12 => absurd (show I 94 1 ≤ nI x from zq12) (by rw [hk]; exact nI_ge (show x < k by omega) (by omega))) (fun zq12 => ?_) 
    refine wp_iload_n (i := 2) dX8_findBest_15 rfl rfl ?_
    refine wp_iload_n (i := 3) dX8_findBest_16 rfl rfl ?_
    refine wp_S2i dX8_findBest_17 mw_964 mw_965 mi_X8_hasBit (Nat.le_of_ble_eq_true rfl) (Nat.le_refl _) (Nat.le_refl _) (c_hasBit _ (fun b1 => ?_) (fun b0 => ?_)) 
    · have hs : sel x = true := by rw [← hsel x (by omega)]; exact (bt_at sv (by omega)).mp b1
      have hm := ci_mono sel (a := x + 1) (b := 10) (by omega)
      rw [ci_t hs] at hm
      refine wp_if_eq1 (tgt := 43) dX8_findBest_20 (by decide) ?_
      refine wp_aload_n (i := 0) dX8_findBest_23 rfl rfl ?_
      refine wp_getR dX8_findBest_24 fl_X8_50 rfl (st_k hst rfl) (st_r hst rfl) ?_
      refine wp_aload_n (i := 0) dX8_findBest_27 rfl rfl ?_
      refine wp_getI dX8_findBest_28 fl_X8_198 rfl (st_k hst rfl) ?_
      refine wp_iload_n (i := 3) dX8_findBest_31 rfl rfl ?_
      refine wp_ist (j := (ci sel x)) dX8_findBest_32 (st_t hst rfl) h1 (by omega) ?_
      refine wp_aload_n (i := 0) dX8_findBest_33 rfl rfl ?_
      refine wp_dup dX8_findBest_34 rfl ?_
      refine wp_getI dX8_findBest_35 fl_X8_198 rfl (st_k hst rfl) ?_
      refine wp_iconst (v := 1) dX8_findBest_38 (by decide) ?_
      refine wp_iadd dX8_findBest_39 ?_
      refine wp_topI (v2 := nI ((ci sel x) + 1)) (n_add h1 rfl) ?_
      refine wp_putI dX8_findBest_40 fl_X8_198 rfl (Or.inl rfl) (st_k hst rfl) ?_
      refine wp_iinc_4_3 (v := nI (x + 1)) dX8_findBest_43 (n_add rfl rfl) ?_
      refine wp_goto (tgt := 7) dX8_findBest_46 (by decide) ?_
      refine ih (x + 1) (eU (eU I 108 (ci sel x) (nI x)) 94 17 (nI (ci sel x + 1))) (by omega) (by exact hk) (by rw [ci_t hs, eU_at]) (fun i hi => ?_) (fun I2 g1 g2 g3 g4 => hq I2 g1 g2 (fun a a1 a2 => (g3 a a1 a2).trans (by rw [eU_ne a1, eU_ne a2])) (fun f hf => (g4 f hf).trans (eU_c hf)))
      rw [ci_t hs] at hi
      rw [wi_t hs]
      show (eU I 108 (ci sel x) (nI x)) 108 i = _
      by_cases e : i = ci sel x
      · subst e; rw [eU_at, eG_eq]
      · rw [eU_c e, eG_ne e]; exact h2 i (by omega)
    · have hs : ¬ sel x = true := fun g => b0 ((bt_at sv (by omega)).mpr (by rw [hsel x (by omega)]; exact g))
      refine wp_if_eq0 (tgt := 43) dX8_findBest_20 (by decide) ?_
      refine wp_iinc_4_3 (v := nI (x + 1)) dX8_findBest_43 (n_add rfl rfl) ?_
      refine wp_goto (tgt := 7) dX8_findBest_46 (by decide) ?_
      exact ih (x + 1) I (by omega) hk (by rw [ci_f hs]; exact h1) (fun i hi => by rw [wi_f hs]; rw [ci_f hs] at hi; exact h2 i hi) hq

theorem c_findBest (d : Nat) {n : Nat} {t : eT} {I : eI} {R : eR} {Q : Int32 → Nat → eT → eI → eR → Prop} (hst : ST n t R) {sv : Int32} {sel : Nat → Bool} (hc5 : ci sel 10 ≤ 5) (hc1 : 1 ≤ ci sel 10) {k : Nat} (hk4 : k ≤ 10) (hsk : ∀ x, sel x = true → x < k) {fv : Nat → Nat → Nat} (hfb : ∀ x y, fv x y ≤ 99) {j : Nat} (hj : j < 4) {w hd : Nat} (hw2 : w ≤ 2) (hd10 : hd ≤ 10) {rv : Int32} (hsel : ∀ x, x < 10 → (bt sv x = sel x)) (hkM : I 94 1 = nI k) (hF : ∀ x y, x < k → y < k → I 97 (10 * x + y) = nI (fv x y)) (hw0 : I 101 j = nI w) (hrv : I 102 j = rv) (hhd : I 103 j = nI hd) (hq : ∀ I2 : eI, BM I2 (ci sel 10) (seekB sel fv w hd rv) → I2 94 17 = nI (ci sel 10) → (∀ i, i < ci sel 10 → I2 108 i = nI (chv sel i)) → FrZ I I2 → Q (bsS (seekB sel fv w hd rv)) n t I2 R) : MC yX8_findBest cX8_findBest 4 (some .boolean) (d + 4) 0 0 [.ref 94, .int (nI j), .int sv] n t I R (qI Q) := by
  refine mc_intro (L0 := [.ref 94, .int (nI j), .int sv, vU]) (by decide) rfl (Nat.le_of_ble_eq_true rfl) ?_
  refine wp_aload_n (i := 0) dX8_findBest_0 rfl rfl ?_
  refine wp_iconst (v := 0) dX8_findBest_1 (by decide) ?_
  refine wp_putI dX8_findBest_2 fl_X8_198 rfl (Or.inl rfl) (st_k hst rfl) ?_
  refine wp_iconst (v := 0) dX8_findBest_5 (by decide) ?_
  refine wp_istore_4_3 dX8_findBest_6 rfl ?_
  refine lp_f1 _ hst hk4 hsel hc5 k 0 _ (by omega) (by exact hkM) rfl (fun i hi => absurd hi (Nat.not_lt_zero i)) (fun I2 g1 g2 g3 g4 => ?_)
  have ee := ci_end (sel := sel) (k := k) (fun x hx hs => by have := hsk x hs; omega) (10 - k)
  rw [show k + (10 - k) = 10 by omega] at ee
  have hch : ∀ i, i < ci sel 10 → I2 108 i = nI (chv sel i) := fun i hi => by
    have e := wi_ext (sel := sel) (wv := fun y => y) (x := k) (i := i) (by omega) (10 - k)
    rw [show k + (10 - k) = 10 by omega] at e
    show _ = nI (wi sel (fun y => y) 10 i)
    rw [e]
    exact g2 i (by omega)
  rw [← ee] at g1
  have hcc : ∀ i, i < ci sel 10 → chv sel i < 10 ∧ sel (chv sel i) = true := fun i hi => ⟨(ch_s (sel := sel) 10 i hi).1, (ch_s (sel := sel) 10 i hi).2.1⟩
  have hck : ∀ i, i < ci sel 10 → chv sel i < k := fun i hi => hsk _ (hcc i hi).2
  have hr2 : ∀ a, a ≠ 94 → a ≠ 108 → I2 a = I a := fun a a1 a2 => (g3 a a1 a2).trans (eU_ne a1)
  have hf2 : ∀ f, f ≠ 17 → I2 94 f = I 94 f := fun f hf => (g4 f hf).trans (eU_c hf)
  refine wp_aload_n (i := 0) dX8_findBest_49 rfl rfl ?_
  refine wp_bipush (v := (-9)) dX8_findBest_50 (by decide) ?_
  refine wp_putI dX8_findBest_52 fl_X8_204 rfl (Or.inl rfl) (st_k hst rfl) ?_
  refine wp_aload_n (i := 0) dX8_findBest_55 rfl rfl ?_
  refine wp_getI dX8_findBest_56 fl_X8_198 rfl (st_k hst rfl) ?_
  refine wp_aload_n (i := 0) dX8_findBest_59 rfl rfl ?_
  refine wp_getR dX8_findBest_60 fl_X8_34 rfl (st_k hst rfl) (st_r hst rfl) ?_
  refine wp_iload_n (i := 1) dX8_findBest_63 rfl rfl ?_
  refine wp_ild (j := j) dX8_findBest_64 (st_t hst rfl) rfl (by omega) ?_
  rw [show eU I2 94 21 (-9) 94 17 = nI (ci sel 10) from g1, show eU I2 94 21 (-9) 103 j = nI hd by show I2 103 j = _; rw [hr2 103 (by decide) (by decide)]; exact hhd]
  refine wp_icmp_le (tgt := 70) dX8_findBest_65 (by decide) (fun zq65 => ?_) (fun zq65 => ?_) 
  · refine wp_iconst (v := 0) dX8_findBest_70 (by decide) ?_
    refine wp_istore_4_3 dX8_findBest_71 rfl ?_
    refine wp_aload_n (i := 0) dX8_findBest_72 rfl rfl ?_
    refine wp_getR dX8_findBest_73 fl_X8_53 rfl (st_k hst rfl) (st_r hst rfl) ?_
    refine wp_iconst (v := 0) dX8_findBest_76 (by decide) ?_
    refine wp_iconst (v := (-1)) dX8_findBest_77 (by decide) ?_
    refine wp_ist (j := 0) dX8_findBest_78 (st_t hst rfl) rfl (by omega) ?_
    refine wp_iload_n (i := 3) dX8_findBest_79 rfl rfl ?_
    refine wp_if_lt (tgt := 179) dX8_findBest_80 (by decide) (fun zq80 => absurd zq80 (by decide)) (fun zq80 => ?_) 
    refine wp_aload_n (i := 0) dX8_findBest_83 rfl rfl ?_
    refine wp_getR dX8_findBest_84 fl_X8_53 rfl (st_k hst rfl) (st_r hst rfl) ?_
    refine wp_iload_n (i := 3) dX8_findBest_87 rfl rfl ?_
    refine wp_dup2 dX8_findBest_88 rfl rfl ?_
    refine wp_ild (j := 0) dX8_findBest_89 (st_t hst rfl) rfl (by omega) ?_
    rw [eU_at]
    refine wp_iconst (v := 1) dX8_findBest_90 (by decide) ?_
    refine wp_iadd dX8_findBest_91 ?_
    refine wp_topI (v2 := nI 0) (by decide) ?_
    refine wp_ist (j := 0) dX8_findBest_92 (st_t hst rfl) rfl (by omega) ?_
    have hle : ¬ hd < ci sel 10 := fun g => absurd zq65 (nI_ge g (by omega))
    have hM9 : SM (eU (eU (eU I2 94 21 (-9)) 109 0 (-1)) 109 0 (nI 0)) (ci sel 10) (chv sel) fv k w rv j := ⟨g1, hch, fun x y hx hy => by show I2 97 _ = _; rw [hr2 97 (by decide) (by decide)]; exact hF x y hx hy, by show I2 101 j = _; rw [hr2 101 (by decide) (by decide)]; exact hw0, by show I2 102 j = _; rw [hr2 102 (by decide) (by decide)]; exact hrv⟩
    refine lp_fb _ hst hc5 hk4 hck hfb hw2 hj (ci sel 10 - 1) 0 (fun _ => 0) (by omega) (fun x hx => absurd hx (Nat.not_lt_zero x)) 12 0 _ none rfl hM9 rfl (fun x hx => absurd hx (Nat.not_lt_zero x)) (eU_at _ _ _ _) (fun I5 hB5 _ hf5 => ?_)
    have h9 : seekB sel fv w hd rv = vis (plF fv (chv sel)) (fun q => bt rv q) w (ci sel 10 - 1 + 1) 0 (fun _ => 0) none := by rw [seek_vis hfb hw2 hc5, if_neg hle, show ci sel 10 - 1 + 1 = ci sel 10 by omega]
    have hB6 : BM I5 (ci sel 10) (seekB sel fv w hd rv) := by rw [h9]; exact hB5
    have hfZ : FrZ I I5 := ⟨fun a a1 a2 a3 a4 => by rw [hf5.1 a a1 a3 a4, eU_ne a3, eU_ne a3, eU_ne a1]; exact hr2 a a1 a2, fun f f1 f2 => by rw [hf5.2 f f2]; show eU I2 94 21 (-9) 94 f = _; rw [eU_c f2]; exact hf2 f f1⟩
    have hn5 : I5 94 17 = nI (ci sel 10) := by rw [hf5.2 17 (by decide)]; exact g1
    have hch5 : ∀ i, i < ci sel 10 → I5 108 i = nI (chv sel i) := fun i hi => by rw [hf5.1 108 (by decide) (by decide) (by decide)]; exact hch i hi
    rw [show nI 0 - 1 = -1 by decide]
    generalize seekB sel fv w hd rv = b at hq hB6
    refine wp_iload_n (i := 3) dX8_findBest_79 rfl rfl ?_
    refine wp_if_lt (tgt := 179) dX8_findBest_80 (by decide) (fun zq80 => ?_) (fun zq80 => absurd zq80 (by decide)) 
    cases b with
    | none =>
      refine wp_aload_n (i := 0) dX8_findBest_179 rfl rfl ?_
      refine wp_getI dX8_findBest_180 fl_X8_204 rfl (st_k hst rfl) ?_
      refine wp_if_lt (tgt := 190) dX8_findBest_183 (by decide) (fun zq183 => ?_) (fun zq183 => absurd (show I5 94 21 < 0 by rw [show I5 94 21 = -9 from hB6]; decide) zq183)
      refine wp_iconst (v := 0) dX8_findBest_190 (by decide) ?_
      exact wp_retZ dX8_findBest_191 rfl rfl (Nat.le_refl _) (Nat.le_refl _) (hq I5 hB6 hn5 hch5 hfZ)
    | some q =>
      refine wp_aload_n (i := 0) dX8_findBest_179 rfl rfl ?_
      refine wp_getI dX8_findBest_180 fl_X8_204 rfl (st_k hst rfl) ?_
      refine wp_if_lt (tgt := 190) dX8_findBest_183 (by decide) (fun zq183 => absurd (show I5 94 21 < 0 from zq183) (by rw [hB6.1]; exact nI_pos (by have := hB6.2.1; omega))) (fun zq183 => ?_)
      refine wp_iconst (v := 1) dX8_findBest_186 (by decide) ?_
      refine wp_goto (tgt := 191) dX8_findBest_187 (by decide) ?_
      exact wp_retZ dX8_findBest_191 rfl rfl (Nat.le_refl _) (Nat.le_refl _) (hq I5 hB6 hn5 hch5 hfZ)
  · refine wp_iconst (v := 0) dX8_findBest_68 (by decide) ?_
    exact wp_retZ dX8_findBest_69 rfl rfl (Nat.le_refl _) (Nat.le_refl _) (by have h9 : seekB sel fv w hd rv = none := if_pos (Nat.lt_of_not_le (fun g => zq65 (nI_le g (by omega)))); rw [h9] at hq; exact hq _ (eU_at _ _ _ _) g1 hch ⟨fun a a1 a2 a3 a4 => (eU_ne a1).trans (hr2 a a1 a2), fun f f1 f2 => (eU_c f2).trans (hf2 f f1)⟩)

