def selF (k sm : Nat) : Nat → Bool := fun x => decide (x < k ∧ sm / 2 ^ x % 2 = 1)
theorem selF_t {k sm x : Nat} : selF k sm x = true ↔ (x < k ∧ sm / 2 ^ x % 2 = 1) := by
  unfold selF
  exact decide_eq_true_iff
theorem selF_end {k sm : Nat} : ∀ x, k ≤ x → ¬ selF k sm x = true := fun x hx h => by
  have := (selF_t.mp h).1
  omega
theorem eG_none (N : Nat) : eG (fun _ : Nat => (none : Option Nat)) N none = fun _ => none := by
  funext x
  by_cases e : x = N
  · subst e; rw [eG_eq]
  · rw [eG_ne e]
def stp (sel : Nat → Bool) (M : Nat → Option Nat) (x : Nat) : Int32 := if sel x = true then nI (dpt M 20 (ci sel x)) else -9
def FrB (I I2 : eI) : Prop := (∀ a, a ≠ 48 → a ≠ 49 → a ≠ 50 → a ≠ 51 → I2 a = I a) ∧ ∀ f, f ≠ 3 → I2 48 f = I 48 f
theorem FrB.tr {I I2 I3 : eI} (h : FrB I I2) (h2 : FrB I2 I3) : FrB I I3 := ⟨fun a a1 a2 a3 a4 => (h2.1 a a1 a2 a3 a4).trans (h.1 a a1 a2 a3 a4), fun f hf => (h2.2 f hf).trans (h.2 f hf)⟩
theorem FrB.of {I I2 : eI} (h : FrW I I2) : FrB I I2 := ⟨fun a a1 a2 a3 _ => h.1 a a1 a2 a3, h.2⟩
def FrY (I I2 : eI) : Prop := (∀ a, a ≠ 94 → a ≠ 111 → a ≠ 112 → a ≠ 113 → I2 a = I a) ∧ ∀ f, f ≠ 22 → I2 94 f = I 94 f
theorem FrY.tr {I I2 I3 : eI} (h : FrY I I2) (h2 : FrY I2 I3) : FrY I I3 := ⟨fun a a1 a2 a3 a4 => (h2.1 a a1 a2 a3 a4).trans (h.1 a a1 a2 a3 a4), fun f hf => (h2.2 f hf).trans (h.2 f hf)⟩
theorem FrY.of {I I2 : eI} (h : FrX I I2) : FrY I I2 := ⟨fun a a1 a2 a3 _ => h.1 a a1 a2 a3, h.2⟩
def NOf (I : eI) (sel : Nat → Bool) (x : Nat) : Prop := ∀ y, y < x → I 51 y = if sel y = true then nI (ci sel y) else -9
theorem dpt_b (M : Nat → Option Nat) : ∀ f x, dpt M f x ≤ f
  | 0, _ => Nat.le_refl 0
  | f + 1, x => by
    show (match M x with | none => 0 | some p => 1 + dpt M f p) ≤ f + 1
    cases M x with
    | none => exact Nat.zero_le _
    | some p => have := dpt_b M f p; show 1 + dpt M f p ≤ f + 1; omega
theorem dpt_n {M : Nat → Option Nat} {f x : Nat} (h : M x = none) : dpt M (f + 1) x = 0 := by
  show (match M x with | none => 0 | some p => 1 + dpt M f p) = 0
  rw [h]
theorem dpt_s {M : Nat → Option Nat} {f x p : Nat} (h : M x = some p) : dpt M (f + 1) x = 1 + dpt M f p := by
  show (match M x with | none => 0 | some p => 1 + dpt M f p) = _
  rw [h]
theorem lshl1 : ∀ c, c ≤ 10 → ((1 : Int64) <<< ((nI c).toInt64 &&& 63) - 1).toInt = 2 ^ c - 1 := by decide +kernel
theorem lp_b1 (d : Nat) {n : Nat} {t : eT} {R : eR} {Q : eQt} (hst : ST n t R) {k sm h : Nat} (hk4 : k ≤ 10) (hsm : sm < 1024) (hh2 : 2 ≤ h) (hh9 : h ≤ 9) {wv : Nat → Nat} (hwb : ∀ y, y < k → wv y ≤ 999) : ∀ (r x : Nat) (I : eI), x + r = 10 → I 5 0 = nI k → (∀ y, y < k → I 7 y = nI (wv y)) → RWc I (ci (selF k sm) x, wi (selF k sm) wv x, fun _ => none) → NOf I (selF k sm) x → (∀ I2 : eI, RWc I2 (ci (selF k sm) 10, wi (selF k sm) wv 10, fun _ => none) → NOf I2 (selF k sm) 10 → FrB I I2 → wp yX1_build cX1_build 7 none (d + 2) 0 0 Q 0 0 71 [.ref 48, .ref 5, .int (nI sm), .int (nI h), .int (nI 10), vU, vU] [] n t I2 R) → wp yX1_build cX1_build 7 none (d + 2) 0 0 Q 0 0 8 [.ref 48, .ref 5, .int (nI sm), .int (nI h), .int (nI x), vU, vU] [] n t I R := by
  intro r
  induction r with
  | zero =>
    intro x I hx hk hW hR hO hq
    obtain rfl : x = 10 := by omega
    refine wp_iload dX1_build_8 rfl ?_
    refine wp_bipush (v := 10) dX1_build_10 (by decide) ?_
    refine wp_icmp_ge (tgt := 71) dX1_build_12 (by decide) (fun zq12 => ?_) (fun zq12 => absurd (nI_le (show 10 ≤ 10 by decide) (by decide)) zq12) 
    exact hq I hR hO ⟨fun _ _ _ _ _ => rfl, fun _ _ => rfl⟩
  | succ r ih =>
    intro x I hx hk hW hR hO hq
    refine wp_iload dX1_build_8 rfl ?_
    refine wp_bipush (v := 10) dX1_build_10 (by decide) ?_
    refine wp_icmp_ge (tgt := 71) dX1_build_12 (by decide) (fun zq12 => absurd zq12 (nI_ge (show x < 10 by omega) (by decide))) (fun zq12 => ?_) 
    refine wp_aload_n (i := 0) dX1_build_15 rfl rfl ?_
    refine wp_getR dX1_build_16 fl_X1_18 rfl (st_k hst rfl) (st_r hst rfl) ?_
    refine wp_iload dX1_build_19 rfl ?_
    refine wp_bipush (v := (-9)) dX1_build_21 (by decide) ?_
    refine wp_ist (j := x) dX1_build_23 (st_t hst rfl) rfl (by omega) ?_
    refine wp_iload dX1_build_24 rfl ?_
    refine wp_aload_n (i := 1) dX1_build_26 rfl rfl ?_
    refine wp_getI dX1_build_27 fl_X1_25 rfl (st_k hst rfl) ?_
    refine wp_icmp_ge (tgt := 65) dX1_build_30 (by decide) (fun zc => ?_) (fun zc => ?_) 
    · refine wp_iinc_7_4 (v := nI (x + 1)) dX1_build_65 (n_add rfl rfl) ?_
      refine wp_goto (tgt := 8) dX1_build_68 (by decide) ?_
      have hns : ¬ (selF k sm) x = true := fun g => absurd (show I 5 0 ≤ nI x from zc) (by rw [hk]; exact nI_ge (selF_t.mp g).1 (by omega))
      have RR : RWc (eU I 51 x (-9)) (ci (selF k sm) (x + 1), wi (selF k sm) wv (x + 1), fun _ => none) := by
        rw [ci_f hns, wi_f hns]
        exact hR
      have OO : NOf (eU I 51 x (-9)) (selF k sm) (x + 1) := by
        intro y hy
        by_cases e : y = x
        · subst e
          rw [eU_at, if_neg hns]
        · rw [eU_c e]
          exact hO y (by omega)
      exact ih (x + 1) (eU I 51 x (-9)) (by omega) (by exact hk) (fun y hy => hW y hy) RR OO (fun I2 h1 h2 h3 => hq I2 h1 h2 (FrB.tr (I2 := (eU I 51 x (-9))) ⟨fun a a1 a2 a3 a4 => eU_ne a4, fun f hf => rfl⟩ h3))
    · refine wp_iload_n (i := 2) dX1_build_33 rfl rfl ?_
      refine wp_iload dX1_build_34 rfl ?_
      refine wp_ishr dX1_build_36 ?_
      refine wp_iconst (v := 1) dX1_build_37 (by decide) ?_
      refine wp_iand dX1_build_38 ?_
      refine wp_iconst (v := 1) dX1_build_39 (by decide) ?_
      refine wp_icmp_ne (tgt := 65) dX1_build_40 (by decide) (fun zb => ?_) (fun zb => ?_) 
      · refine wp_iinc_7_4 (v := nI (x + 1)) dX1_build_65 (n_add rfl rfl) ?_
        refine wp_goto (tgt := 8) dX1_build_68 (by decide) ?_
        have hns : ¬ (selF k sm) x = true := fun g => zb ((bit_nI sm hsm x (by omega)).mpr (selF_t.mp g).2)
        have RR : RWc (eU I 51 x (-9)) (ci (selF k sm) (x + 1), wi (selF k sm) wv (x + 1), fun _ => none) := by
          rw [ci_f hns, wi_f hns]
          exact hR
        have OO : NOf (eU I 51 x (-9)) (selF k sm) (x + 1) := by
          intro y hy
          by_cases e : y = x
          · subst e
            rw [eU_at, if_neg hns]
          · rw [eU_c e]
            exact hO y (by omega)
        exact ih (x + 1) (eU I 51 x (-9)) (by omega) (by exact hk) (fun y hy => hW y hy) RR OO (fun I2 h1 h2 h3 => hq I2 h1 h2 (FrB.tr (I2 := (eU I 51 x (-9))) ⟨fun a a1 a2 a3 a4 => eU_ne a4, fun f hf => rfl⟩ h3))
      · have hxk : x < k := Nat.lt_of_not_le (fun g => zc (by show I 5 0 ≤ _; rw [hk]; exact nI_le g (by omega)))
        have hsx : (selF k sm) x = true := selF_t.mpr ⟨hxk, (bit_nI sm hsm x (by omega)).mp zb⟩
        have hcx := ci_le (selF k sm) x
        have hn48 : I 48 3 = nI (ci (selF k sm) x) := hR.1
        refine wp_aload_n (i := 0) dX1_build_43 rfl rfl ?_
        refine wp_getR dX1_build_44 fl_X1_18 rfl (st_k hst rfl) (st_r hst rfl) ?_
        refine wp_iload dX1_build_47 rfl ?_
        refine wp_aload_n (i := 0) dX1_build_49 rfl rfl ?_
        refine wp_getI dX1_build_50 fl_X1_21 rfl (st_k hst rfl) ?_
        refine wp_ist (j := x) dX1_build_53 (st_t hst rfl) rfl (by omega) ?_
        refine wp_aload_n (i := 0) dX1_build_54 rfl rfl ?_
        refine wp_aload_n (i := 1) dX1_build_55 rfl rfl ?_
        refine wp_getR dX1_build_56 fl_X1_30 rfl (st_k hst rfl) (st_r hst rfl) ?_
        refine wp_iload dX1_build_59 rfl ?_
        refine wp_ild (j := x) dX1_build_61 (st_t hst rfl) rfl (by omega) ?_
        rw [show eU (eU I 51 x (-9)) 51 x (eU I 51 x (-9) 48 3) 7 x = nI (wv x) from hW x hxk]
        refine wp_V1v dX1_build_62 mw_517 mw_519 ms_15 mi_X1_addNode (Nat.le_of_ble_eq_true rfl) (Nat.le_refl _) (Nat.le_refl _) (st_k hst rfl) (by decide) rfl (c_addNode _ hst (N := ci (selF k sm) x) (by exact hn48) (by omega) ?_) 
        refine wp_iinc_7_4 (v := nI (x + 1)) dX1_build_65 (n_add rfl rfl) ?_
        refine wp_goto (tgt := 8) dX1_build_68 (by decide) ?_
        have RR : RWc (eU (eU (eU (eU (eU I 51 x (-9)) 51 x (eU I 51 x (-9) 48 3)) 49 (ci (selF k sm) x) (nI (wv x))) 50 (ci (selF k sm) x) (-1)) 48 3 (nI (ci (selF k sm) x + 1))) (ci (selF k sm) (x + 1), wi (selF k sm) wv (x + 1), fun _ => none) := by
          have h9 := RWc.add (I := eU (eU I 51 x (-9)) 51 x (eU I 51 x (-9) 48 3)) (v := wv x) (show RWc (eU (eU I 51 x (-9)) 51 x (eU I 51 x (-9) 48 3)) (ci (selF k sm) x, wi (selF k sm) wv x, fun _ => none) from hR)
          rw [eG_none] at h9
          rw [ci_t hsx, wi_t hsx]
          exact h9
        have OO : NOf (eU (eU (eU (eU (eU I 51 x (-9)) 51 x (eU I 51 x (-9) 48 3)) 49 (ci (selF k sm) x) (nI (wv x))) 50 (ci (selF k sm) x) (-1)) 48 3 (nI (ci (selF k sm) x + 1))) (selF k sm) (x + 1) := by
          intro y hy
          show (eU (eU I 51 x (-9)) 51 x (eU I 51 x (-9) 48 3)) 51 y = _
          by_cases e : y = x
          · subst e
            rw [eU_at, if_pos hsx]
            exact hn48
          · rw [eU_c e, eU_c e]
            exact hO y (by omega)
        exact ih (x + 1) (eU (eU (eU (eU (eU I 51 x (-9)) 51 x (eU I 51 x (-9) 48 3)) 49 (ci (selF k sm) x) (nI (wv x))) 50 (ci (selF k sm) x) (-1)) 48 3 (nI (ci (selF k sm) x + 1))) (by omega) (by exact hk) (fun y hy => hW y hy) RR OO (fun I2 h1 h2 h3 => hq I2 h1 h2 (FrB.tr (I2 := (eU (eU (eU (eU (eU I 51 x (-9)) 51 x (eU I 51 x (-9) 48 3)) 49 (ci (selF k sm) x) (nI (wv x))) 50 (ci (selF k sm) x) (-1)) 48 3 (nI (ci (selF k sm) x + 1)))) ⟨fun a a1 a2 a3 a4 => by rw [eU_ne a1, eU_ne a3, eU_ne a2, eU_ne a4, eU_ne a4], fun f hf => eU_c hf⟩ h3))

theorem lp_b2 (d : Nat) {n : Nat} {t : eT} {R : eR} {Q : eQt} (hst : ST n t R) {sm h : Nat} (hh2 : 2 ≤ h) (hh9 : h ≤ 9) : ∀ (q c : Nat) (I : eI) (s : WS) (x5 : Value), c + q ≤ 9 → OKW s → opn s = 1 + q * (h - 1) → s.1 + q ≤ 20 → RWc I s → (∀ (I2 : eI) (z4 z6 : Value), RWc I2 (jit h q s) → FrW I I2 → wp yX1_build cX1_build 7 none (d + 2) 0 0 Q 0 0 154 [.ref 48, .ref 5, .int (nI sm), .int (nI h), z4, x5, z6] [] n t I2 R) → wp yX1_build cX1_build 7 none (d + 2) 0 0 Q 0 0 122 [.ref 48, .ref 5, .int (nI sm), .int (nI h), .int (nI (opn s)), x5, .int (nI c)] [] n t I R := by
  intro q
  induction q with
  | zero =>
    intro c I s x5 hc hs ho hN hR hq
    refine wp_iload dX1_build_122 rfl ?_
    refine wp_bipush (v := 10) dX1_build_124 (by decide) ?_
    refine wp_icmp_ge (tgt := 154) dX1_build_126 (by decide) (fun zq126 => absurd zq126 (nI_ge (show c < 10 by omega) (by decide))) (fun zq126 => ?_) 
    refine wp_iload dX1_build_129 rfl ?_
    refine wp_iconst (v := 1) dX1_build_131 (by decide) ?_
    refine wp_icmp_le (tgt := 154) dX1_build_132 (by decide) (fun zq132 => ?_) (fun zq132 => absurd (by rw [ho, Nat.zero_mul]; decide) zq132) 
    exact hq I _ _ hR (FrW.rf I)
  | succ q ih =>
    intro c I s x5 hc hs ho hN hR hq
    have em : (q + 1) * (h - 1) = q * (h - 1) + (h - 1) := Nat.succ_mul q (h - 1)
    have e0 : 0 ≤ q * (h - 1) := Nat.zero_le _
    have hb1 : q * (h - 1) ≤ 9 * 8 := Nat.mul_le_mul (by omega) (by omega)
    have a9 := joinA_ok (h := h) hs (by omega)
    refine wp_iload dX1_build_122 rfl ?_
    refine wp_bipush (v := 10) dX1_build_124 (by decide) ?_
    refine wp_icmp_ge (tgt := 154) dX1_build_126 (by decide) (fun zq126 => absurd zq126 (nI_ge (show c < 10 by omega) (by decide))) (fun zq126 => ?_) 
    refine wp_iload dX1_build_129 rfl ?_
    refine wp_iconst (v := 1) dX1_build_131 (by decide) ?_
    refine wp_icmp_le (tgt := 154) dX1_build_132 (by decide) (fun zq132 => absurd zq132 (nI_ge (a := 1) (b := opn s) (by omega) (by omega))) (fun zq132 => ?_) 
    refine wp_aload_n (i := 0) dX1_build_135 rfl rfl ?_
    refine wp_iload_n (i := 3) dX1_build_136 rfl rfl ?_
    refine wp_V1v dX1_build_137 mw_521 mw_523 ms_16 mi_X1_joinLeast (Nat.le_of_ble_eq_true rfl) (Nat.le_refl _) (Nat.le_refl _) (st_k hst rfl) (by decide) rfl (c_joinLeast _ hst hs (show s.1 < 20 by omega) (hh := h) (by omega) (by omega) hR (fun I1 hR1 hf1 => ?_)) 
    refine wp_iload dX1_build_140 rfl ?_
    refine wp_iload_n (i := 3) dX1_build_142 rfl rfl ?_
    refine wp_iconst (v := 1) dX1_build_143 (by decide) ?_
    refine wp_isub dX1_build_144 ?_
    refine wp_isub dX1_build_145 ?_
    refine wp_topI (v2 := nI (opn (joinA h s))) (by rw [show nI h - 1 = nI (h - 1) from pk_sub (b := 1) (by omega), pk_sub (by omega)]; exact congrArg nI (by omega)) ?_
    refine wp_istore_7_4 dX1_build_146 rfl ?_
    refine wp_iinc_7_6 (v := nI (c + 1)) dX1_build_148 (n_add rfl rfl) ?_
    refine wp_goto (tgt := 122) dX1_build_151 (by decide) ?_
    exact ih (c + 1) I1 (joinA h s) _ (by omega) a9.1 (by omega) (by show s.1 + 1 + q ≤ 20; omega) hR1 (fun I2 z4 z6 h1 h2 => hq I2 z4 z6 h1 (hf1.tr h2))

theorem c_build (d : Nat) {n : Nat} {t : eT} {I : eI} {R : eR} {Q : Nat → eT → eI → eR → Prop} (hst : ST n t R) {k sm h : Nat} (hk4 : k ≤ 10) (hsm : sm < 1024) (hh2 : 2 ≤ h) (hh9 : h ≤ 9) {wv : Nat → Nat} (hwb : ∀ y, y < k → wv y ≤ 999) (hN1 : 1 ≤ ci (selF k sm) k) (hk : I 5 0 = nI k) (hW : ∀ y, y < k → I 7 y = nI (wv y)) (hq : ∀ I2 : eI, RWc I2 (bld (selF k sm) wv k h) → NOf I2 (selF k sm) 10 → FrB I I2 → Q n t I2 R) : MC yX1_build cX1_build 7 none (d + 2) 0 0 [.ref 48, .ref 5, .int (nI sm), .int (nI h)] n t I R (qV Q) := by
  refine mc_intro (L0 := [.ref 48, .ref 5, .int (nI sm), .int (nI h), vU, vU, vU]) (by decide) rfl (Nat.le_of_ble_eq_true rfl) ?_
  refine wp_aload_n (i := 0) dX1_build_0 rfl rfl ?_
  refine wp_iconst (v := 0) dX1_build_1 (by decide) ?_
  refine wp_putI dX1_build_2 fl_X1_21 rfl (Or.inl rfl) (st_k hst rfl) ?_
  refine wp_iconst (v := 0) dX1_build_5 (by decide) ?_
  refine wp_istore_7_4 dX1_build_6 rfl ?_
  refine lp_b1 _ hst hk4 hsm hh2 hh9 hwb 10 0 _ rfl (by exact hk) (by exact hW) ⟨rfl, fun i hi => absurd hi (Nat.not_lt_zero i)⟩ (fun y hy => absurd hy (Nat.not_lt_zero y)) (fun I2 hR hO hf => ?_)
  have ee := ci_end (selF_end (k := k) (sm := sm)) (10 - k)
  have ew := wi_end (wv := wv) (selF_end (k := k) (sm := sm)) (10 - k)
  rw [show k + (10 - k) = 10 by omega] at ee ew
  rw [ee, ew] at hR
  have hn : I2 48 3 = nI (ci (selF k sm) k) := hR.1
  have hcl := ci_le (selF k sm) k
  have a0 := s0_ok (sel := (selF k sm)) hk4 hwb
  have f0 := fst_ok (N := ci (selF k sm) k) (h := h) hN1 hh2
  have j0 := joinA_ok (h := fst1 (ci (selF k sm) k) h) a0.1 (by rw [a0.2]; exact f0.2.1)
  have r0 := rst_b hN1 (show ci (selF k sm) k ≤ 10 by omega) hh2
  refine wp_aload_n (i := 0) dX1_build_71 rfl rfl ?_
  refine wp_getI dX1_build_72 fl_X1_21 rfl (st_k hst rfl) ?_
  refine wp_topI (v2 := nI (ci (selF k sm) k)) hn ?_
  refine wp_istore_7_4 dX1_build_75 rfl ?_
  refine wp_iload dX1_build_77 rfl ?_
  refine wp_iconst (v := 2) dX1_build_79 (by decide) ?_
  refine wp_icmp_lt (tgt := 88) dX1_build_80 (by decide) (fun zq80 => ?_) (fun zq80 => ?_) 
  · refine wp_iconst (v := 1) dX1_build_88 (by decide) ?_
    refine wp_goto (tgt := 102) dX1_build_89 (by decide) ?_
    refine wp_istore_7_5 dX1_build_102 rfl ?_
    have e1 : fst1 (ci (selF k sm) k) h = 1 := if_pos (Nat.lt_of_not_le (fun g => absurd zq80 (nI_nlt (b := 2) g (by omega))))
    rw [show (1 : Int32) = nI (fst1 (ci (selF k sm) k) h) by rw [e1]; rfl]
    refine wp_aload_n (i := 0) dX1_build_104 rfl rfl ?_
    refine wp_iload dX1_build_105 rfl ?_
    refine wp_V1v dX1_build_107 mw_521 mw_523 ms_16 mi_X1_joinLeast (Nat.le_of_ble_eq_true rfl) (Nat.le_refl _) (Nat.le_refl _) (st_k hst rfl) (by decide) rfl (c_joinLeast _ hst a0.1 (show ci (selF k sm) k < 20 by omega) (hh := fst1 (ci (selF k sm) k) h) (by rw [a0.2]; exact f0.2.1) (by omega) hR (fun I3 hR3 hf3 => ?_)) 
    refine wp_iload dX1_build_110 rfl ?_
    refine wp_iload dX1_build_112 rfl ?_
    refine wp_iconst (v := 1) dX1_build_114 (by decide) ?_
    refine wp_isub dX1_build_115 ?_
    refine wp_topI (v2 := nI (fst1 (ci (selF k sm) k) h - 1)) (pk_sub (b := 1) f0.1) ?_
    refine wp_isub dX1_build_116 ?_
    refine wp_topI (v2 := nI (opn (joinA (fst1 (ci (selF k sm) k) h) (s0A (selF k sm) wv k)))) (by rw [pk_sub (by omega)]; exact congrArg nI (by omega)) ?_
    refine wp_istore_7_4 dX1_build_117 rfl ?_
    refine wp_iconst (v := 0) dX1_build_119 (by decide) ?_
    refine wp_istore_7_6 dX1_build_120 rfl ?_
    refine lp_b2 _ hst hh2 hh9 (rst (ci (selF k sm) k) h) 0 I3 (joinA (fst1 (ci (selF k sm) k) h) (s0A (selF k sm) wv k)) _ (by omega) j0.1 (by omega) (by show ci (selF k sm) k + 1 + rst (ci (selF k sm) k) h ≤ 20; omega) hR3 (fun I4 z4 z6 h1 h2 => ?_)
    exact wp_retV dX1_build_154 rfl (Nat.le_refl _) (Nat.le_refl _) (hq I4 h1 (fun y hy => by rw [h2.1 51 (by decide) (by decide) (by decide), hf3.1 51 (by decide) (by decide) (by decide)]; exact hO y hy) (FrB.tr (FrB.tr ⟨fun a a1 a2 a3 a4 => (hf.1 a a1 a2 a3 a4).trans (eU_ne a1), fun f hff => (hf.2 f hff).trans (eU_c hff)⟩ (FrB.of hf3)) (FrB.of h2)))
  · refine wp_iload_n (i := 3) dX1_build_83 rfl rfl ?_
    refine wp_iconst (v := 2) dX1_build_84 (by decide) ?_
    refine wp_icmp_ge (tgt := 92) dX1_build_85 (by decide) (fun zq85 => ?_) (fun zq85 => absurd (nI_le (a := 2) hh2 (by omega)) zq85) 
    refine wp_iconst (v := 2) dX1_build_92 (by decide) ?_
    refine wp_iload dX1_build_93 rfl ?_
    refine wp_iconst (v := 2) dX1_build_95 (by decide) ?_
    have h2N : 2 ≤ ci (selF k sm) k := Nat.le_of_not_lt (fun g => zq80 (nI_lt (b := 2) g (by decide)))
    have e1 : fst1 (ci (selF k sm) k) h = 2 + (ci (selF k sm) k - 2) % (h - 1) := if_neg (by omega)
    refine wp_isub dX1_build_96 ?_
    refine wp_topI (v2 := nI (ci (selF k sm) k - 2)) (pk_sub (b := 2) h2N) ?_
    refine wp_iload_n (i := 3) dX1_build_97 rfl rfl ?_
    refine wp_iconst (v := 1) dX1_build_98 (by decide) ?_
    refine wp_isub dX1_build_99 ?_
    refine wp_topI (v2 := nI (h - 1)) (pk_sub (b := 1) (show 1 ≤ h by omega)) ?_
    refine wp_irem dX1_build_100 (nI_ne0 (by omega) (by omega)) ?_
    refine wp_topI (v2 := nI ((ci (selF k sm) k - 2) % (h - 1))) (nI_mod (by omega) (by omega) (by omega)) ?_
    refine wp_iadd dX1_build_101 ?_
    refine wp_topI (v2 := nI (fst1 (ci (selF k sm) k) h)) (by rw [e1]; exact nI_add 2 _) ?_
    refine wp_istore_7_5 dX1_build_102 rfl ?_
    refine wp_aload_n (i := 0) dX1_build_104 rfl rfl ?_
    refine wp_iload dX1_build_105 rfl ?_
    refine wp_V1v dX1_build_107 mw_521 mw_523 ms_16 mi_X1_joinLeast (Nat.le_of_ble_eq_true rfl) (Nat.le_refl _) (Nat.le_refl _) (st_k hst rfl) (by decide) rfl (c_joinLeast _ hst a0.1 (show ci (selF k sm) k < 20 by omega) (hh := fst1 (ci (selF k sm) k) h) (by rw [a0.2]; exact f0.2.1) (by omega) hR (fun I3 hR3 hf3 => ?_)) 
    refine wp_iload dX1_build_110 rfl ?_
    refine wp_iload dX1_build_112 rfl ?_
    refine wp_iconst (v := 1) dX1_build_114 (by decide) ?_
    refine wp_isub dX1_build_115 ?_
    refine wp_topI (v2 := nI (fst1 (ci (selF k sm) k) h - 1)) (pk_sub (b := 1) f0.1) ?_
    refine wp_isub dX1_build_116 ?_
    refine wp_topI (v2 := nI (opn (joinA (fst1 (ci (selF k sm) k) h) (s0A (selF k sm) wv k)))) (by rw [pk_sub (by omega)]; exact congrArg nI (by omega)) ?_
    refine wp_istore_7_4 dX1_build_117 rfl ?_
    refine wp_iconst (v := 0) dX1_build_119 (by decide) ?_
    refine wp_istore_7_6 dX1_build_120 rfl ?_
    refine lp_b2 _ hst hh2 hh9 (rst (ci (selF k sm) k) h) 0 I3 (joinA (fst1 (ci (selF k sm) k) h) (s0A (selF k sm) wv k)) _ (by omega) j0.1 (by omega) (by show ci (selF k sm) k + 1 + rst (ci (selF k sm) k) h ≤ 20; omega) hR3 (fun I4 z4 z6 h1 h2 => ?_)
    exact wp_retV dX1_build_154 rfl (Nat.le_refl _) (Nat.le_refl _) (hq I4 h1 (fun y hy => by rw [h2.1 51 (by decide) (by decide) (by decide), hf3.1 51 (by decide) (by decide) (by decide)]; exact hO y hy) (FrB.tr (FrB.tr ⟨fun a a1 a2 a3 a4 => (hf.1 a a1 a2 a3 a4).trans (eU_ne a1), fun f hff => (hf.2 f hff).trans (eU_c hff)⟩ (FrB.of hf3)) (FrB.of h2)))

theorem lp_st (d : Nat) {n : Nat} {t : eT} {I : eI} {R : eR} {Q : Int32 → Nat → eT → eI → eR → Prop} (hst : ST n t R) {s : WS} (hs : OKW s) (hN : s.1 ≤ 20) (hR : RWc I s) {x : Nat} : ∀ (f v c : Nat), v < s.1 → s.1 ≤ v + f → c ≤ v → Q (nI (c + dpt s.2.2 f v)) n t I R → wp yX1_stepsOf cX1_stepsOf 4 (some .int) d 0 0 (qI Q) 0 0 23 [.ref 48, .int (nI x), .int (nI c), .int (nI v)] [] n t I R := by
  intro f
  induction f with
  | zero =>
    intro v c h1 h2 h3 hq
    omega
  | succ f ih =>
    intro v c h1 h2 h3 hq
    have hv := hR.2 v h1
    cases hM : s.2.2 v with
    | none =>
      rw [dpt_n hM, Nat.add_zero] at hq
      refine wp_iload_n (i := 2) dX1_stepsOf_23 rfl rfl ?_
      refine wp_bipush (v := 20) dX1_stepsOf_24 (by decide) ?_
      refine wp_icmp_ge (tgt := 52) dX1_stepsOf_26 (by decide) (fun zq26 => absurd zq26 (nI_ge (show c < 20 by omega) (by decide))) (fun zq26 => ?_) 
      refine wp_aload_n (i := 0) dX1_stepsOf_29 rfl rfl ?_
      refine wp_getR dX1_stepsOf_30 fl_X1_15 rfl (st_k hst rfl) (st_r hst rfl) ?_
      refine wp_iload_n (i := 3) dX1_stepsOf_33 rfl rfl ?_
      refine wp_ild (j := v) dX1_stepsOf_34 (st_t hst rfl) rfl (by omega) ?_
      refine wp_iconst (v := (-1)) dX1_stepsOf_35 (by decide) ?_
      refine wp_icmp_eq (tgt := 52) dX1_stepsOf_36 (by decide) (fun zq36 => ?_) (fun zq36 => absurd (hv.2.1 hM) zq36) 
      refine wp_iload_n (i := 2) dX1_stepsOf_52 rfl rfl ?_
      exact wp_retI dX1_stepsOf_53 rfl (Nat.le_refl _) (Nat.le_refl _) hq
    | some p =>
      have hp := hs.1 v p h1 hM
      rw [dpt_s hM] at hq
      refine wp_iload_n (i := 2) dX1_stepsOf_23 rfl rfl ?_
      refine wp_bipush (v := 20) dX1_stepsOf_24 (by decide) ?_
      refine wp_icmp_ge (tgt := 52) dX1_stepsOf_26 (by decide) (fun zq26 => absurd zq26 (nI_ge (show c < 20 by omega) (by decide))) (fun zq26 => ?_) 
      refine wp_aload_n (i := 0) dX1_stepsOf_29 rfl rfl ?_
      refine wp_getR dX1_stepsOf_30 fl_X1_15 rfl (st_k hst rfl) (st_r hst rfl) ?_
      refine wp_iload_n (i := 3) dX1_stepsOf_33 rfl rfl ?_
      refine wp_ild (j := v) dX1_stepsOf_34 (st_t hst rfl) rfl (by omega) ?_
      refine wp_iconst (v := (-1)) dX1_stepsOf_35 (by decide) ?_
      refine wp_icmp_eq (tgt := 52) dX1_stepsOf_36 (by decide) (fun zq36 => absurd ((hv.2.2 p hM).symm.trans zq36) (nI_m1 p (by omega))) (fun zq36 => ?_) 
      refine wp_aload_n (i := 0) dX1_stepsOf_39 rfl rfl ?_
      refine wp_getR dX1_stepsOf_40 fl_X1_15 rfl (st_k hst rfl) (st_r hst rfl) ?_
      refine wp_iload_n (i := 3) dX1_stepsOf_43 rfl rfl ?_
      refine wp_ild (j := v) dX1_stepsOf_44 (st_t hst rfl) rfl (by omega) ?_
      refine wp_topI (v2 := nI p) (hv.2.2 p hM) ?_
      refine wp_istore_4_3 dX1_stepsOf_45 rfl ?_
      refine wp_iinc_4_2 (v := nI (c + 1)) dX1_stepsOf_46 (n_add rfl rfl) ?_
      refine wp_goto (tgt := 23) dX1_stepsOf_49 (by decide) ?_
      exact ih p (c + 1) (by omega) (by omega) (by omega) (by rw [show c + 1 + dpt s.2.2 f p = c + (1 + dpt s.2.2 f p) by omega]; exact hq)

theorem c_stepsOf (d : Nat) {n : Nat} {t : eT} {I : eI} {R : eR} {Q : Int32 → Nat → eT → eI → eR → Prop} (hst : ST n t R) {s : WS} (hs : OKW s) (hN : s.1 ≤ 20) (hR : RWc I s) {sel : Nat → Bool} (hO : NOf I sel 10) {x : Nat} (hx : x < 10) (hcx : sel x = true → ci sel x < s.1) (hq : Q (stp sel s.2.2 x) n t I R) : MC yX1_stepsOf cX1_stepsOf 4 (some .int) d 0 0 [.ref 48, .int (nI x)] n t I R (qI Q) := by
  refine mc_intro (L0 := [.ref 48, .int (nI x), vU, vU]) (by decide) rfl (Nat.le_of_ble_eq_true rfl) ?_
  have hox := hO x hx
  unfold stp at hq
  by_cases hsx : sel x = true
  · rw [if_pos hsx] at hox hq
    refine wp_aload_n (i := 0) dX1_stepsOf_0 rfl rfl ?_
    refine wp_getR dX1_stepsOf_1 fl_X1_18 rfl (st_k hst rfl) (st_r hst rfl) ?_
    refine wp_iload_n (i := 1) dX1_stepsOf_4 rfl rfl ?_
    refine wp_ild (j := x) dX1_stepsOf_5 (st_t hst rfl) rfl (by omega) ?_
    refine wp_bipush (v := (-9)) dX1_stepsOf_6 (by decide) ?_
    refine wp_icmp_ne (tgt := 14) dX1_stepsOf_8 (by decide) (fun zq8 => ?_) (fun zq8 => absurd (hox.symm.trans zq8) (nI_m9 _ (by have := hcx hsx; omega))) 
    refine wp_iconst (v := 0) dX1_stepsOf_14 (by decide) ?_
    refine wp_istore_4_2 dX1_stepsOf_15 rfl ?_
    refine wp_aload_n (i := 0) dX1_stepsOf_16 rfl rfl ?_
    refine wp_getR dX1_stepsOf_17 fl_X1_18 rfl (st_k hst rfl) (st_r hst rfl) ?_
    refine wp_iload_n (i := 1) dX1_stepsOf_20 rfl rfl ?_
    refine wp_ild (j := x) dX1_stepsOf_21 (st_t hst rfl) rfl (by omega) ?_
    refine wp_topI (v2 := nI (ci sel x)) hox ?_
    refine wp_istore_4_3 dX1_stepsOf_22 rfl ?_
    exact lp_st d hst hs hN hR 20 (ci sel x) 0 (hcx hsx) (by omega) (Nat.zero_le _) (by rw [Nat.zero_add]; exact hq)
  · rw [if_neg hsx] at hox hq
    refine wp_aload_n (i := 0) dX1_stepsOf_0 rfl rfl ?_
    refine wp_getR dX1_stepsOf_1 fl_X1_18 rfl (st_k hst rfl) (st_r hst rfl) ?_
    refine wp_iload_n (i := 1) dX1_stepsOf_4 rfl rfl ?_
    refine wp_ild (j := x) dX1_stepsOf_5 (st_t hst rfl) rfl (by omega) ?_
    refine wp_bipush (v := (-9)) dX1_stepsOf_6 (by decide) ?_
    refine wp_icmp_ne (tgt := 14) dX1_stepsOf_8 (by decide) (fun zq8 => absurd hox zq8) (fun zq8 => ?_) 
    refine wp_bipush (v := (-9)) dX1_stepsOf_11 (by decide) ?_
    exact wp_retI dX1_stepsOf_13 rfl (Nat.le_refl _) (Nat.le_refl _) hq

theorem lp_cost (d : Nat) {n : Nat} {t : eT} {I : eI} {R : eR} {Q : eQt} (hst : ST n t R) {k : Nat} (hk : I 5 0 = nI k) (hk4 : k ≤ 10) {s : WS} (hs : OKW s) (hN : s.1 ≤ 20) (hR : RWc I s) {sel : Nat → Bool} (hO : NOf I sel 10) (hcx : ∀ x, sel x = true → x < 10 → ci sel x < s.1) {wv : Nat → Nat} (hW : ∀ y, y < k → I 7 y = nI (wv y)) : ∀ (r x : Nat), x + r = k → wp yX1_costBy cX1_costBy 4 (some .int) (d + 1) 0 0 Q 0 0 44 [.ref 48, .ref 5, .int (addI 0 (fun x => if sel x = true then nI (wv x) * stp sel s.2.2 x else 0) k), .int (nI k)] [] n t I R → wp yX1_costBy cX1_costBy 4 (some .int) (d + 1) 0 0 Q 0 0 4 [.ref 48, .ref 5, .int (addI 0 (fun x => if sel x = true then nI (wv x) * stp sel s.2.2 x else 0) x), .int (nI x)] [] n t I R := by
  intro r
  induction r with
  | zero =>
    intro x hx hq
    obtain rfl : x = k := by omega
    refine wp_iload_n (i := 3) dX1_costBy_4 rfl rfl ?_
    refine wp_aload_n (i := 1) dX1_costBy_5 rfl rfl ?_
    refine wp_getI dX1_costBy_6 fl_X1_25 rfl (st_k hst rfl) ?_
    refine wp_icmp_ge (tgt := 44) dX1_costBy_9 (by decide) (fun zq9 => ?_) (fun zq9 => absurd (by rw [hk]; exact nI_le (Nat.le_refl _) (by omega)) zq9) 
    exact hq
  | succ r ih =>
    intro x hx hq
    refine wp_iload_n (i := 3) dX1_costBy_4 rfl rfl ?_
    refine wp_aload_n (i := 1) dX1_costBy_5 rfl rfl ?_
    refine wp_getI dX1_costBy_6 fl_X1_25 rfl (st_k hst rfl) ?_
    refine wp_icmp_ge (tgt := 44) dX1_costBy_9 (by decide) (fun zq9 => absurd (show I 5 0 ≤ nI x from zq9) (by rw [hk]; exact nI_ge (show x < k by omega) (by omega))) (fun zq9 => ?_) 
    refine wp_aload_n (i := 0) dX1_costBy_12 rfl rfl ?_
    refine wp_getR dX1_costBy_13 fl_X1_18 rfl (st_k hst rfl) (st_r hst rfl) ?_
    refine wp_iload_n (i := 3) dX1_costBy_16 rfl rfl ?_
    refine wp_ild (j := x) dX1_costBy_17 (st_t hst rfl) rfl (by omega) ?_
    refine wp_bipush (v := (-9)) dX1_costBy_18 (by decide) ?_
    refine wp_icmp_eq (tgt := 38) dX1_costBy_20 (by decide) (fun zq20 => ?_) (fun zq20 => ?_) 
    · refine wp_iinc_4_3 (v := nI (x + 1)) dX1_costBy_38 (n_add rfl rfl) ?_
      refine wp_goto (tgt := 4) dX1_costBy_41 (by decide) ?_
      have hns : ¬ sel x = true := fun g => by
        rw [hO x (by omega), if_pos g] at zq20
        exact nI_m9 _ (by have := hcx x g (by omega); omega) zq20
      rw [addI_z (T := (fun x => if sel x = true then nI (wv x) * stp sel s.2.2 x else 0)) (a := x) (if_neg hns)]
      exact ih (x + 1) (by omega) hq
    · have hsx : sel x = true := Decidable.byContradiction (fun g => zq20 (by show I 51 x = -9; rw [hO x (by omega), if_neg g]))
      refine wp_iload_n (i := 2) dX1_costBy_23 rfl rfl ?_
      refine wp_aload_n (i := 1) dX1_costBy_24 rfl rfl ?_
      refine wp_getR dX1_costBy_25 fl_X1_30 rfl (st_k hst rfl) (st_r hst rfl) ?_
      refine wp_iload_n (i := 3) dX1_costBy_28 rfl rfl ?_
      refine wp_ild (j := x) dX1_costBy_29 (st_t hst rfl) rfl (by omega) ?_
      refine wp_aload_n (i := 0) dX1_costBy_30 rfl rfl ?_
      refine wp_iload_n (i := 3) dX1_costBy_31 rfl rfl ?_
      refine wp_V1i dX1_costBy_32 mw_533 mw_534 mw_535 mi_X1_stepsOf (Nat.le_of_ble_eq_true rfl) (Nat.le_refl _) (Nat.le_refl _) (st_k hst rfl) (by decide) rfl (c_stepsOf _ hst hs hN hR hO (show x < 10 by omega) (fun g => hcx x g (by omega)) ?_) 
      rw [show I 7 x = nI (wv x) from hW x (by omega)]
      refine wp_imul dX1_costBy_35 ?_
      refine wp_iadd dX1_costBy_36 ?_
      refine wp_istore_4_2 dX1_costBy_37 rfl ?_
      refine wp_iinc_4_3 (v := nI (x + 1)) dX1_costBy_38 (n_add rfl rfl) ?_
      refine wp_goto (tgt := 4) dX1_costBy_41 (by decide) ?_
      rw [addI_s (T := (fun x => if sel x = true then nI (wv x) * stp sel s.2.2 x else 0)) (a := x) (if_pos hsx)]
      exact ih (x + 1) (by omega) hq

theorem c_costBy (d : Nat) {n : Nat} {t : eT} {I : eI} {R : eR} {Q : Int32 → Nat → eT → eI → eR → Prop} (hst : ST n t R) {k : Nat} (hk : I 5 0 = nI k) (hk4 : k ≤ 10) {s : WS} (hs : OKW s) (hN : s.1 ≤ 20) (hR : RWc I s) {sel : Nat → Bool} (hO : NOf I sel 10) (hcx : ∀ x, sel x = true → x < 10 → ci sel x < s.1) {wv : Nat → Nat} (hW : ∀ y, y < k → I 7 y = nI (wv y)) (hq : Q (addI 0 (fun x => if sel x = true then nI (wv x) * stp sel s.2.2 x else 0) k) n t I R) : MC yX1_costBy cX1_costBy 4 (some .int) (d + 1) 0 0 [.ref 48, .ref 5] n t I R (qI Q) := by
  refine mc_intro (L0 := [.ref 48, .ref 5, vU, vU]) (by decide) rfl (Nat.le_of_ble_eq_true rfl) ?_
  refine wp_iconst (v := 0) dX1_costBy_0 (by decide) ?_
  refine wp_istore_4_2 dX1_costBy_1 rfl ?_
  refine wp_iconst (v := 0) dX1_costBy_2 (by decide) ?_
  refine wp_istore_4_3 dX1_costBy_3 rfl ?_
  refine lp_cost d hst hk hk4 hs hN hR hO hcx hW k 0 (by omega) ?_
  refine wp_iload_n (i := 2) dX1_costBy_44 rfl rfl ?_
  exact wp_retI dX1_costBy_45 rfl (Nat.le_refl _) (Nat.le_refl _) hq

theorem c_hasSet (d : Nat) {n : Nat} {t : eT} {I : eI} {R : eR} {Q : Int32 → Nat → eT → eI → eR → Prop} (hst : ST n t R) {k : Nat} (hk : I 5 0 = nI k) (hk4 : k ≤ 10) {v : Int32} (h1 : ∀ sm, 0 < sm → sm < 2 ^ k → v = nI sm → Q 1 n t I R) (h0 : ¬ (0 < v.toInt ∧ v.toInt < 2 ^ k) → Q 0 n t I R) : MC yX2_hasSet cX2_hasSet 2 (some .boolean) d 0 0 [.ref 5, .int v] n t I R (qI Q) := by
  refine mc_intro (L0 := [.ref 5, .int v]) (by decide) rfl (Nat.le_of_ble_eq_true rfl) ?_
  refine wp_iload_n (i := 1) dX2_hasSet_0 rfl rfl ?_
  refine wp_if_le (tgt := 18) dX2_hasSet_1 (by decide) (fun zq1 => ?_) (fun zq1 => ?_) 
  · refine wp_iconst (v := 0) dX2_hasSet_18 (by decide) ?_
    exact wp_retZ dX2_hasSet_19 rfl rfl (Nat.le_refl _) (Nat.le_refl _) (h0 (fun g => by rw [i_le, i0] at zq1; omega))
  · refine wp_iload_n (i := 1) dX2_hasSet_4 rfl rfl ?_
    refine wp_iconst (v := 1) dX2_hasSet_5 (by decide) ?_
    refine wp_aload_n (i := 0) dX2_hasSet_6 rfl rfl ?_
    refine wp_getI dX2_hasSet_7 fl_X2_9 rfl (st_k hst rfl) ?_
    have hpb := pow_b k hk4
    rw [hk]
    refine wp_ishl dX2_hasSet_10 ?_
    refine wp_topI (v2 := nI (2 ^ k)) (shl1 k hk4) ?_
    refine wp_icmp_ge (tgt := 18) dX2_hasSet_11 (by decide) (fun zq11 => ?_) (fun zq11 => ?_) 
    · refine wp_iconst (v := 0) dX2_hasSet_18 (by decide) ?_
      exact wp_retZ dX2_hasSet_19 rfl rfl (Nat.le_refl _) (Nat.le_refl _) (h0 (fun g => by rw [i_le, nI_toInt (by omega)] at zq11; have := g.2; rw [show ((2 : Int) ^ k) = ((2 ^ k : Nat) : Int) from (Int.natCast_pow 2 k).symm] at this; omega))
    · refine wp_iconst (v := 1) dX2_hasSet_14 (by decide) ?_
      refine wp_goto (tgt := 19) dX2_hasSet_15 (by decide) ?_
      rw [i_le, i0] at zq1
      rw [i_le, nI_toInt (by omega)] at zq11
      obtain ⟨sm, hsm, esm⟩ := nat_yes (x := v) (m := 2 ^ k) (by omega) (by omega) (by omega)
      subst esm
      rw [nI_toInt (by omega)] at zq1
      exact wp_retZ dX2_hasSet_19 rfl rfl (Nat.le_refl _) (Nat.le_refl _) (h1 sm (by omega) hsm rfl)

theorem c_areParts (d : Nat) {n : Nat} {t : eT} {I : eI} {R : eR} {Q : Int32 → Nat → eT → eI → eR → Prop} (hst : ST n t R) {k : Nat} (hkM : I 94 1 = nI k) (hk4 : k ≤ 10) {v : Int32} (h1 : ∀ sm, 0 < sm → sm < 2 ^ k → v = nI sm → Q 1 n t I R) (h0 : ¬ (0 < v.toInt ∧ v.toInt < 2 ^ k) → Q 0 n t I R) : MC yX8_areParts cX8_areParts 2 (some .boolean) (d + 1) 0 0 [.ref 94, .int v] n t I R (qI Q) := by
  refine mc_intro (L0 := [.ref 94, .int v]) (by decide) rfl (Nat.le_of_ble_eq_true rfl) ?_
  refine wp_iload_n (i := 1) dX8_areParts_0 rfl rfl ?_
  refine wp_i2l dX8_areParts_1 ?_
  refine wp_lconst (v := 1) dX8_areParts_2 (by decide) ?_
  refine wp_lconst (v := 1) dX8_areParts_3 (by decide) ?_
  refine wp_aload_n (i := 0) dX8_areParts_4 rfl rfl ?_
  refine wp_getI dX8_areParts_5 fl_X8_143 rfl (st_k hst rfl) ?_
  have hpb := pow_b k hk4
  rw [hkM]
  refine wp_lshl dX8_areParts_8 ?_
  refine wp_lconst (v := 1) dX8_areParts_9 (by decide) ?_
  refine wp_lsub dX8_areParts_10 ?_
  refine wp_S3i dX8_areParts_11 mw_887 mw_888 mi_X8_in (Nat.le_of_ble_eq_true rfl) (Nat.le_refl _) (Nat.le_refl _) (c_in _ (a := 1) (b := 2 ^ k - 1) rfl (lshl1 k hk4) (fun ga gb => ?_) (fun gn => ?_)) 
  · rw [show ((2 : Int) ^ k) = ((2 ^ k : Nat) : Int) from (Int.natCast_pow 2 k).symm] at gb
    obtain ⟨sm, hsm, esm⟩ := nat_yes (x := v) (m := 2 ^ k) (by omega) (by omega) (by omega)
    subst esm
    rw [nI_toInt (by omega)] at ga
    exact wp_retZ dX8_areParts_14 rfl rfl (Nat.le_refl _) (Nat.le_refl _) (h1 sm (by omega) hsm rfl)
  · skip
    exact wp_retZ dX8_areParts_14 rfl rfl (Nat.le_refl _) (Nat.le_refl _) (h0 (fun g => gn ⟨by omega, by omega⟩))

