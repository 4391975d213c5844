theorem lp_l1 (d : Nat) {n : Nat} {t : eT} {R : eR} {Q : eQt} (hst : ST n t R) {k sm h : Nat} (hk4 : k ≤ 10) (hsm : sm < 1024) (hh2 : 2 ≤ h) (hh9 : h ≤ 9) {wv : Nat → Nat} (hwb : ∀ y, y < k → wv y ≤ 999) : ∀ (r x : Nat) (I : eI), x + r = k → I 94 1 = nI k → (∀ y, y < k → I 96 y = nI (wv y)) → RWm I (ci (selF k sm) x, wi (selF k sm) wv x, fun _ => none) → (∀ y, y < x → I 113 y = -9) → (∀ I2 : eI, RWm I2 (ci (selF k sm) k, wi (selF k sm) wv k, fun _ => none) → (∀ y, y < k → I2 113 y = -9) → FrY I I2 → wp yX8_layWays cX8_layWays 8 none (d + 2) 0 0 Q 0 0 73 [.ref 94, .int (nI sm), .int (nI h), .int (nI k), vU, vU, vU, vU] [] n t I2 R) → wp yX8_layWays cX8_layWays 8 none (d + 2) 0 0 Q 0 0 7 [.ref 94, .int (nI sm), .int (nI h), .int (nI x), vU, vU, vU, vU] [] n t I R := by
  intro r
  induction r with
  | zero =>
    intro x I hx hk hW hR hO hq
    obtain rfl : x = k := by omega
    refine wp_iload_n (i := 3) dX8_layWays_7 rfl rfl ?_
    refine wp_aload_n (i := 0) dX8_layWays_8 rfl rfl ?_
    refine wp_getI dX8_layWays_9 fl_X8_143 rfl (st_k hst rfl) ?_
    refine wp_icmp_ge (tgt := 73) dX8_layWays_12 (by decide) (fun zq12 => ?_) (fun zq12 => absurd (by rw [hk]; exact nI_le (Nat.le_refl _) (by omega)) zq12) 
    exact hq I hR hO ⟨fun _ _ _ _ _ => rfl, fun _ _ => rfl⟩
  | succ r ih =>
    intro x I hx hk hW hR hO hq
    refine wp_iload_n (i := 3) dX8_layWays_7 rfl rfl ?_
    refine wp_aload_n (i := 0) dX8_layWays_8 rfl rfl ?_
    refine wp_getI dX8_layWays_9 fl_X8_143 rfl (st_k hst rfl) ?_
    refine wp_icmp_ge (tgt := 73) dX8_layWays_12 (by decide) (fun zq12 => absurd (show I 94 1 ≤ nI x from zq12) (by rw [hk]; exact nI_ge (show x < k by omega) (by omega))) (fun zq12 => ?_) 
    refine wp_aload_n (i := 0) dX8_layWays_15 rfl rfl ?_
    refine wp_getR dX8_layWays_16 fl_X8_65 rfl (st_k hst rfl) (st_r hst rfl) ?_
    refine wp_iload_n (i := 3) dX8_layWays_19 rfl rfl ?_
    refine wp_bipush (v := (-9)) dX8_layWays_20 (by decide) ?_
    refine wp_ist (j := x) dX8_layWays_22 (st_t hst rfl) rfl (by omega) ?_
    refine wp_iload_n (i := 1) dX8_layWays_23 rfl rfl ?_
    refine wp_iload_n (i := 3) dX8_layWays_24 rfl rfl ?_
    refine wp_S2i dX8_layWays_25 mw_964 mw_965 mi_X8_hasBit (Nat.le_of_ble_eq_true rfl) (Nat.le_refl _) (Nat.le_refl _) (c_hasBit _ (fun b1 => ?_) (fun b0 => ?_)) 
    · have hsx : (selF k sm) x = true := selF_t.mpr ⟨by omega, (bit_nI sm hsm x (by omega)).mp b1⟩
      have hcx := ci_le (selF k sm) x
      have hn94 : I 94 22 = nI (ci (selF k sm) x) := hR.1
      refine wp_if_eq1 (tgt := 67) dX8_layWays_28 (by decide) ?_
      refine wp_aload_n (i := 0) dX8_layWays_31 rfl rfl ?_
      refine wp_getR dX8_layWays_32 fl_X8_59 rfl (st_k hst rfl) (st_r hst rfl) ?_
      refine wp_aload_n (i := 0) dX8_layWays_35 rfl rfl ?_
      refine wp_getI dX8_layWays_36 fl_X8_249 rfl (st_k hst rfl) ?_
      refine wp_aload_n (i := 0) dX8_layWays_39 rfl rfl ?_
      refine wp_getR dX8_layWays_40 fl_X8_13 rfl (st_k hst rfl) (st_r hst rfl) ?_
      refine wp_iload_n (i := 3) dX8_layWays_43 rfl rfl ?_
      refine wp_ild (j := x) dX8_layWays_44 (st_t hst rfl) rfl (by omega) ?_
      rw [show eU I 113 x (-9) 96 x = nI (wv x) from hW x (by omega)]
      refine wp_ist (j := (ci (selF k sm) x)) dX8_layWays_45 (st_t hst rfl) hn94 (by omega) ?_
      refine wp_aload_n (i := 0) dX8_layWays_46 rfl rfl ?_
      refine wp_getR dX8_layWays_47 fl_X8_62 rfl (st_k hst rfl) (st_r hst rfl) ?_
      refine wp_aload_n (i := 0) dX8_layWays_50 rfl rfl ?_
      refine wp_getI dX8_layWays_51 fl_X8_249 rfl (st_k hst rfl) ?_
      refine wp_bipush (v := (-9)) dX8_layWays_54 (by decide) ?_
      refine wp_ist (j := (ci (selF k sm) x)) dX8_layWays_56 (st_t hst rfl) hn94 (by omega) ?_
      refine wp_aload_n (i := 0) dX8_layWays_57 rfl rfl ?_
      refine wp_dup dX8_layWays_58 rfl ?_
      refine wp_getI dX8_layWays_59 fl_X8_249 rfl (st_k hst rfl) ?_
      refine wp_iconst (v := 1) dX8_layWays_62 (by decide) ?_
      refine wp_iadd dX8_layWays_63 ?_
      refine wp_topI (v2 := nI ((ci (selF k sm) x) + 1)) (n_add hn94 rfl) ?_
      refine wp_putI dX8_layWays_64 fl_X8_249 rfl (Or.inl rfl) (st_k hst rfl) ?_
      refine wp_iinc_8_3 (v := nI (x + 1)) dX8_layWays_67 (n_add rfl rfl) ?_
      refine wp_goto (tgt := 7) dX8_layWays_70 (by decide) ?_
      have RR : RWm (eU (eU (eU (eU I 113 x (-9)) 111 (ci (selF k sm) x) (nI (wv x))) 112 (ci (selF k sm) x) (-9)) 94 22 (nI (ci (selF k sm) x + 1))) (ci (selF k sm) (x + 1), wi (selF k sm) wv (x + 1), fun _ => none) := by
        have h9 := RWm.add (I := eU I 113 x (-9)) (v := wv x) (show RWm (eU I 113 x (-9)) (ci (selF k sm) x, wi (selF k sm) wv x, fun _ => none) from hR)
        rw [eG_none] at h9
        rw [ci_t hsx, wi_t hsx]
        exact h9
      exact ih (x + 1) (eU (eU (eU (eU I 113 x (-9)) 111 (ci (selF k sm) x) (nI (wv x))) 112 (ci (selF k sm) x) (-9)) 94 22 (nI (ci (selF k sm) x + 1))) (by omega) (by exact hk) (by exact hW) RR (fun y hy => by
        show (eU I 113 x (-9)) 113 y = _
        by_cases e : y = x
        · subst e; rw [eU_at]
        · rw [eU_c e]; exact hO y (by omega)) (fun I2 h1 h2 h3 => hq I2 h1 h2 (FrY.tr (I2 := (eU (eU (eU (eU I 113 x (-9)) 111 (ci (selF k sm) x) (nI (wv x))) 112 (ci (selF k sm) x) (-9)) 94 22 (nI (ci (selF k sm) x + 1)))) ⟨fun a a1 a2 a3 a4 => by rw [eU_ne a1, eU_ne a3, eU_ne a2, eU_ne a4], fun f hf => eU_c hf⟩ h3))
    · have hns : ¬ (selF k sm) x = true := fun g => b0 ((bit_nI sm hsm x (by omega)).mpr (selF_t.mp g).2)
      refine wp_if_eq0 (tgt := 67) dX8_layWays_28 (by decide) ?_
      refine wp_iinc_8_3 (v := nI (x + 1)) dX8_layWays_67 (n_add rfl rfl) ?_
      refine wp_goto (tgt := 7) dX8_layWays_70 (by decide) ?_
      have RR : RWm (eU I 113 x (-9)) (ci (selF k sm) (x + 1), wi (selF k sm) wv (x + 1), fun _ => none) := by
        rw [ci_f hns, wi_f hns]
        exact hR
      exact ih (x + 1) (eU I 113 x (-9)) (by omega) (by exact hk) (by exact hW) RR (fun y hy => by
        by_cases e : y = x
        · subst e; rw [eU_at]
        · rw [eU_c e]; exact hO y (by omega)) (fun I2 h1 h2 h3 => hq I2 h1 h2 (FrY.tr (I2 := eU I 113 x (-9)) ⟨fun a a1 a2 a3 a4 => eU_ne a4, fun f hf => rfl⟩ h3))

theorem lp_l2 (d : Nat) {n : Nat} {t : eT} {R : eR} {Q : eQt} (hst : ST n t R) {sm h A : Nat} (hh2 : 2 ≤ h) (hh9 : h ≤ 9) (hA : A ≤ 10) {x6 x7 : Value} : ∀ (q : Nat) (I : eI) (s : WS) (x5 : Value), OKW s → opn s = 1 + q * (h - 1) → s.1 + q ≤ 20 → opn s < A → RWm I s → sec x5 = false → (∀ (I2 : eI) (z4 z5 : Value), sec z5 = false → RWm I2 (jit h q s) → FrX I I2 → wp yX8_layWays cX8_layWays 8 none (d + 2) 0 0 Q 0 0 136 [.ref 94, .int (nI sm), .int (nI h), .int (nI A), z4, z5, x6, x7] [] n t I2 R) → wp yX8_layWays cX8_layWays 8 none (d + 2) 0 0 Q 0 0 91 [.ref 94, .int (nI sm), .int (nI h), .int (nI A), .int (nI (opn s)), x5, x6, x7] [] n t I R := by
  intro q
  induction q with
  | zero =>
    intro I s x5 hs ho hN hlt hR hx5 hq
    refine wp_iload dX8_layWays_91 rfl ?_
    refine wp_iconst (v := 1) dX8_layWays_93 (by decide) ?_
    refine wp_icmp_le (tgt := 136) dX8_layWays_94 (by decide) (fun zq94 => ?_) (fun zq94 => absurd (by rw [ho, Nat.zero_mul]; decide) zq94) 
    exact hq I _ _ hx5 hR (FrX.rf I)
  | succ q ih =>
    intro I s x5 hs ho hN hlt hR hx5 hq
    have em : (q + 1) * (h - 1) = q * (h - 1) + (h - 1) := Nat.succ_mul q (h - 1)
    have e0 : 0 ≤ q * (h - 1) := Nat.zero_le _
    have a9 := joinA_ok (h := h) hs (by omega)
    refine wp_iload dX8_layWays_91 rfl ?_
    refine wp_iconst (v := 1) dX8_layWays_93 (by decide) ?_
    refine wp_icmp_le (tgt := 136) dX8_layWays_94 (by decide) (fun zq94 => absurd zq94 (nI_ge (a := 1) (b := opn s) (by omega) (by omega))) (fun zq94 => ?_) 
    refine wp_iload dX8_layWays_97 rfl ?_
    refine wp_iload_n (i := 3) dX8_layWays_99 rfl rfl ?_
    refine wp_icmp_ne (tgt := 115) dX8_layWays_100 (by decide) (fun zq100 => ?_) (fun zq100 => absurd zq100 (fun g => by have := (nI_eq (by omega) (by omega)).mp g; omega)) 
    refine wp_iload_n (i := 2) dX8_layWays_115 rfl rfl ?_
    refine wp_istore_8_5 dX8_layWays_116 (by first | rfl | assumption) ?_
    refine wp_aload_n (i := 0) dX8_layWays_118 rfl rfl ?_
    refine wp_iload dX8_layWays_119 rfl ?_
    refine wp_V1v dX8_layWays_121 mw_1049 mw_1051 ms_45 mi_X8_join (Nat.le_of_ble_eq_true rfl) (Nat.le_refl _) (Nat.le_refl _) (st_k hst rfl) (by decide) rfl (c_join _ hst hs (show s.1 < 20 by omega) (hh := h) (by omega) (by omega) hR (fun I1 hR1 hf1 => ?_)) 
    refine wp_iload dX8_layWays_124 rfl ?_
    refine wp_iload dX8_layWays_126 rfl ?_
    refine wp_iconst (v := 1) dX8_layWays_128 (by decide) ?_
    refine wp_isub dX8_layWays_129 ?_
    refine wp_isub dX8_layWays_130 ?_
    refine wp_topI (v2 := nI (opn (joinA h s))) (by rw [show nI h - 1 = nI (h - 1) from pk_sub (b := 1) (by omega), pk_sub (by omega)]; exact congrArg nI (by omega)) ?_
    refine wp_istore_8_4 dX8_layWays_131 (by first | rfl | assumption) ?_
    refine wp_goto (tgt := 91) dX8_layWays_133 (by decide) ?_
    exact ih I1 (joinA h s) _ a9.1 (by omega) (by show s.1 + 1 + q ≤ 20; omega) (by omega) hR1 rfl (fun I2 z4 z5 hz5 h1 h2 => hq I2 z4 z5 hz5 h1 (hf1.tr h2))

theorem lp_l4 (d : Nat) {n : Nat} {t : eT} {R : eR} {Q : eQt} (hst : ST n t R) {s : WS} (hs : OKW s) (hN : s.1 ≤ 20) {x : Nat} (hx : x < 10) {x1 x2 x3 x4 x5 : Value} : ∀ (f v c : Nat) (I : eI), v < s.1 → s.1 ≤ v + f → RWm I s → I 113 x = nI c → (∀ (I2 : eI) (y7 : Int32), I2 113 x = nI (c + dpt s.2.2 f v) → (∀ y, y ≠ x → I2 113 y = I 113 y) → (∀ a, a ≠ 113 → I2 a = I a) → wp yX8_layWays cX8_layWays 8 none (d + 2) 0 0 Q 0 0 205 [.ref 94, x1, x2, x3, x4, x5, .int (nI x), .int y7] [] n t I2 R) → wp yX8_layWays cX8_layWays 8 none (d + 2) 0 0 Q 0 0 177 [.ref 94, x1, x2, x3, x4, x5, .int (nI x), .int (I 112 v)] [] n t I R := by
  intro f
  induction f with
  | zero =>
    intro v c I h1 h2 hR hc hq
    omega
  | succ f ih =>
    intro v c I h1 h2 hR hc hq
    have hv := hR.2 v h1
    cases hM : s.2.2 v with
    | none =>
      rw [dpt_n hM, Nat.add_zero] at hq
      refine wp_iload dX8_layWays_177 rfl ?_
      refine wp_if_lt (tgt := 205) dX8_layWays_179 (by decide) (fun zq179 => ?_) (fun zq179 => absurd (show I 112 v < 0 by rw [hv.2.1 hM]; decide) zq179) 
      exact hq I _ hc (fun _ _ => rfl) (fun _ _ => rfl)
    | some p =>
      have hp := hs.1 v p h1 hM
      rw [dpt_s hM] at hq
      refine wp_iload dX8_layWays_177 rfl ?_
      refine wp_if_lt (tgt := 205) dX8_layWays_179 (by decide) (fun zq179 => absurd (show I 112 v < 0 from zq179) (by rw [hv.2.2 p hM]; exact nI_pos (by omega))) (fun zq179 => ?_) 
      rw [show I 112 v = nI p from hv.2.2 p hM]
      refine wp_aload_n (i := 0) dX8_layWays_182 rfl rfl ?_
      refine wp_getR dX8_layWays_183 fl_X8_65 rfl (st_k hst rfl) (st_r hst rfl) ?_
      refine wp_iload dX8_layWays_186 rfl ?_
      refine wp_dup2 dX8_layWays_188 rfl rfl ?_
      refine wp_ild (j := x) dX8_layWays_189 (st_t hst rfl) rfl (by omega) ?_
      refine wp_iconst (v := 1) dX8_layWays_190 (by decide) ?_
      refine wp_iadd dX8_layWays_191 ?_
      refine wp_topI (v2 := nI (c + 1)) (n_add hc rfl) ?_
      refine wp_ist (j := x) dX8_layWays_192 (st_t hst rfl) rfl (by omega) ?_
      refine wp_aload_n (i := 0) dX8_layWays_193 rfl rfl ?_
      refine wp_getR dX8_layWays_194 fl_X8_62 rfl (st_k hst rfl) (st_r hst rfl) ?_
      refine wp_iload dX8_layWays_197 rfl ?_
      refine wp_ild (j := p) dX8_layWays_199 (st_t hst rfl) rfl (by omega) ?_
      refine wp_istore_8_7 dX8_layWays_200 rfl ?_
      refine wp_goto (tgt := 177) dX8_layWays_202 (by decide) ?_
      refine ih p (c + 1) (eU I 113 x (nI (c + 1))) (by omega) (by omega) (by exact hR) (by rw [eU_at]) (fun I2 y7 h3 h4 h5 => hq I2 y7 (by rw [h3]; exact congrArg nI (by omega)) (fun y hy => (h4 y hy).trans (eU_c hy)) (fun a ha => (h5 a ha).trans (eU_ne ha)))

theorem lp_l3 (d : Nat) {n : Nat} {t : eT} {R : eR} {Q : Nat → eT → eI → eR → Prop} (hst : ST n t R) {s : WS} (hs : OKW s) (hN : s.1 ≤ 20) {k sm : Nat} (hk4 : k ≤ 10) (hsm : sm < 1024) (hcx : ∀ x, (selF k sm) x = true → x < k → ci (selF k sm) x < s.1) {x2 x3 x4 : Value} : ∀ (r x : Nat) (I : eI) (x7 : Value), x + r = k → I 94 1 = nI k → RWm I s → (∀ y, y < x → I 113 y = (stp (selF k sm) s.2.2 y)) → (∀ y, x ≤ y → y < k → I 113 y = -9) → sec x7 = false → (∀ I2 : eI, (∀ y, y < k → I2 113 y = (stp (selF k sm) s.2.2 y)) → (∀ a, a ≠ 113 → I2 a = I a) → Q n t I2 R) → wp yX8_layWays cX8_layWays 8 none (d + 2) 0 0 (qV Q) 0 0 142 [.ref 94, .int (nI sm), x2, x3, x4, .int (nI (ci (selF k sm) x)), .int (nI x), x7] [] n t I R := by
  intro r
  induction r with
  | zero =>
    intro x I x7 hx hk hR hO hZ hx7 hq
    obtain rfl : x = k := by omega
    refine wp_iload dX8_layWays_142 rfl ?_
    refine wp_aload_n (i := 0) dX8_layWays_144 rfl rfl ?_
    refine wp_getI dX8_layWays_145 fl_X8_143 rfl (st_k hst rfl) ?_
    refine wp_icmp_ge (tgt := 214) dX8_layWays_148 (by decide) (fun zq148 => ?_) (fun zq148 => absurd (by rw [hk]; exact nI_le (Nat.le_refl _) (by omega)) zq148) 
    exact wp_retV dX8_layWays_214 rfl (Nat.le_refl _) (Nat.le_refl _) (hq I hO (fun _ _ => rfl))
  | succ r ih =>
    intro x I x7 hx hk hR hO hZ hx7 hq
    refine wp_iload dX8_layWays_142 rfl ?_
    refine wp_aload_n (i := 0) dX8_layWays_144 rfl rfl ?_
    refine wp_getI dX8_layWays_145 fl_X8_143 rfl (st_k hst rfl) ?_
    refine wp_icmp_ge (tgt := 214) dX8_layWays_148 (by decide) (fun zq148 => absurd (show I 94 1 ≤ nI x from zq148) (by rw [hk]; exact nI_ge (show x < k by omega) (by omega))) (fun zq148 => ?_) 
    refine wp_iload_n (i := 1) dX8_layWays_151 rfl rfl ?_
    refine wp_iload dX8_layWays_152 rfl ?_
    refine wp_S2i dX8_layWays_154 mw_964 mw_965 mi_X8_hasBit (Nat.le_of_ble_eq_true rfl) (Nat.le_refl _) (Nat.le_refl _) (c_hasBit _ (fun b1 => ?_) (fun b0 => ?_)) 
    · have hsx : (selF k sm) x = true := selF_t.mpr ⟨by omega, (bit_nI sm hsm x (by omega)).mp b1⟩
      have hcl := hcx x hsx (by omega)
      refine wp_if_eq1 (tgt := 208) dX8_layWays_157 (by decide) ?_
      refine wp_aload_n (i := 0) dX8_layWays_160 rfl rfl ?_
      refine wp_getR dX8_layWays_161 fl_X8_65 rfl (st_k hst rfl) (st_r hst rfl) ?_
      refine wp_iload dX8_layWays_164 rfl ?_
      refine wp_iconst (v := 0) dX8_layWays_166 (by decide) ?_
      refine wp_ist (j := x) dX8_layWays_167 (st_t hst rfl) rfl (by omega) ?_
      refine wp_aload_n (i := 0) dX8_layWays_168 rfl rfl ?_
      refine wp_getR dX8_layWays_169 fl_X8_62 rfl (st_k hst rfl) (st_r hst rfl) ?_
      refine wp_iload dX8_layWays_172 rfl ?_
      refine wp_ild (j := (ci (selF k sm) x)) dX8_layWays_174 (st_t hst rfl) rfl (by omega) ?_
      refine wp_istore_8_7 dX8_layWays_175 hx7 ?_
      refine lp_l4 d hst hs hN (show x < 10 by omega) 20 (ci (selF k sm) x) 0 _ hcl (by omega) (by exact hR) (by rw [eU_at]; rfl) (fun I2 y7 g1 g2 g3 => ?_)
      rw [Nat.zero_add] at g1
      have e5 : ci (selF k sm) (x + 1) = ci (selF k sm) x + 1 := ci_t hsx
      refine wp_iinc_8_5 (v := nI ((ci (selF k sm) x) + 1)) dX8_layWays_205 (n_add rfl rfl) ?_
      refine wp_iinc_8_6 (v := nI (x + 1)) dX8_layWays_208 (n_add rfl rfl) ?_
      refine wp_goto (tgt := 142) dX8_layWays_211 (by decide) ?_
      have ih2 := ih (x + 1) I2 (.int y7) (by omega) (by rw [g3 94 (by decide)]; exact hk) (by
        refine ⟨?_, fun i hi => ?_⟩
        · rw [g3 94 (by decide)]; exact hR.1
        · rw [g3 111 (by decide), g3 112 (by decide)]; exact hR.2 i hi) (fun y hy => by
        by_cases e : y = x
        · subst e; rw [g1]; exact (if_pos hsx).symm
        · rw [g2 y e, eU_c e]; exact hO y (by omega)) (fun y h1 h2 => by rw [g2 y (by omega), eU_c (by omega)]; exact hZ y (by omega) h2) rfl (fun I3 h1 h2 => hq I3 h1 (fun a ha => (h2 a ha).trans ((g3 a ha).trans (eU_ne ha))))
      rw [e5] at ih2
      exact ih2
    · have hns : ¬ (selF k sm) x = true := fun g => b0 ((bit_nI sm hsm x (by omega)).mpr (selF_t.mp g).2)
      refine wp_if_eq0 (tgt := 208) dX8_layWays_157 (by decide) ?_
      refine wp_iinc_8_6 (v := nI (x + 1)) dX8_layWays_208 (n_add rfl rfl) ?_
      refine wp_goto (tgt := 142) dX8_layWays_211 (by decide) ?_
      have ih2 := ih (x + 1) I x7 (by omega) hk hR (fun y hy => by
        by_cases e : y = x
        · subst e; rw [hZ y (Nat.le_refl _) (by omega)]; exact (if_neg hns).symm
        · exact hO y (by omega)) (fun y h1 h2 => hZ y (by omega) h2) hx7 (fun I3 h1 h2 => hq I3 h1 h2)
      rw [ci_f hns] at ih2
      exact ih2

theorem c_layWays (d : Nat) {n : Nat} {t : eT} {I : eI} {R : eR} {Q : Nat → eT → eI → eR → Prop} (hst : ST n t R) {k sm h : Nat} (hk4 : k ≤ 10) (hsm : sm < 1024) (hh2 : 2 ≤ h) (hh9 : h ≤ 9) {wv : Nat → Nat} (hwb : ∀ y, y < k → wv y ≤ 999) (hN1 : 1 ≤ ci (selF k sm) k) (hkM : I 94 1 = nI k) (hW : ∀ y, y < k → I 96 y = nI (wv y)) (hq : ∀ I2 : eI, (∀ y, y < k → I2 113 y = stp (selF k sm) (bld (selF k sm) wv k h).2.2 y) → FrY I I2 → Q n t I2 R) : MC yX8_layWays cX8_layWays 8 none (d + 2) 0 0 [.ref 94, .int (nI sm), .int (nI h)] n t I R (qV Q) := by
  refine mc_intro (L0 := [.ref 94, .int (nI sm), .int (nI h), vU, vU, vU, vU, vU]) (by decide) rfl (Nat.le_of_ble_eq_true rfl) ?_
  refine wp_aload_n (i := 0) dX8_layWays_0 rfl rfl ?_
  refine wp_iconst (v := 0) dX8_layWays_1 (by decide) ?_
  refine wp_putI dX8_layWays_2 fl_X8_249 rfl (Or.inl rfl) (st_k hst rfl) ?_
  refine wp_iconst (v := 0) dX8_layWays_5 (by decide) ?_
  refine wp_istore_8_3 dX8_layWays_6 (by first | rfl | assumption) ?_
  refine lp_l1 _ hst hk4 hsm hh2 hh9 hwb k 0 _ (by omega) (by exact hkM) (by exact hW) ⟨rfl, fun i hi => absurd hi (Nat.not_lt_zero i)⟩ (fun y hy => absurd hy (Nat.not_lt_zero y)) (fun I2 hR hO hf => ?_)
  have hn : I2 94 22 = nI (ci (selF k sm) k) := hR.1
  have hcl := ci_le (selF k sm) k
  have a0 := s0_ok (sel := (selF k sm)) hk4 hwb
  have f0 := fst_ok (N := ci (selF k sm) k) (h := h) hN1 hh2
  have j0 := joinA_ok (h := fst1 (ci (selF k sm) k) h) a0.1 (by rw [a0.2]; exact f0.2.1)
  have r0 := rst_b hN1 (show ci (selF k sm) k ≤ 10 by omega) hh2
  have b0 := bld_ok (sel := (selF k sm)) hk4 hwb hN1 hh2
  have hcx : ∀ x, (selF k sm) x = true → x < k → ci (selF k sm) x < (bld (selF k sm) wv k h).1 := fun x hx hxk => by
    have g1 := ci_mono (selF k sm) (a := x + 1) (b := k) (by omega)
    rw [ci_t hx] at g1
    rw [b0.2.1]
    omega
  have hf0 : FrY I I2 := FrY.tr ⟨fun a a1 a2 a3 a4 => eU_ne a1, fun f hff => eU_c hff⟩ hf
  refine wp_aload_n (i := 0) dX8_layWays_73 rfl rfl ?_
  refine wp_getI dX8_layWays_74 fl_X8_249 rfl (st_k hst rfl) ?_
  refine wp_topI (v2 := nI (ci (selF k sm) k)) hn ?_
  refine wp_istore_8_3 dX8_layWays_77 (by first | rfl | assumption) ?_
  refine wp_iload_n (i := 3) dX8_layWays_78 rfl rfl ?_
  refine wp_istore_8_4 dX8_layWays_79 (by first | rfl | assumption) ?_
  refine wp_iload_n (i := 3) dX8_layWays_81 rfl rfl ?_
  refine wp_iconst (v := 1) dX8_layWays_82 (by decide) ?_
  refine wp_icmp_ne (tgt := 91) dX8_layWays_83 (by decide) (fun zq83 => ?_) (fun zq83 => ?_) 
  · have h2N : 2 ≤ ci (selF k sm) k := by
      have : ci (selF k sm) k ≠ 1 := fun g => zq83 (by rw [g]; rfl)
      omega
    have e1 : fst1 (ci (selF k sm) k) h = 2 + (ci (selF k sm) k - 2) % (h - 1) := if_neg (by omega)
    refine wp_iload dX8_layWays_91 rfl ?_
    refine wp_iconst (v := 1) dX8_layWays_93 (by decide) ?_
    refine wp_icmp_le (tgt := 136) dX8_layWays_94 (by decide) (fun zq94 => absurd zq94 (nI_ge (a := 1) h2N (by omega))) (fun zq94 => ?_) 
    refine wp_iload dX8_layWays_97 rfl ?_
    refine wp_iload_n (i := 3) dX8_layWays_99 rfl rfl ?_
    refine wp_icmp_ne (tgt := 115) dX8_layWays_100 (by decide) (fun zq100 => absurd rfl zq100) (fun zq100 => ?_) 
    refine wp_iconst (v := 2) dX8_layWays_103 (by decide) ?_
    refine wp_iload_n (i := 3) dX8_layWays_104 rfl rfl ?_
    refine wp_iconst (v := 2) dX8_layWays_105 (by decide) ?_
    refine wp_isub dX8_layWays_106 ?_
    refine wp_topI (v2 := nI (ci (selF k sm) k - 2)) (pk_sub (b := 2) h2N) ?_
    refine wp_iload_n (i := 2) dX8_layWays_107 rfl rfl ?_
    refine wp_iconst (v := 1) dX8_layWays_108 (by decide) ?_
    refine wp_isub dX8_layWays_109 ?_
    refine wp_topI (v2 := nI (h - 1)) (pk_sub (b := 1) (show 1 ≤ h by omega)) ?_
    refine wp_irem dX8_layWays_110 (nI_ne0 (by omega) (by omega)) ?_
    refine wp_topI (v2 := nI ((ci (selF k sm) k - 2) % (h - 1))) (nI_mod (by omega) (by omega) (by omega)) ?_
    refine wp_iadd dX8_layWays_111 ?_
    refine wp_topI (v2 := nI (fst1 (ci (selF k sm) k) h)) (by rw [e1]; exact nI_add 2 _) ?_
    refine wp_goto (tgt := 116) dX8_layWays_112 (by decide) ?_
    refine wp_istore_8_5 dX8_layWays_116 (by first | rfl | assumption) ?_
    refine wp_aload_n (i := 0) dX8_layWays_118 rfl rfl ?_
    refine wp_iload dX8_layWays_119 rfl ?_
    refine wp_V1v dX8_layWays_121 mw_1049 mw_1051 ms_45 mi_X8_join (Nat.le_of_ble_eq_true rfl) (Nat.le_refl _) (Nat.le_refl _) (st_k hst rfl) (by decide) rfl (c_join _ hst a0.1 (show ci (selF k sm) k < 20 by omega) (hh := fst1 (ci (selF k sm) k) h) (by rw [a0.2]; exact f0.2.1) (by omega) hR (fun I3 hR3 hf3 => ?_)) 
    refine wp_iload dX8_layWays_124 rfl ?_
    refine wp_iload dX8_layWays_126 rfl ?_
    refine wp_iconst (v := 1) dX8_layWays_128 (by decide) ?_
    refine wp_isub dX8_layWays_129 ?_
    refine wp_topI (v2 := nI (fst1 (ci (selF k sm) k) h - 1)) (pk_sub (b := 1) f0.1) ?_
    refine wp_isub dX8_layWays_130 ?_
    refine wp_topI (v2 := nI (opn (joinA (fst1 (ci (selF k sm) k) h) (s0A (selF k sm) wv k)))) (by rw [pk_sub (by omega)]; exact congrArg nI (by omega)) ?_
    refine wp_istore_8_4 dX8_layWays_131 (by first | rfl | assumption) ?_
    refine wp_goto (tgt := 91) dX8_layWays_133 (by decide) ?_
    refine lp_l2 _ hst hh2 hh9 (show ci (selF k sm) k ≤ 10 by omega) (rst (ci (selF k sm) k) h) I3 (joinA (fst1 (ci (selF k sm) k) h) (s0A (selF k sm) wv k)) _ j0.1 (by omega) (by show ci (selF k sm) k + 1 + rst (ci (selF k sm) k) h ≤ 20; omega) (by omega) hR3 rfl (fun I4 z4 z5 hz5 hR4 hf4 => ?_)
    refine wp_iconst (v := 0) dX8_layWays_136 (by decide) ?_
    refine wp_istore_8_5 dX8_layWays_137 (by first | rfl | assumption) ?_
    refine wp_iconst (v := 0) dX8_layWays_139 (by decide) ?_
    refine wp_istore_8_6 dX8_layWays_140 (by first | rfl | assumption) ?_
    exact lp_l3 _ hst b0.1 b0.2.2 hk4 hsm hcx k 0 I4 _ (by omega) (by rw [hf4.2 1 (by decide), hf3.2 1 (by decide), hf0.2 1 (by decide)]; exact hkM) hR4 (fun y hy => absurd hy (Nat.not_lt_zero y)) (fun y _ hy => by rw [hf4.1 113 (by decide) (by decide) (by decide), hf3.1 113 (by decide) (by decide) (by decide)]; exact hO y hy) rfl (fun I5 g1 g2 => hq I5 g1 (FrY.tr (FrY.tr (FrY.tr hf0 (FrY.of hf3)) (FrY.of hf4)) ⟨fun a a1 a2 a3 a4 => g2 a a4, fun f hff => by rw [g2 94 (by decide)]⟩))
  · have hN9 : ci (selF k sm) k = 1 := (nI_eq (by omega) (by decide)).mp zq83
    have e1 : fst1 (ci (selF k sm) k) h = 1 := if_pos (by omega)
    have e2 : rst (ci (selF k sm) k) h = 0 := by unfold rst; rw [e1, hN9, Nat.sub_self, Nat.zero_div]
    refine wp_aload_n (i := 0) dX8_layWays_86 rfl rfl ?_
    refine wp_iconst (v := 1) dX8_layWays_87 (by decide) ?_
    refine wp_V1v dX8_layWays_88 mw_1049 mw_1051 ms_45 mi_X8_join (Nat.le_of_ble_eq_true rfl) (Nat.le_refl _) (Nat.le_refl _) (st_k hst rfl) (by decide) rfl (c_join _ hst a0.1 (show ci (selF k sm) k < 20 by omega) (hh := 1) (by rw [a0.2]; omega) (by decide) hR (fun I3 hR3 hf3 => ?_)) 
    refine wp_iload dX8_layWays_91 rfl ?_
    refine wp_iconst (v := 1) dX8_layWays_93 (by decide) ?_
    refine wp_icmp_le (tgt := 136) dX8_layWays_94 (by decide) (fun zq94 => ?_) (fun zq94 => absurd (by rw [hN9]; decide) zq94) 
    refine wp_iconst (v := 0) dX8_layWays_136 (by decide) ?_
    refine wp_istore_8_5 dX8_layWays_137 (by first | rfl | assumption) ?_
    refine wp_iconst (v := 0) dX8_layWays_139 (by decide) ?_
    refine wp_istore_8_6 dX8_layWays_140 (by first | rfl | assumption) ?_
    have hR9 : RWm I3 (bld (selF k sm) wv k h) := by
      unfold bld
      rw [e2, e1]
      exact hR3
    exact lp_l3 _ hst b0.1 b0.2.2 hk4 hsm hcx k 0 I3 _ (by omega) (by rw [hf3.2 1 (by decide), hf0.2 1 (by decide)]; exact hkM) hR9 (fun y hy => absurd hy (Nat.not_lt_zero y)) (fun y _ hy => by rw [hf3.1 113 (by decide) (by decide) (by decide)]; exact hO y hy) rfl (fun I5 g1 g2 => hq I5 g1 (FrY.tr (FrY.tr hf0 (FrY.of hf3)) ⟨fun a a1 a2 a3 a4 => g2 a a4, fun f hff => by rw [g2 94 (by decide)]⟩))

