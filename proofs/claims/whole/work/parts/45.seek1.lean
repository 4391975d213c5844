/-! which parts are chosen -/
def chv (sel : Nat → Bool) : Nat → Nat := wi sel (fun y => y) 10
theorem wi_ext {sel : Nat → Bool} {wv : Nat → Nat} {x i : Nat} (hi : i < ci sel x) : ∀ r, wi sel wv (x + r) i = wi sel wv x i
  | 0 => rfl
  | r + 1 => by
    show wi sel wv (x + r + 1) i = _
    have hm := ci_mono sel (a := x) (b := x + r) (by omega)
    by_cases g : sel (x + r) = true
    · rw [wi_t g, eG_ne (by omega), wi_ext hi r]
    · rw [wi_f g, wi_ext hi r]
theorem ch_s {sel : Nat → Bool} : ∀ x i, i < ci sel x → wi sel (fun y => y) x i < x ∧ sel (wi sel (fun y => y) x i) = true ∧ ci sel (wi sel (fun y => y) x i) = i
  | 0, i, h => absurd h (Nat.not_lt_zero i)
  | x + 1, i, h => by
    by_cases g : sel x = true
    · rw [ci_t g] at h
      rw [wi_t g]
      by_cases e : i = ci sel x
      · subst e
        rw [eG_eq]
        exact ⟨by omega, g, rfl⟩
      · rw [eG_ne e]
        have := ch_s (sel := sel) x i (by omega)
        exact ⟨by omega, this.2⟩
    · rw [ci_f g] at h
      rw [wi_f g]
      have := ch_s (sel := sel) x i h
      exact ⟨by omega, this.2⟩
theorem ch_i {sel : Nat → Bool} : ∀ x a, a < x → sel a = true → wi sel (fun y => y) x (ci sel a) = a ∧ ci sel a < ci sel x
  | 0, a, h, _ => absurd h (Nat.not_lt_zero a)
  | x + 1, a, h, hs => by
    by_cases e : a = x
    · subst e
      rw [wi_t hs, ci_t hs, eG_eq]
      exact ⟨rfl, by omega⟩
    · have ih := ch_i x a (by omega) hs
      by_cases g : sel x = true
      · rw [wi_t g, ci_t g, eG_ne (by omega)]
        exact ⟨ih.1, by omega⟩
      · rw [wi_f g, ci_f g]
        exact ih
theorem sq_r {n : Nat} {t : eT} {R : eR} (h : ST n t R) {j : Nat} (hj : j < 5) : R 40 j = some (41 + j) := by
  rcases (show j = 0 ∨ j = 1 ∨ j = 2 ∨ j = 3 ∨ j = 4 by omega) with rfl | rfl | rfl | rfl | rfl <;> exact st_r h rfl
theorem sq_t {n : Nat} {t : eT} {R : eR} (h : ST n t R) {j : Nat} (hj : j < 5) : t (41 + j) = (9, 5) := by
  rcases (show j = 0 ∨ j = 1 ∨ j = 2 ∨ j = 3 ∨ j = 4 by omega) with rfl | rfl | rfl | rfl | rfl <;> exact st_t h rfl
def plF (fv : Nat → Nat → Nat) (ch : Nat → Nat) : Nat → Nat → Nat := fun a b => fv (ch a) (ch b) + fv (ch b) (ch a)
theorem plF_s (fv : Nat → Nat → Nat) (ch : Nat → Nat) : ∀ a b, plF fv ch a b = plF fv ch b a := fun a b => Nat.add_comm _ _
/-- the row of what is due, by how many are laid -/
def dR (k : Nat) : Nat := if k = 0 then 132 else 127 + k
theorem dR_c (k : Nat) : (k = 0 ∧ dR k = 132) ∨ (0 < k ∧ dR k = 127 + k) := by
  unfold dR
  by_cases h : k = 0
  · exact Or.inl ⟨h, if_pos h⟩
  · exact Or.inr ⟨by omega, if_neg h⟩
theorem sd_r {n : Nat} {t : eT} {R : eR} (h : ST n t R) {j : Nat} (hj : j < 5) : R 47 j = some (dR j) := by
  rcases (show j = 0 ∨ j = 1 ∨ j = 2 ∨ j = 3 ∨ j = 4 by omega) with rfl | rfl | rfl | rfl | rfl <;> exact st_r h rfl
theorem sd_t {n : Nat} {t : eT} {R : eR} (h : ST n t R) {j : Nat} (hj : j < 5) : t (dR j) = (9, 60) := by
  rcases (show j = 0 ∨ j = 1 ∨ j = 2 ∨ j = 3 ∨ j = 4 by omega) with rfl | rfl | rfl | rfl | rfl <;> exact st_t h rfl
theorem sw_b : ∀ j, j < 12 → R0 148 j = some (133 + j) ∧ T0 (133 + j) = some (9, 12) := by decide +kernel
theorem sw_r {n : Nat} {t : eT} {R : eR} (h : ST n t R) {j : Nat} (hj : j < 12) : R 148 j = some (133 + j) := st_r h (sw_b j hj).1
theorem sw_t {n : Nat} {t : eT} {R : eR} (h : ST n t R) {j : Nat} (hj : j < 12) : t (133 + j) = (9, 12) := st_t h (sw_b j hj).2
theorem sn_b : ∀ j, j < 3 → R0 149 j = some (145 + j) ∧ T0 (145 + j) = some (9, 12) := by decide +kernel
theorem sn_r {n : Nat} {t : eT} {R : eR} (h : ST n t R) {j : Nat} (hj : j < 3) : R 149 j = some (145 + j) := st_r h (sn_b j hj).1
theorem sn_t {n : Nat} {t : eT} {R : eR} (h : ST n t R) {j : Nat} (hj : j < 3) : t (145 + j) = (9, 12) := st_t h (sn_b j hj).2
/-- what its constructor has laid, and nobody changes -/
def SK (I : eI) : Prop := (∀ x, x < 60 → I 132 x = 0) ∧ (∀ p q, p < 12 → q < 12 → I (133 + p) q = nI (wyN p q)) ∧ ∀ w p q, w < 3 → p < 12 → q < 12 → bt (I (145 + w) p) q = decide (apN p q ≤ w)
theorem SK.fr {I I2 : eI} (h : SK I) (hf : ∀ a, 132 ≤ a → a < 148 → I2 a = I a) : SK I2 := by
  refine ⟨fun x hx => ?_, fun p q hp hq => ?_, fun w p q hw hp hq => ?_⟩
  · rw [hf 132 (by decide) (by decide)]; exact h.1 x hx
  · rw [hf (133 + p) (by omega) (by omega)]; exact h.2.1 p q hp hq
  · rw [hf (145 + w) (by omega) (by omega)]; exact h.2.2 w p q hw hp hq
/-- what the seeker knows -/
def SC (I : eI) (c : Nat) (ch : Nat → Nat) (pull : Nat → Nat → Nat) (w : Nat) : Prop := I 35 8 = nI c ∧ I 35 9 = nI w ∧ (∀ i, i < c → I 38 i = nI (ch i)) ∧ (∀ k j, k < j → j < c → I (41 + k) j = nI (pull k j)) ∧ (∀ k, k ≤ c → I 46 k = nI (lamN pull w (c - k) k)) ∧ SK I
/-- what it has found -/
def BC (I : eI) (c : Nat) (ch : Nat → Nat) (sel : Nat → Bool) (b : BS) : Prop := match b with
  | none => I 36 0 = 0 ∧ I 35 10 = 1048576
  | some q => I 35 10 = nI q.1 ∧ q.1 ≤ 24750 ∧ (∀ a, a < 10 → bt (I 36 0) a = sel a) ∧ ∀ i, i < c → I 37 (ch i) = nI (q.2 i) ∧ q.2 i < 12
theorem BC.fr {I I2 : eI} {c : Nat} {ch : Nat → Nat} {sel : Nat → Bool} {b : BS} (h : BC I c ch sel b) (h1 : I2 35 10 = I 35 10) (h2 : I2 36 = I 36) (h3 : I2 37 = I 37) : BC I2 c ch sel b := by
  cases b with
  | none => exact ⟨by rw [h2]; exact h.1, by rw [h1]; exact h.2⟩
  | some q => exact ⟨by rw [h1]; exact h.1, h.2.1, by rw [h2]; exact h.2.2.1, by rw [h3]; exact h.2.2.2⟩
theorem BC.pr {I : eI} {c : Nat} {ch : Nat → Nat} {sel : Nat → Bool} {b : BS} (h : BC I c ch sel b) : I 35 10 = nI (bpr b) ∧ bpr b < 2 ^ 31 := by
  cases b with
  | none => exact ⟨h.2, by decide⟩
  | some q => exact ⟨h.1, by have := h.2.1; show q.1 < 2 ^ 31; omega⟩
/-- what is due of those that are not laid yet -/
def DU (I : eI) (c k : Nat) (pull : Nat → Nat → Nat) (pos : Nat → Nat) (fr : Nat → Bool) : Prop := ∀ l, k ≤ l → l < c → ∀ q, q < 12 → fr q = true → I (dR k) (l * 12 + q) = nI (inc pull l pos q k)
def FrL (I I2 : eI) : Prop := (∀ a, a ≠ 35 → a ≠ 36 → a ≠ 37 → a ≠ 39 → (a < 128 ∨ 131 < a) → I2 a = I a) ∧ ∀ f, f ≠ 10 → I2 35 f = I 35 f
theorem FrL.rf (I : eI) : FrL I I := ⟨fun _ _ _ _ _ _ => rfl, fun _ _ => rfl⟩
theorem FrL.tr {I I2 I3 : eI} (h : FrL I I2) (h2 : FrL I2 I3) : FrL I I3 := ⟨fun a a1 a2 a3 a4 a5 => (h2.1 a a1 a2 a3 a4 a5).trans (h.1 a a1 a2 a3 a4 a5), fun f hf => (h2.2 f hf).trans (h.2 f hf)⟩
theorem SC.fr {I I2 : eI} {c : Nat} {ch : Nat → Nat} {pull : Nat → Nat → Nat} {w : Nat} (h : SC I c ch pull w) (hc : c ≤ 5) (hf : FrL I I2) : SC I2 c ch pull w := by
  refine ⟨?_, ?_, fun i hi => ?_, fun k j hj hk => ?_, fun k hk => ?_, ?_⟩
  · rw [hf.2 8 (by decide)]; exact h.1
  · rw [hf.2 9 (by decide)]; exact h.2.1
  · rw [hf.1 38 (by decide) (by decide) (by decide) (by decide) (by decide)]; exact h.2.2.1 i hi
  · rw [hf.1 (41 + k) (by omega) (by omega) (by omega) (by omega) (by omega)]; exact h.2.2.2.1 k j hj hk
  · rw [hf.1 46 (by decide) (by decide) (by decide) (by decide) (by decide)]; exact h.2.2.2.2.1 k hk
  · exact h.2.2.2.2.2.fr (fun a h1 h2 => hf.1 a (by omega) (by omega) (by omega) (by omega) (by omega))
theorem lp_choose (d : Nat) {n : Nat} {t : eT} {R : eR} {Q : Nat → eT → eI → eR → Prop} (hst : ST n t R) {sv : Int32} {sel : Nat → Bool} (hsel : ∀ x, x < 10 → (bt sv x = sel x)) (hc5 : ci sel 10 ≤ 5) : ∀ (r x : Nat) (I : eI), x + r = 10 → I 35 8 = nI (ci sel x) → (∀ i, i < ci sel x → I 38 i = nI (wi sel (fun y => y) x i)) → (∀ I2 : eI, I2 35 8 = nI (ci sel 10) → (∀ i, i < ci sel 10 → I2 38 i = nI (wi sel (fun y => y) 10 i)) → (∀ a, a ≠ 35 → a ≠ 38 → I2 a = I a) → (∀ f, f ≠ 8 → I2 35 f = I 35 f) → Q n t I2 R) → wp yX5_choose cX5_choose 3 none d 0 0 (qV Q) 0 0 7 [.ref 35, .int sv, .int (nI x)] [] n t I R := by
  intro r
  induction r with
  | zero =>
    intro x I hx h1 h2 hq
    obtain rfl : x = 10 := by omega
    refine wp_iload_n (i := 2) dX5_choose_7 rfl rfl ?_
    refine wp_bipush (v := 10) dX5_choose_8 (by decide) ?_
    refine wp_icmp_ge (tgt := 56) dX5_choose_10 (by decide) (fun zq10 => ?_) (fun zq10 => absurd (nI_le (show 10 ≤ 10 by decide) (by decide)) zq10) 
    exact wp_retV dX5_choose_56 rfl (Nat.le_refl _) (Nat.le_refl _) (hq I h1 h2 (fun _ _ _ => rfl) (fun _ _ => rfl))
  | succ r ih =>
    intro x I hx h1 h2 hq
    refine wp_iload_n (i := 2) dX5_choose_7 rfl rfl ?_
    refine wp_bipush (v := 10) dX5_choose_8 (by decide) ?_
    refine wp_icmp_ge (tgt := 56) dX5_choose_10 (by decide) (fun zq10 => absurd zq10 (nI_ge (show x < 10 by omega) (by decide))) (fun zq10 => ?_) 
    refine wp_aload_n (i := 0) dX5_choose_13 rfl rfl ?_
    refine wp_getI dX5_choose_14 fl_X5_42 rfl (st_k hst rfl) ?_
    refine wp_iconst (v := 5) dX5_choose_17 (by decide) ?_
    refine wp_icmp_ge (tgt := 56) dX5_choose_18 (by decide) (fun zq18 => ?_) (fun zq18 => ?_) 
    · have h5 : 5 ≤ ci sel x := Nat.le_of_not_lt (fun g => absurd (show nI 5 ≤ I 35 8 from zq18) (by rw [h1]; exact nI_ge g (by decide)))
      have hm := ci_mono sel (a := x) (b := 10) (by omega)
      have e5 : ci sel x = ci sel 10 := by omega
      exact wp_retV dX5_choose_56 rfl (Nat.le_refl _) (Nat.le_refl _) (hq I (by rw [← e5]; exact h1) (fun i hi => by have e := wi_ext (wv := fun y => y) (show i < ci sel x by omega) (10 - x); rw [show x + (10 - x) = 10 by omega] at e; rw [e]; exact h2 i (by omega)) (fun _ _ _ => rfl) (fun _ _ => rfl))
    · have hl5 : ci sel x < 5 := Nat.lt_of_not_le (fun g => zq18 (by show nI 5 ≤ I 35 8; rw [h1]; exact nI_le g (by have := ci_le sel x; omega)))
      refine wp_iload_n (i := 1) dX5_choose_21 rfl rfl ?_
      refine wp_iload_n (i := 2) dX5_choose_22 rfl rfl ?_
      refine wp_ishr dX5_choose_23 ?_
      refine wp_iconst (v := 1) dX5_choose_24 (by decide) ?_
      refine wp_iand dX5_choose_25 ?_
      refine wp_iconst (v := 1) dX5_choose_26 (by decide) ?_
      refine wp_icmp_ne (tgt := 50) dX5_choose_27 (by decide) (fun zq27 => ?_) (fun zq27 => ?_) 
      · refine wp_iinc_3_2 (v := nI (x + 1)) dX5_choose_50 (n_add rfl rfl) ?_
        refine wp_goto (tgt := 7) dX5_choose_53 (by decide) ?_
        have hs : ¬ sel x = true := fun g => zq27 ((bt_iff sv (by omega)).mpr (by rw [hsel x (by omega)]; exact g))
        exact ih (x + 1) I (by omega) (by rw [ci_f hs]; exact h1) (fun i hi => by rw [wi_f hs]; rw [ci_f hs] at hi; exact h2 i hi) hq
      · have hs : sel x = true := by rw [← hsel x (by omega)]; exact (bt_iff sv (by omega)).mp zq27
        refine wp_aload_n (i := 0) dX5_choose_30 rfl rfl ?_
        refine wp_getR dX5_choose_31 fl_X5_18 rfl (st_k hst rfl) (st_r hst rfl) ?_
        refine wp_aload_n (i := 0) dX5_choose_34 rfl rfl ?_
        refine wp_getI dX5_choose_35 fl_X5_42 rfl (st_k hst rfl) ?_
        refine wp_iload_n (i := 2) dX5_choose_38 rfl rfl ?_
        refine wp_ist (j := (ci sel x)) dX5_choose_39 (st_t hst rfl) h1 (by omega) ?_
        refine wp_aload_n (i := 0) dX5_choose_40 rfl rfl ?_
        refine wp_dup dX5_choose_41 rfl ?_
        refine wp_getI dX5_choose_42 fl_X5_42 rfl (st_k hst rfl) ?_
        refine wp_iconst (v := 1) dX5_choose_45 (by decide) ?_
        refine wp_iadd dX5_choose_46 ?_
        refine wp_topI (v2 := nI ((ci sel x) + 1)) (n_add h1 rfl) ?_
        refine wp_putI dX5_choose_47 fl_X5_42 rfl (Or.inl rfl) (st_k hst rfl) ?_
        refine wp_iinc_3_2 (v := nI (x + 1)) dX5_choose_50 (n_add rfl rfl) ?_
        refine wp_goto (tgt := 7) dX5_choose_53 (by decide) ?_
        refine ih (x + 1) (eU (eU I 38 (ci sel x) (nI x)) 35 8 (nI (ci sel x + 1))) (by omega) (by rw [ci_t hs, eU_at]) (fun i hi => ?_) (fun I2 g1 g2 g3 g4 => hq I2 g1 g2 (fun a a1 a2 => (g3 a a1 a2).trans (by rw [eU_ne a1, eU_ne a2])) (fun f hf => (g4 f hf).trans (eU_c hf)))
        rw [ci_t hs] at hi
        rw [wi_t hs]
        show (eU I 38 (ci sel x) (nI x)) 38 i = _
        by_cases e : i = ci sel x
        · subst e; rw [eU_at, eG_eq]
        · rw [eU_c e, eG_ne e]; exact h2 i (by omega)

theorem c_choose (d : Nat) {n : Nat} {t : eT} {I : eI} {R : eR} {Q : Nat → eT → eI → eR → Prop} (hst : ST n t R) {sv : Int32} {sel : Nat → Bool} (hsel : ∀ x, x < 10 → (bt sv x = sel x)) (hc5 : ci sel 10 ≤ 5) (hq : ∀ I2 : eI, I2 35 8 = nI (ci sel 10) → (∀ i, i < ci sel 10 → I2 38 i = nI (wi sel (fun y => y) 10 i)) → (∀ a, a ≠ 35 → a ≠ 38 → I2 a = I a) → (∀ f, f ≠ 8 → I2 35 f = I 35 f) → Q n t I2 R) : MC yX5_choose cX5_choose 3 none d 0 0 [.ref 35, .int sv] n t I R (qV Q) := by
  refine mc_intro (L0 := [.ref 35, .int sv, vU]) (by decide) rfl (Nat.le_of_ble_eq_true rfl) ?_
  refine wp_aload_n (i := 0) dX5_choose_0 rfl rfl ?_
  refine wp_iconst (v := 0) dX5_choose_1 (by decide) ?_
  refine wp_putI dX5_choose_2 fl_X5_42 rfl (Or.inl rfl) (st_k hst rfl) ?_
  refine wp_iconst (v := 0) dX5_choose_5 (by decide) ?_
  refine wp_istore_3_2 dX5_choose_6 rfl ?_
  exact lp_choose d hst hsel hc5 10 0 _ rfl rfl (fun i hi => absurd hi (Nat.not_lt_zero i)) (fun I2 g1 g2 g3 g4 => hq I2 g1 g2 (fun a a1 a2 => (g3 a a1 a2).trans (eU_ne a1)) (fun f hf => (g4 f hf).trans (eU_c hf)))

theorem lp_wp1 (d : Nat) {n : Nat} {t : eT} {R : eR} {Q : eQt} (hst : ST n t R) {c : Nat} (hc : c ≤ 5) {k : Nat} (hk4 : k ≤ 10) {ch : Nat → Nat} (hch : ∀ i, i < c → ch i < k) {fv : Nat → Nat → Nat} (hfb : ∀ x y, fv x y ≤ 99) {w : Nat} (hw : w ≤ 2) {m : Nat} (hm : m < c) : ∀ (r j sz : Nat) (I : eI), j + r = c → m < j → (∀ x y, x < k → y < k → I (9 + x) y = nI (fv x y)) → (∀ i, i < c → I 38 i = nI (ch i)) → I 35 8 = nI c → (∀ j2, m < j2 → j2 < j → I (41 + m) j2 = nI ((plF fv ch) m j2)) → (∀ I2 : eI, (∀ j2, m < j2 → j2 < c → I2 (41 + m) j2 = nI ((plF fv ch) m j2)) → (∀ a, a ≠ 41 + m → I2 a = I a) → wp yX5_weighPairs cX5_weighPairs 5 none (d + 1) 0 0 Q 0 0 81 [.ref 35, .ref 5, .int (nI m), .int (nI (sz + smN ((plF fv ch) m) r j)), .int (nI c)] [] n t I2 R) → wp yX5_weighPairs cX5_weighPairs 5 none (d + 1) 0 0 Q 0 0 28 [.ref 35, .ref 5, .int (nI m), .int (nI sz), .int (nI j)] [] n t I R := by
  intro r
  induction r with
  | zero =>
    intro j sz I hjr hmj hF hC hcn hj hq
    obtain rfl : j = c := by omega
    refine wp_iload dX5_weighPairs_28 rfl ?_
    refine wp_aload_n (i := 0) dX5_weighPairs_30 rfl rfl ?_
    refine wp_getI dX5_weighPairs_31 fl_X5_42 rfl (st_k hst rfl) ?_
    refine wp_icmp_ge (tgt := 81) dX5_weighPairs_34 (by decide) (fun zq34 => ?_) (fun zq34 => absurd (show I 35 8 ≤ _ by rw [hcn]; exact nI_le (by omega) (by omega)) zq34) 
    exact hq I hj (fun _ _ => rfl)
  | succ r ih =>
    intro j sz I hjr hmj hF hC hcn hj hq
    refine wp_iload dX5_weighPairs_28 rfl ?_
    refine wp_aload_n (i := 0) dX5_weighPairs_30 rfl rfl ?_
    refine wp_getI dX5_weighPairs_31 fl_X5_42 rfl (st_k hst rfl) ?_
    refine wp_icmp_ge (tgt := 81) dX5_weighPairs_34 (by decide) (fun zq34 => absurd (show I 35 8 ≤ nI j from zq34) (by rw [hcn]; exact nI_ge (show j < c by omega) (by omega))) (fun zq34 => ?_) 
    refine wp_aload_n (i := 0) dX5_weighPairs_37 rfl rfl ?_
    refine wp_getR dX5_weighPairs_38 fl_X5_27 rfl (st_k hst rfl) (st_r hst rfl) ?_
    refine wp_iload_n (i := 2) dX5_weighPairs_41 rfl rfl ?_
    refine wp_rld13 (j := m) dX5_weighPairs_42 (st_t hst rfl) rfl (by omega) (sq_r hst (by omega)) ?_
    refine wp_iload dX5_weighPairs_43 rfl ?_
    refine wp_aload_n (i := 1) dX5_weighPairs_45 rfl rfl ?_
    refine wp_aload_n (i := 0) dX5_weighPairs_46 rfl rfl ?_
    refine wp_getR dX5_weighPairs_47 fl_X5_18 rfl (st_k hst rfl) (st_r hst rfl) ?_
    refine wp_iload_n (i := 2) dX5_weighPairs_50 rfl rfl ?_
    refine wp_ild (j := m) dX5_weighPairs_51 (st_t hst rfl) rfl (by omega) ?_
    refine wp_aload_n (i := 0) dX5_weighPairs_52 rfl rfl ?_
    refine wp_getR dX5_weighPairs_53 fl_X5_18 rfl (st_k hst rfl) (st_r hst rfl) ?_
    refine wp_iload dX5_weighPairs_56 rfl ?_
    refine wp_ild (j := j) dX5_weighPairs_58 (st_t hst rfl) rfl (by omega) ?_
    have hcj := hch j (by omega)
    have hcm := hch m (by omega)
    rw [hC j (by omega), hC m (by omega)]
    refine wp_V2i dX5_weighPairs_59 mw_417 mw_418 mw_419 mi_X2_followsBothWays (Nat.le_of_ble_eq_true rfl) (Nat.le_refl _) (Nat.le_refl _) (st_k hst rfl) (by decide) rfl (c_fbw _ hst (show ch m < 10 by omega) (show ch j < 10 by omega) ?_) 
    refine wp_topI (v2 := nI ((plF fv ch) m j)) (by rw [hF (ch m) (ch j) hcm hcj, hF (ch j) (ch m) hcj hcm, nI_add]; rfl) ?_
    refine wp_ist (j := j) dX5_weighPairs_62 (sq_t hst (by omega)) rfl (by omega) ?_
    refine wp_iload_n (i := 3) dX5_weighPairs_63 rfl rfl ?_
    refine wp_aload_n (i := 0) dX5_weighPairs_64 rfl rfl ?_
    refine wp_getR dX5_weighPairs_65 fl_X5_27 rfl (st_k hst rfl) (st_r hst rfl) ?_
    refine wp_iload_n (i := 2) dX5_weighPairs_68 rfl rfl ?_
    refine wp_rld13 (j := m) dX5_weighPairs_69 (st_t hst rfl) rfl (by omega) (sq_r hst (by omega)) ?_
    refine wp_iload dX5_weighPairs_70 rfl ?_
    refine wp_ild (j := j) dX5_weighPairs_72 (sq_t hst (by omega)) rfl (by omega) ?_
    refine wp_iadd dX5_weighPairs_73 ?_
    refine wp_topI (v2 := nI (sz + ((plF fv ch) m j))) (n_add rfl (eU_at _ _ _ _)) ?_
    refine wp_istore_5_3 dX5_weighPairs_74 rfl ?_
    refine wp_iinc_5_4 (v := nI (j + 1)) dX5_weighPairs_75 (n_add rfl rfl) ?_
    refine wp_goto (tgt := 28) dX5_weighPairs_78 (by decide) ?_
    rw [show sz + smN ((plF fv ch) m) (r + 1) j = sz + (plF fv ch) m j + smN ((plF fv ch) m) r (j + 1) from (Nat.add_assoc _ _ _).symm] at hq
    refine ih (j + 1) (sz + (plF fv ch) m j) (eU I (41 + m) j (nI ((plF fv ch) m j))) (by omega) (by omega) (fun x y hx hy => by rw [eU_o (by omega)]; exact hF x y hx hy) (fun i hi => by rw [eU_o (by omega)]; exact hC i hi) (by rw [eU_o (by omega)]; exact hcn) (fun j2 hj1 hj2 => ?_) (fun I2 g1 g2 => hq I2 g1 (fun a ha => (g2 a ha).trans (eU_ne ha)))
    by_cases e : j2 = j
    · subst e; rw [eU_at]
    · rw [eU_c e]; exact hj j2 hj1 (by omega)

theorem lp_wp2 (d : Nat) {n : Nat} {t : eT} {R : eR} {Q : Nat → eT → eI → eR → Prop} (hst : ST n t R) {c : Nat} (hc : c ≤ 5) {k : Nat} (hk4 : k ≤ 10) {ch : Nat → Nat} (hch : ∀ i, i < c → ch i < k) {fv : Nat → Nat → Nat} (hfb : ∀ x y, fv x y ≤ 99) {w : Nat} (hw : w ≤ 2) : ∀ (m : Nat) (I : eI) (x4 x5 : Value), sec x4 = false → sec x5 = false → m ≤ c → (∀ x y, x < k → y < k → I (9 + x) y = nI (fv x y)) → (∀ i, i < c → I 38 i = nI (ch i)) → I 35 8 = nI c → I 35 9 = nI w → (∀ a, m ≤ a → a < c → ∀ j, a < j → j < c → I (41 + a) j = nI ((plF fv ch) a j)) → (∀ a, m ≤ a → a ≤ c → I 46 a = nI (lamN (plF fv ch) w (c - a) a)) → (∀ I2 : eI, (∀ a j, a < j → j < c → I2 (41 + a) j = nI ((plF fv ch) a j)) → (∀ a, a ≤ c → I2 46 a = nI (lamN (plF fv ch) w (c - a) a)) → (∀ a, (a < 41 ∨ 46 < a) → I2 a = I a) → Q n t I2 R) → wp yX5_weighPairs cX5_weighPairs 5 none (d + 1) 0 0 (qV Q) 0 0 17 [.ref 35, .ref 5, .int (nI m - 1), x4, x5] [] n t I R := by
  intro m
  induction m with
  | zero =>
    intro I x4 x5 hx4 hx5 hmc hF hC hcn hwn h1 h2 hq
    refine wp_iload_n (i := 2) dX5_weighPairs_17 rfl rfl ?_
    refine wp_if_lt (tgt := 110) dX5_weighPairs_18 (by decide) (fun zq18 => ?_) (fun zq18 => absurd (by decide) zq18) 
    exact wp_retV dX5_weighPairs_110 rfl (Nat.le_refl _) (Nat.le_refl _) (hq I (fun a j hj ha => h1 a (by omega) (by omega) j hj ha) (fun a ha => h2 a (by omega) ha) (fun _ _ => rfl))
  | succ m ih =>
    intro I x4 x5 hx4 hx5 hmc hF hC hcn hwn h1 h2 hq
    rw [nI_pred]
    refine wp_iload_n (i := 2) dX5_weighPairs_17 rfl rfl ?_
    refine wp_if_lt (tgt := 110) dX5_weighPairs_18 (by decide) (fun zq18 => absurd zq18 (nI_pos (by omega))) (fun zq18 => ?_) 
    refine wp_iconst (v := 0) dX5_weighPairs_21 (by decide) ?_
    refine wp_istore_5_3 dX5_weighPairs_22 (by first | rfl | assumption) ?_
    refine wp_iload_n (i := 2) dX5_weighPairs_23 rfl rfl ?_
    refine wp_iconst (v := 1) dX5_weighPairs_24 (by decide) ?_
    refine wp_iadd dX5_weighPairs_25 ?_
    refine wp_topI (v2 := nI (m + 1)) (n_add rfl rfl) ?_
    refine wp_istore_5_4 dX5_weighPairs_26 (by first | rfl | assumption) ?_
    refine lp_wp1 d hst hc hk4 hch hfb hw (show m < c by omega) (c - (m + 1)) (m + 1) 0 I (by omega) (by omega) hF hC hcn (fun j2 h h2 => by omega) (fun I2 g1 g2 => ?_)
    have h46 : I2 46 (m + 1) = nI (lamN (plF fv ch) w (c - (m + 1)) (m + 1)) := by rw [g2 46 (by omega)]; exact h2 (m + 1) (by omega) (by omega)
    have h35 : I2 35 9 = nI w := by rw [g2 35 (by omega)]; exact hwn
    refine wp_aload_n (i := 0) dX5_weighPairs_81 rfl rfl ?_
    refine wp_getR dX5_weighPairs_82 fl_X5_30 rfl (st_k hst rfl) (st_r hst rfl) ?_
    refine wp_iload_n (i := 2) dX5_weighPairs_85 rfl rfl ?_
    refine wp_aload_n (i := 0) dX5_weighPairs_86 rfl rfl ?_
    refine wp_getR dX5_weighPairs_87 fl_X5_30 rfl (st_k hst rfl) (st_r hst rfl) ?_
    refine wp_iload_n (i := 2) dX5_weighPairs_90 rfl rfl ?_
    refine wp_iconst (v := 1) dX5_weighPairs_91 (by decide) ?_
    refine wp_iadd dX5_weighPairs_92 ?_
    refine wp_ild (j := (m + 1)) dX5_weighPairs_93 (st_t hst rfl) (n_add rfl rfl) (by omega) ?_
    refine wp_iload_n (i := 3) dX5_weighPairs_94 rfl rfl ?_
    refine wp_aload_n (i := 0) dX5_weighPairs_95 rfl rfl ?_
    refine wp_getI dX5_weighPairs_96 fl_X5_46 rfl (st_k hst rfl) ?_
    refine wp_iconst (v := 1) dX5_weighPairs_99 (by decide) ?_
    refine wp_iadd dX5_weighPairs_100 ?_
    refine wp_imul dX5_weighPairs_101 ?_
    refine wp_iadd dX5_weighPairs_102 ?_
    refine wp_topI (v2 := nI (lamN (plF fv ch) w (c - m) m)) (Eq.trans (n_add h46 (n_mul rfl (n_add h35 rfl))) (congrArg nI (show lamN (plF fv ch) w (c - (m + 1)) (m + 1) + (0 + smN ((plF fv ch) m) (c - (m + 1)) (m + 1)) * (w + 1) = lamN (plF fv ch) w (c - m) m by rw [show c - m = c - (m + 1) + 1 by omega, Nat.zero_add]; rfl))) ?_
    refine wp_ist (j := m) dX5_weighPairs_103 (st_t hst rfl) rfl (by omega) ?_
    refine wp_iinc_5_2 (v := (nI m - 1)) dX5_weighPairs_104 (by rw [Int32.sub_eq_add_neg]; rfl) ?_
    refine wp_goto (tgt := 17) dX5_weighPairs_107 (by decide) ?_
    refine ih (eU I2 46 m (nI (lamN (plF fv ch) w (c - m) m))) _ _ rfl rfl (by omega) (fun x y hx hy => by rw [eU_o (by omega), g2 (9 + x) (by omega)]; exact hF x y hx hy) (fun i hi => by rw [eU_o (by omega), g2 38 (by omega)]; exact hC i hi) (by rw [eU_o (by omega), g2 35 (by omega)]; exact hcn) (by rw [eU_o (by omega)]; exact h35) (fun a ha1 ha2 j hj hj2 => ?_) (fun a ha1 ha2 => ?_) (fun I3 q1 q2 q3 => hq I3 q1 q2 (fun a ha => (q3 a ha).trans (by rw [eU_ne (by omega), g2 a (by omega)])))
    · rw [eU_o (by omega)]
      by_cases e : a = m
      · subst e; exact g1 j hj hj2
      · rw [g2 (41 + a) (by omega)]; exact h1 a (by omega) ha2 j hj hj2
    · by_cases e : a = m
      · subst e; rw [eU_at]
      · rw [eU_c e, g2 46 (by omega)]; exact h2 a (by omega) ha2

theorem c_weigh (d : Nat) {n : Nat} {t : eT} {I : eI} {R : eR} {Q : Nat → eT → eI → eR → Prop} (hst : ST n t R) {c : Nat} (hc : c ≤ 5) {k : Nat} (hk4 : k ≤ 10) {ch : Nat → Nat} (hch : ∀ i, i < c → ch i < k) {fv : Nat → Nat → Nat} (hfb : ∀ x y, fv x y ≤ 99) {w : Nat} (hw : w ≤ 2) (hcn : I 35 8 = nI c) (hwn : I 35 9 = nI w) (hF : ∀ x y, x < k → y < k → I (9 + x) y = nI (fv x y)) (hC : ∀ i, i < c → I 38 i = nI (ch i)) (hq : ∀ I2 : eI, (∀ a j, a < j → j < c → I2 (41 + a) j = nI ((plF fv ch) a j)) → (∀ a, a ≤ c → I2 46 a = nI (lamN (plF fv ch) w (c - a) a)) → (∀ a, (a < 41 ∨ 46 < a) → I2 a = I a) → Q n t I2 R) : MC yX5_weighPairs cX5_weighPairs 5 none (d + 1) 0 0 [.ref 35, .ref 5] n t I R (qV Q) := by
  refine mc_intro (L0 := [.ref 35, .ref 5, vU, vU, vU]) (by decide) rfl (Nat.le_of_ble_eq_true rfl) ?_
  refine wp_aload_n (i := 0) dX5_weighPairs_0 rfl rfl ?_
  refine wp_getR dX5_weighPairs_1 fl_X5_30 rfl (st_k hst rfl) (st_r hst rfl) ?_
  refine wp_aload_n (i := 0) dX5_weighPairs_4 rfl rfl ?_
  refine wp_getI dX5_weighPairs_5 fl_X5_42 rfl (st_k hst rfl) ?_
  refine wp_iconst (v := 0) dX5_weighPairs_8 (by decide) ?_
  refine wp_ist (j := c) dX5_weighPairs_9 (st_t hst rfl) hcn (by omega) ?_
  refine wp_aload_n (i := 0) dX5_weighPairs_10 rfl rfl ?_
  skip
  refine wp_getI dX5_weighPairs_11 fl_X5_42 rfl (st_k hst rfl) ?_
  refine wp_iconst (v := 1) dX5_weighPairs_14 (by decide) ?_
  rw [show eU I 46 c 0 35 8 = nI c from hcn]
  refine wp_isub dX5_weighPairs_15 ?_
  refine wp_istore_5_2 dX5_weighPairs_16 rfl ?_
  exact lp_wp2 d hst hc hk4 hch hfb hw c _ vU vU rfl rfl (Nat.le_refl _) (fun x y hx hy => by rw [eU_o (by omega)]; exact hF x y hx hy) hC hcn hwn (fun a h1 h2 => by omega) (fun a h1 h2 => by have e : a = c := (by omega); subst e; rw [eU_at, Nat.sub_self]; rfl) (fun I2 q1 q2 q3 => hq I2 q1 q2 (fun a ha => (q3 a ha).trans (eU_ne (by omega))))

theorem c_apart (d : Nat) {n : Nat} {t : eT} {I : eI} {R : eR} {Q : Int32 → Nat → eT → eI → eR → Prop} {v w : Int32} (hq : Q (maxI (absI (v % 4 - w % 4)) (absI (v / 4 - w / 4))) n t I R) : MC yX0_apart cX0_apart 2 (some .int) (d + 1) 0 0 [.int v, .int w] n t I R (qI Q) := by
  refine mc_intro (L0 := [.int v, .int w]) (by decide) rfl (Nat.le_of_ble_eq_true rfl) ?_
  refine wp_iload_n (i := 0) dX0_apart_0 rfl rfl ?_
  refine wp_SN1i dX0_apart_1 mw_97 mw_98 mi_X7_columnOf (Nat.le_of_ble_eq_true rfl) (Nat.le_refl _) (Nat.le_refl _) (c_columnOf _ ?_) 
  refine wp_iload_n (i := 1) dX0_apart_4 rfl rfl ?_
  refine wp_SN1i dX0_apart_5 mw_97 mw_98 mi_X7_columnOf (Nat.le_of_ble_eq_true rfl) (Nat.le_refl _) (Nat.le_refl _) (c_columnOf _ ?_) 
  refine wp_isub dX0_apart_8 ?_
  refine wp_mabs dX0_apart_9 mw_100 (Nat.le_of_ble_eq_true rfl) (Nat.le_refl _) (Nat.le_refl _) ?_
  refine wp_iload_n (i := 0) dX0_apart_12 rfl rfl ?_
  refine wp_SN1i dX0_apart_13 mw_103 mw_104 mi_X7_rowOf (Nat.le_of_ble_eq_true rfl) (Nat.le_refl _) (Nat.le_refl _) (c_rowOf _ ?_) 
  refine wp_iload_n (i := 1) dX0_apart_16 rfl rfl ?_
  refine wp_SN1i dX0_apart_17 mw_103 mw_104 mi_X7_rowOf (Nat.le_of_ble_eq_true rfl) (Nat.le_refl _) (Nat.le_refl _) (c_rowOf _ ?_) 
  refine wp_isub dX0_apart_20 ?_
  refine wp_mabs dX0_apart_21 mw_100 (Nat.le_of_ble_eq_true rfl) (Nat.le_refl _) (Nat.le_refl _) ?_
  refine wp_mmax dX0_apart_24 mw_109 (Nat.le_of_ble_eq_true rfl) (Nat.le_refl _) (Nat.le_refl _) ?_
  exact wp_retI dX0_apart_27 rfl (Nat.le_refl _) (Nat.le_refl _) hq

