theorem ci_cg {s s2 : Nat → Bool} : ∀ n, (∀ x, x < n → s x = s2 x) → ci s n = ci s2 n
  | 0, _ => rfl
  | n + 1, h => by
    have e := ci_cg n (fun x hx => h x (by omega))
    by_cases g : s n = true
    · rw [ci_t g, ci_t ((h n (by omega)).symm.trans g), e]
    · rw [ci_f g, ci_f (fun g2 => g ((h n (by omega)).trans g2)), e]
theorem ci_ex {s : Nat → Bool} : ∀ n, 1 ≤ ci s n → ∃ x, x < n ∧ s x = true
  | 0, h => absurd h (by show ¬ 1 ≤ 0; decide)
  | n + 1, h => by
    by_cases g : s n = true
    · exact ⟨n, by omega, g⟩
    · rw [ci_f g] at h
      obtain ⟨x, hx, e⟩ := ci_ex n h
      exact ⟨x, by omega, e⟩
theorem LR.nar {I : eI} {u rp rh p k : Nat} (h : LR I u rp rh p k) : narrow .boolean (.int (I rh p)) = .int (I rh p) := by
  obtain ⟨la, -, -, -, -, h5⟩ := h
  rcases h5 with ⟨-, g, -⟩ | ⟨-, g, -⟩
  · rw [g]; rfl
  · rw [g]; rfl
theorem LR.new {I2 : eI} {v j k : Nat} {sel : Nat → Bool} {q : Nat × (Nat → Nat)} (h1 : ∀ a, a < 10 → bt (I2 v 0) a = sel a) (h2 : ∀ x, x < 10 → sel x = true → I2 (v + 1) x = nI (q.2 (ci sel x)) ∧ q.2 (ci sel x) < 12) (h3 : ∀ x, x < 10 → I2 106 (10 * j + x) = if sel x = true then nI (q.2 (ci sel x)) else -9) (h4 : I2 104 j = 1) (hk : ∀ x, sel x = true → x < k) (hc5 : ci sel 10 ≤ 5) (hc1 : 1 ≤ ci sel 10) : LR I2 v 106 104 j k := by
  have es : ∀ x, x < 10 → selL (fun x => if sel x = true then some (q.2 (ci sel x)) else none) x = sel x := fun x _ => by
    show (if sel x = true then some (q.2 (ci sel x)) else none).isSome = sel x
    by_cases g : sel x = true
    · rw [if_pos g, g]; rfl
    · rw [if_neg g]
      exact (Bool.eq_false_iff.mpr g).symm
  refine ⟨fun x => if sel x = true then some (q.2 (ci sel x)) else none, fun a ha => ?_, fun a ha => ?_, fun a ha => ?_, by rw [ci_cg 10 es]; exact hc5, Or.inr ⟨fun g => ?_, h4, by rw [ci_cg 10 es]; exact hc1⟩⟩
  · by_cases g : sel a = true
    · exact Or.inr ⟨q.2 (ci sel a), (h2 a ha g).2, if_pos g, (bt_at _ (by omega)).mpr ((h1 a ha).trans g), (h2 a ha g).1⟩
    · exact Or.inl ⟨if_neg g, fun g2 => g ((h1 a ha).symm.trans ((bt_at _ (by omega)).mp g2))⟩
  · rw [h3 a ha]
    by_cases g : sel a = true
    · exact Or.inr ⟨q.2 (ci sel a), (h2 a ha g).2, if_pos g, if_pos g⟩
    · exact Or.inl ⟨if_neg g, if_neg g⟩
  · refine hk a (Decidable.byContradiction fun g => ?_)
    have e : (if sel a = true then some (q.2 (ci sel a)) else none).isSome = true := ha
    rw [if_neg g] at e
    cases e
  · obtain ⟨x, hx, e⟩ := ci_ex 10 hc1
    have e2 := h1 x hx
    rw [g, bt_0, e] at e2
    cases e2
theorem IVP.lay {c m k n j u v : Nat} {t : eT} {I I1 I2 : eI} {R : eR} {L : Nat} {xs : Nat → Int32} {sel : Nat → Bool} {q : Nat × (Nat → Nat)} (h : IVP c m k n t I R L xs) (hj : j < 4) (g1 : (u = 56 + 10 * j ∧ v = 58 + 10 * j) ∨ (u = 58 + 10 * j ∧ v = 56 + 10 * j)) (g4 : LR I u 106 104 j k) (hk : ∀ x, sel x = true → x < k) (hc5 : ci sel 10 ≤ 5) (hc1 : 1 ≤ ci sel 10) (rc : RcC I I1 j v sel q) (rm : RcM I1 I2 j sel q) : IVP (c + 1) m k n t I2 (eU (eU R (54 + 10 * j) 1 (some v)) (54 + 10 * j) 2 (some u)) L xs := by
  obtain ⟨hm4, hk4, hst, hfz, hg, hp, a1, a2, a3, a4, a5, hl, hs⟩ := id h
  obtain ⟨x1, x2, x3, x4, x5⟩ := rc
  obtain ⟨y1, y2, y3, y4, y5, y6, y7, y8, y9⟩ := rm
  have f1 : ∀ a, a < 94 → I2 a = I1 a := fun a ha => y8 a (Or.inl ha)
  have fA : ∀ a, ¬ (a = 54 + 10 * j ∨ a = v ∨ a = v + 1 ∨ (35 ≤ a ∧ a ≤ 47) ∨ (128 ≤ a ∧ a ≤ 131) ∨ a = 94 ∨ (104 ≤ a ∧ a ≤ 110) ∨ a = 114) → I2 a = I a := fun a ha => by rw [y8 a (by omega), x4 a (by omega) (by omega) (by omega) (by omega)]
  have f9 : ∀ f, f ≠ 17 → f ≠ 21 → I2 94 f = I 94 f := fun f h1 h2 => by rw [y9 f h1 h2, x4 94 (by omega) (by omega) (by omega) (by omega)]
  have f54 : ∀ f, f ≠ 4 → I2 (54 + 10 * j) f = I (54 + 10 * j) f := fun f hf => by rw [f1 _ (by omega), x5 f hf]
  have fB : ∀ a, 94 ≤ a → a < 128 → I1 a = I a := fun a ha hb => x4 a (by omega) (by omega) (by omega) (by omega)
  refine h.rq (ST_sw hst hj) (fun _ _ => rfl) (fun a ha => fA a (by omega)) (hg.fr (fA 4 (by omega)) (fA 52 (by omega)) (fun f hf => f9 f (by omega) (by omega))) (hp.fr (fun a _ _ => fA a (by omega)) (fun a _ _ => fA a (by omega)) (f9 1 (by decide) (by decide)) hk4) (fun p hp9 => (a1 p hp9).fr (fA _ (by omega)) (by rw [fA 101 (by omega)]) (by rw [fA 102 (by omega)]) (by rw [fA 103 (by omega)])) (fun p hp9 => ?_) (fun p hp9 => (a3 p hp9).fr (by omega) ?_ (fA _ (by omega)) (fA _ (by omega)) (fun e _ => by rw [fA 118 (by omega)]) (by rw [fA 119 (by omega)]) (fun i _ => by rw [fA 120 (by omega)])) (fun p hp9 => (a4 p hp9).fr ?_ (fA _ (by omega)) (by rw [fA 121 (by omega)]) (fun i _ => by rw [fA 122 (by omega)])) (fun p hp9 => (a5 p hp9).fr hp9 (fA _ (by omega)) (fun i _ => by rw [fA 123 (by omega)])) (fun p hp9 => ?_) (hs.fr (fun a ha => fA a (by omega)) (fun a _ _ => fA a (by omega)) (fun a f h9 => by rw [eU_ne (by omega), eU_ne (by omega)]))
  · by_cases g : p = j
    · rw [g]
      refine (a2 j hj).cl (by rw [f1 _ (by omega)]; exact x3) y5 ?_ (f54 5 (by decide)) (f54 6 (by decide)) (by rw [fA 115 (by omega)]) (by rw [fA 116 (by omega)])
      rw [f54 3 (by decide), fA 117 (by omega)]
      exact (a2 j hj).1
    · refine (a2 p hp9).fr (fun f _ => by rw [fA (54 + 10 * p) (by omega)]) (fun a h1 h2 => ?_)
      by_cases g2 : a = 114
      · rw [g2, (y7 p g).2.2, fB 114 (by decide) (by decide)]
      · rw [fA a (by omega)]
  · by_cases g : p = j
    · rw [g]; exact f54 9 (by decide)
    · rw [fA (54 + 10 * p) (by omega)]
  · by_cases g : p = j
    · rw [g]; exact f54 11 (by decide)
    · rw [fA (54 + 10 * p) (by omega)]
  · by_cases g : p = j
    · rw [g]
      refine ⟨v, u, by omega, by rw [eU_c (by decide), eU_at], by rw [eU_at], LR.new (sel := sel) (q := q) (fun a ha => by rw [f1 v (by omega)]; exact x1 a ha) (fun x hx hsx => by rw [f1 (v + 1) (by omega)]; exact x2 x hx hsx) y1 y3 hk hc5 hc1, g4.mv (by rw [fA u (by omega)]) (fun x _ => by rw [fA (u + 1) (by omega)]) (fun x hx => by rw [y2 x hx, fB 106 (by decide) (by decide)]) (by rw [y4, fB 104 (by decide) (by decide)]), fun g9 => ?_⟩
      rw [y3] at g9
      exact absurd g9 (by decide)
    · exact (hl p hp9).fr (fun a ha => ⟨by rw [fA a (by omega)], fun x _ => by rw [fA (a + 1) (by omega)]⟩) (fun x hx => ⟨by rw [(y6 _ (by omega)).1, fB 106 (by decide) (by decide)], by rw [(y6 _ (by omega)).2, fB 107 (by decide) (by decide)]⟩) (by rw [(y7 p g).1, fB 104 (by decide) (by decide)]) (by rw [(y7 p g).2.1, fB 105 (by decide) (by decide)]) (fun f => by rw [eU_ne (by omega), eU_ne (by omega)])
theorem LR.sl {I : eI} {u rp rh p k : Nat} (h : LR I u rp rh p k) : ∃ sel : Nat → Bool, ci sel 10 ≤ 5 ∧ (∀ x, sel x = true → x < k) ∧ (∀ x, x < 10 → bt (I u 0) x = sel x) ∧ (I u 0 = 0 ↔ ∀ a, a < 10 → sel a = false) ∧ (∀ x, x < 10 → (sel x = true ↔ ¬ I rp (10 * p + x) < 0)) ∧ (¬ I rh p = 0 → 1 ≤ ci sel 10) := by
  obtain ⟨la, l1, l2, l3, l4, l5⟩ := h
  refine ⟨selL la, l4, l3, fun x hx => ?_, ⟨fun g => ?_, fun g => ?_⟩, fun x hx => ?_, fun g => ?_⟩
  · show bt (I u 0) x = (la x).isSome
    rcases l1 x hx with ⟨e1, b1⟩ | ⟨pl, -, e1, b1, -⟩
    · rw [e1]
      exact Bool.eq_false_iff.mpr (fun g => b1 ((bt_at _ (by omega)).mpr g))
    · rw [e1]
      exact (bt_at _ (by omega)).mp b1
  · rcases l5 with ⟨-, -, e⟩ | ⟨e, -, -⟩
    · intro a ha
      show (la a).isSome = false
      rw [e a ha]
      rfl
    · exact absurd g e
  · rcases l5 with ⟨e, -, -⟩ | ⟨-, -, e⟩
    · exact e
    · obtain ⟨x, hx, e2⟩ := ci_ex 10 e
      rw [g x hx] at e2
      cases e2
  · show (la x).isSome = true ↔ _
    rcases l2 x hx with ⟨e1, e2⟩ | ⟨pl, h9, e1, e2⟩
    · rw [e1, e2]
      exact ⟨fun g => (by cases g), fun g => absurd (by decide) g⟩
    · rw [e1, e2]
      exact ⟨fun _ => nI_pos (by omega), fun _ => rfl⟩
  · rcases l5 with ⟨-, e, -⟩ | ⟨-, -, e⟩
    · exact absurd e g
    · exact e
theorem tM_cg {I I1 : eI} {j : Nat} (h : ∀ a, 94 ≤ a → a < 128 → I1 a = I a) : tM I1 j = tM I j := by
  unfold tM
  rw [h 106 (by decide) (by decide), h 97 (by decide) (by decide)]
theorem pr_lay {c n : Nat} {t : eT} {I : eI} {R : eR} {L : Nat} {xs : Nat → Int32} (h : Inv c n t I R L xs) (hc : c ≤ 511) {p v : Int32} : MC yX7_lay cX7_lay 4 (some .int) 999 0 0 [.ref 4, .int p, .int v] n t I R (qI (fun r n1 t1 I1 R1 => MID t1 I1 L xs ∧ MC yX8_lay cX8_lay 3 (some .int) 999 0 0 [.ref 94, .int p, .int v] n1 t1 I1 R1 (qI (fun r2 n2 t2 I2 R2 => r2 = r ∧ Inv (c + 1) n2 t2 I2 R2 L xs)))) := by
  obtain ⟨m, k, hv⟩ := h
  obtain ⟨hm4, hk4, hst, hfz, hg, hp, a1, a2, a3, a4, a5, hl, hs⟩ := id hv
  rcases per_or m p with ⟨j, hj, rfl⟩ | hno
  · obtain ⟨⟨e1, w, w1, w2⟩, e2, e3, hd, hd1, hd2⟩ := a1 j (by omega)
    obtain ⟨u, v9, g1, g2, g3, g4, g5, g6⟩ := hl j (show j < 4 by omega)
    have uu := UV.of hst (show j < 4 by omega) (show u = 56 + 10 * j ∨ u = 58 + 10 * j by omega)
    have vv := UV.of hst (show j < 4 by omega) (show v9 = 56 + 10 * j ∨ v9 = 58 + 10 * j by omega)
    refine c_lay 989 hst hg.1 hm4 hp.1 hk4 hj (fv := fvI k I) hp.f.2 w1 hd1 (fun x y hx hy => (hp.f.1 x y hx hy).1) (e1.trans w2) e2 (e3.trans hd2) hs.2.2 g2 g3 vv.2.2.2.1 vv.2.2.2.2.1 vv.2.2.2.2.2 vv.1 vv.2.1 vv.2.2.1 (fun h2A => ?_) (fun smA spA slA evA h5A => ?_) (fun smA spA slA evA h5A snA I2A frA => ?_) (fun smA spA slA evA h5A qA sqA I2A rcA => ?_)
    · refine ⟨hv.mid, c_layM 994 hst hg.2.1 hm4 hp.2.1 hk4 hj (fv := fvI k I) hp.f.2 w1 hd1 (fun x y hx hy => (hp.f.1 x y hx hy).2) w2 rfl hd2 g4.nar (fun h2B => ?_) (fun smB spB slB evB h5B => ?_) (fun smB spB slB evB h5B snB I2B frB => ?_) (fun smB spB slB evB h5B qB sqB I2B rcB => ?_)⟩
      · exact ⟨rfl, m, k, hv.up (by omega)⟩
      · exact ⟨rfl, m, k, hv.up (by omega)⟩
      · (exfalso; exact h2A ⟨by rw [evB, nI_toInt (by have := pow_b k hk4; omega)]; omega, by rw [evB, nI_toInt (by have := pow_b k hk4; omega), show ((2 : Int) ^ k) = ((2 ^ k : Nat) : Int) from (Int.natCast_pow 2 k).symm]; omega⟩)
      · (exfalso; exact h2A ⟨by rw [evB, nI_toInt (by have := pow_b k hk4; omega)]; omega, by rw [evB, nI_toInt (by have := pow_b k hk4; omega), show ((2 : Int) ^ k) = ((2 ^ k : Nat) : Int) from (Int.natCast_pow 2 k).symm]; omega⟩)
    · refine ⟨hv.mid, c_layM 994 hst hg.2.1 hm4 hp.2.1 hk4 hj (fv := fvI k I) hp.f.2 w1 hd1 (fun x y hx hy => (hp.f.1 x y hx hy).2) w2 rfl hd2 g4.nar (fun h2B => ?_) (fun smB spB slB evB h5B => ?_) (fun smB spB slB evB h5B snB I2B frB => ?_) (fun smB spB slB evB h5B qB sqB I2B rcB => ?_)⟩
      · exact ⟨rfl, m, k, hv.up (by omega)⟩
      · exact ⟨rfl, m, k, hv.up (by omega)⟩
      · exfalso
        obtain rfl := nI_s hk4 slA slB evA evB
        exact h5A h5B
      · exfalso
        obtain rfl := nI_s hk4 slA slB evA evB
        exact h5A h5B
    · have hF : ∀ a, 94 ≤ a → a < 128 → I2A a = I a := fun a ha hb => frA a (by omega)
      refine ⟨⟨hv.mid.1, by rw [frA 3 (by decide)]; exact hv.mid.2.1, hv.mid.2.2⟩, c_layM 994 hst (show I2A 94 9 = nI m by rw [hF 94 (by decide) (by decide)]; exact hg.2.1) hm4 (show I2A 94 1 = nI k by rw [hF 94 (by decide) (by decide)]; exact hp.2.1) hk4 hj (fv := fvI k I) hp.f.2 w1 hd1 (fun x y hx hy => by rw [hF 97 (by decide) (by decide)]; exact (hp.f.1 x y hx hy).2) (by rw [hF 101 (by decide) (by decide)]; exact w2) (by rw [hF 102 (by decide) (by decide)]) (by rw [hF 103 (by decide) (by decide)]; exact hd2) (by rw [hF 104 (by decide) (by decide)]; exact g4.nar) (fun h2B => ?_) (fun smB spB slB evB h5B => ?_) (fun smB spB slB evB h5B snB I2B frB => ?_) (fun smB spB slB evB h5B qB sqB I2B rcB => ?_)⟩
      · (exfalso; exact h2B ⟨by rw [evA, nI_toInt (by have := pow_b k hk4; omega)]; omega, by rw [evA, nI_toInt (by have := pow_b k hk4; omega), show ((2 : Int) ^ k) = ((2 ^ k : Nat) : Int) from (Int.natCast_pow 2 k).symm]; omega⟩)
      · exfalso
        obtain rfl := nI_s hk4 slA slB evA evB
        exact h5B h5A
      · obtain rfl := nI_s hk4 slA slB evA evB
        exact ⟨rfl, m, k, hv.fr (by omega) (fun a ha => by rw [frB.1 a (by omega) (by omega) (by omega) (by omega), frA a (by omega)]) (by rw [frB.2 1 (by decide) (by decide), frA 94 (by decide)]) (hg.fr (by rw [frB.1 4 (by decide) (by decide) (by decide) (by decide), frA 4 (by decide)]) (by rw [frB.1 52 (by decide) (by decide) (by decide) (by decide), frA 52 (by decide)]) (fun f hff => by rw [frB.2 f (by omega) (by omega), frA 94 (by decide)]))⟩
      · exfalso
        obtain rfl := nI_s hk4 slA slB evA evB
        rw [snA] at sqB
        cases sqB
    · have hF : ∀ a, 94 ≤ a → a < 128 → I2A a = I a := fun a ha hb => rcA.2.2.2.1 a (by omega) (by omega) (by omega) (by omega)
      refine ⟨⟨hv.mid.1, by rw [rcA.2.2.2.1 3 (by omega) (by omega) (by omega) (by omega)]; exact hv.mid.2.1, hv.mid.2.2⟩, c_layM 994 (ST_sw hst (by omega)) (show I2A 94 9 = nI m by rw [hF 94 (by decide) (by decide)]; exact hg.2.1) hm4 (show I2A 94 1 = nI k by rw [hF 94 (by decide) (by decide)]; exact hp.2.1) hk4 hj (fv := fvI k I) hp.f.2 w1 hd1 (fun x y hx hy => by rw [hF 97 (by decide) (by decide)]; exact (hp.f.1 x y hx hy).2) (by rw [hF 101 (by decide) (by decide)]; exact w2) (by rw [hF 102 (by decide) (by decide)]) (by rw [hF 103 (by decide) (by decide)]; exact hd2) (by rw [hF 104 (by decide) (by decide)]; exact g4.nar) (fun h2B => ?_) (fun smB spB slB evB h5B => ?_) (fun smB spB slB evB h5B snB I2B frB => ?_) (fun smB spB slB evB h5B qB sqB I2B rcB => ?_)⟩
      · (exfalso; exact h2B ⟨by rw [evA, nI_toInt (by have := pow_b k hk4; omega)]; omega, by rw [evA, nI_toInt (by have := pow_b k hk4; omega), show ((2 : Int) ^ k) = ((2 ^ k : Nat) : Int) from (Int.natCast_pow 2 k).symm]; omega⟩)
      · exfalso
        obtain rfl := nI_s hk4 slA slB evA evB
        exact h5B h5A
      · exfalso
        obtain rfl := nI_s hk4 slA slB evA evB
        rw [snB] at sqA
        cases sqA
      · obtain rfl := nI_s hk4 slA slB evA evB
        obtain rfl : qA = qB := Option.some.inj (sqA.symm.trans sqB)
        exact ⟨rfl, m, k, hv.lay (by omega) g1 g4 (fun x hx => (selF_t.mp hx).1) h5A (ci_pos10 hk4 slA spA) rcA rcB⟩
  · exact c_layNo 997 hst hg.1 hm4 hno ⟨hv.mid, c_layNoM 997 hst hg.2.1 hm4 hno ⟨rfl, m, k, hv.up (by omega)⟩⟩

theorem pr_offer {c n : Nat} {t : eT} {I : eI} {R : eR} {L : Nat} {xs : Nat → Int32} (h : Inv c n t I R L xs) (hc : c ≤ 511) {p g : Int32} : MC yX7_offer cX7_offer 5 (some .int) 999 0 0 [.ref 4, .int p, .int g] n t I R (qI (fun r n1 t1 I1 R1 => MID t1 I1 L xs ∧ MC yX8_offer cX8_offer 3 (some .int) 999 0 0 [.ref 94, .int p, .int g] n1 t1 I1 R1 (qI (fun r2 n2 t2 I2 R2 => r2 = r ∧ Inv (c + 1) n2 t2 I2 R2 L xs)))) := by
  obtain ⟨m, k, hv⟩ := h
  obtain ⟨hm4, hk4, hst, hfz, hg, hp, a1, a2, a3, a4, a5, hl, hs⟩ := id hv
  rcases per_or m p with ⟨j, hj, rfl⟩ | hno
  · obtain ⟨⟨e1, w, w1, w2⟩, e2, e3, hd, hd1, hd2⟩ := a1 j (by omega)
    obtain ⟨u, v9, g1, g2, g3, g4, g5, g6⟩ := hl j (show j < 4 by omega)
    have uu := UV.of hst (show j < 4 by omega) (show u = 56 + 10 * j ∨ u = 58 + 10 * j by omega)
    have vv := UV.of hst (show j < 4 by omega) (show v9 = 56 + 10 * j ∨ v9 = 58 + 10 * j by omega)
    obtain ⟨sel, s1, s2, s3, s4, s5, s6⟩ := g4.sl
    refine c_offer 989 hst hg.1 hm4 hp.1 hk4 hj (fv := fvI k I) hp.f.2 w1 hd1 (fun x y hx hy => (hp.f.1 x y hx hy).1) (e1.trans w2) e2 (e3.trans hd2) hs.2.2 g2 g3 vv.2.2.2.1 vv.2.2.2.2.1 vv.2.2.2.2.2 vv.1 vv.2.1 vv.2.2.1 ⟨uu.2.2.2.1, by omega⟩ uu.1 uu.2.1 uu.2.2.1 s1 s2 s3 s4 (fun h2A => ?_) (fun h2A zA => ?_) (fun h2A zA snA I2A frA => ?_) (fun h2A zA qA sqA ltA I2A frA => ?_) (fun h2A zA qA sqA ltA I2A rcA => ?_)
    · refine ⟨hv.mid, c_offerM 994 hst hg.2.1 hm4 hp.2.1 hk4 hj (fv := fvI k I) hp.f.2 w1 hd1 (fun x y hx hy => (hp.f.1 x y hx hy).2) w2 rfl hd2 g4.nar s1 s2 s5 s6 (fun h2B => ?_) (fun h2B zB => ?_) (fun h2B zB snB I2B frB => ?_) (fun h2B zB qB sqB ltB I2B frB => ?_) (fun h2B zB qB sqB ltB I2B rcB => ?_)⟩
      · exact ⟨rfl, m, k, hv.up (by omega)⟩
      · exact absurd h2B h2A
      · exact absurd h2B h2A
      · exact absurd h2B h2A
      · exact absurd h2B h2A
    · refine ⟨hv.mid, c_offerM 994 hst hg.2.1 hm4 hp.2.1 hk4 hj (fv := fvI k I) hp.f.2 w1 hd1 (fun x y hx hy => (hp.f.1 x y hx hy).2) w2 rfl hd2 g4.nar s1 s2 s5 s6 (fun h2B => ?_) (fun h2B zB => ?_) (fun h2B zB snB I2B frB => ?_) (fun h2B zB qB sqB ltB I2B frB => ?_) (fun h2B zB qB sqB ltB I2B rcB => ?_)⟩
      · exact absurd h2A h2B
      · exact ⟨rfl, m, k, hv.up (by omega)⟩
      · exact absurd (g4.emp.mp zA) zB
      · exact absurd (g4.emp.mp zA) zB
      · exact absurd (g4.emp.mp zA) zB
    · have hF : ∀ a, 94 ≤ a → a < 128 → I2A a = I a := fun a ha hb => frA a (by omega)
      refine ⟨⟨hv.mid.1, by rw [frA 3 (by decide)]; exact hv.mid.2.1, hv.mid.2.2⟩, c_offerM 994 hst (show I2A 94 9 = nI m by rw [hF 94 (by decide) (by decide)]; exact hg.2.1) hm4 (show I2A 94 1 = nI k by rw [hF 94 (by decide) (by decide)]; exact hp.2.1) hk4 hj (fv := fvI k I) hp.f.2 w1 hd1 (fun x y hx hy => by rw [hF 97 (by decide) (by decide)]; exact (hp.f.1 x y hx hy).2) (by rw [hF 101 (by decide) (by decide)]; exact w2) (by rw [hF 102 (by decide) (by decide)]) (by rw [hF 103 (by decide) (by decide)]; exact hd2) (by rw [hF 104 (by decide) (by decide)]; exact g4.nar) s1 s2 (by rw [hF 106 (by decide) (by decide)]; exact s5) (by rw [hF 104 (by decide) (by decide)]; exact s6) (fun h2B => ?_) (fun h2B zB => ?_) (fun h2B zB snB I2B frB => ?_) (fun h2B zB qB sqB ltB I2B frB => ?_) (fun h2B zB qB sqB ltB I2B rcB => ?_)⟩
      · exact absurd h2A h2B
      · rw [hF 104 (by decide) (by decide)] at zB
        exact absurd (g4.emp.mpr zB) zA
      · exact ⟨rfl, m, k, hv.fr (by omega) (fun a ha => by rw [frB.1 a (by omega) (by omega) (by omega) (by omega), frA a (by omega)]) (by rw [frB.2 1 (by decide) (by decide), frA 94 (by decide)]) (hg.fr (by rw [frB.1 4 (by decide) (by decide) (by decide) (by decide), frA 4 (by decide)]) (by rw [frB.1 52 (by decide) (by decide) (by decide) (by decide), frA 52 (by decide)]) (fun f hff => by rw [frB.2 f (by omega) (by omega), frA 94 (by decide)]))⟩
      · exfalso
        rw [snA] at sqB
        cases sqB
      · exfalso
        rw [snA] at sqB
        cases sqB
    · have hF : ∀ a, 94 ≤ a → a < 128 → I2A a = I a := fun a ha hb => frA a (by omega)
      refine ⟨⟨hv.mid.1, by rw [frA 3 (by decide)]; exact hv.mid.2.1, hv.mid.2.2⟩, c_offerM 994 hst (show I2A 94 9 = nI m by rw [hF 94 (by decide) (by decide)]; exact hg.2.1) hm4 (show I2A 94 1 = nI k by rw [hF 94 (by decide) (by decide)]; exact hp.2.1) hk4 hj (fv := fvI k I) hp.f.2 w1 hd1 (fun x y hx hy => by rw [hF 97 (by decide) (by decide)]; exact (hp.f.1 x y hx hy).2) (by rw [hF 101 (by decide) (by decide)]; exact w2) (by rw [hF 102 (by decide) (by decide)]) (by rw [hF 103 (by decide) (by decide)]; exact hd2) (by rw [hF 104 (by decide) (by decide)]; exact g4.nar) s1 s2 (by rw [hF 106 (by decide) (by decide)]; exact s5) (by rw [hF 104 (by decide) (by decide)]; exact s6) (fun h2B => ?_) (fun h2B zB => ?_) (fun h2B zB snB I2B frB => ?_) (fun h2B zB qB sqB ltB I2B frB => ?_) (fun h2B zB qB sqB ltB I2B rcB => ?_)⟩
      · exact absurd h2A h2B
      · rw [hF 104 (by decide) (by decide)] at zB
        exact absurd (g4.emp.mpr zB) zA
      · exfalso
        rw [snB] at sqA
        cases sqA
      · exact ⟨rfl, m, k, hv.fr (by omega) (fun a ha => by rw [frB.1 a (by omega) (by omega) (by omega) (by omega), frA a (by omega)]) (by rw [frB.2 1 (by decide) (by decide), frA 94 (by decide)]) (hg.fr (by rw [frB.1 4 (by decide) (by decide) (by decide) (by decide), frA 4 (by decide)]) (by rw [frB.1 52 (by decide) (by decide) (by decide) (by decide), frA 52 (by decide)]) (fun f hff => by rw [frB.2 f (by omega) (by omega), frA 94 (by decide)]))⟩
      · exfalso
        obtain rfl : qA = qB := Option.some.inj (sqA.symm.trans sqB)
        rw [tM_cg hF, ← price_eq hp hk4 g4] at ltB
        exact ltB ltA
    · have hF : ∀ a, 94 ≤ a → a < 128 → I2A a = I a := fun a ha hb => rcA.2.2.2.1 a (by omega) (by omega) (by omega) (by omega)
      refine ⟨⟨hv.mid.1, by rw [rcA.2.2.2.1 3 (by omega) (by omega) (by omega) (by omega)]; exact hv.mid.2.1, hv.mid.2.2⟩, c_offerM 994 (ST_sw hst (by omega)) (show I2A 94 9 = nI m by rw [hF 94 (by decide) (by decide)]; exact hg.2.1) hm4 (show I2A 94 1 = nI k by rw [hF 94 (by decide) (by decide)]; exact hp.2.1) hk4 hj (fv := fvI k I) hp.f.2 w1 hd1 (fun x y hx hy => by rw [hF 97 (by decide) (by decide)]; exact (hp.f.1 x y hx hy).2) (by rw [hF 101 (by decide) (by decide)]; exact w2) (by rw [hF 102 (by decide) (by decide)]) (by rw [hF 103 (by decide) (by decide)]; exact hd2) (by rw [hF 104 (by decide) (by decide)]; exact g4.nar) s1 s2 (by rw [hF 106 (by decide) (by decide)]; exact s5) (by rw [hF 104 (by decide) (by decide)]; exact s6) (fun h2B => ?_) (fun h2B zB => ?_) (fun h2B zB snB I2B frB => ?_) (fun h2B zB qB sqB ltB I2B frB => ?_) (fun h2B zB qB sqB ltB I2B rcB => ?_)⟩
      · exact absurd h2A h2B
      · rw [hF 104 (by decide) (by decide)] at zB
        exact absurd (g4.emp.mpr zB) zA
      · exfalso
        rw [snB] at sqA
        cases sqA
      · exfalso
        obtain rfl : qA = qB := Option.some.inj (sqA.symm.trans sqB)
        rw [tM_cg hF, ← price_eq hp hk4 g4] at ltB
        exact ltA ltB
      · obtain rfl : qA = qB := Option.some.inj (sqA.symm.trans sqB)
        exact ⟨rfl, m, k, hv.lay (by omega) g1 g4 s2 s1 (s6 (fun g => zA (g4.emp.mpr g))) rcA rcB⟩
  · exact c_offerNo 997 hst hg.1 hm4 hno ⟨hv.mid, c_offerNoM 997 hst hg.2.1 hm4 hno ⟨rfl, m, k, hv.up (by omega)⟩⟩

