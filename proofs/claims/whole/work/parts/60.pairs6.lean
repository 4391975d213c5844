theorem LR.mv {I I2 : eI} {u u2 rp rp2 rh rh2 p k : Nat} (h : LR I u rp rh p k) (e0 : I2 u2 0 = I u 0) (e1 : ∀ x, x < 10 → I2 (u2 + 1) x = I (u + 1) x) (e2 : ∀ x, x < 10 → I2 rp2 (10 * p + x) = I rp (10 * p + x)) (e3 : I2 rh2 p = I rh p) : LR I2 u2 rp2 rh2 p k := by
  obtain ⟨la, h1, h2, h3, h4, h5⟩ := h
  refine ⟨la, fun a ha => ?_, fun a ha => ?_, h3, h4, by rw [e0, e3]; exact h5⟩
  · rw [e0, e1 a ha]; exact h1 a ha
  · rw [e2 a ha]; exact h2 a ha
theorem LR.one {I : eI} {u rp rh p k : Nat} (h : LR I u rp rh p k) (hne : ¬ I rh p = 0) : I rh p = 1 := by
  obtain ⟨la, -, -, -, -, h5⟩ := h
  rcases h5 with ⟨-, g2, -⟩ | ⟨-, g2, -⟩
  · exact absurd g2 hne
  · exact g2
theorem IL.back {I I2 : eI} {R R2 : eR} {p k : Nat} (h : IL k I R p) (hne : ¬ I 105 p = 0) (e0 : ∀ a, (a = 56 + 10 * p ∨ a = 58 + 10 * p) → I2 a 0 = I a 0 ∧ ∀ x, x < 10 → I2 (a + 1) x = I (a + 1) x) (e6 : ∀ x, x < 10 → I2 106 (10 * p + x) = I 107 (10 * p + x) ∧ I2 107 (10 * p + x) = I 106 (10 * p + x)) (e4 : I2 104 p = I 104 p) (e5 : I2 105 p = I 105 p) (r1 : R2 (54 + 10 * p) 1 = R (54 + 10 * p) 2) (r2 : R2 (54 + 10 * p) 2 = R (54 + 10 * p) 1) : IL k I2 R2 p := by
  obtain ⟨u, v, h1, h2, h3, h4, h5, h6⟩ := h
  have o5 := h5.one hne
  have o4 := h4.one (fun g => hne (h6 g))
  refine ⟨v, u, by omega, r1.trans h3, r2.trans h2, h5.mv (e0 v (by omega)).1 (e0 v (by omega)).2 (fun x hx => (e6 x hx).1) (by rw [e4, o4, o5]), h4.mv (e0 u (by omega)).1 (e0 u (by omega)).2 (fun x hx => (e6 x hx).2) (by rw [e5, o4, o5]), fun g => ?_⟩
  rw [e4, o4] at g
  exact absurd g (by decide)
theorem IA2.cl {I I2 : eI} {p : Nat} (h : IA2 I p) (e0 : I2 (54 + 10 * p) 4 = -9) (e1 : I2 114 p = -9) (e2 : I2 (54 + 10 * p) 3 = I2 117 p) (e3 : I2 (54 + 10 * p) 5 = I (54 + 10 * p) 5) (e4 : I2 (54 + 10 * p) 6 = I (54 + 10 * p) 6) (e5 : I2 115 p = I 115 p) (e6 : I2 116 p = I 116 p) : IA2 I2 p := by
  unfold IA2 at *
  rw [e0, e1, e2, e3, e4, e5, e6]
  exact ⟨rfl, rfl, Or.inl rfl, h.2.2.2⟩
theorem occ_sh {r r2 : Nat → Int32} {b : Nat} {f : Int32} : ∀ n, (∀ i, i < n → r2 (b + i) = r (b + i + 1)) → occ r2 b f n + (if r b = f then 1 else 0) = occ r b f (n + 1)
  | 0, _ => by
    show 0 + (if r b = f then 1 else 0) = 0 + (if r (b + 0) = f then 1 else 0)
    rw [Nat.add_zero]
  | n + 1, h => by
    have e := occ_sh (f := f) n (fun i hi => h i (by omega))
    show occ r2 b f n + (if r2 (b + n) = f then 1 else 0) + (if r b = f then 1 else 0) = occ r b f (n + 1) + (if r (b + (n + 1)) = f then 1 else 0)
    rw [h n (by omega), ← e, show b + n + 1 = b + (n + 1) by omega]
    omega
def TkC (I I2 : eI) (j c e : Nat) : Prop := I2 (54 + 10 * j) 4 = -9 ∧ I2 (60 + 10 * j) e = I (60 + 10 * j) e + 1 ∧ (∀ f, f ≠ e → I2 (60 + 10 * j) f = I (60 + 10 * j) f) ∧ (c < 12 → I2 (54 + 10 * j) 9 = nI (c + 1) ∧ I2 (61 + 10 * j) c = nI e ∧ ∀ i, i < c → I2 (61 + 10 * j) i = I (61 + 10 * j) i) ∧ (¬ c < 12 → I2 (54 + 10 * j) 9 = nI 12 ∧ I2 (61 + 10 * j) 11 = nI e ∧ ∀ i, i < 11 → I2 (61 + 10 * j) i = I (61 + 10 * j) (i + 1)) ∧ (∀ f, f ≠ 4 → f ≠ 9 → I2 (54 + 10 * j) f = I (54 + 10 * j) f) ∧ ∀ a, a ≠ 54 + 10 * j → a ≠ 60 + 10 * j → a ≠ 61 + 10 * j → I2 a = I a
theorem tkC_s {I : eI} {j c e : Nat} : TkC I (tkC I j c e) j c e := by
  by_cases hc : c < 12
  · rw [tkC, if_pos hc]
    refine ⟨?_, ?_, fun f hf => ?_, fun _ => ⟨?_, ?_, fun i hi => ?_⟩, fun g => absurd hc g, fun f h1 h2 => ?_, fun a h1 h2 h3 => ?_⟩
    all_goals (repeat (first | rw [eU_ne (by omega)] | rw [eG_ne (by omega)] | rw [eU_at] | rw [eG_eq] | rw [eU_c (by omega)]))
  · rw [tkC, if_neg hc]
    refine ⟨?_, ?_, fun f hf => ?_, fun g => absurd g hc, fun _ => ⟨?_, ?_, fun i hi => ?_⟩, fun f h1 h2 => ?_, fun a h1 h2 h3 => ?_⟩
    · (repeat (first | rw [eU_ne (by omega)] | rw [eG_ne (by omega)] | rw [eU_at] | rw [eG_eq] | rw [eU_c (by omega)]))
    · (repeat (first | rw [eU_ne (by omega)] | rw [eG_ne (by omega)] | rw [eU_at] | rw [eG_eq] | rw [eU_c (by omega)]))
    · (repeat (first | rw [eU_ne (by omega)] | rw [eG_ne (by omega)] | rw [eU_at] | rw [eG_eq] | rw [eU_c (by omega)]))
    · (repeat (first | rw [eU_ne (by omega)] | rw [eG_ne (by omega)] | rw [eU_at] | rw [eG_eq] | rw [eU_c (by omega)]))
    · (repeat (first | rw [eU_ne (by omega)] | rw [eG_ne (by omega)] | rw [eU_at] | rw [eG_eq] | rw [eU_c (by omega)]))
    · rw [eU_ne (by omega), eU_c (by omega), eU_ne (by omega), eG_eq, pk_cpy_in (by omega) (by omega)]
      exact congrArg _ (by omega)
    · (repeat (first | rw [eU_ne (by omega)] | rw [eG_ne (by omega)] | rw [eU_at] | rw [eG_eq] | rw [eU_c (by omega)]))
    · (repeat (first | rw [eU_ne (by omega)] | rw [eG_ne (by omega)] | rw [eU_at] | rw [eG_eq] | rw [eU_c (by omega)]))
def TkM (I I2 : eI) (j c e : Nat) : Prop := I2 114 j = -9 ∧ (∀ y, y ≠ j → I2 114 y = I 114 y) ∧ I2 118 (3 * j + e) = I 118 (3 * j + e) + 1 ∧ (∀ y, y ≠ 3 * j + e → I2 118 y = I 118 y) ∧ (c < 12 → I2 119 j = nI (c + 1) ∧ I2 120 (12 * j + c) = nI e ∧ ∀ i, i < c → I2 120 (12 * j + i) = I 120 (12 * j + i)) ∧ (¬ c < 12 → I2 119 j = nI 12 ∧ I2 120 (12 * j + 11) = nI e ∧ ∀ i, i < 11 → I2 120 (12 * j + i) = I 120 (12 * j + i + 1)) ∧ (∀ y, y ≠ j → I2 119 y = I 119 y) ∧ (∀ y, (y < 12 * j ∨ 12 * j + 12 ≤ y) → I2 120 y = I 120 y) ∧ ∀ a, a ≠ 114 → a ≠ 118 → a ≠ 119 → a ≠ 120 → I2 a = I a
theorem tkM_s {I : eI} {j c e : Nat} : TkM I (tkM I j c e) j c e := by
  by_cases hc : c < 12
  · rw [tkM, if_pos hc]
    refine ⟨?_, fun y hy => ?_, ?_, fun y hy => ?_, fun _ => ⟨?_, ?_, fun i hi => ?_⟩, fun g => absurd hc g, fun y hy => ?_, fun y hy => ?_, fun a h1 h2 h3 h4 => ?_⟩
    all_goals (repeat (first | rw [eU_ne (by omega)] | rw [eG_ne (by omega)] | rw [eU_at] | rw [eG_eq] | rw [eU_c (by omega)]))
  · rw [tkM, if_neg hc]
    refine ⟨?_, fun y hy => ?_, ?_, fun y hy => ?_, fun g => absurd g hc, fun _ => ⟨?_, ?_, fun i hi => ?_⟩, fun y hy => ?_, fun y hy => ?_, fun a h1 h2 h3 h4 => ?_⟩
    · (repeat (first | rw [eU_ne (by omega)] | rw [eG_ne (by omega)] | rw [eU_at] | rw [eG_eq] | rw [eU_c (by omega)]))
    · (repeat (first | rw [eU_ne (by omega)] | rw [eG_ne (by omega)] | rw [eU_at] | rw [eG_eq] | rw [eU_c (by omega)]))
    · (repeat (first | rw [eU_ne (by omega)] | rw [eG_ne (by omega)] | rw [eU_at] | rw [eG_eq] | rw [eU_c (by omega)]))
    · (repeat (first | rw [eU_ne (by omega)] | rw [eG_ne (by omega)] | rw [eU_at] | rw [eG_eq] | rw [eU_c (by omega)]))
    · (repeat (first | rw [eU_ne (by omega)] | rw [eG_ne (by omega)] | rw [eU_at] | rw [eG_eq] | rw [eU_c (by omega)]))
    · (repeat (first | rw [eU_ne (by omega)] | rw [eG_ne (by omega)] | rw [eU_at] | rw [eG_eq] | rw [eU_c (by omega)]))
    · rw [eU_ne (by omega), eU_ne (by omega), eU_c (by omega), eU_ne (by omega), eG_eq, if_pos (by omega), eU_ne (by omega)]
    · (repeat (first | rw [eU_ne (by omega)] | rw [eG_ne (by omega)] | rw [eU_at] | rw [eG_eq] | rw [eU_c (by omega)]))
    · rw [eU_ne (by omega), eU_ne (by omega), eU_c (by omega), eU_ne (by omega), eG_eq, if_neg (by omega), eU_ne (by omega)]
    · (repeat (first | rw [eU_ne (by omega)] | rw [eG_ne (by omega)] | rw [eU_at] | rw [eG_eq] | rw [eU_c (by omega)]))
theorem IA3.take {I I1 I1b I2 : eI} {I0 : eI} {c0 p lc e : Nat} (hp : p < 4) (h : IA3 c0 I p) (hlc : I 119 p = nI lc) (hlc2 : lc ≤ 12) (he : e < 3) (hC : TkC I0 I1 p lc e) (hM : TkM I1b I2 p lc e) (f0 : ∀ a, (a = 60 + 10 * p ∨ a = 61 + 10 * p) → I0 a = I a) (f1 : ∀ a, a = 118 ∨ a = 119 ∨ a = 120 → I1b a = I a) (f2 : ∀ a, a < 94 → I2 a = I1 a) : IA3 (c0 + 1) I2 p := by
  obtain ⟨l9, b1, b2, b3, b4, b5⟩ := h
  obtain rfl : l9 = lc := (nI_eq (by omega) (by omega)).mp (b3.symm.trans hlc)
  obtain ⟨-, x2, x3, x4, x5, -, -⟩ := hC
  obtain ⟨-, -, y3, y4, y5, y6, -, -, -⟩ := hM
  rw [f0 _ (Or.inl rfl)] at x2 x3
  rw [f0 _ (Or.inr rfl)] at x4 x5
  rw [f1 118 (by omega)] at y3 y4
  rw [f1 120 (by omega)] at y5 y6
  have cnt : ∀ f, f < 3 → I2 (60 + 10 * p) f = I2 118 (3 * p + f) ∧ ∃ ce, ce ≤ c0 + 1 ∧ I2 118 (3 * p + f) = nI ce ∧ occ (I 120) (12 * p) (nI f) l9 + (if nI e = nI f then 1 else 0) ≤ ce := fun f hf => by
    obtain ⟨d1, ce, d2, d3, d4⟩ := b5 f hf
    rw [f2 _ (show 60 + 10 * p < 94 by omega)]
    by_cases g : f = e
    · subst g
      rw [x2, y3, d1, d3, if_pos rfl]
      exact ⟨rfl, ce + 1, by omega, nI_add ce 1, by omega⟩
    · rw [x3 f g, y4 (3 * p + f) (by omega), if_neg (fun g2 => g ((nI_eq (by omega) (by omega)).mp g2).symm)]
      exact ⟨d1, ce, by omega, d3, by omega⟩
  by_cases hc : l9 < 12
  · obtain ⟨x6, x7, x8⟩ := x4 hc
    obtain ⟨y7, y8, y9⟩ := y5 hc
    refine ⟨l9 + 1, by omega, by rw [f2 _ (show 54 + 10 * p < 94 by omega)]; exact x6, y7, fun i hi => ?_, fun f hf => ?_⟩
    · rw [f2 _ (show 61 + 10 * p < 94 by omega)]
      rcases Nat.lt_or_ge i l9 with g | g
      · rw [x8 i g, y9 i g]
        exact b4 i g
      · rw [show i = l9 by omega, x7, y8]
        exact ⟨rfl, e, he, rfl⟩
    · obtain ⟨d1, ce, d2, d3, d4⟩ := cnt f hf
      refine ⟨d1, ce, d2, d3, ?_⟩
      have eo : occ (I2 120) (12 * p) (nI f) l9 = occ (I 120) (12 * p) (nI f) l9 := occ_cg l9 (fun x hx => y9 x hx)
      show occ (I2 120) (12 * p) (nI f) l9 + (if I2 120 (12 * p + l9) = nI f then 1 else 0) ≤ ce
      rw [eo, y8]
      exact d4
  · obtain ⟨x6, x7, x8⟩ := x5 hc
    obtain ⟨y7, y8, y9⟩ := y6 hc
    refine ⟨12, by omega, by rw [f2 _ (show 54 + 10 * p < 94 by omega)]; exact x6, y7, fun i hi => ?_, fun f hf => ?_⟩
    · rw [f2 _ (show 61 + 10 * p < 94 by omega)]
      rcases Nat.lt_or_ge i 11 with g | g
      · rw [x8 i g, y9 i g, show 12 * p + i + 1 = 12 * p + (i + 1) by omega]
        exact b4 (i + 1) (by omega)
      · rw [show i = 11 by omega, x7, y8]
        exact ⟨rfl, e, he, rfl⟩
    · obtain ⟨d1, ce, d2, d3, d4⟩ := cnt f hf
      refine ⟨d1, ce, d2, d3, ?_⟩
      have eo : occ (I2 120) (12 * p) (nI f) 11 + (if I 120 (12 * p) = nI f then 1 else 0) = occ (I 120) (12 * p) (nI f) 12 := occ_sh 11 y9
      rw [show l9 = 12 by omega] at d4
      show occ (I2 120) (12 * p) (nI f) 11 + (if I2 120 (12 * p + 11) = nI f then 1 else 0) ≤ ce
      rw [y8]
      omega
/-- what one person did: the rest stands -/
theorem IVP.pj {c c2 m k n j : Nat} {t : eT} {I I2 : eI} {R : eR} {L : Nat} {xs : Nat → Int32} (h : IVP c m k n t I R L xs) (hc : c ≤ c2) (hj : j < 4) (fA : ∀ a, ¬ (a = 54 + 10 * j ∨ a = 60 + 10 * j ∨ a = 61 + 10 * j ∨ (114 ≤ a ∧ a ≤ 120)) → I2 a = I a) (fB : ∀ a p, 114 ≤ a → a ≤ 119 → a ≠ 118 → p ≠ j → I2 a p = I a p) (fC : ∀ y, (y < 3 * j ∨ 3 * j + 3 ≤ y) → I2 118 y = I 118 y) (fD : ∀ y, (y < 12 * j ∨ 12 * j + 12 ≤ y) → I2 120 y = I 120 y) (f11 : I2 (54 + 10 * j) 11 = I (54 + 10 * j) 11) (q2 : IA2 I2 j) (q3 : IA3 c2 I2 j) : IVP c2 m k n t I2 R L xs := by
  obtain ⟨hm4, hk4, hst, hfz, hg, hp, a1, a2, a3, a4, a5, hl, hs⟩ := id h
  refine h.rp hc (fun a ha => fA a (by omega)) (hg.fr (fA 4 (by omega)) (fA 52 (by omega)) (fun f _ => by rw [fA 94 (by omega)])) (hp.fr (fun a _ _ => fA a (by omega)) (fun a _ _ => fA a (by omega)) (by rw [fA 94 (by omega)]) hk4) (fun p hp9 => (a1 p hp9).fr (fA _ (by omega)) (by rw [fA 101 (by omega)]) (by rw [fA 102 (by omega)]) (by rw [fA 103 (by omega)])) (fun p hp9 => ?_) (fun p hp9 => ?_) (fun p hp9 => (a4 p hp9).fr ?_ (fA _ (by omega)) (by rw [fA 121 (by omega)]) (fun i _ => by rw [fA 122 (by omega)])) (fun p hp9 => (a5 p hp9).fr hp9 (fA _ (by omega)) (fun i _ => by rw [fA 123 (by omega)])) (fun p hp9 => (hl p hp9).fr (fun a ha => ⟨by rw [fA a (by omega)], fun x _ => by rw [fA (a + 1) (by omega)]⟩) (fun x _ => ⟨by rw [fA 106 (by omega)], by rw [fA 107 (by omega)]⟩) (by rw [fA 104 (by omega)]) (by rw [fA 105 (by omega)]) (fun _ => rfl)) (hs.fr (fun a ha => fA a (by omega)) (fun a _ _ => fA a (by omega)) (fun _ _ _ => rfl))
  · by_cases g : p = j
    · rw [g]; exact q2
    · exact (a2 p hp9).fr (fun f _ => by rw [fA (54 + 10 * p) (by omega)]) (fun a g1 g2 => fB a p (by omega) (by omega) (by omega) g)
  · by_cases g : p = j
    · rw [g]; exact q3
    · exact (a3 p hp9).fr hc (by rw [fA (54 + 10 * p) (by omega)]) (fA _ (by omega)) (fA _ (by omega)) (fun e he => fC _ (by omega)) (fB 119 p (by omega) (by omega) (by omega) g) (fun i hi => fD _ (by omega))
  · by_cases g : p = j
    · rw [g]; exact f11
    · rw [fA (54 + 10 * p) (by omega)]
theorem IVP.take {c m k n j lc e : Nat} {t : eT} {I I1 I2 : eI} {R : eR} {L : Nat} {xs : Nat → Int32} {w : Int32} (h : IVP c m k n t I R L xs) (hj : j < 4) (hlc : I 119 j = nI lc) (hlc2 : lc ≤ 12) (he : e < 3) (hC : TkC (eU I (54 + 10 * j) 3 w) I1 j lc e) (hM : TkM (eU I1 117 j w) I2 j lc e) : IVP (c + 1) m k n t I2 R L xs := by
  obtain ⟨z1, -, -, -, -, z6, z7⟩ := id hC
  obtain ⟨v1, v2, v3, v4, v5, v6, v7, v8, v9⟩ := id hM
  have f2 : ∀ a, a < 94 → I2 a = I1 a := fun a ha => by rw [v9 a (by omega) (by omega) (by omega) (by omega), eU_ne (by omega)]
  have f9 : ∀ a, 94 ≤ a → I1 a = I a := fun a ha => by rw [z7 a (by omega) (by omega) (by omega), eU_ne (by omega)]
  refine h.pj (by omega) hj (fun a ha => ?_) (fun a p g1 g2 g3 g4 => ?_) (fun y hy => ?_) (fun y hy => ?_) ?_ ?_ ?_
  · rw [v9 a (by omega) (by omega) (by omega) (by omega), eU_ne (by omega), z7 a (by omega) (by omega) (by omega), eU_ne (by omega)]
  · rcases (show a = 114 ∨ a = 115 ∨ a = 116 ∨ a = 117 ∨ a = 119 by omega) with rfl | rfl | rfl | rfl | rfl
    · rw [v2 p g4, eU_ne (by decide), f9 114 (by decide)]
    · rw [v9 115 (by decide) (by decide) (by decide) (by decide), eU_ne (by decide), f9 115 (by decide)]
    · rw [v9 116 (by decide) (by decide) (by decide) (by decide), eU_ne (by decide), f9 116 (by decide)]
    · rw [v9 117 (by decide) (by decide) (by decide) (by decide), eU_c g4, f9 117 (by decide)]
    · rw [v7 p g4, eU_ne (by decide), f9 119 (by decide)]
  · rw [v4 y (by omega), eU_ne (by decide), f9 118 (by decide)]
  · rw [v8 y hy, eU_ne (by decide), f9 120 (by decide)]
  · rw [f2 _ (by omega), z6 11 (by decide) (by decide), eU_c (by decide)]
  · refine (h.2.2.2.2.2.2.2.1 j hj).cl (by rw [f2 _ (by omega)]; exact z1) v1 ?_ ?_ ?_ ?_ ?_
    · rw [f2 _ (by omega), z6 3 (by decide) (by decide), eU_at, v9 117 (by decide) (by decide) (by decide) (by decide), eU_at]
    · rw [f2 _ (by omega), z6 5 (by decide) (by decide), eU_c (by decide)]
    · rw [f2 _ (by omega), z6 6 (by decide) (by decide), eU_c (by decide)]
    · rw [v9 115 (by decide) (by decide) (by decide) (by decide), eU_ne (by decide), f9 115 (by decide)]
    · rw [v9 116 (by decide) (by decide) (by decide) (by decide), eU_ne (by decide), f9 116 (by decide)]
  · exact IA3.take hj (h.2.2.2.2.2.2.2.2.1 j hj) hlc hlc2 he hC hM (fun a ha => eU_ne (by omega)) (fun a ha => by rw [eU_ne (by omega), f9 a (by omega)]) f2
theorem pr_back {c n : Nat} {t : eT} {I : eI} {R : eR} {L : Nat} {xs : Nat → Int32} (h : Inv c n t I R L xs) (hc : c ≤ 511) {p : Int32} : MC yX7_back cX7_back 2 (some .int) 999 0 0 [.ref 4, .int p] n t I R (qI (fun r n1 t1 I1 R1 => MID t1 I1 L xs ∧ MC yX8_back cX8_back 4 (some .int) 999 0 0 [.ref 94, .int p] n1 t1 I1 R1 (qI (fun r2 n2 t2 I2 R2 => r2 = r ∧ Inv (c + 1) n2 t2 I2 R2 L xs)))) := by
  obtain ⟨m, k, hv⟩ := h
  obtain ⟨hm4, hk4, hst, hfz, hg, hp, a1, a2, a3, a4, a5, hl, hs⟩ := id hv
  refine c_back 997 hst hg.1 hm4 (fun j9 hj9 => by obtain ⟨u, v, g1, g2, g3, -⟩ := hl j9 hj9; exact ⟨u, v, g2, g3, (UV.of hst hj9 (by omega)).1, (UV.of hst hj9 (by omega)).1⟩) (fun h1A => ?_) (fun jA uA vA hjA eA ruA rvA zA => ?_) (fun jA uA vA hjA eA ruA rvA zA => ?_)
  · refine ⟨hv.mid, c_backM 997 hst hg.2.1 hm4 (fun h1B => ?_) (fun jB hjB eB zB => ?_) (fun jB hjB eB zB => ?_)⟩
    · exact ⟨rfl, m, k, hv.up (by omega)⟩
    · (exfalso; first | assumption | omega | grind)
    · (exfalso; first | assumption | omega | grind)
  · refine ⟨hv.mid, c_backM 997 hst hg.2.1 hm4 (fun h1B => ?_) (fun jB hjB eB zB => ?_) (fun jB hjB eB zB => ?_)⟩
    · (exfalso; first | assumption | omega | grind)
    · exact ⟨rfl, m, k, hv.up (by omega)⟩
    · exfalso
      obtain rfl := nI_j hjA hjB (by omega) eA eB
      obtain ⟨u9, v9, g1, g2, g3, g4, g5, g6⟩ := hl jA (show jA < 4 by omega)
      have eu : u9 = uA := Option.some.inj (g2.symm.trans ruA)
      subst eu
      have ev : v9 = vA := Option.some.inj (g3.symm.trans rvA)
      subst ev
      exact zB (g5.emp.mp zA)
  · refine ⟨⟨hv.mid.1, by (repeat (first | rw [eU_ne (by omega)] | rw [eG_ne (by omega)] | rw [eU_c (by omega)])); exact hv.mid.2.1, hv.mid.2.2⟩, c_backM 997 (ST_sw hst (by omega)) (by (repeat (first | rw [eU_ne (by omega)] | rw [eG_ne (by omega)] | rw [eU_c (by omega)])); exact hg.2.1) hm4 (fun h1B => ?_) (fun jB hjB eB zB => ?_) (fun jB hjB eB zB => ?_)⟩
    · (exfalso; first | assumption | omega | grind)
    · exfalso
      obtain rfl := nI_j hjA hjB (by omega) eA eB
      obtain ⟨u9, v9, g1, g2, g3, g4, g5, g6⟩ := hl jA (show jA < 4 by omega)
      have eu : u9 = uA := Option.some.inj (g2.symm.trans ruA)
      subst eu
      have ev : v9 = vA := Option.some.inj (g3.symm.trans rvA)
      subst ev
      (repeat (first | rw [eU_ne (by omega)] at zB | rw [eG_ne (by omega)] at zB | rw [eU_c (by omega)] at zB))
      exact zA (g5.emp.mpr zB)
    · obtain rfl := nI_j hjA hjB (by omega) eA eB
      obtain ⟨u9, v9, g1, g2, g3, g4, g5, g6⟩ := hl jA (show jA < 4 by omega)
      have eu : u9 = uA := Option.some.inj (g2.symm.trans ruA)
      subst eu
      have ev : v9 = vA := Option.some.inj (g3.symm.trans rvA)
      subst ev
      exact ⟨rfl, m, k, hv.rq (ST_sw hst (by omega)) (fun _ _ => rfl) (fun a9 ha9 => by (repeat (first | rw [eU_ne (by omega)] | rw [eG_ne (by omega)] | rw [eU_c (by omega)]))) (hg.fr (by (repeat (first | rw [eU_ne (by omega)] | rw [eG_ne (by omega)] | rw [eU_c (by omega)]))) (by (repeat (first | rw [eU_ne (by omega)] | rw [eG_ne (by omega)] | rw [eU_c (by omega)]))) (fun f9 hf9 => by (repeat (first | rw [eU_ne (by omega)] | rw [eG_ne (by omega)] | rw [eU_c (by omega)])))) (hp.fr (fun a9 _ _ => by (repeat (first | rw [eU_ne (by omega)] | rw [eG_ne (by omega)] | rw [eU_c (by omega)]))) (fun a9 _ _ => by (repeat (first | rw [eU_ne (by omega)] | rw [eG_ne (by omega)] | rw [eU_c (by omega)]))) (by (repeat (first | rw [eU_ne (by omega)] | rw [eG_ne (by omega)] | rw [eU_c (by omega)]))) hk4) (fun p9 hp9 => (a1 p9 hp9).fr (by (repeat (first | rw [eU_ne (by omega)] | rw [eG_ne (by omega)] | rw [eU_c (by omega)]))) (by (repeat (first | rw [eU_ne (by omega)] | rw [eG_ne (by omega)] | rw [eU_c (by omega)]))) (by (repeat (first | rw [eU_ne (by omega)] | rw [eG_ne (by omega)] | rw [eU_c (by omega)]))) (by (repeat (first | rw [eU_ne (by omega)] | rw [eG_ne (by omega)] | rw [eU_c (by omega)])))) (fun p9 hp9 => by
          by_cases g9 : p9 = jA
          · rw [g9] at hp9 ⊢
            exact (a2 jA hp9).cl (by (repeat (first | rw [eU_ne (by omega)] | rw [eG_ne (by omega)] | rw [eU_at] | rw [eG_eq] | rw [eU_c (by omega)]))) (by (repeat (first | rw [eU_ne (by omega)] | rw [eG_ne (by omega)] | rw [eU_at] | rw [eG_eq] | rw [eU_c (by omega)]))) (by (repeat (first | rw [eU_ne (by omega)] | rw [eG_ne (by omega)] | rw [eU_c (by omega)])); exact (a2 jA hp9).1) (by (repeat (first | rw [eU_ne (by omega)] | rw [eG_ne (by omega)] | rw [eU_c (by omega)]))) (by (repeat (first | rw [eU_ne (by omega)] | rw [eG_ne (by omega)] | rw [eU_c (by omega)]))) (by (repeat (first | rw [eU_ne (by omega)] | rw [eG_ne (by omega)] | rw [eU_c (by omega)]))) (by (repeat (first | rw [eU_ne (by omega)] | rw [eG_ne (by omega)] | rw [eU_c (by omega)])))
          · exact (a2 p9 hp9).fr (fun f9 hf9 => by (repeat (first | rw [eU_ne (by omega)] | rw [eG_ne (by omega)] | rw [eU_c (by omega)]))) (fun a9 ha9 hb9 => by (repeat (first | rw [eU_ne (by omega)] | rw [eG_ne (by omega)] | rw [eU_c (by omega)])))) (fun p9 hp9 => (a3 p9 hp9).fr (by omega) (by (repeat (first | rw [eU_ne (by omega)] | rw [eG_ne (by omega)] | rw [eU_c (by omega)]))) (by (repeat (first | rw [eU_ne (by omega)] | rw [eG_ne (by omega)] | rw [eU_c (by omega)]))) (by (repeat (first | rw [eU_ne (by omega)] | rw [eG_ne (by omega)] | rw [eU_c (by omega)]))) (fun e9 _ => by (repeat (first | rw [eU_ne (by omega)] | rw [eG_ne (by omega)] | rw [eU_c (by omega)]))) (by (repeat (first | rw [eU_ne (by omega)] | rw [eG_ne (by omega)] | rw [eU_c (by omega)]))) (fun i9 _ => by (repeat (first | rw [eU_ne (by omega)] | rw [eG_ne (by omega)] | rw [eU_c (by omega)])))) (fun p9 hp9 => (a4 p9 hp9).fr (by (repeat (first | rw [eU_ne (by omega)] | rw [eG_ne (by omega)] | rw [eU_c (by omega)]))) (by (repeat (first | rw [eU_ne (by omega)] | rw [eG_ne (by omega)] | rw [eU_c (by omega)]))) (by (repeat (first | rw [eU_ne (by omega)] | rw [eG_ne (by omega)] | rw [eU_c (by omega)]))) (fun i9 _ => by (repeat (first | rw [eU_ne (by omega)] | rw [eG_ne (by omega)] | rw [eU_c (by omega)])))) (fun p9 hp9 => (a5 p9 hp9).fr hp9 (by (repeat (first | rw [eU_ne (by omega)] | rw [eG_ne (by omega)] | rw [eU_c (by omega)]))) (fun i9 _ => by (repeat (first | rw [eU_ne (by omega)] | rw [eG_ne (by omega)] | rw [eU_c (by omega)])))) (fun p9 hp9 => by
          by_cases g9 : p9 = jA
          · rw [g9] at hp9 ⊢
            exact (hl jA hp9).back (fun g => zB (by (repeat (first | rw [eU_ne (by omega)] | rw [eG_ne (by omega)] | rw [eU_c (by omega)])); exact g)) (fun a9 ha9 => ⟨by (repeat (first | rw [eU_ne (by omega)] | rw [eG_ne (by omega)] | rw [eU_c (by omega)])), fun x9 hx9 => by (repeat (first | rw [eU_ne (by omega)] | rw [eG_ne (by omega)] | rw [eU_c (by omega)]))⟩) (fun x9 hx9 => ⟨by
                rw [eU_ne (by omega), eG_ne (by omega), eG_eq, if_pos (by omega)]
                (repeat (first | rw [eU_ne (by omega)] | rw [eG_ne (by omega)] | rw [eU_c (by omega)])), by
                rw [eU_ne (by omega), eG_eq, if_pos (by omega)]
                (repeat (first | rw [eU_ne (by omega)] | rw [eG_ne (by omega)] | rw [eU_c (by omega)]))⟩) (by (repeat (first | rw [eU_ne (by omega)] | rw [eG_ne (by omega)] | rw [eU_c (by omega)]))) (by (repeat (first | rw [eU_ne (by omega)] | rw [eG_ne (by omega)] | rw [eU_c (by omega)]))) (by (repeat (first | rw [eU_ne (by omega)] | rw [eG_ne (by omega)] | rw [eU_at] | rw [eG_eq] | rw [eU_c (by omega)])); exact rvA.symm) (by (repeat (first | rw [eU_ne (by omega)] | rw [eG_ne (by omega)] | rw [eU_at] | rw [eG_eq] | rw [eU_c (by omega)])); exact ruA.symm)
          · exact (hl p9 hp9).fr (fun a9 ha9 => ⟨by (repeat (first | rw [eU_ne (by omega)] | rw [eG_ne (by omega)] | rw [eU_c (by omega)])), fun x9 _ => by (repeat (first | rw [eU_ne (by omega)] | rw [eG_ne (by omega)] | rw [eU_c (by omega)]))⟩) (fun x9 hx9 => ⟨by
                rw [eU_ne (by omega), eG_ne (by omega), eG_eq, if_neg (by omega)]
                (repeat (first | rw [eU_ne (by omega)] | rw [eG_ne (by omega)] | rw [eU_c (by omega)])), by
                rw [eU_ne (by omega), eG_eq, if_neg (by omega)]
                (repeat (first | rw [eU_ne (by omega)] | rw [eG_ne (by omega)] | rw [eU_c (by omega)]))⟩) (by (repeat (first | rw [eU_ne (by omega)] | rw [eG_ne (by omega)] | rw [eU_c (by omega)]))) (by (repeat (first | rw [eU_ne (by omega)] | rw [eG_ne (by omega)] | rw [eU_c (by omega)]))) (fun f9 => by (repeat (first | rw [eU_ne (by omega)] | rw [eG_ne (by omega)] | rw [eU_c (by omega)])))) (hs.fr (fun a9 ha9 => by (repeat (first | rw [eU_ne (by omega)] | rw [eG_ne (by omega)] | rw [eU_c (by omega)]))) (fun a9 ha9 hb9 => by (repeat (first | rw [eU_ne (by omega)] | rw [eG_ne (by omega)] | rw [eU_c (by omega)]))) (fun a9 f9 h9 => by (repeat (first | rw [eU_ne (by omega)] | rw [eG_ne (by omega)] | rw [eU_c (by omega)]))))⟩

