def AB (x : Nat) (s : St) : Prop := s.2.1 ≤ 9 ∧ (∀ y, s.2.2.1 y ≤ 2) ∧ (∀ y, s.2.2.2.1 y ≤ 999) ∧ (s.1 = 1 → s.2.2.2.1 s.2.1 = 0) ∧ (s.1 = 2 → s.2.2.2.1 s.2.1 ≤ 9) ∧ (s.1 = 3 → s.2.2.2.1 s.2.1 ≤ 99) ∧ ∀ a b, s.2.2.2.2 a b ≤ x
theorem kN_b (c : Int32) : kN c ≤ 2 := by
  unfold kN
  by_cases h1 : c = 112
  · rw [if_pos h1]; omega
  · rw [if_neg h1]
    by_cases h2 : c = 100
    · rw [if_pos h2]; omega
    · rw [if_neg h2]; omega
theorem step_b {x : Nat} {w m : Nat} {K V : Nat → Nat} {F : Nat → Nat → Nat} {c : Int32} {s : St} (h : step (w, m, K, V, F) c = some s) (b : AB x (w, m, K, V, F)) : AB (x + 1) s := by
  obtain ⟨b1, b2, b3, b4, b5, b6, b7⟩ := b
  dsimp only at b1 b2 b3 b4 b5 b6 b7
  have h2 : (if w = 0 ∧ ¬ kM c < 0 then some ((1, m, eG K m (kN c), eG V m 0, F) : St)
    else if (0 < w ∧ w < 4) ∧ (48 ≤ c.toInt ∧ c.toInt ≤ 57) then some (w + 1, m, K, eG V m (10 * V m + dg c), F)
    else if (1 < w ∧ w < 5) ∧ c = 62 then some (5, m, K, V, F)
    else if w = 5 ∧ (48 ≤ c.toInt ∧ c.toInt ≤ 57) ∧ dg c < m then some (4, m, K, V, eU F m (dg c) (F m (dg c) + 1))
    else if (1 < w ∧ w < 5) ∧ c = 59 ∧ m < 9 then some (0, m + 1, K, V, F)
    else none) = some s := h
  by_cases g1 : w = 0 ∧ ¬ kM c < 0
  · rw [if_pos g1] at h2
    obtain rfl := Option.some.inj h2
    refine ⟨b1, fun y => ?_, fun y => ?_, fun _ => ?_, fun g => ?_, fun g => ?_, fun a b => ?_⟩
    · show eG K m (kN c) y ≤ 2
      by_cases g : y = m
      · rw [g, eG_eq]; exact kN_b c
      · rw [eG_ne g]; exact b2 y
    · show eG V m 0 y ≤ 999
      by_cases g : y = m
      · rw [g, eG_eq]; omega
      · rw [eG_ne g]; exact b3 y
    · exact eG_eq V m 0
    · exact absurd (show (1 : Nat) = 2 from g) (by decide)
    · exact absurd (show (1 : Nat) = 3 from g) (by decide)
    · exact Nat.le_trans (b7 a b) (Nat.le_succ x)
  · rw [if_neg g1] at h2
    by_cases g2 : (0 < w ∧ w < 4) ∧ (48 ≤ c.toInt ∧ c.toInt ≤ 57)
    · rw [if_pos g2] at h2
      obtain rfl := Option.some.inj h2
      have hd : dg c ≤ 9 := by unfold dg; omega
      have key : (w = 1 → 10 * V m + dg c ≤ 9) ∧ (w = 2 → 10 * V m + dg c ≤ 99) ∧ 10 * V m + dg c ≤ 999 := by
        refine ⟨fun g => ?_, fun g => ?_, ?_⟩
        · rw [b4 g]; omega
        · have := b5 g; omega
        · rcases (show w = 1 ∨ w = 2 ∨ w = 3 by omega) with g | g | g
          · have := b4 g; omega
          · have := b5 g; omega
          · have := b6 g; omega
      refine ⟨b1, b2, fun y => ?_, fun g => ?_, fun g => ?_, fun g => ?_, fun a b => Nat.le_trans (b7 a b) (Nat.le_succ x)⟩
      · show eG V m (10 * V m + dg c) y ≤ 999
        by_cases g : y = m
        · rw [g, eG_eq]; exact key.2.2
        · rw [eG_ne g]; exact b3 y
      · exact absurd (show w + 1 = 1 from g) (by omega)
      · show eG V m (10 * V m + dg c) m ≤ 9
        rw [eG_eq]
        exact key.1 (by have : w + 1 = 2 := g; omega)
      · show eG V m (10 * V m + dg c) m ≤ 99
        rw [eG_eq]
        exact key.2.1 (by have : w + 1 = 3 := g; omega)
    · rw [if_neg g2] at h2
      by_cases g3 : (1 < w ∧ w < 5) ∧ c = 62
      · rw [if_pos g3] at h2
        obtain rfl := Option.some.inj h2
        exact ⟨b1, b2, b3, fun g => absurd (show (5 : Nat) = 1 from g) (by decide), fun g => absurd (show (5 : Nat) = 2 from g) (by decide), fun g => absurd (show (5 : Nat) = 3 from g) (by decide), fun a b => Nat.le_trans (b7 a b) (Nat.le_succ x)⟩
      · rw [if_neg g3] at h2
        by_cases g4 : w = 5 ∧ (48 ≤ c.toInt ∧ c.toInt ≤ 57) ∧ dg c < m
        · rw [if_pos g4] at h2
          obtain rfl := Option.some.inj h2
          refine ⟨b1, b2, b3, fun g => absurd (show (4 : Nat) = 1 from g) (by decide), fun g => absurd (show (4 : Nat) = 2 from g) (by decide), fun g => absurd (show (4 : Nat) = 3 from g) (by decide), fun a b => ?_⟩
          show eU F m (dg c) (F m (dg c) + 1) a b ≤ x + 1
          unfold eU
          by_cases g : a = m ∧ b = dg c
          · rw [if_pos g]
            have := b7 m (dg c)
            omega
          · rw [if_neg g]
            exact Nat.le_trans (b7 a b) (Nat.le_succ x)
        · rw [if_neg g4] at h2
          by_cases g5 : (1 < w ∧ w < 5) ∧ c = 59 ∧ m < 9
          · rw [if_pos g5] at h2
            obtain rfl := Option.some.inj h2
            exact ⟨show m + 1 ≤ 9 by omega, b2, b3, fun g => absurd (show (0 : Nat) = 1 from g) (by decide), fun g => absurd (show (0 : Nat) = 2 from g) (by decide), fun g => absurd (show (0 : Nat) = 3 from g) (by decide), fun a b => Nat.le_trans (b7 a b) (Nat.le_succ x)⟩
          · rw [if_neg g5] at h2
            cases h2
theorem aft_n {cds : Nat → Int32} {x : Nat} (h : aft cds x = none) : aft cds (x + 1) = none := by
  show (match aft cds x with | none => none | some s => step s (cds x)) = none
  rw [h]
theorem aft_b {cds : Nat → Int32} : ∀ x s, aft cds x = some s → AB x s
  | 0, s, h => by
    obtain rfl := Option.some.inj (show some ((0, 0, fun _ => 0, fun _ => 0, fun _ _ => 0) : St) = some s from h)
    exact ⟨Nat.zero_le _, fun _ => Nat.zero_le _, fun _ => Nat.zero_le _, fun _ => rfl, fun _ => Nat.zero_le _, fun _ => Nat.zero_le _, fun _ _ => Nat.zero_le _⟩
  | x + 1, s, h => by
    cases e : aft cds x with
    | none => rw [aft_n e] at h; cases h
    | some s0 =>
      rw [aft_s e] at h
      obtain ⟨w, m, K, V, F⟩ := s0
      exact step_b h (aft_b x _ e)
theorem aft_cg {f g : Nat → Int32} : ∀ n, (∀ z, z < n → f z = g z) → aft f n = aft g n
  | 0, _ => rfl
  | n + 1, h => by
    have e := aft_cg n (fun z hz => h z (by omega))
    cases e1 : aft f n with
    | none => rw [aft_n e1, aft_n (e.symm.trans e1)]
    | some s => rw [aft_s e1, aft_s (e.symm.trans e1), h n (by omega)]
theorem aft_no {f : Nat → Int32} {a : Nat} (h : aft f a = none) : ∀ r, aft f (a + r) = none
  | 0 => h
  | r + 1 => aft_n (aft_no h r)
theorem aft_lt {f : Nat → Int32} {a b : Nat} {s : St} (h : aft f a = none) (h2 : aft f b = some s) : b < a := by
  apply Decidable.byContradiction
  intro g
  have e := aft_no h (b - a)
  rw [show a + (b - a) = b by omega, h2] at e
  cases e
theorem IL.LY {k : Nat} {I : eI} {R : eR} (h : ∀ p, p < 4 → IL k I R p) : LY R := fun p hp => by
  obtain ⟨u, v, g1, g2, g3, -⟩ := h p hp
  rcases g1 with ⟨rfl, rfl⟩ | ⟨rfl, rfl⟩
  · exact Or.inl ⟨g2, g3⟩
  · exact Or.inr ⟨g2, g3⟩
theorem IS.sh2 {n : Nat} {t : eT} {I : eI} {R : eR} (h : IS n t I R) : ∀ j a, j < 4 → R 53 j = some a → 128 ≤ a ∧ (t a).1 = 6 ∧ ∃ c len, 128 ≤ c ∧ R a 1 = some c ∧ t c = (9, len) ∧ len ≤ 60 := fun j a hj e => by
  obtain ⟨g0, -, g, -, c2, l2, g1, g2, -, g4, g5, -⟩ := h.yes hj e
  exact ⟨by omega, g, c2, l2, by omega, g1, g4, g5⟩
theorem LR.none {I : eI} {u rp rh p k : Nat} (h1 : I u 0 = 0) (h2 : ∀ x, x < 10 → I rp (10 * p + x) = -9) (h3 : I rh p = 0) : LR I u rp rh p k := by
  refine ⟨fun _ => Option.none, fun a ha => Or.inl ⟨rfl, fun g => ?_⟩, fun a ha => Or.inl ⟨rfl, h2 a ha⟩, fun a ha => ?_, ?_, Or.inl ⟨h1, h3, fun _ _ => rfl⟩⟩
  · have g2 := (bt_at _ (by omega)).mp g
    rw [h1, bt_0] at g2
    cases g2
  · cases ha
  · show (0 : Nat) ≤ 5
    decide
theorem IVP.text {c m k n mm : Nat} {t : eT} {I J1 J2 J3 J4 : eI} {R : eR} {L : Nat} {xs : Nat → Int32} {K V : Nat → Nat} {F : Nat → Nat → Nat} (h : IVP c m k n t I R L xs) (bK : ∀ y, K y ≤ 2) (bV : ∀ y, V y ≤ 999) (bF : ∀ a b, F a b ≤ 99) (hm9 : mm ≤ 9) (fr : FrC (eU I 4 9 0) J1) (tc : TC J1 J2 mm K V F) (fr2 : FrM J2 J3) (tm : TM J3 J4 mm K V F) : IVP (c + 1) m (mm + 1) n t J4 R L xs := by
  obtain ⟨hm4, hk4, hst, hfz, hg, hp, a1, a2, a3, a4, a5, hl, hs⟩ := id h
  obtain ⟨x1, x2, x3, x4, x5⟩ := tc
  obtain ⟨y1, y2, y3, y4, y5, y6, y7, y8⟩ := tm
  have f0 : ∀ z, z < 94 → J4 z = J2 z := fun z hz => by rw [y8 z (Or.inl hz), fr2.1 z (by omega) (by omega) (by omega) (by omega)]
  have fC : ∀ z f, (z < 5 ∨ 34 ≤ z) → (¬ ∃ p, CLR 0 p f z) → J2 z f = eU I 4 9 0 z f := fun z f h1 h2 => by rw [x5 z f h1 h2, fr z (by omega)]
  have fZ : ∀ z f, z < 94 → (z < 5 ∨ 34 ≤ z) → (∀ p, p < 4 → ¬ ((z = 54 + 10 * p ∧ f = 4) ∨ ((z = 56 + 10 * p ∨ z = 58 + 10 * p) ∧ f = 0))) → J4 z f = eU I 4 9 0 z f := fun z f h0 h1 h2 => by
    rw [f0 z h0]
    exact fC z f h1 (fun ⟨p, g⟩ => h2 p g.2.1 g.2.2)
  have fB : ∀ z, 94 ≤ z → J2 z = I z := fun z hz => by
    funext f
    rw [fC z f (by omega) (fun ⟨p, g⟩ => by
      obtain ⟨-, g2, g3⟩ := g
      omega), eU_ne (by omega)]
  have fN : ∀ z, ((100 < z ∧ z < 104) ∨ (107 < z ∧ z ≠ 114)) → J4 z = I z := fun z hz => by rw [y8 z (Or.inr hz), fr2.1 z (by omega) (by omega) (by omega) (by omega), fB z (by omega)]
  have fR : ∀ z, z < 94 → (z < 4 ∨ 34 ≤ z) → (∀ p, p < 4 → z ≠ 54 + 10 * p ∧ z ≠ 56 + 10 * p ∧ z ≠ 58 + 10 * p) → J4 z = I z := fun z h0 h1 h2 => by
    funext f
    rw [fZ z f h0 (by omega) (fun p hp9 => by have := h2 p hp9; omega), eU_ne (by omega)]
  have f54 : ∀ p f, p < 4 → f ≠ 4 → J4 (54 + 10 * p) f = I (54 + 10 * p) f := fun p f h0 h1 => by rw [fZ (54 + 10 * p) f (by omega) (by omega) (fun q hq => by omega), eU_ne (by omega)]
  refine h.rq hst (fun _ _ => rfl) (fun a ha => fR a (by omega) (by omega) (fun p _ => by omega)) (hg.flt ?_ ?_ (fR 52 (by decide) (by decide) (fun p _ => by omega)) (fun f hf => ?_) ?_) ?_ (fun p hp9 => (a1 p hp9).fr (fR _ (by omega) (by omega) (fun q _ => by omega)) (by rw [fN 101 (by decide)]) (by rw [fN 102 (by decide)]) (by rw [fN 103 (by decide)])) (fun p hp9 => ?_) (fun p hp9 => (a3 p hp9).fr (by omega) (f54 p 9 hp9 (by decide)) (fR _ (by omega) (by omega) (fun q _ => by omega)) (fR _ (by omega) (by omega) (fun q _ => by omega)) (fun e _ => by rw [fN 118 (by decide)]) (by rw [fN 119 (by decide)]) (fun i _ => by rw [fN 120 (by decide)])) (fun p hp9 => (a4 p hp9).fr (f54 p 11 hp9 (by decide)) (fR _ (by omega) (by omega) (fun q _ => by omega)) (by rw [fN 121 (by decide)]) (fun i _ => by rw [fN 122 (by decide)])) (fun p hp9 => (a5 p hp9).fr hp9 (fR _ (by omega) (by omega) (fun q _ => by omega)) (fun i _ => by rw [fN 123 (by decide)])) (fun p hp9 => ?_) (hs.fr (fun a ha => fN a (by omega)) (fun a _ _ => fN a (by omega)) (fun _ _ _ => rfl))
  · rw [fZ 4 3 (by decide) (by decide) (fun p _ => by omega), eU_c (by decide)]
  · rw [fZ 4 8 (by decide) (by decide) (fun p _ => by omega), eU_c (by decide)]
  · rw [y7 f (by omega) (by omega) (by omega), fr2.2 f (by omega), fB 94 (by decide)]
  · rw [fZ 4 9 (by decide) (by decide) (fun p _ => by omega), eU_at, y6]
  · refine ⟨by rw [f0 5 (by decide)]; exact x1, y1, fun x hx => ?_, fun x hx => ?_, fun a b ha hb => ?_⟩
    · rw [f0 6 (by decide), (x2 x (by omega)).1, (y2 x (by omega)).1]
      exact ⟨rfl, K x, bK x, rfl⟩
    · rw [f0 7 (by decide), (x2 x (by omega)).2, (y2 x (by omega)).2]
      exact ⟨rfl, V x, bV x, rfl⟩
    · rw [f0 (9 + a) (by omega), x3 a (by omega) b (by omega), y3 a (by omega) b (by omega)]
      exact ⟨rfl, F a b, bF a b, rfl⟩
  · refine (a2 p hp9).cl (by rw [f0 _ (by omega)]; exact (x4 p hp9).2.2) (y5 p hp9).2.2 ?_ (f54 p 5 hp9 (by decide)) (f54 p 6 hp9 (by decide)) (by rw [fN 115 (by decide)]) (by rw [fN 116 (by decide)])
    rw [f54 p 3 hp9 (by decide), fN 117 (by decide)]
    exact (a2 p hp9).1
  · obtain ⟨u, v, g1, g2, g3, -⟩ := hl p hp9
    refine ⟨u, v, g1, g2, g3, LR.none ?_ (fun x hx => (y4 _ (by omega)).1) (y5 p hp9).1, LR.none ?_ (fun x hx => (y4 _ (by omega)).2) (y5 p hp9).2.1, fun _ => (y5 p hp9).2.1⟩
    · rw [f0 u (by omega)]
      rcases g1 with ⟨e1, -⟩ | ⟨e1, -⟩
      · rw [e1]; exact (x4 p hp9).1
      · rw [e1]; exact (x4 p hp9).2.1
    · rw [f0 v (by omega)]
      rcases g1 with ⟨-, e1⟩ | ⟨-, e1⟩
      · rw [e1]; exact (x4 p hp9).2.1
      · rw [e1]; exact (x4 p hp9).1
theorem pr_text {c n : Nat} {t : eT} {I : eI} {R : eR} {L : Nat} {xs : Nat → Int32} (h : Inv c n t I R L xs) (hc : c ≤ 511) {x l i v : Int32} : MC yX7_text cX7_text 7 (some .int) 999 0 0 [.ref 4, .int x, .int l, .int i, .int v] n t I R (qI (fun r n1 t1 I1 R1 => MID t1 I1 L xs ∧ MC yX8_text cX8_text 8 (some .int) 999 0 0 [.ref 94, .int x, .int l, .int i, .int v] n1 t1 I1 R1 (qI (fun r2 n2 t2 I2 R2 => r2 = r ∧ Inv (c + 1) n2 t2 I2 R2 L xs)))) := by
  obtain ⟨m, k, hv⟩ := h
  obtain ⟨hm4, hk4, hst, hfz, hg, hp, a1, a2, a3, a4, a5, hl, hs⟩ := id hv
  refine c_text 994 hst (IL.LY hl) hs.sh2 (fun h1A => ?_) (fun jA hjA eA h2A => ?_) (fun jA hjA eA lvA zA => ?_) (fun jA aA hjA eA lvA raA h4A => ?_) (fun jA aA caA laA hjA eA raA rcA tcaA eqA lvA hnA => ?_) (fun jA aA caA laA hjA eA raA rcA tcaA eqA lvA h0A h6A => ?_) (fun jA aA caA laA hjA eA raA rcA tcaA eqA lvA i0A v0A hbA eiA evA yA I2A hyA hs0A hs1A frA => ?_) (fun jA aA caA laA hjA eA raA rcA tcaA eqA lvA i0A v0A hbA eiA evA sA I2A hs0A h8A frA => ?_) (fun jA aA caA laA hjA eA raA rcA tcaA eqA lvA i0A v0A hbA eiA evA wA mmA KA VA FA I2A I3A hs0A h9A hm9A frA tcA => ?_)
  · have hF : ∀ a, 94 ≤ a → a < 128 → eU I 4 9 0 a = I a := fun a h8 h9 => by rw [eU_ne (by omega)]
    refine ⟨⟨hv.mid.1, by (repeat (first | rw [eU_ne (by omega)] | rw [eU_c (by omega)])); exact hv.mid.2.1, hv.mid.2.2⟩, c_textM 996 hst (fun j9 hj9 => by rw [hF 124 (by decide) (by decide)]; exact hs.sz j9 hj9) (fun h1B => ?_) (fun jB hjB eB h2B => ?_) (fun jB hjB eB lvB zB => ?_) (fun jB laB hjB eB lvB l6B zB h4B => ?_) (fun jB laB hjB eB l6B zB eqB lvB hnB => ?_) (fun jB laB hjB eB l6B zB eqB lvB h0B h6B => ?_) (fun jB laB hjB eB l6B zB eqB lvB i0B v0B hbB eiB evB yB I2B hyB hs0B hs1B frB => ?_) (fun jB laB hjB eB l6B zB eqB lvB i0B v0B hbB eiB evB sB I2B hs0B h8B frB => ?_) (fun jB laB hjB eB l6B zB eqB lvB i0B v0B hbB eiB evB wB mmB KB VB FB I2B I3B hs0B h9B hm9B frB tmB => ?_)⟩
    · exact ⟨rfl, m, k, hv.fr (by omega) (fun a9 ha9 => by (repeat (first | rw [eU_ne (by omega)] | rw [eU_c (by omega)]))) (by (repeat (first | rw [eU_ne (by omega)] | rw [eU_c (by omega)]))) (hg.flt (by (repeat (first | rw [eU_ne (by omega)] | rw [eU_c (by omega)]))) (by (repeat (first | rw [eU_ne (by omega)] | rw [eU_c (by omega)]))) (by (repeat (first | rw [eU_ne (by omega)] | rw [eU_c (by omega)]))) (fun f9 hf9 => by (repeat (first | rw [eU_ne (by omega)] | rw [eU_c (by omega)]))) rfl)⟩
    · exact absurd eB (h1A jB hjB)
    · exact absurd eB (h1A jB hjB)
    · exact absurd eB (h1A jB hjB)
    · exact absurd eB (h1A jB hjB)
    · exact absurd eB (h1A jB hjB)
    · exact absurd eB (h1A jB hjB)
    · exact absurd eB (h1A jB hjB)
    · exact absurd eB (h1A jB hjB)
  · have hF : ∀ a, 94 ≤ a → a < 128 → eU I 4 9 0 a = I a := fun a h8 h9 => by rw [eU_ne (by omega)]
    refine ⟨⟨hv.mid.1, by (repeat (first | rw [eU_ne (by omega)] | rw [eU_c (by omega)])); exact hv.mid.2.1, hv.mid.2.2⟩, c_textM 996 hst (fun j9 hj9 => by rw [hF 124 (by decide) (by decide)]; exact hs.sz j9 hj9) (fun h1B => ?_) (fun jB hjB eB h2B => ?_) (fun jB hjB eB lvB zB => ?_) (fun jB laB hjB eB lvB l6B zB h4B => ?_) (fun jB laB hjB eB l6B zB eqB lvB hnB => ?_) (fun jB laB hjB eB l6B zB eqB lvB h0B h6B => ?_) (fun jB laB hjB eB l6B zB eqB lvB i0B v0B hbB eiB evB yB I2B hyB hs0B hs1B frB => ?_) (fun jB laB hjB eB l6B zB eqB lvB i0B v0B hbB eiB evB sB I2B hs0B h8B frB => ?_) (fun jB laB hjB eB l6B zB eqB lvB i0B v0B hbB eiB evB wB mmB KB VB FB I2B I3B hs0B h9B hm9B frB tmB => ?_)⟩
    · exact absurd eA (h1B jA hjA)
    · exact ⟨rfl, m, k, hv.fr (by omega) (fun a9 ha9 => by (repeat (first | rw [eU_ne (by omega)] | rw [eU_c (by omega)]))) (by (repeat (first | rw [eU_ne (by omega)] | rw [eU_c (by omega)]))) (hg.flt (by (repeat (first | rw [eU_ne (by omega)] | rw [eU_c (by omega)]))) (by (repeat (first | rw [eU_ne (by omega)] | rw [eU_c (by omega)]))) (by (repeat (first | rw [eU_ne (by omega)] | rw [eU_c (by omega)]))) (fun f9 hf9 => by (repeat (first | rw [eU_ne (by omega)] | rw [eU_c (by omega)]))) rfl)⟩
    · exact absurd lvB h2A
    · exact absurd lvB h2A
    · exact absurd lvB h2A
    · exact absurd lvB h2A
    · exact absurd lvB h2A
    · exact absurd lvB h2A
    · exact absurd lvB h2A
  · have hF : ∀ a, 94 ≤ a → a < 128 → eU (eU I 4 9 0) 4 9 1 a = I a := fun a h8 h9 => by rw [eU_ne (by omega), eU_ne (by omega)]
    refine ⟨⟨hv.mid.1, by (repeat (first | rw [eU_ne (by omega)] | rw [eU_c (by omega)])); exact hv.mid.2.1, hv.mid.2.2⟩, c_textM 996 hst (fun j9 hj9 => by rw [hF 124 (by decide) (by decide)]; exact hs.sz j9 hj9) (fun h1B => ?_) (fun jB hjB eB h2B => ?_) (fun jB hjB eB lvB zB => ?_) (fun jB laB hjB eB lvB l6B zB h4B => ?_) (fun jB laB hjB eB l6B zB eqB lvB hnB => ?_) (fun jB laB hjB eB l6B zB eqB lvB h0B h6B => ?_) (fun jB laB hjB eB l6B zB eqB lvB i0B v0B hbB eiB evB yB I2B hyB hs0B hs1B frB => ?_) (fun jB laB hjB eB l6B zB eqB lvB i0B v0B hbB eiB evB sB I2B hs0B h8B frB => ?_) (fun jB laB hjB eB l6B zB eqB lvB i0B v0B hbB eiB evB wB mmB KB VB FB I2B I3B hs0B h9B hm9B frB tmB => ?_)⟩
    · exact absurd eA (h1B jA hjA)
    · exact absurd lvA h2B
    · exact ⟨rfl, m, k, hv.fr (by omega) (fun a9 ha9 => by (repeat (first | rw [eU_ne (by omega)] | rw [eU_c (by omega)]))) (by (repeat (first | rw [eU_ne (by omega)] | rw [eU_c (by omega)]))) (hg.flt (by (repeat (first | rw [eU_ne (by omega)] | rw [eU_c (by omega)]))) (by (repeat (first | rw [eU_ne (by omega)] | rw [eU_c (by omega)]))) (by (repeat (first | rw [eU_ne (by omega)] | rw [eU_c (by omega)]))) (fun f9 hf9 => by (repeat (first | rw [eU_ne (by omega)] | rw [eU_c (by omega)]))) rfl)⟩
    · exfalso
      obtain rfl := nI_j hjA hjB (by omega) eA eB
      rw [hF 124 (by decide) (by decide)] at zB
      exact nI_m1 laB (by omega) (zB.symm.trans (hs.no hjA zA))
    · exfalso
      obtain rfl := nI_j hjA hjB (by omega) eA eB
      rw [hF 124 (by decide) (by decide)] at zB
      exact nI_m1 laB (by omega) (zB.symm.trans (hs.no hjA zA))
    · exfalso
      obtain rfl := nI_j hjA hjB (by omega) eA eB
      rw [hF 124 (by decide) (by decide)] at zB
      exact nI_m1 laB (by omega) (zB.symm.trans (hs.no hjA zA))
    · exfalso
      obtain rfl := nI_j hjA hjB (by omega) eA eB
      rw [hF 124 (by decide) (by decide)] at zB
      exact nI_m1 laB (by omega) (zB.symm.trans (hs.no hjA zA))
    · exfalso
      obtain rfl := nI_j hjA hjB (by omega) eA eB
      rw [hF 124 (by decide) (by decide)] at zB
      exact nI_m1 laB (by omega) (zB.symm.trans (hs.no hjA zA))
    · exfalso
      obtain rfl := nI_j hjA hjB (by omega) eA eB
      rw [hF 124 (by decide) (by decide)] at zB
      exact nI_m1 laB (by omega) (zB.symm.trans (hs.no hjA zA))
  · have hF : ∀ a, 94 ≤ a → a < 128 → eU (eU I 4 9 0) 4 9 2 a = I a := fun a h8 h9 => by rw [eU_ne (by omega), eU_ne (by omega)]
    refine ⟨⟨hv.mid.1, by (repeat (first | rw [eU_ne (by omega)] | rw [eU_c (by omega)])); exact hv.mid.2.1, hv.mid.2.2⟩, c_textM 996 hst (fun j9 hj9 => by rw [hF 124 (by decide) (by decide)]; exact hs.sz j9 hj9) (fun h1B => ?_) (fun jB hjB eB h2B => ?_) (fun jB hjB eB lvB zB => ?_) (fun jB laB hjB eB lvB l6B zB h4B => ?_) (fun jB laB hjB eB l6B zB eqB lvB hnB => ?_) (fun jB laB hjB eB l6B zB eqB lvB h0B h6B => ?_) (fun jB laB hjB eB l6B zB eqB lvB i0B v0B hbB eiB evB yB I2B hyB hs0B hs1B frB => ?_) (fun jB laB hjB eB l6B zB eqB lvB i0B v0B hbB eiB evB sB I2B hs0B h8B frB => ?_) (fun jB laB hjB eB l6B zB eqB lvB i0B v0B hbB eiB evB wB mmB KB VB FB I2B I3B hs0B h9B hm9B frB tmB => ?_)⟩
    · exact absurd eA (h1B jA hjA)
    · exact absurd lvA h2B
    · exfalso
      obtain rfl := nI_j hjA hjB (by omega) eA eB
      rw [hF 124 (by decide) (by decide)] at zB
      rw [(hs.neg hjA).mp zB] at raA
      cases raA
    · exact ⟨rfl, m, k, hv.fr (by omega) (fun a9 ha9 => by (repeat (first | rw [eU_ne (by omega)] | rw [eU_c (by omega)]))) (by (repeat (first | rw [eU_ne (by omega)] | rw [eU_c (by omega)]))) (hg.flt (by (repeat (first | rw [eU_ne (by omega)] | rw [eU_c (by omega)]))) (by (repeat (first | rw [eU_ne (by omega)] | rw [eU_c (by omega)]))) (by (repeat (first | rw [eU_ne (by omega)] | rw [eU_c (by omega)]))) (fun f9 hf9 => by (repeat (first | rw [eU_ne (by omega)] | rw [eU_c (by omega)]))) rfl)⟩
    · exfalso
      obtain rfl := nI_j hjA hjB (by omega) eA eB
      rw [hF 125 (by decide) (by decide)] at eqB
      exact h4A ((hs.yes hjA raA).2.2.2.1.trans eqB)
    · exfalso
      obtain rfl := nI_j hjA hjB (by omega) eA eB
      rw [hF 125 (by decide) (by decide)] at eqB
      exact h4A ((hs.yes hjA raA).2.2.2.1.trans eqB)
    · exfalso
      obtain rfl := nI_j hjA hjB (by omega) eA eB
      rw [hF 125 (by decide) (by decide)] at eqB
      exact h4A ((hs.yes hjA raA).2.2.2.1.trans eqB)
    · exfalso
      obtain rfl := nI_j hjA hjB (by omega) eA eB
      rw [hF 125 (by decide) (by decide)] at eqB
      exact h4A ((hs.yes hjA raA).2.2.2.1.trans eqB)
    · exfalso
      obtain rfl := nI_j hjA hjB (by omega) eA eB
      rw [hF 125 (by decide) (by decide)] at eqB
      exact h4A ((hs.yes hjA raA).2.2.2.1.trans eqB)
  · have hF : ∀ a, 94 ≤ a → a < 128 → eU (eU I 4 9 0) 4 9 4 a = I a := fun a h8 h9 => by rw [eU_ne (by omega), eU_ne (by omega)]
    refine ⟨⟨hv.mid.1, by (repeat (first | rw [eU_ne (by omega)] | rw [eU_c (by omega)])); exact hv.mid.2.1, hv.mid.2.2⟩, c_textM 996 hst (fun j9 hj9 => by rw [hF 124 (by decide) (by decide)]; exact hs.sz j9 hj9) (fun h1B => ?_) (fun jB hjB eB h2B => ?_) (fun jB hjB eB lvB zB => ?_) (fun jB laB hjB eB lvB l6B zB h4B => ?_) (fun jB laB hjB eB l6B zB eqB lvB hnB => ?_) (fun jB laB hjB eB l6B zB eqB lvB h0B h6B => ?_) (fun jB laB hjB eB l6B zB eqB lvB i0B v0B hbB eiB evB yB I2B hyB hs0B hs1B frB => ?_) (fun jB laB hjB eB l6B zB eqB lvB i0B v0B hbB eiB evB sB I2B hs0B h8B frB => ?_) (fun jB laB hjB eB l6B zB eqB lvB i0B v0B hbB eiB evB wB mmB KB VB FB I2B I3B hs0B h9B hm9B frB tmB => ?_)⟩
    · exact absurd eA (h1B jA hjA)
    · exact absurd lvA h2B
    · exfalso
      obtain rfl := nI_j hjA hjB (by omega) eA eB
      rw [hF 124 (by decide) (by decide)] at zB
      rw [(hs.neg hjA).mp zB] at raA
      cases raA
    · exfalso
      obtain rfl := nI_j hjA hjB (by omega) eA eB
      rw [hF 125 (by decide) (by decide)] at h4B
      exact h4B ((hs.yes hjA raA).2.2.2.1.symm.trans eqA)
    · exact ⟨rfl, m, k, hv.fr (by omega) (fun a9 ha9 => by (repeat (first | rw [eU_ne (by omega)] | rw [eU_c (by omega)]))) (by (repeat (first | rw [eU_ne (by omega)] | rw [eU_c (by omega)]))) (hg.flt (by (repeat (first | rw [eU_ne (by omega)] | rw [eU_c (by omega)]))) (by (repeat (first | rw [eU_ne (by omega)] | rw [eU_c (by omega)]))) (by (repeat (first | rw [eU_ne (by omega)] | rw [eU_c (by omega)]))) (fun f9 hf9 => by (repeat (first | rw [eU_ne (by omega)] | rw [eU_c (by omega)]))) rfl)⟩
    · exfalso; omega
    · exfalso
      rw [evB, nI_toInt (by omega)] at hnA
      omega
    · exfalso
      rw [evB, nI_toInt (by omega)] at hnA
      omega
    · exfalso
      rw [evB, nI_toInt (by omega)] at hnA
      omega
  · have hF : ∀ a, 94 ≤ a → a < 128 → eU (eU I 4 9 0) 4 9 3 a = I a := fun a h8 h9 => by rw [eU_ne (by omega), eU_ne (by omega)]
    refine ⟨⟨hv.mid.1, by (repeat (first | rw [eU_ne (by omega)] | rw [eU_c (by omega)])); exact hv.mid.2.1, hv.mid.2.2⟩, c_textM 996 hst (fun j9 hj9 => by rw [hF 124 (by decide) (by decide)]; exact hs.sz j9 hj9) (fun h1B => ?_) (fun jB hjB eB h2B => ?_) (fun jB hjB eB lvB zB => ?_) (fun jB laB hjB eB lvB l6B zB h4B => ?_) (fun jB laB hjB eB l6B zB eqB lvB hnB => ?_) (fun jB laB hjB eB l6B zB eqB lvB h0B h6B => ?_) (fun jB laB hjB eB l6B zB eqB lvB i0B v0B hbB eiB evB yB I2B hyB hs0B hs1B frB => ?_) (fun jB laB hjB eB l6B zB eqB lvB i0B v0B hbB eiB evB sB I2B hs0B h8B frB => ?_) (fun jB laB hjB eB l6B zB eqB lvB i0B v0B hbB eiB evB wB mmB KB VB FB I2B I3B hs0B h9B hm9B frB tmB => ?_)⟩
    · exact absurd eA (h1B jA hjA)
    · exact absurd lvA h2B
    · exfalso
      obtain rfl := nI_j hjA hjB (by omega) eA eB
      rw [hF 124 (by decide) (by decide)] at zB
      rw [(hs.neg hjA).mp zB] at raA
      cases raA
    · exfalso
      obtain rfl := nI_j hjA hjB (by omega) eA eB
      rw [hF 125 (by decide) (by decide)] at h4B
      exact h4B ((hs.yes hjA raA).2.2.2.1.symm.trans eqA)
    · exfalso; omega
    · exact ⟨rfl, m, k, hv.fr (by omega) (fun a9 ha9 => by (repeat (first | rw [eU_ne (by omega)] | rw [eU_c (by omega)]))) (by (repeat (first | rw [eU_ne (by omega)] | rw [eU_c (by omega)]))) (hg.flt (by (repeat (first | rw [eU_ne (by omega)] | rw [eU_c (by omega)]))) (by (repeat (first | rw [eU_ne (by omega)] | rw [eU_c (by omega)]))) (by (repeat (first | rw [eU_ne (by omega)] | rw [eU_c (by omega)]))) (fun f9 hf9 => by (repeat (first | rw [eU_ne (by omega)] | rw [eU_c (by omega)]))) rfl)⟩
    · exfalso
      obtain rfl := nI_j hjA hjB (by omega) eA eB
      have yl := hs.yes2 hjA raA rcA tcaA
      rw [hF 124 (by decide) (by decide)] at zB
      obtain rfl : laA = laB := (nI_eq (by omega) (by omega)).mp (yl.2.2.2.1.symm.trans zB)
      exact h6A (by rw [eiB, evB, nI_toInt (by omega), nI_toInt (by omega)]; omega)
    · exfalso
      obtain rfl := nI_j hjA hjB (by omega) eA eB
      have yl := hs.yes2 hjA raA rcA tcaA
      rw [hF 124 (by decide) (by decide)] at zB
      obtain rfl : laA = laB := (nI_eq (by omega) (by omega)).mp (yl.2.2.2.1.symm.trans zB)
      exact h6A (by rw [eiB, evB, nI_toInt (by omega), nI_toInt (by omega)]; omega)
    · exfalso
      obtain rfl := nI_j hjA hjB (by omega) eA eB
      have yl := hs.yes2 hjA raA rcA tcaA
      rw [hF 124 (by decide) (by decide)] at zB
      obtain rfl : laA = laB := (nI_eq (by omega) (by omega)).mp (yl.2.2.2.1.symm.trans zB)
      exact h6A (by rw [eiB, evB, nI_toInt (by omega), nI_toInt (by omega)]; omega)
  · have hF : ∀ a, 94 ≤ a → a < 128 → I2A a = I a := fun a h8 h9 => by rw [frA a (by omega), eU_ne (by omega)]
    refine ⟨⟨hv.mid.1, by rw [frA 3 (by decide), eU_ne (by decide)]; exact hv.mid.2.1, hv.mid.2.2⟩, c_textM 996 hst (fun j9 hj9 => by rw [hF 124 (by decide) (by decide)]; exact hs.sz j9 hj9) (fun h1B => ?_) (fun jB hjB eB h2B => ?_) (fun jB hjB eB lvB zB => ?_) (fun jB laB hjB eB lvB l6B zB h4B => ?_) (fun jB laB hjB eB l6B zB eqB lvB hnB => ?_) (fun jB laB hjB eB l6B zB eqB lvB h0B h6B => ?_) (fun jB laB hjB eB l6B zB eqB lvB i0B v0B hbB eiB evB yB I2B hyB hs0B hs1B frB => ?_) (fun jB laB hjB eB l6B zB eqB lvB i0B v0B hbB eiB evB sB I2B hs0B h8B frB => ?_) (fun jB laB hjB eB l6B zB eqB lvB i0B v0B hbB eiB evB wB mmB KB VB FB I2B I3B hs0B h9B hm9B frB tmB => ?_)⟩
    · exact absurd eA (h1B jA hjA)
    · exact absurd lvA h2B
    · exfalso
      obtain rfl := nI_j hjA hjB (by omega) eA eB
      rw [hF 124 (by decide) (by decide)] at zB
      rw [(hs.neg hjA).mp zB] at raA
      cases raA
    · exfalso
      obtain rfl := nI_j hjA hjB (by omega) eA eB
      rw [hF 125 (by decide) (by decide)] at h4B
      exact h4B ((hs.yes hjA raA).2.2.2.1.symm.trans eqA)
    · exfalso
      obtain rfl := nI_j hjA hjB (by omega) eA eB
      have yl := hs.yes2 hjA raA rcA tcaA
      rw [hF 124 (by decide) (by decide)] at zB
      obtain rfl : laA = laB := (nI_eq (by omega) (by omega)).mp (yl.2.2.2.1.symm.trans zB)
      rw [evA, nI_toInt (by omega)] at hnB
      omega
    · exfalso
      obtain rfl := nI_j hjA hjB (by omega) eA eB
      have yl := hs.yes2 hjA raA rcA tcaA
      rw [hF 124 (by decide) (by decide)] at zB
      obtain rfl : laA = laB := (nI_eq (by omega) (by omega)).mp (yl.2.2.2.1.symm.trans zB)
      exact h6B (by rw [eiA, evA, nI_toInt (by omega), nI_toInt (by omega)]; omega)
    · obtain rfl := nI_j hjA hjB (by omega) eA eB
      have yl := hs.yes2 hjA raA rcA tcaA
      rw [hF 124 (by decide) (by decide)] at zB
      obtain rfl : laA = laB := (nI_eq (by omega) (by omega)).mp (yl.2.2.2.1.symm.trans zB)
      obtain rfl : i0A = i0B := nI_j (m := 61) (by omega) (by omega) (by omega) eiA eiB
      obtain rfl : v0A = v0B := nI_j (m := 61) (by omega) (by omega) (by omega) evA evB
      have hcd : ∀ r, r ≤ v0A → aft (fun z => I caA (i0A + z)) r = aft (fun z => I 126 (60 * jA + i0A + z)) r := fun r hr => aft_cg r (fun z hz => by
        show I caA (i0A + z) = I 126 (60 * jA + i0A + z)
        rw [yl.2.2.2.2 (i0A + z) (by omega), Nat.add_assoc])
      rw [hF 126 (by decide) (by decide)] at hs0B
      rw [hF 126 (by decide) (by decide)] at hs1B
      obtain ⟨s1, q1⟩ := hs0A
      obtain ⟨s2, q2⟩ := hs0B
      rw [hcd _ (by omega)] at q1 hs1A
      obtain rfl : yA = yB := by
        have r1 := aft_lt hs1A q2
        have r2 := aft_lt hs1B q1
        omega
      exact ⟨rfl, m, k, hv.fr (by omega) (fun a9 h9 => by rw [eU_ne (by omega), frB.1 a9 (by omega) (by omega) (by omega) (by omega), frA a9 (by omega), eU_ne (by omega)]) (by rw [eU_c (by decide), frB.2 1 (by decide), frA 94 (by decide), eU_ne (by decide)]) (hg.flt (by rw [eU_ne (by decide), frB.1 4 (by decide) (by decide) (by decide) (by decide), frA 4 (by decide), eU_c (by decide)]) (by rw [eU_ne (by decide), frB.1 4 (by decide) (by decide) (by decide) (by decide), frA 4 (by decide), eU_c (by decide)]) (by rw [eU_ne (by decide), frB.1 52 (by decide) (by decide) (by decide) (by decide), frA 52 (by decide), eU_ne (by decide)]) (fun f9 h9 => by rw [eU_c (by omega), frB.2 f9 (by omega), frA 94 (by decide), eU_ne (by decide)]) (by rw [eU_ne (show (4 : Nat) ≠ 94 by decide), frB.1 4 (by decide) (by decide) (by decide) (by decide), frA 4 (by decide), eU_at, eU_at]))⟩
    · exfalso
      obtain rfl := nI_j hjA hjB (by omega) eA eB
      have yl := hs.yes2 hjA raA rcA tcaA
      rw [hF 124 (by decide) (by decide)] at zB
      obtain rfl : laA = laB := (nI_eq (by omega) (by omega)).mp (yl.2.2.2.1.symm.trans zB)
      obtain rfl : i0A = i0B := nI_j (m := 61) (by omega) (by omega) (by omega) eiA eiB
      obtain rfl : v0A = v0B := nI_j (m := 61) (by omega) (by omega) (by omega) evA evB
      have hcd : ∀ r, r ≤ v0A → aft (fun z => I caA (i0A + z)) r = aft (fun z => I 126 (60 * jA + i0A + z)) r := fun r hr => aft_cg r (fun z hz => by
        show I caA (i0A + z) = I 126 (60 * jA + i0A + z)
        rw [yl.2.2.2.2 (i0A + z) (by omega), Nat.add_assoc])
      rw [hF 126 (by decide) (by decide)] at hs0B
      rw [hcd _ (by omega)] at hs1A
      have r1 := aft_lt hs1A hs0B
      omega
    · exfalso
      obtain rfl := nI_j hjA hjB (by omega) eA eB
      have yl := hs.yes2 hjA raA rcA tcaA
      rw [hF 124 (by decide) (by decide)] at zB
      obtain rfl : laA = laB := (nI_eq (by omega) (by omega)).mp (yl.2.2.2.1.symm.trans zB)
      obtain rfl : i0A = i0B := nI_j (m := 61) (by omega) (by omega) (by omega) eiA eiB
      obtain rfl : v0A = v0B := nI_j (m := 61) (by omega) (by omega) (by omega) evA evB
      have hcd : ∀ r, r ≤ v0A → aft (fun z => I caA (i0A + z)) r = aft (fun z => I 126 (60 * jA + i0A + z)) r := fun r hr => aft_cg r (fun z hz => by
        show I caA (i0A + z) = I 126 (60 * jA + i0A + z)
        rw [yl.2.2.2.2 (i0A + z) (by omega), Nat.add_assoc])
      rw [hF 126 (by decide) (by decide)] at hs0B
      rw [hcd _ (by omega)] at hs1A
      have r1 := aft_lt hs1A hs0B
      omega
  · have hF : ∀ a, 94 ≤ a → a < 128 → I2A a = I a := fun a h8 h9 => by rw [frA a (by omega), eU_ne (by omega)]
    refine ⟨⟨hv.mid.1, by rw [frA 3 (by decide), eU_ne (by decide)]; exact hv.mid.2.1, hv.mid.2.2⟩, c_textM 996 hst (fun j9 hj9 => by rw [hF 124 (by decide) (by decide)]; exact hs.sz j9 hj9) (fun h1B => ?_) (fun jB hjB eB h2B => ?_) (fun jB hjB eB lvB zB => ?_) (fun jB laB hjB eB lvB l6B zB h4B => ?_) (fun jB laB hjB eB l6B zB eqB lvB hnB => ?_) (fun jB laB hjB eB l6B zB eqB lvB h0B h6B => ?_) (fun jB laB hjB eB l6B zB eqB lvB i0B v0B hbB eiB evB yB I2B hyB hs0B hs1B frB => ?_) (fun jB laB hjB eB l6B zB eqB lvB i0B v0B hbB eiB evB sB I2B hs0B h8B frB => ?_) (fun jB laB hjB eB l6B zB eqB lvB i0B v0B hbB eiB evB wB mmB KB VB FB I2B I3B hs0B h9B hm9B frB tmB => ?_)⟩
    · exact absurd eA (h1B jA hjA)
    · exact absurd lvA h2B
    · exfalso
      obtain rfl := nI_j hjA hjB (by omega) eA eB
      rw [hF 124 (by decide) (by decide)] at zB
      rw [(hs.neg hjA).mp zB] at raA
      cases raA
    · exfalso
      obtain rfl := nI_j hjA hjB (by omega) eA eB
      rw [hF 125 (by decide) (by decide)] at h4B
      exact h4B ((hs.yes hjA raA).2.2.2.1.symm.trans eqA)
    · exfalso
      obtain rfl := nI_j hjA hjB (by omega) eA eB
      have yl := hs.yes2 hjA raA rcA tcaA
      rw [hF 124 (by decide) (by decide)] at zB
      obtain rfl : laA = laB := (nI_eq (by omega) (by omega)).mp (yl.2.2.2.1.symm.trans zB)
      rw [evA, nI_toInt (by omega)] at hnB
      omega
    · exfalso
      obtain rfl := nI_j hjA hjB (by omega) eA eB
      have yl := hs.yes2 hjA raA rcA tcaA
      rw [hF 124 (by decide) (by decide)] at zB
      obtain rfl : laA = laB := (nI_eq (by omega) (by omega)).mp (yl.2.2.2.1.symm.trans zB)
      exact h6B (by rw [eiA, evA, nI_toInt (by omega), nI_toInt (by omega)]; omega)
    · exfalso
      obtain rfl := nI_j hjA hjB (by omega) eA eB
      have yl := hs.yes2 hjA raA rcA tcaA
      rw [hF 124 (by decide) (by decide)] at zB
      obtain rfl : laA = laB := (nI_eq (by omega) (by omega)).mp (yl.2.2.2.1.symm.trans zB)
      obtain rfl : i0A = i0B := nI_j (m := 61) (by omega) (by omega) (by omega) eiA eiB
      obtain rfl : v0A = v0B := nI_j (m := 61) (by omega) (by omega) (by omega) evA evB
      have hcd : ∀ r, r ≤ v0A → aft (fun z => I caA (i0A + z)) r = aft (fun z => I 126 (60 * jA + i0A + z)) r := fun r hr => aft_cg r (fun z hz => by
        show I caA (i0A + z) = I 126 (60 * jA + i0A + z)
        rw [yl.2.2.2.2 (i0A + z) (by omega), Nat.add_assoc])
      rw [hF 126 (by decide) (by decide)] at hs0B
      rw [hF 126 (by decide) (by decide)] at hs1B
      rw [hcd _ (by omega)] at hs0A
      have r1 := aft_lt hs1B hs0A
      omega
    · obtain rfl := nI_j hjA hjB (by omega) eA eB
      have yl := hs.yes2 hjA raA rcA tcaA
      rw [hF 124 (by decide) (by decide)] at zB
      obtain rfl : laA = laB := (nI_eq (by omega) (by omega)).mp (yl.2.2.2.1.symm.trans zB)
      obtain rfl : i0A = i0B := nI_j (m := 61) (by omega) (by omega) (by omega) eiA eiB
      obtain rfl : v0A = v0B := nI_j (m := 61) (by omega) (by omega) (by omega) evA evB
      have hcd : ∀ r, r ≤ v0A → aft (fun z => I caA (i0A + z)) r = aft (fun z => I 126 (60 * jA + i0A + z)) r := fun r hr => aft_cg r (fun z hz => by
        show I caA (i0A + z) = I 126 (60 * jA + i0A + z)
        rw [yl.2.2.2.2 (i0A + z) (by omega), Nat.add_assoc])
      rw [hF 126 (by decide) (by decide)] at hs0B
      exact ⟨rfl, m, k, hv.fr (by omega) (fun a9 h9 => by rw [eU_ne (by omega), frB.1 a9 (by omega) (by omega) (by omega) (by omega), frA a9 (by omega), eU_ne (by omega)]) (by rw [eU_c (by decide), frB.2 1 (by decide), frA 94 (by decide), eU_ne (by decide)]) (hg.flt (by rw [eU_ne (by decide), frB.1 4 (by decide) (by decide) (by decide) (by decide), frA 4 (by decide), eU_c (by decide)]) (by rw [eU_ne (by decide), frB.1 4 (by decide) (by decide) (by decide) (by decide), frA 4 (by decide), eU_c (by decide)]) (by rw [eU_ne (by decide), frB.1 52 (by decide) (by decide) (by decide) (by decide), frA 52 (by decide), eU_ne (by decide)]) (fun f9 h9 => by rw [eU_c (by omega), frB.2 f9 (by omega), frA 94 (by decide), eU_ne (by decide)]) (by rw [eU_ne (show (4 : Nat) ≠ 94 by decide), frB.1 4 (by decide) (by decide) (by decide) (by decide), frA 4 (by decide), eU_at, eU_at]))⟩
    · exfalso
      obtain rfl := nI_j hjA hjB (by omega) eA eB
      have yl := hs.yes2 hjA raA rcA tcaA
      rw [hF 124 (by decide) (by decide)] at zB
      obtain rfl : laA = laB := (nI_eq (by omega) (by omega)).mp (yl.2.2.2.1.symm.trans zB)
      obtain rfl : i0A = i0B := nI_j (m := 61) (by omega) (by omega) (by omega) eiA eiB
      obtain rfl : v0A = v0B := nI_j (m := 61) (by omega) (by omega) (by omega) evA evB
      have hcd : ∀ r, r ≤ v0A → aft (fun z => I caA (i0A + z)) r = aft (fun z => I 126 (60 * jA + i0A + z)) r := fun r hr => aft_cg r (fun z hz => by
        show I caA (i0A + z) = I 126 (60 * jA + i0A + z)
        rw [yl.2.2.2.2 (i0A + z) (by omega), Nat.add_assoc])
      rw [hF 126 (by decide) (by decide)] at hs0B
      rw [hcd _ (by omega), hs0B] at hs0A
      obtain rfl := Option.some.inj hs0A
      exact h8A h9B
  · have hF : ∀ a, 94 ≤ a → a < 128 → I3A a = I a := fun a h8 h9 => by
      funext f
      rw [tcA.2.2.2.2 a f (by omega) (fun ⟨p, g⟩ => by
        obtain ⟨-, g2, g3⟩ := g
        omega), frA a (by omega), eU_ne (by omega)]
    refine ⟨⟨hv.mid.1, by rw [← hv.mid.2.1]; funext f; rw [tcA.2.2.2.2 3 f (by omega) (fun ⟨p, g⟩ => by obtain ⟨-, g2, g3⟩ := g; omega), frA 3 (by decide), eU_ne (by decide)], hv.mid.2.2⟩, c_textM 996 hst (fun j9 hj9 => by rw [hF 124 (by decide) (by decide)]; exact hs.sz j9 hj9) (fun h1B => ?_) (fun jB hjB eB h2B => ?_) (fun jB hjB eB lvB zB => ?_) (fun jB laB hjB eB lvB l6B zB h4B => ?_) (fun jB laB hjB eB l6B zB eqB lvB hnB => ?_) (fun jB laB hjB eB l6B zB eqB lvB h0B h6B => ?_) (fun jB laB hjB eB l6B zB eqB lvB i0B v0B hbB eiB evB yB I2B hyB hs0B hs1B frB => ?_) (fun jB laB hjB eB l6B zB eqB lvB i0B v0B hbB eiB evB sB I2B hs0B h8B frB => ?_) (fun jB laB hjB eB l6B zB eqB lvB i0B v0B hbB eiB evB wB mmB KB VB FB I2B I3B hs0B h9B hm9B frB tmB => ?_)⟩
    · exact absurd eA (h1B jA hjA)
    · exact absurd lvA h2B
    · exfalso
      obtain rfl := nI_j hjA hjB (by omega) eA eB
      rw [hF 124 (by decide) (by decide)] at zB
      rw [(hs.neg hjA).mp zB] at raA
      cases raA
    · exfalso
      obtain rfl := nI_j hjA hjB (by omega) eA eB
      rw [hF 125 (by decide) (by decide)] at h4B
      exact h4B ((hs.yes hjA raA).2.2.2.1.symm.trans eqA)
    · exfalso
      obtain rfl := nI_j hjA hjB (by omega) eA eB
      have yl := hs.yes2 hjA raA rcA tcaA
      rw [hF 124 (by decide) (by decide)] at zB
      obtain rfl : laA = laB := (nI_eq (by omega) (by omega)).mp (yl.2.2.2.1.symm.trans zB)
      rw [evA, nI_toInt (by omega)] at hnB
      omega
    · exfalso
      obtain rfl := nI_j hjA hjB (by omega) eA eB
      have yl := hs.yes2 hjA raA rcA tcaA
      rw [hF 124 (by decide) (by decide)] at zB
      obtain rfl : laA = laB := (nI_eq (by omega) (by omega)).mp (yl.2.2.2.1.symm.trans zB)
      exact h6B (by rw [eiA, evA, nI_toInt (by omega), nI_toInt (by omega)]; omega)
    · exfalso
      obtain rfl := nI_j hjA hjB (by omega) eA eB
      have yl := hs.yes2 hjA raA rcA tcaA
      rw [hF 124 (by decide) (by decide)] at zB
      obtain rfl : laA = laB := (nI_eq (by omega) (by omega)).mp (yl.2.2.2.1.symm.trans zB)
      obtain rfl : i0A = i0B := nI_j (m := 61) (by omega) (by omega) (by omega) eiA eiB
      obtain rfl : v0A = v0B := nI_j (m := 61) (by omega) (by omega) (by omega) evA evB
      have hcd : ∀ r, r ≤ v0A → aft (fun z => I caA (i0A + z)) r = aft (fun z => I 126 (60 * jA + i0A + z)) r := fun r hr => aft_cg r (fun z hz => by
        show I caA (i0A + z) = I 126 (60 * jA + i0A + z)
        rw [yl.2.2.2.2 (i0A + z) (by omega), Nat.add_assoc])
      rw [hF 126 (by decide) (by decide)] at hs0B
      rw [hF 126 (by decide) (by decide)] at hs1B
      rw [hcd _ (by omega)] at hs0A
      have r1 := aft_lt hs1B hs0A
      omega
    · exfalso
      obtain rfl := nI_j hjA hjB (by omega) eA eB
      have yl := hs.yes2 hjA raA rcA tcaA
      rw [hF 124 (by decide) (by decide)] at zB
      obtain rfl : laA = laB := (nI_eq (by omega) (by omega)).mp (yl.2.2.2.1.symm.trans zB)
      obtain rfl : i0A = i0B := nI_j (m := 61) (by omega) (by omega) (by omega) eiA eiB
      obtain rfl : v0A = v0B := nI_j (m := 61) (by omega) (by omega) (by omega) evA evB
      have hcd : ∀ r, r ≤ v0A → aft (fun z => I caA (i0A + z)) r = aft (fun z => I 126 (60 * jA + i0A + z)) r := fun r hr => aft_cg r (fun z hz => by
        show I caA (i0A + z) = I 126 (60 * jA + i0A + z)
        rw [yl.2.2.2.2 (i0A + z) (by omega), Nat.add_assoc])
      rw [hF 126 (by decide) (by decide)] at hs0B
      rw [hcd _ (by omega), hs0B] at hs0A
      obtain rfl := Option.some.inj hs0A
      exact h8B h9A
    · obtain rfl := nI_j hjA hjB (by omega) eA eB
      have yl := hs.yes2 hjA raA rcA tcaA
      rw [hF 124 (by decide) (by decide)] at zB
      obtain rfl : laA = laB := (nI_eq (by omega) (by omega)).mp (yl.2.2.2.1.symm.trans zB)
      obtain rfl : i0A = i0B := nI_j (m := 61) (by omega) (by omega) (by omega) eiA eiB
      obtain rfl : v0A = v0B := nI_j (m := 61) (by omega) (by omega) (by omega) evA evB
      have hcd : ∀ r, r ≤ v0A → aft (fun z => I caA (i0A + z)) r = aft (fun z => I 126 (60 * jA + i0A + z)) r := fun r hr => aft_cg r (fun z hz => by
        show I caA (i0A + z) = I 126 (60 * jA + i0A + z)
        rw [yl.2.2.2.2 (i0A + z) (by omega), Nat.add_assoc])
      rw [hF 126 (by decide) (by decide)] at hs0B
      have bb := aft_b _ _ hs0A
      rw [hcd _ (by omega), hs0B] at hs0A
      have q9 := Option.some.inj hs0A
      cases q9
      exact ⟨rfl, m, _, hv.text bb.2.1 bb.2.2.1 (fun a b => Nat.le_trans (bb.2.2.2.2.2.2 a b) (by omega)) (by assumption) frA tcA frB tmB⟩

