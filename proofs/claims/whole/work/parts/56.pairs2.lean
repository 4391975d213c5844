theorem per_or (m : Nat) (p : Int32) : (∃ j, j < m ∧ p = nI j) ∨ ∀ j, j < m → p ≠ nI j := by
  by_cases h : ∃ j, j < m ∧ p = nI j
  · exact Or.inl h
  · exact Or.inr (fun j hj e => h ⟨j, hj, e⟩)
theorem nI_s {v : Int32} {k a b : Nat} (hk : k ≤ 10) (ha : a < 2 ^ k) (hb : b < 2 ^ k) (e1 : v = nI a) (e2 : v = nI b) : a = b := by
  have := pow_b k hk
  exact (nI_eq (by omega) (by omega)).mp (e1.symm.trans e2)
theorem IG.fr {m : Nat} {I I2 : eI} (h : IG m I) (e4 : I2 4 = I 4) (e52 : I2 52 = I 52) (e94 : ∀ f, (f = 0 ∨ f = 9 ∨ f = 26 ∨ f = 27 ∨ f = 42) → I2 94 f = I 94 f) : IG m I2 := by
  unfold IG at *
  rw [e4, e52, e94 0 (by omega), e94 9 (by omega), e94 26 (by omega), e94 27 (by omega), e94 42 (by omega)]
  exact h
theorem IL.ly {k n : Nat} {t : eT} {I : eI} {R : eR} (hst : ST n t R) (h : ∀ p, p < 4 → IL k I R p) : ∀ j, j < 4 → ∃ u, R (54 + 10 * j) 1 = some u ∧ (t u).1 = 0 ∧ R u 1 = some (u + 1) ∧ t (u + 1) = (9, 10) := fun j hj => by
  obtain ⟨u, v, h1, h2, -⟩ := h j hj
  have e := UV.of hst hj (show u = 56 + 10 * j ∨ u = 58 + 10 * j by omega)
  exact ⟨u, h2, e.1, e.2.1, e.2.2.1⟩
theorem LR.emp {I : eI} {u rp rh p k : Nat} (h : LR I u rp rh p k) : I u 0 = 0 ↔ I rh p = 0 := by
  obtain ⟨la, -, -, -, -, h5⟩ := h
  rcases h5 with ⟨g1, g2, -⟩ | ⟨g1, g2, -⟩
  · exact ⟨fun _ => g2, fun _ => g1⟩
  · exact ⟨fun g => absurd g g1, fun g => by rw [g2] at g; exact absurd g (by decide)⟩
theorem price_eq {I : eI} {u j k : Nat} (hp : IP k I) (hk : k ≤ 10) (h : LR I u 106 104 j k) : addO (tC I u) k = addO (tM I j) k := by
  obtain ⟨la, h1, h2, -⟩ := h
  refine addO_congr k (fun b hb a ha => ?_)
  have fa := (hp.2.2.2.2 a b (by omega) hb).1
  have fb := (hp.2.2.2.2 b a hb (by omega)).1
  rcases h1 a (by omega) with ⟨e1, b1⟩ | ⟨pa, q1, e1, b1, e2⟩
  · have m1 : I 106 (10 * j + a) < 0 := by
      rcases h2 a (by omega) with ⟨-, e4⟩ | ⟨p2, -, e3, -⟩
      · rw [e4]; decide
      · rw [e1] at e3; cases e3
    show (if _ then _ else _) = (if _ then _ else _)
    rw [if_neg (fun g => b1 g.1), if_pos (Or.inr m1)]
  · rcases h1 b (by omega) with ⟨e5, b5⟩ | ⟨pb, q5, e5, b5, e6⟩
    · have m1 : I 106 (10 * j + b) < 0 := by
        rcases h2 b (by omega) with ⟨-, e4⟩ | ⟨p2, -, e3, -⟩
        · rw [e4]; decide
        · rw [e5] at e3; cases e3
      show (if _ then _ else _) = (if _ then _ else _)
      rw [if_neg (fun g => b5 g.2), if_pos (Or.inl m1)]
    · have ma : I 106 (10 * j + a) = nI pa := by
        rcases h2 a (by omega) with ⟨e3, -⟩ | ⟨p2, -, e3, e4⟩
        · rw [e1] at e3; cases e3
        · rw [e1] at e3; cases e3; exact e4
      have mb : I 106 (10 * j + b) = nI pb := by
        rcases h2 b (by omega) with ⟨e3, -⟩ | ⟨p2, -, e3, e4⟩
        · rw [e5] at e3; cases e3
        · rw [e5] at e3; cases e3; exact e4
      show (if _ then _ else _) = (if _ then _ else _)
      rw [if_pos ⟨b1, b5⟩, if_neg (fun g => by rw [ma, mb] at g; exact g.elim (nI_pos (by omega)) (nI_pos (by omega))), e2, e6, ma, mb, fa, fb, wy_c pa q1 pb q5, wy_m pb q5 pa q1, Int32.add_comm]
theorem wr_d : ∀ e, e < 3 → ∀ f, f < 3 → (if (0 : Int32) < nI e - nI f then 1 else 0) = (if cmpI (nI e) (nI f) = 1 then 1 else 0) ∧ (if nI e - nI f = 0 then 0 else 1) = (if cmpI (nI e) (nI f) = 1 then 1 else 0) + (if cmpI (nI e) (nI f) = -1 then 1 else 0) := by decide +kernel
theorem wr_eq {I : eI} {j lc : Nat} (h : ∀ i, i < lc → I (61 + 10 * j) i = I 120 (12 * j + i) ∧ ∃ e, e < 3 ∧ I 120 (12 * j + i) = nI e) : cO (tW I j) lc = cO (tP I j 1) lc ∧ cO (tA I j) lc = cO (tP I j 1) lc + cO (tP I j (-1)) lc := by
  constructor
  · refine cO_congr lc (fun x hx i hi => ?_)
    obtain ⟨e1, e, he, e2⟩ := h x hx
    obtain ⟨f1, f, hf, f2⟩ := h i (by omega)
    unfold tW tP
    rw [e1, f1, e2, f2]
    exact (wr_d e he f hf).1
  · refine cO_add lc (fun x hx i hi => ?_)
    obtain ⟨e1, e, he, e2⟩ := h x hx
    obtain ⟨f1, f, hf, f2⟩ := h i (by omega)
    unfold tA tP
    rw [e1, f1, e2, f2]
    exact (wr_d e he f hf).2
theorem od_eq {I : eI} {j tc : Nat} (htc : tc ≤ 10) (h : ∀ i, i < 10 → I (62 + 10 * j) i = I 122 (10 * j + i) ∧ -99 ≤ (I 122 (10 * j + i)).toInt ∧ (I 122 (10 * j + i)).toInt ≤ 99) : wA (I (62 + 10 * j)) tc 0 0 = cN (tS (fun i => I 122 (10 * j + i)) tc) (2 ^ tc) ∧ wA (I (62 + 10 * j)) tc 0 0 ≤ 1024 := by
  have e1 : wA (I (62 + 10 * j)) tc 0 0 = wA (fun i => I 122 (10 * j + i)) tc 0 0 := wA_congr tc 0 0 (fun i _ hi => (h i (by omega)).1)
  have e2 := odds_eq (row := fun i => I 122 (10 * j + i)) htc (fun i hi => (h i hi).2)
  have e3 := cN_b (T := tS (fun i => I 122 (10 * j + i)) tc) (2 ^ tc) (tS_1 _ _)
  have e4 := pow_b tc htc
  rw [e1, e2]
  exact ⟨rfl, by omega⟩
def wvI (I : eI) : Nat → Nat := fun y => (I 96 y).toNatClampNeg
def kvI (I : eI) : Nat → Nat := fun y => (I 95 y).toNatClampNeg
def fvI (k : Nat) (I : eI) : Nat → Nat → Nat := fun x y => if x < k ∧ y < k then (I 97 (10 * x + y)).toNatClampNeg else 0
theorem IP.w {k : Nat} {I : eI} (h : IP k I) : ∀ y, y < k → I 7 y = nI (wvI I y) ∧ I 96 y = nI (wvI I y) ∧ wvI I y ≤ 999 := fun y hy => by
  obtain ⟨e1, v, hv, e2⟩ := h.2.2.2.1 y hy
  have e3 : wvI I y = v := by unfold wvI; rw [e2]; exact nI_clamp (by omega)
  rw [e1, e2, e3]
  exact ⟨rfl, rfl, hv⟩
theorem IP.k {k : Nat} {I : eI} (h : IP k I) : ∀ y, y < k → I 6 y = nI (kvI I y) ∧ I 95 y = nI (kvI I y) ∧ kvI I y ≤ 2 := fun y hy => by
  obtain ⟨e1, v, hv, e2⟩ := h.2.2.1 y hy
  have e3 : kvI I y = v := by unfold kvI; rw [e2]; exact nI_clamp (by omega)
  rw [e1, e2, e3]
  exact ⟨rfl, rfl, hv⟩
theorem IP.f {k : Nat} {I : eI} (h : IP k I) : (∀ x y, x < k → y < k → I (9 + x) y = nI (fvI k I x y) ∧ I 97 (10 * x + y) = nI (fvI k I x y)) ∧ ∀ x y, fvI k I x y ≤ 99 := by
  have key : ∀ x y, x < k → y < k → ∃ v, v ≤ 99 ∧ I (9 + x) y = nI v ∧ I 97 (10 * x + y) = nI v ∧ fvI k I x y = v := fun x y hx hy => by
    obtain ⟨e1, v, hv, e2⟩ := h.2.2.2.2 x y hx hy
    refine ⟨v, hv, e1.trans e2, e2, ?_⟩
    unfold fvI
    rw [if_pos ⟨hx, hy⟩, e2]
    exact nI_clamp (by omega)
  constructor
  · intro x y hx hy
    obtain ⟨v, -, e1, e2, e3⟩ := key x y hx hy
    rw [e3]
    exact ⟨e1, e2⟩
  · intro x y
    by_cases g : x < k ∧ y < k
    · obtain ⟨v, hv, -, -, e3⟩ := key x y g.1 g.2
      rw [e3]; exact hv
    · unfold fvI
      rw [if_neg g]
      exact Nat.zero_le _
theorem pr_price {c n : Nat} {t : eT} {I : eI} {R : eR} {L : Nat} {xs : Nat → Int32} (h : Inv c n t I R L xs) (hc : c ≤ 511) {p : Int32} : MC yX7_price cX7_price 2 (some .int) 999 0 0 [.ref 4, .int p] n t I R (qI (fun r n1 t1 I1 R1 => MID t1 I1 L xs ∧ MC yX8_price cX8_price 2 (some .int) 999 0 0 [.ref 94, .int p] n1 t1 I1 R1 (qI (fun r2 n2 t2 I2 R2 => r2 = r ∧ Inv (c + 1) n2 t2 I2 R2 L xs)))) := by
  obtain ⟨m, k, hv⟩ := h
  obtain ⟨hm4, hk4, hst, hfz, hg, hp, a1, a2, a3, a4, a5, hl, hs⟩ := id hv
  refine c_price 996 hst hg.1 hm4 hp.1 hk4 (IL.ly hst hl) (fun h1A => ?_) (fun jA uA hjA eA ruA zA => ?_) (fun jA uA hjA eA ruA zA => ?_)
  · refine ⟨hv.mid, c_priceM 996 hst hg.2.1 hm4 hp.2.1 hk4 (fun h1B => ?_) (fun jB hjB eB zB => ?_) (fun jB hjB eB zB => ?_)⟩
    · exact ⟨rfl, m, k, hv.up (by omega)⟩
    · (exfalso; first | assumption | omega | grind)
    · (exfalso; first | assumption | omega | grind)
  · refine ⟨hv.mid, c_priceM 996 hst hg.2.1 hm4 hp.2.1 hk4 (fun h1B => ?_) (fun jB hjB eB zB => ?_) (fun jB hjB eB zB => ?_)⟩
    · (exfalso; first | assumption | omega | grind)
    · exact ⟨rfl, m, k, hv.up (by omega)⟩
    · obtain rfl := nI_j hjA hjB (by omega) eA eB
      obtain ⟨u9, v9, g1, g2, g3, g4, g5, g6⟩ := hl jA (show jA < 4 by omega)
      have eu : u9 = uA := Option.some.inj (g2.symm.trans ruA)
      subst eu
      exact absurd (g4.emp.mp zA) zB
  · refine ⟨hv.mid, c_priceM 996 hst hg.2.1 hm4 hp.2.1 hk4 (fun h1B => ?_) (fun jB hjB eB zB => ?_) (fun jB hjB eB zB => ?_)⟩
    · (exfalso; first | assumption | omega | grind)
    · obtain rfl := nI_j hjA hjB (by omega) eA eB
      obtain ⟨u9, v9, g1, g2, g3, g4, g5, g6⟩ := hl jA (show jA < 4 by omega)
      have eu : u9 = uA := Option.some.inj (g2.symm.trans ruA)
      subst eu
      exact absurd (g4.emp.mpr zB) zA
    · obtain rfl := nI_j hjA hjB (by omega) eA eB
      obtain ⟨u9, v9, g1, g2, g3, g4, g5, g6⟩ := hl jA (show jA < 4 by omega)
      have eu : u9 = uA := Option.some.inj (g2.symm.trans ruA)
      subst eu
      exact ⟨(price_eq hp hk4 g4).symm, m, k, hv.up (by omega)⟩

theorem pr_worse {c n : Nat} {t : eT} {I : eI} {R : eR} {L : Nat} {xs : Nat → Int32} (h : Inv c n t I R L xs) (hc : c ≤ 511) {p w : Int32} : MC yX7_worse cX7_worse 5 (some .long) 999 0 0 [.ref 4, .int p, .int w] n t I R (qL (fun r n1 t1 I1 R1 => MID t1 I1 L xs ∧ MC yX8_worse cX8_worse 10 (some .long) 999 0 0 [.ref 94, .int p, .int w] n1 t1 I1 R1 (qL (fun r2 n2 t2 I2 R2 => r2 = r ∧ Inv (c + 1) n2 t2 I2 R2 L xs)))) := by
  obtain ⟨m, k, hv⟩ := h
  obtain ⟨hm4, hk4, hst, hfz, hg, hp, a1, a2, a3, a4, a5, hl, hs⟩ := id hv
  rcases per_or m p with ⟨j, hj, rfl⟩ | hno
  · obtain ⟨lc, l1, l2, l3, l4, l5⟩ := a3 j (by omega)
    have hw9 := wr_eq l4
    refine c_worse 996 hst hg.1 hm4 hj l2 l1 (fun h2A => ?_) (fun h2A zA => ?_) (fun h2A zA => ?_)
    · refine ⟨hv.mid, c_worseM 997 hst hg.2.1 hm4 hj l3 l1 (fun h2B => ?_) (fun h2B zB => ?_) (fun h2B zB => ?_)⟩
      · exact ⟨rfl, m, k, hv.up (by omega)⟩
      · (exfalso; first | assumption | omega | grind)
      · (exfalso; first | assumption | omega | grind)
    · refine ⟨hv.mid, c_worseM 997 hst hg.2.1 hm4 hj l3 l1 (fun h2B => ?_) (fun h2B zB => ?_) (fun h2B zB => ?_)⟩
      · (exfalso; first | assumption | omega | grind)
      · exact ⟨rfl, m, k, hv.up (by omega)⟩
      · rw [hw9.2] at zB; omega
    · refine ⟨hv.mid, c_worseM 997 hst hg.2.1 hm4 hj l3 l1 (fun h2B => ?_) (fun h2B zB => ?_) (fun h2B zB => ?_)⟩
      · (exfalso; first | assumption | omega | grind)
      · rw [hw9.2] at zB; omega
      · exact ⟨by rw [hw9.1, hw9.2], m, k, hv.up (by omega)⟩
  · exact c_worseNo 997 hst hg.1 hm4 hno ⟨hv.mid, c_worseNoM 997 hst hg.2.1 hm4 hno ⟨rfl, m, k, hv.up (by omega)⟩⟩

theorem pr_odds {c n : Nat} {t : eT} {I : eI} {R : eR} {L : Nat} {xs : Nat → Int32} (h : Inv c n t I R L xs) (hc : c ≤ 511) {p w : Int32} : MC yX7_odds cX7_odds 5 (some .long) 999 0 0 [.ref 4, .int p, .int w] n t I R (qL (fun r n1 t1 I1 R1 => MID t1 I1 L xs ∧ MC yX8_odds cX8_odds 6 (some .long) 999 0 0 [.ref 94, .int p, .int w] n1 t1 I1 R1 (qL (fun r2 n2 t2 I2 R2 => r2 = r ∧ Inv (c + 1) n2 t2 I2 R2 L xs)))) := by
  obtain ⟨m, k, hv⟩ := h
  obtain ⟨hm4, hk4, hst, hfz, hg, hp, a1, a2, a3, a4, a5, hl, hs⟩ := id hv
  rcases per_or m p with ⟨j, hj, rfl⟩ | hno
  · obtain ⟨tc, l1, l2, l3, l4⟩ := a4 j (by omega)
    have hw9 := od_eq l1 l4
    refine c_odds 988 hst hg.1 hm4 hj l2 l1 hw9.2 (fun h2A => ?_) (fun h2A zA => ?_) (fun h2A zA => ?_)
    · refine ⟨hv.mid, c_oddsM 997 hst hg.2.1 hm4 hj l3 l1 (fun h2B => ?_) (fun h2B zB => ?_) (fun h2B zB => ?_)⟩
      · exact ⟨rfl, m, k, hv.up (by omega)⟩
      · (exfalso; first | assumption | omega | grind)
      · (exfalso; first | assumption | omega | grind)
    · refine ⟨hv.mid, c_oddsM 997 hst hg.2.1 hm4 hj l3 l1 (fun h2B => ?_) (fun h2B zB => ?_) (fun h2B zB => ?_)⟩
      · (exfalso; first | assumption | omega | grind)
      · exact ⟨rfl, m, k, hv.up (by omega)⟩
      · (exfalso; first | assumption | omega | grind)
    · refine ⟨hv.mid, c_oddsM 997 hst hg.2.1 hm4 hj l3 l1 (fun h2B => ?_) (fun h2B zB => ?_) (fun h2B zB => ?_)⟩
      · (exfalso; first | assumption | omega | grind)
      · (exfalso; first | assumption | omega | grind)
      · exact ⟨by rw [hw9.1], m, k, hv.up (by omega)⟩
  · exact c_oddsNo 997 hst hg.1 hm4 hno ⟨hv.mid, c_oddsNoM 997 hst hg.2.1 hm4 hno ⟨rfl, m, k, hv.up (by omega)⟩⟩

theorem pr_ways {c n : Nat} {t : eT} {I : eI} {R : eR} {L : Nat} {xs : Nat → Int32} (hI : Inv c n t I R L xs) (hc : c ≤ 511) {v h x : Int32} : MC yX7_ways cX7_ways 4 (some .int) 999 0 0 [.ref 4, .int v, .int h, .int x] n t I R (qI (fun r n1 t1 I1 R1 => MID t1 I1 L xs ∧ MC yX8_ways cX8_ways 6 (some .int) 999 0 0 [.ref 94, .int v, .int h, .int x] n1 t1 I1 R1 (qI (fun r2 n2 t2 I2 R2 => r2 = r ∧ Inv (c + 1) n2 t2 I2 R2 L xs)))) := by
  obtain ⟨m, k, hv⟩ := hI
  obtain ⟨hm4, hk4, hst, hfz, hg, hp, a1, a2, a3, a4, a5, hl, hs⟩ := id hv
  refine c_ways 996 hst hp.1 hk4 (wv := wvI I) (fun y hy => (hp.w y hy).2.2) (fun y hy => (hp.w y hy).1) (fun h1A => ?_) (fun smA h0A spA slA evA ehA b1A b2A n1A n2A => ?_) (fun smA h0A spA slA evA ehA b1A b2A exA I2A frA => ?_) (fun smA h0A spA slA evA ehA b1A b2A jA hjA exA I2A frA => ?_)
  · refine ⟨hv.mid, c_waysM 996 hst hp.2.1 hk4 (wv := wvI I) (fun y hy => (hp.w y hy).2.2) (fun y hy => (hp.w y hy).2.1) (fun h1B => ?_) (fun smB h0B spB slB evB ehB b1B b2B n1B n2B => ?_) (fun smB h0B spB slB evB ehB b1B b2B exB I2B frB => ?_) (fun smB h0B spB slB evB ehB b1B b2B jB hjB exB I2B frB => ?_)⟩
    · exact ⟨rfl, m, k, hv.up (by omega)⟩
    · (exfalso; exact h1A ⟨by rw [evB, nI_toInt (by have := pow_b k hk4; omega), show ((2 : Int) ^ k) = ((2 ^ k : Nat) : Int) from (Int.natCast_pow 2 k).symm]; omega, by rw [ehB, nI_toInt (by omega)]; omega⟩)
    · (exfalso; exact h1A ⟨by rw [evB, nI_toInt (by have := pow_b k hk4; omega), show ((2 : Int) ^ k) = ((2 ^ k : Nat) : Int) from (Int.natCast_pow 2 k).symm]; omega, by rw [ehB, nI_toInt (by omega)]; omega⟩)
    · (exfalso; exact h1A ⟨by rw [evB, nI_toInt (by have := pow_b k hk4; omega), show ((2 : Int) ^ k) = ((2 ^ k : Nat) : Int) from (Int.natCast_pow 2 k).symm]; omega, by rw [ehB, nI_toInt (by omega)]; omega⟩)
  · refine ⟨hv.mid, c_waysM 996 hst hp.2.1 hk4 (wv := wvI I) (fun y hy => (hp.w y hy).2.2) (fun y hy => (hp.w y hy).2.1) (fun h1B => ?_) (fun smB h0B spB slB evB ehB b1B b2B n1B n2B => ?_) (fun smB h0B spB slB evB ehB b1B b2B exB I2B frB => ?_) (fun smB h0B spB slB evB ehB b1B b2B jB hjB exB I2B frB => ?_)⟩
    · (exfalso; exact h1B ⟨by rw [evA, nI_toInt (by have := pow_b k hk4; omega), show ((2 : Int) ^ k) = ((2 ^ k : Nat) : Int) from (Int.natCast_pow 2 k).symm]; omega, by rw [ehA, nI_toInt (by omega)]; omega⟩)
    · exact ⟨rfl, m, k, hv.up (by omega)⟩
    · (exfalso; exact n2A exB)
    · (exfalso; exact n1A jB hjB exB)
  · refine ⟨⟨hv.mid.1, by rw [frA.1 3 (by decide) (by decide) (by decide) (by decide)]; exact hv.mid.2.1, hv.mid.2.2⟩, c_waysM 996 hst (show I2A 94 1 = nI k by rw [frA.1 94 (by decide) (by decide) (by decide) (by decide)]; exact hp.2.1) hk4 (wv := wvI I) (fun y hy => (hp.w y hy).2.2) (fun y hy => by rw [frA.1 96 (by decide) (by decide) (by decide) (by decide)]; exact (hp.w y hy).2.1) (fun h1B => ?_) (fun smB h0B spB slB evB ehB b1B b2B n1B n2B => ?_) (fun smB h0B spB slB evB ehB b1B b2B exB I2B frB => ?_) (fun smB h0B spB slB evB ehB b1B b2B jB hjB exB I2B frB => ?_)⟩
    · (exfalso; exact h1B ⟨by rw [evA, nI_toInt (by have := pow_b k hk4; omega), show ((2 : Int) ^ k) = ((2 ^ k : Nat) : Int) from (Int.natCast_pow 2 k).symm]; omega, by rw [ehA, nI_toInt (by omega)]; omega⟩)
    · (exfalso; exact n2B exA)
    · obtain rfl := nI_s hk4 slA slB evA evB
      obtain rfl := nI_j (m := 10) (by omega) (by omega) (by omega) ehA ehB
      exact ⟨rfl, m, k, hv.fr (by omega) (fun a ha => by rw [frB.1 a (by omega) (by omega) (by omega) (by omega), frA.1 a (by omega) (by omega) (by omega) (by omega)]) (by rw [frB.2 1 (by decide), frA.1 94 (by decide) (by decide) (by decide) (by decide)]) (hg.fr (by rw [frB.1 4 (by decide) (by decide) (by decide) (by decide), frA.1 4 (by decide) (by decide) (by decide) (by decide)]) (by rw [frB.1 52 (by decide) (by decide) (by decide) (by decide), frA.1 52 (by decide) (by decide) (by decide) (by decide)]) (fun f hff => by rw [frB.2 f (by omega), frA.1 94 (by decide) (by decide) (by decide) (by decide)]))⟩
    · (exfalso; rw [exA] at exB; exact nI_m1 jB (by omega) exB.symm)
  · refine ⟨⟨hv.mid.1, by rw [frA.1 3 (by decide) (by decide) (by decide) (by decide)]; exact hv.mid.2.1, hv.mid.2.2⟩, c_waysM 996 hst (show I2A 94 1 = nI k by rw [frA.1 94 (by decide) (by decide) (by decide) (by decide)]; exact hp.2.1) hk4 (wv := wvI I) (fun y hy => (hp.w y hy).2.2) (fun y hy => by rw [frA.1 96 (by decide) (by decide) (by decide) (by decide)]; exact (hp.w y hy).2.1) (fun h1B => ?_) (fun smB h0B spB slB evB ehB b1B b2B n1B n2B => ?_) (fun smB h0B spB slB evB ehB b1B b2B exB I2B frB => ?_) (fun smB h0B spB slB evB ehB b1B b2B jB hjB exB I2B frB => ?_)⟩
    · (exfalso; exact h1B ⟨by rw [evA, nI_toInt (by have := pow_b k hk4; omega), show ((2 : Int) ^ k) = ((2 ^ k : Nat) : Int) from (Int.natCast_pow 2 k).symm]; omega, by rw [ehA, nI_toInt (by omega)]; omega⟩)
    · (exfalso; exact n1B jA hjA exA)
    · (exfalso; rw [exB] at exA; exact nI_m1 jA (by omega) exA.symm)
    · obtain rfl := nI_s hk4 slA slB evA evB
      obtain rfl := nI_j (m := 10) (by omega) (by omega) (by omega) ehA ehB
      obtain rfl := nI_j hjA hjB (by omega) exA exB
      exact ⟨rfl, m, k, hv.fr (by omega) (fun a ha => by rw [frB.1 a (by omega) (by omega) (by omega) (by omega), frA.1 a (by omega) (by omega) (by omega) (by omega)]) (by rw [frB.2 1 (by decide), frA.1 94 (by decide) (by decide) (by decide) (by decide)]) (hg.fr (by rw [frB.1 4 (by decide) (by decide) (by decide) (by decide), frA.1 4 (by decide) (by decide) (by decide) (by decide)]) (by rw [frB.1 52 (by decide) (by decide) (by decide) (by decide), frA.1 52 (by decide) (by decide) (by decide) (by decide)]) (fun f hff => by rw [frB.2 f (by omega), frA.1 94 (by decide) (by decide) (by decide) (by decide)]))⟩

theorem pr_kept {c n : Nat} {t : eT} {I : eI} {R : eR} {L : Nat} {xs : Nat → Int32} (h : Inv c n t I R L xs) (hc : c ≤ 511) {p v w : Int32} : MC yX7_kept cX7_kept 7 (some .int) 999 0 0 [.ref 4, .int p, .int v, .int w] n t I R (qI (fun r n1 t1 I1 R1 => MID t1 I1 L xs ∧ MC yX8_kept cX8_kept 7 (some .int) 999 0 0 [.ref 94, .int p, .int v, .int w] n1 t1 I1 R1 (qI (fun r2 n2 t2 I2 R2 => r2 = r ∧ Inv (c + 1) n2 t2 I2 R2 L xs)))) := by
  obtain ⟨m, k, hv⟩ := h
  obtain ⟨hm4, hk4, hst, hfz, hg, hp, a1, a2, a3, a4, a5, hl, hs⟩ := id hv
  rcases per_or m p with ⟨j, hj, rfl⟩ | hno
  · obtain ⟨-, -, e3, hd, hd1, hd2⟩ := a1 j (by omega)
    refine c_kept 996 hst hg.1 hm4 hp.1 hk4 hj (wv := wvI I) (fun y hy => (hp.w y hy).2.2) (fun y hy => (hp.w y hy).1) (kv := kvI I) (fun y hy => ⟨(hp.k y hy).1, (hp.k y hy).2.2⟩) hd1 (e3.trans hd2) (fun h1A => ?_) (fun smA spA slA evA hwA I2A frA => ?_)
    · refine ⟨hv.mid, c_keptM 996 hst hg.2.1 hm4 hp.2.1 hk4 hj (wv := wvI I) (fun y hy => (hp.w y hy).2.2) (fun y hy => (hp.w y hy).2.1) (kv := kvI I) (fun y hy => (hp.k y hy).2) hd1 hd2 (fun h1B => ?_) (fun smB spB slB evB hwB I2B frB => ?_)⟩
      · exact ⟨rfl, m, k, hv.up (by omega)⟩
      · (exfalso; exact h1A ⟨by rw [evB, nI_toInt (by have := pow_b k hk4; omega), show ((2 : Int) ^ k) = ((2 ^ k : Nat) : Int) from (Int.natCast_pow 2 k).symm]; omega, hwB⟩)
    · refine ⟨⟨hv.mid.1, by rw [frA.1 3 (by decide) (by decide) (by decide) (by decide)]; exact hv.mid.2.1, hv.mid.2.2⟩, c_keptM 996 hst (show I2A 94 9 = nI m by rw [frA.1 94 (by decide) (by decide) (by decide) (by decide)]; exact hg.2.1) hm4 (show I2A 94 1 = nI k by rw [frA.1 94 (by decide) (by decide) (by decide) (by decide)]; exact hp.2.1) hk4 hj (wv := wvI I) (fun y hy => (hp.w y hy).2.2) (fun y hy => by rw [frA.1 96 (by decide) (by decide) (by decide) (by decide)]; exact (hp.w y hy).2.1) (kv := kvI I) (fun y hy => by rw [frA.1 95 (by decide) (by decide) (by decide) (by decide)]; exact (hp.k y hy).2) hd1 (by rw [frA.1 103 (by decide) (by decide) (by decide) (by decide)]; exact hd2) (fun h1B => ?_) (fun smB spB slB evB hwB I2B frB => ?_)⟩
      · (exfalso; exact h1B ⟨by rw [evA, nI_toInt (by have := pow_b k hk4; omega), show ((2 : Int) ^ k) = ((2 ^ k : Nat) : Int) from (Int.natCast_pow 2 k).symm]; omega, hwA⟩)
      · obtain rfl := nI_s hk4 slA slB evA evB
        exact ⟨rfl, m, k, hv.fr (by omega) (fun a ha => by rw [frB.1 a (by omega) (by omega) (by omega) (by omega), frA.1 a (by omega) (by omega) (by omega) (by omega)]) (by rw [frB.2 1 (by decide), frA.1 94 (by decide) (by decide) (by decide) (by decide)]) (hg.fr (by rw [frB.1 4 (by decide) (by decide) (by decide) (by decide), frA.1 4 (by decide) (by decide) (by decide) (by decide)]) (by rw [frB.1 52 (by decide) (by decide) (by decide) (by decide), frA.1 52 (by decide) (by decide) (by decide) (by decide)]) (fun f hff => by rw [frB.2 f (by omega), frA.1 94 (by decide) (by decide) (by decide) (by decide)]))⟩
  · exact c_keptNo 997 hst hg.1 hm4 hno ⟨hv.mid, c_keptNoM 997 hst hg.2.1 hm4 hno ⟨rfl, m, k, hv.up (by omega)⟩⟩

theorem pr_best {c n : Nat} {t : eT} {I : eI} {R : eR} {L : Nat} {xs : Nat → Int32} (h : Inv c n t I R L xs) (hc : c ≤ 511) {p v x : Int32} : MC yX7_best cX7_best 5 (some .int) 999 0 0 [.ref 4, .int p, .int v, .int x] n t I R (qI (fun r n1 t1 I1 R1 => MID t1 I1 L xs ∧ MC yX8_best cX8_best 6 (some .int) 999 0 0 [.ref 94, .int p, .int v, .int x] n1 t1 I1 R1 (qI (fun r2 n2 t2 I2 R2 => r2 = r ∧ Inv (c + 1) n2 t2 I2 R2 L xs)))) := by
  obtain ⟨m, k, hv⟩ := h
  obtain ⟨hm4, hk4, hst, hfz, hg, hp, a1, a2, a3, a4, a5, hl, hs⟩ := id hv
  rcases per_or m p with ⟨j, hj, rfl⟩ | hno
  · obtain ⟨⟨e1, w, w1, w2⟩, e2, e3, hd, hd1, hd2⟩ := a1 j (by omega)
    refine c_best 989 hst hg.1 hm4 hp.1 hk4 hj (fv := fvI k I) hp.f.2 w1 hd1 (fun x y hx hy => (hp.f.1 x y hx hy).1) (e1.trans w2) e2 (e3.trans hd2) hs.2.2 (fun n1A n2A => ?_) (fun hxA h2A => ?_) (fun hxA smA spA slA evA nfA => ?_) (fun exA smA spA slA evA fwA I2A frA => ?_) (fun iA hiA exA smA spA slA evA fwA I2A frA => ?_)
    · refine ⟨hv.mid, c_bestM 994 hst hg.2.1 hm4 hp.2.1 hk4 hj (fv := fvI k I) hp.f.2 w1 hd1 (fun x y hx hy => (hp.f.1 x y hx hy).2) w2 rfl hd2 (fun n1B n2B => ?_) (fun hxB h2B => ?_) (fun hxB smB spB slB evB nfB => ?_) (fun exB smB spB slB evB fwB I2B frB => ?_) (fun iB hiB exB smB spB slB evB fwB I2B frB => ?_)⟩
      · exact ⟨rfl, m, k, hv.up (by omega)⟩
      · (exfalso; exact hxB.elim (fun g => by obtain ⟨i9, hi9, e9⟩ := g; exact n1A i9 hi9 e9) n2A)
      · (exfalso; exact hxB.elim (fun g => by obtain ⟨i9, hi9, e9⟩ := g; exact n1A i9 hi9 e9) n2A)
      · (exfalso; exact n2A exB)
      · (exfalso; exact n1A iB hiB exB)
    · refine ⟨hv.mid, c_bestM 994 hst hg.2.1 hm4 hp.2.1 hk4 hj (fv := fvI k I) hp.f.2 w1 hd1 (fun x y hx hy => (hp.f.1 x y hx hy).2) w2 rfl hd2 (fun n1B n2B => ?_) (fun hxB h2B => ?_) (fun hxB smB spB slB evB nfB => ?_) (fun exB smB spB slB evB fwB I2B frB => ?_) (fun iB hiB exB smB spB slB evB fwB I2B frB => ?_)⟩
      · (exfalso; exact hxA.elim (fun g => by obtain ⟨i9, hi9, e9⟩ := g; exact n1B i9 hi9 e9) n2B)
      · exact ⟨rfl, m, k, hv.up (by omega)⟩
      · (exfalso; exact h2A ⟨by rw [evB, nI_toInt (by have := pow_b k hk4; omega)]; omega, by rw [evB, nI_toInt (by have := pow_b k hk4; omega), show ((2 : Int) ^ k) = ((2 ^ k : Nat) : Int) from (Int.natCast_pow 2 k).symm]; omega⟩)
      · (exfalso; exact h2A ⟨by rw [evB, nI_toInt (by have := pow_b k hk4; omega)]; omega, by rw [evB, nI_toInt (by have := pow_b k hk4; omega), show ((2 : Int) ^ k) = ((2 ^ k : Nat) : Int) from (Int.natCast_pow 2 k).symm]; omega⟩)
      · (exfalso; exact h2A ⟨by rw [evB, nI_toInt (by have := pow_b k hk4; omega)]; omega, by rw [evB, nI_toInt (by have := pow_b k hk4; omega), show ((2 : Int) ^ k) = ((2 ^ k : Nat) : Int) from (Int.natCast_pow 2 k).symm]; omega⟩)
    · refine ⟨hv.mid, c_bestM 994 hst hg.2.1 hm4 hp.2.1 hk4 hj (fv := fvI k I) hp.f.2 w1 hd1 (fun x y hx hy => (hp.f.1 x y hx hy).2) w2 rfl hd2 (fun n1B n2B => ?_) (fun hxB h2B => ?_) (fun hxB smB spB slB evB nfB => ?_) (fun exB smB spB slB evB fwB I2B frB => ?_) (fun iB hiB exB smB spB slB evB fwB I2B frB => ?_)⟩
      · (exfalso; exact hxA.elim (fun g => by obtain ⟨i9, hi9, e9⟩ := g; exact n1B i9 hi9 e9) n2B)
      · (exfalso; exact h2B ⟨by rw [evA, nI_toInt (by have := pow_b k hk4; omega)]; omega, by rw [evA, nI_toInt (by have := pow_b k hk4; omega), show ((2 : Int) ^ k) = ((2 ^ k : Nat) : Int) from (Int.natCast_pow 2 k).symm]; omega⟩)
      · exact ⟨rfl, m, k, hv.up (by omega)⟩
      · (obtain rfl := nI_s hk4 slA slB evA evB; exact absurd fwB nfA)
      · (obtain rfl := nI_s hk4 slA slB evA evB; exact absurd fwB nfA)
    · refine ⟨⟨hv.mid.1, by rw [frA 3 (by decide)]; exact hv.mid.2.1, hv.mid.2.2⟩, c_bestM 994 hst (show I2A 94 9 = nI m by rw [frA 94 (by decide)]; exact hg.2.1) hm4 (show I2A 94 1 = nI k by rw [frA 94 (by decide)]; exact hp.2.1) hk4 hj (fv := fvI k I) hp.f.2 w1 hd1 (fun x y hx hy => by rw [frA 97 (by decide)]; exact (hp.f.1 x y hx hy).2) (by rw [frA 101 (by decide)]; exact w2) (by rw [frA 102 (by decide)]) (by rw [frA 103 (by decide)]; exact hd2) (fun n1B n2B => ?_) (fun hxB h2B => ?_) (fun hxB smB spB slB evB nfB => ?_) (fun exB smB spB slB evB fwB I2B frB => ?_) (fun iB hiB exB smB spB slB evB fwB I2B frB => ?_)⟩
      · (exfalso; exact n2B exA)
      · (exfalso; exact h2B ⟨by rw [evA, nI_toInt (by have := pow_b k hk4; omega)]; omega, by rw [evA, nI_toInt (by have := pow_b k hk4; omega), show ((2 : Int) ^ k) = ((2 ^ k : Nat) : Int) from (Int.natCast_pow 2 k).symm]; omega⟩)
      · (obtain rfl := nI_s hk4 slA slB evA evB; exact absurd fwA nfB)
      · obtain rfl := nI_s hk4 slA slB evA evB
        exact ⟨rfl, m, k, hv.fr (by omega) (fun a ha => by rw [frB.1 a (by omega) (by omega) (by omega) (by omega), frA a (by omega)]) (by rw [frB.2 1 (by decide) (by decide), frA 94 (by decide)]) (hg.fr (by rw [frB.1 4 (by decide) (by decide) (by decide) (by decide), frA 4 (by decide)]) (by rw [frB.1 52 (by decide) (by decide) (by decide) (by decide), frA 52 (by decide)]) (fun f hff => by rw [frB.2 f (by omega) (by omega), frA 94 (by decide)]))⟩
      · (exfalso; rw [exA] at exB; exact nI_m1 iB (by omega) exB.symm)
    · refine ⟨⟨hv.mid.1, by rw [frA 3 (by decide)]; exact hv.mid.2.1, hv.mid.2.2⟩, c_bestM 994 hst (show I2A 94 9 = nI m by rw [frA 94 (by decide)]; exact hg.2.1) hm4 (show I2A 94 1 = nI k by rw [frA 94 (by decide)]; exact hp.2.1) hk4 hj (fv := fvI k I) hp.f.2 w1 hd1 (fun x y hx hy => by rw [frA 97 (by decide)]; exact (hp.f.1 x y hx hy).2) (by rw [frA 101 (by decide)]; exact w2) (by rw [frA 102 (by decide)]) (by rw [frA 103 (by decide)]; exact hd2) (fun n1B n2B => ?_) (fun hxB h2B => ?_) (fun hxB smB spB slB evB nfB => ?_) (fun exB smB spB slB evB fwB I2B frB => ?_) (fun iB hiB exB smB spB slB evB fwB I2B frB => ?_)⟩
      · (exfalso; exact n1B iA hiA exA)
      · (exfalso; exact h2B ⟨by rw [evA, nI_toInt (by have := pow_b k hk4; omega)]; omega, by rw [evA, nI_toInt (by have := pow_b k hk4; omega), show ((2 : Int) ^ k) = ((2 ^ k : Nat) : Int) from (Int.natCast_pow 2 k).symm]; omega⟩)
      · (obtain rfl := nI_s hk4 slA slB evA evB; exact absurd fwA nfB)
      · (exfalso; rw [exB] at exA; exact nI_m1 iA (by omega) exA.symm)
      · obtain rfl := nI_s hk4 slA slB evA evB
        obtain rfl := nI_j hiA hiB (by omega) exA exB
        exact ⟨rfl, m, k, hv.fr (by omega) (fun a ha => by rw [frB.1 a (by omega) (by omega) (by omega) (by omega), frA a (by omega)]) (by rw [frB.2 1 (by decide) (by decide), frA 94 (by decide)]) (hg.fr (by rw [frB.1 4 (by decide) (by decide) (by decide) (by decide), frA 4 (by decide)]) (by rw [frB.1 52 (by decide) (by decide) (by decide) (by decide), frA 52 (by decide)]) (fun f hff => by rw [frB.2 f (by omega) (by omega), frA 94 (by decide)]))⟩
  · exact c_bestNo 997 hst hg.1 hm4 hno ⟨hv.mid, c_bestNoM 997 hst hg.2.1 hm4 hno ⟨rfl, m, k, hv.up (by omega)⟩⟩

