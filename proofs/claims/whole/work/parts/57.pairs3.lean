theorem IVP.rp {c c2 m m2 k k2 n : Nat} {t : eT} {I I2 : eI} {R : eR} {L : Nat} {xs : Nat → Int32} (h : IVP c m k n t I R L xs) (_ : c ≤ c2) (q0 : ∀ a, a < 4 → I2 a = I a) (qG : IG m2 I2) (qP : IP k2 I2) (q1 : ∀ p, p < 4 → IA1 I2 p) (q2 : ∀ p, p < 4 → IA2 I2 p) (q3 : ∀ p, p < 4 → IA3 c2 I2 p) (q4 : ∀ p, p < 4 → IA4 I2 p) (q5 : ∀ p, p < 4 → IA5 I2 p) (qL : ∀ p, p < 4 → IL k2 I2 R p) (qS : IS n t I2 R) (hm : m2 ≤ 4 := by omega) (hk : k2 ≤ 10 := by omega) : IVP c2 m2 k2 n t I2 R L xs :=
  ⟨hm, hk, h.2.2.1, h.2.2.2.1.fr (fun _ _ => rfl) q0, qG, qP, q1, q2, q3, q4, q5, qL, qS⟩
theorem IP.wish {k j : Nat} {I : eI} {w : Int32} (h : IP k I) (hk : k ≤ 10) (h0 : 0 ≤ w.toInt) (h1 : w.toInt ≤ 999) : IP k (eU (eU I 7 j w) 96 j w) := by
  obtain ⟨v, hv, e⟩ := nat_of (m := 1000) h0 (by omega) (by decide)
  refine ⟨?_, ?_, fun x hx => ?_, fun x hx => ?_, fun a b ha hb => ?_⟩
  · rw [eU_ne (by decide), eU_ne (by decide)]; exact h.1
  · rw [eU_ne (by decide), eU_ne (by decide)]; exact h.2.1
  · repeat rw [eU_ne (by omega)]
    exact h.2.2.1 x hx
  · by_cases g : x = j
    · subst g
      rw [eU_ne (show (7 : Nat) ≠ 96 by decide), eU_at, eU_at]
      exact ⟨rfl, v, by omega, e⟩
    · repeat rw [eU_c g]
      exact h.2.2.2.1 x hx
  · repeat rw [eU_ne (by omega)]
    exact h.2.2.2.2 a b ha hb
theorem IP.follow {k x0 y0 : Nat} {I : eI} {w : Int32} (h : IP k I) (hk : k ≤ 10) (hx0 : x0 < k) (hy0 : y0 < k) (h0 : 0 ≤ w.toInt) (h1 : w.toInt ≤ 99) : IP k (eU (eU I (9 + x0) y0 w) 97 (10 * x0 + y0) w) := by
  obtain ⟨v, hv, e⟩ := nat_of (m := 100) h0 (by omega) (by decide)
  refine ⟨?_, ?_, fun x hx => ?_, fun x hx => ?_, fun a b ha hb => ?_⟩
  · rw [eU_ne (by omega), eU_ne (by omega)]; exact h.1
  · rw [eU_ne (by omega), eU_ne (by omega)]; exact h.2.1
  · repeat rw [eU_ne (by omega)]
    exact h.2.2.1 x hx
  · repeat rw [eU_ne (by omega)]
    exact h.2.2.2.1 x hx
  · by_cases g : a = x0 ∧ b = y0
    · obtain ⟨rfl, rfl⟩ := g
      rw [eU_ne (show 9 + a ≠ 97 by omega), eU_at, eU_at]
      exact ⟨rfl, v, by omega, e⟩
    · have e1 : eU (eU I (9 + x0) y0 w) 97 (10 * x0 + y0) w (9 + a) b = I (9 + a) b := by
        rw [eU_ne (by omega)]
        by_cases g2 : a = x0
        · exact eU_c (by omega)
        · exact eU_o (by omega)
      have e2 : eU (eU I (9 + x0) y0 w) 97 (10 * x0 + y0) w 97 (10 * a + b) = I 97 (10 * a + b) := by
        rw [eU_c (by omega), eU_ne (by omega)]
      rw [e1, e2]
      exact h.2.2.2.2 a b ha hb
theorem FZ.lo {t : eT} {I : eI} {L : Nat} {xs : Nat → Int32} (h : FZ t I L xs) : ∀ w, w < 3 → (I 0 w).toInt = loA w := fun w hw => by
  obtain ⟨-, -, -, -, e0, e1, e2, -⟩ := h
  rcases (show w = 0 ∨ w = 1 ∨ w = 2 by omega) with rfl | rfl | rfl
  · rw [e0]; rfl
  · rw [e1]; rfl
  · rw [e2]; rfl
theorem FZ.hi {t : eT} {I : eI} {L : Nat} {xs : Nat → Int32} (h : FZ t I L xs) : ∀ w, w < 3 → (I 1 w).toInt = hiA w := fun w hw => by
  obtain ⟨-, -, -, -, -, -, -, e0, e1, e2, -⟩ := h
  rcases (show w = 0 ∨ w = 1 ∨ w = 2 by omega) with rfl | rfl | rfl
  · rw [e0]; rfl
  · rw [e1]; rfl
  · rw [e2]; rfl
theorem FZ.hr {t : eT} {I : eI} {L : Nat} {xs : Nat → Int32} (h : FZ t I L xs) : ∀ w, w < 2 → (I 2 w).toInt = hiR w := fun w hw => by
  obtain ⟨-, -, -, -, -, -, -, -, -, -, e0, e1, -⟩ := h
  rcases (show w = 0 ∨ w = 1 by omega) with rfl | rfl
  · rw [e0]; rfl
  · rw [e1]; rfl
theorem IA1.can {I : eI} {p w : Nat} {v : Int32} (h : IA1 I p) (hw : w < 3) (h0 : loA w ≤ v.toInt) (h1 : v.toInt ≤ hiA w) : I (101 + w) p = I (55 + 10 * p) w ∧ (p < 4 → IA1 (eU (eU I (55 + 10 * p) w v) (101 + w) p v) p) := by
  obtain ⟨⟨b1, b2⟩, b3, b4, b5⟩ := h
  rcases (show w = 0 ∨ w = 1 ∨ w = 2 by omega) with rfl | rfl | rfl
  · obtain ⟨u, hu, e⟩ := nat_of (m := 3) h0 (by change v.toInt ≤ 2 at h1; omega) (by decide)
    refine ⟨b1.symm, fun hp => ?_⟩
    unfold IA1
    rw [eU_ne (show 55 + 10 * p ≠ 101 + 0 by omega), eU_at, eU_c (show (1 : Nat) ≠ 0 by decide), eU_c (show (2 : Nat) ≠ 0 by decide), show (101 + 0 : Nat) = 101 from rfl, eU_at, eU_ne (show (102 : Nat) ≠ 101 by decide), eU_ne (show (103 : Nat) ≠ 101 by decide), eU_ne (show 102 ≠ 55 + 10 * p by omega), eU_ne (show 103 ≠ 55 + 10 * p by omega)]
    exact ⟨⟨rfl, u, by omega, e⟩, b3, b4, b5⟩
  · refine ⟨b3.symm, fun hp => ?_⟩
    unfold IA1
    rw [eU_ne (show 55 + 10 * p ≠ 101 + 1 by omega), eU_at, eU_c (show (0 : Nat) ≠ 1 by decide), eU_c (show (2 : Nat) ≠ 1 by decide), show (101 + 1 : Nat) = 102 from rfl, eU_at, eU_ne (show (101 : Nat) ≠ 102 by decide), eU_ne (show (103 : Nat) ≠ 102 by decide), eU_ne (show 101 ≠ 55 + 10 * p by omega), eU_ne (show 103 ≠ 55 + 10 * p by omega)]
    exact ⟨⟨b1, b2⟩, rfl, b4, b5⟩
  · obtain ⟨u, hu, e⟩ := nat_of (x := v) (m := 11) (by change (1 : Int) ≤ v.toInt at h0; omega) (by change v.toInt ≤ 10 at h1; omega) (by decide)
    refine ⟨b4.symm, fun hp => ?_⟩
    unfold IA1
    rw [eU_ne (show 55 + 10 * p ≠ 101 + 2 by omega), eU_at, eU_c (show (0 : Nat) ≠ 2 by decide), eU_c (show (1 : Nat) ≠ 2 by decide), show (101 + 2 : Nat) = 103 from rfl, eU_at, eU_ne (show (101 : Nat) ≠ 103 by decide), eU_ne (show (102 : Nat) ≠ 103 by decide), eU_ne (show 101 ≠ 55 + 10 * p by omega), eU_ne (show 102 ≠ 55 + 10 * p by omega)]
    exact ⟨⟨b1, b2⟩, b3, rfl, u, by omega, e⟩
theorem IG.rule {m : Nat} {I : eI} {w : Nat} {v : Int32} (h : IG m I) (hw : w < 2) (h0 : 0 ≤ v.toInt) (h1 : v.toInt ≤ hiR w) : I 94 (26 + w) = I 52 w ∧ IG m (eU (eU I 52 w v) 94 (26 + w) v) := by
  obtain ⟨b1, b2, b3, b4, b5, b6, b7⟩ := h
  rcases (show w = 0 ∨ w = 1 by omega) with rfl | rfl
  · obtain ⟨u, hu, e⟩ := nat_of (m := 11) h0 (by change v.toInt ≤ 10 at h1; omega) (by decide)
    exact ⟨b3.symm, b1, b2, rfl, ⟨u, by omega, e⟩, b5, b6, b7⟩
  · exact ⟨b5.symm, b1, b2, b3, b4, rfl, b6, b7⟩
theorem IG.flt {m : Nat} {I I2 : eI} (h : IG m I) (e1 : I2 4 3 = I 4 3) (e2 : I2 4 8 = I 4 8) (e52 : I2 52 = I 52) (e94 : ∀ f, (f = 9 ∨ f = 26 ∨ f = 27 ∨ f = 42) → I2 94 f = I 94 f) (e3 : I2 4 9 = I2 94 0) : IG m I2 := by
  unfold IG at *
  rw [e1, e2, e52, e3, e94 9 (by omega), e94 26 (by omega), e94 27 (by omega), e94 42 (by omega)]
  exact ⟨h.1, h.2.1, h.2.2.1, h.2.2.2.1, h.2.2.2.2.1, h.2.2.2.2.2.1, rfl⟩
theorem IA4.c {I : eI} {p : Nat} (h : IA4 I p) : I (54 + 10 * p) 11 = nI (I 121 p).toNatClampNeg ∧ I 121 p = nI (I 121 p).toNatClampNeg ∧ (I 121 p).toNatClampNeg ≤ 10 := by
  obtain ⟨tc, h1, h2, h3, -⟩ := h
  rw [h2, h3, nI_clamp (by omega)]
  exact ⟨rfl, rfl, h1⟩
theorem IA4.trial {I : eI} {p c : Nat} {x : Int32} (h : IA4 I p) (hp : p < 4) (hc : I 121 p = nI c) (hc2 : c < 10) (h0 : -99 ≤ x.toInt) (h1 : x.toInt ≤ 99) : IA4 (eU (eU (eU (eU I (62 + 10 * p) c x) (54 + 10 * p) 11 (nI (c + 1))) 122 (10 * p + c) x) 121 p (nI (c + 1))) p := by
  obtain ⟨tc, t1, t2, t3, t4⟩ := h
  refine ⟨c + 1, by omega, ?_, ?_, fun i hi => ?_⟩
  · rw [eU_ne (by omega), eU_ne (by omega), eU_at]
  · rw [eU_at]
  · rw [eU_ne (show 62 + 10 * p ≠ 121 by omega), eU_ne (show 62 + 10 * p ≠ 122 by omega), eU_ne (show 62 + 10 * p ≠ 54 + 10 * p by omega), eU_ne (show 122 ≠ 121 by omega)]
    by_cases g : i = c
    · subst g
      rw [eU_at, eU_at]
      exact ⟨rfl, h0, h1⟩
    · rw [eU_c g, eU_c (show 10 * p + i ≠ 10 * p + c by omega), eU_ne (show 122 ≠ 54 + 10 * p by omega), eU_ne (show 122 ≠ 62 + 10 * p by omega)]
      exact t4 i hi
theorem sub_b {x w : Int32} (h : 0 ≤ x.toInt ∧ x.toInt ≤ 99 ∧ 0 ≤ w.toInt ∧ w.toInt ≤ 99) : -99 ≤ (x - w).toInt ∧ (x - w).toInt ≤ 99 := by
  have e : (x - w).toInt = x.toInt - w.toInt := by
    rw [Int32.toInt_sub]
    rw [Int.bmod_def]
    omega
  omega
theorem IA5.leave {I : eI} {p q e : Nat} {w wm : Int32} (h : IA5 I p) (hp : p < 4) (hq : q < 4) (he : e < 2) (hw : (w = -1 ∧ wm = -9) ∨ (w = wm ∧ 0 ≤ wm.toInt)) : IA5 (eU (eU I (63 + 10 * p) (e * 4 + q) w) 123 (8 * p + 2 * q + e) wm) p := by
  intro q2 e2 hq2 he2
  by_cases g : q2 = q ∧ e2 = e
  · obtain ⟨rfl, rfl⟩ := g
    rw [eU_ne (show 63 + 10 * p ≠ 123 by omega), eU_at, eU_at]
    exact hw
  · rw [eU_ne (show 63 + 10 * p ≠ 123 by omega), eU_c (show e2 * 4 + q2 ≠ e * 4 + q by omega), eU_c (show 8 * p + 2 * q2 + e2 ≠ 8 * p + 2 * q + e by omega), eU_ne (show 123 ≠ 63 + 10 * p by omega)]
    exact h q2 e2 hq2 he2
theorem neg_m1 {w : Int32} (h0 : -1 ≤ w.toInt) (h : w < 0) : w = -1 := by
  rw [i_lt, i0] at h
  apply Int32.toInt_inj.mp
  rw [im1]
  omega
theorem nneg {w : Int32} (h : ¬ w < 0) : 0 ≤ w.toInt := by
  rw [i_lt, i0] at h
  omega
theorem pr_wish {c n : Nat} {t : eT} {I : eI} {R : eR} {L : Nat} {xs : Nat → Int32} (h : Inv c n t I R L xs) (hc : c ≤ 511) {x w : Int32} : MC yX7_wish cX7_wish 4 (some .int) 999 0 0 [.ref 4, .int x, .int w] n t I R (qI (fun r n1 t1 I1 R1 => MID t1 I1 L xs ∧ MC yX8_wish cX8_wish 4 (some .int) 999 0 0 [.ref 94, .int x, .int w] n1 t1 I1 R1 (qI (fun r2 n2 t2 I2 R2 => r2 = r ∧ Inv (c + 1) n2 t2 I2 R2 L xs)))) := by
  obtain ⟨m, k, hv⟩ := h
  obtain ⟨hm4, hk4, hst, hfz, hg, hp, a1, a2, a3, a4, a5, hl, hs⟩ := id hv
  refine c_wish 997 hst hp.1 hk4 (fun h1A => ?_) (fun jA hjA eA h2A => ?_) (fun jA hjA eA w1A w2A => ?_)
  · refine ⟨hv.mid, c_wishM 997 hst hp.2.1 hk4 (fun h1B => ?_) (fun jB hjB eB h2B => ?_) (fun jB hjB eB w1B w2B => ?_)⟩
    · exact ⟨rfl, m, k, hv.up (by omega)⟩
    · (exfalso; first | assumption | omega | grind)
    · (exfalso; first | assumption | omega | grind)
  · refine ⟨hv.mid, c_wishM 997 hst hp.2.1 hk4 (fun h1B => ?_) (fun jB hjB eB h2B => ?_) (fun jB hjB eB w1B w2B => ?_)⟩
    · (exfalso; first | assumption | omega | grind)
    · exact ⟨rfl, m, k, hv.up (by omega)⟩
    · (exfalso; first | assumption | omega | grind)
  · refine ⟨⟨hv.mid.1, by (repeat (first | rw [eU_ne (by omega)] | rw [eU_c (by omega)])); exact hv.mid.2.1, hv.mid.2.2⟩, c_wishM 997 hst (by (repeat (first | rw [eU_ne (by omega)] | rw [eU_c (by omega)])); exact hp.2.1) hk4 (fun h1B => ?_) (fun jB hjB eB h2B => ?_) (fun jB hjB eB w1B w2B => ?_)⟩
    · (exfalso; first | assumption | omega | grind)
    · (exfalso; first | assumption | omega | grind)
    · obtain rfl := nI_j hjA hjB (by omega) eA eB
      exact ⟨by (repeat (first | rw [eU_ne (by omega)] | rw [eU_c (by omega)])); exact (hp.2.2.2.1 _ hjA).1.symm, m, k, hv.rp (by omega) (fun a9 ha9 => by (repeat (first | rw [eU_ne (by omega)] | rw [eU_c (by omega)]))) (hg.fr (by (repeat (first | rw [eU_ne (by omega)] | rw [eU_c (by omega)]))) (by (repeat (first | rw [eU_ne (by omega)] | rw [eU_c (by omega)]))) (fun f9 hf9 => by (repeat (first | rw [eU_ne (by omega)] | rw [eU_c (by omega)])))) (hp.wish hk4 w1A w2A) (fun p9 hp9 => (a1 p9 hp9).fr (by (repeat (first | rw [eU_ne (by omega)] | rw [eU_c (by omega)]))) (by (repeat (first | rw [eU_ne (by omega)] | rw [eU_c (by omega)]))) (by (repeat (first | rw [eU_ne (by omega)] | rw [eU_c (by omega)]))) (by (repeat (first | rw [eU_ne (by omega)] | rw [eU_c (by omega)])))) (fun p9 hp9 => (a2 p9 hp9).fr (fun f9 hf9 => by (repeat (first | rw [eU_ne (by omega)] | rw [eU_c (by omega)]))) (fun a9 ha9 hb9 => by (repeat (first | rw [eU_ne (by omega)] | rw [eU_c (by omega)])))) (fun p9 hp9 => (a3 p9 hp9).fr (by omega) (by (repeat (first | rw [eU_ne (by omega)] | rw [eU_c (by omega)]))) (by (repeat (first | rw [eU_ne (by omega)] | rw [eU_c (by omega)]))) (by (repeat (first | rw [eU_ne (by omega)] | rw [eU_c (by omega)]))) (fun e9 _ => by (repeat (first | rw [eU_ne (by omega)] | rw [eU_c (by omega)]))) (by (repeat (first | rw [eU_ne (by omega)] | rw [eU_c (by omega)]))) (fun i9 _ => by (repeat (first | rw [eU_ne (by omega)] | rw [eU_c (by omega)])))) (fun p9 hp9 => (a4 p9 hp9).fr (by (repeat (first | rw [eU_ne (by omega)] | rw [eU_c (by omega)]))) (by (repeat (first | rw [eU_ne (by omega)] | rw [eU_c (by omega)]))) (by (repeat (first | rw [eU_ne (by omega)] | rw [eU_c (by omega)]))) (fun i9 _ => by (repeat (first | rw [eU_ne (by omega)] | rw [eU_c (by omega)])))) (fun p9 hp9 => (a5 p9 hp9).fr hp9 (by (repeat (first | rw [eU_ne (by omega)] | rw [eU_c (by omega)]))) (fun i9 _ => by (repeat (first | rw [eU_ne (by omega)] | rw [eU_c (by omega)])))) (fun p9 hp9 => (hl p9 hp9).fr (fun a9 ha9 => ⟨by (repeat (first | rw [eU_ne (by omega)] | rw [eU_c (by omega)])), fun x9 _ => by (repeat (first | rw [eU_ne (by omega)] | rw [eU_c (by omega)]))⟩) (fun x9 _ => ⟨by (repeat (first | rw [eU_ne (by omega)] | rw [eU_c (by omega)])), by (repeat (first | rw [eU_ne (by omega)] | rw [eU_c (by omega)]))⟩) (by (repeat (first | rw [eU_ne (by omega)] | rw [eU_c (by omega)]))) (by (repeat (first | rw [eU_ne (by omega)] | rw [eU_c (by omega)]))) (fun _ => rfl)) (hs.fr (fun a9 ha9 => by (repeat (first | rw [eU_ne (by omega)] | rw [eU_c (by omega)]))) (fun a9 ha9 hb9 => by (repeat (first | rw [eU_ne (by omega)] | rw [eU_c (by omega)]))) (fun _ _ _ => rfl))⟩

theorem pr_follow {c n : Nat} {t : eT} {I : eI} {R : eR} {L : Nat} {xs : Nat → Int32} (h : Inv c n t I R L xs) (hc : c ≤ 511) {x y w : Int32} : MC yX7_follow cX7_follow 5 (some .int) 999 0 0 [.ref 4, .int x, .int y, .int w] n t I R (qI (fun r n1 t1 I1 R1 => MID t1 I1 L xs ∧ MC yX8_follow cX8_follow 5 (some .int) 999 0 0 [.ref 94, .int x, .int y, .int w] n1 t1 I1 R1 (qI (fun r2 n2 t2 I2 R2 => r2 = r ∧ Inv (c + 1) n2 t2 I2 R2 L xs)))) := by
  obtain ⟨m, k, hv⟩ := h
  obtain ⟨hm4, hk4, hst, hfz, hg, hp, a1, a2, a3, a4, a5, hl, hs⟩ := id hv
  refine c_follow 997 hst hp.1 hk4 (fun h1A => ?_) (fun h1A => ?_) (fun aA bA haA hbA exA eyA h2A => ?_) (fun aA bA haA hbA neA exA eyA w1A w2A => ?_)
  · refine ⟨hv.mid, c_followM 997 hst hp.2.1 hk4 (fun h1B => ?_) (fun h1B => ?_) (fun aB bB haB hbB exB eyB h2B => ?_) (fun aB bB haB hbB neB exB eyB w1B w2B => ?_)⟩
    · exact ⟨rfl, m, k, hv.up (by omega)⟩
    · exact ⟨rfl, m, k, hv.up (by omega)⟩
    · (exfalso; first | assumption | omega | grind)
    · (exfalso; first | assumption | omega | grind)
  · refine ⟨hv.mid, c_followM 997 hst hp.2.1 hk4 (fun h1B => ?_) (fun h1B => ?_) (fun aB bB haB hbB exB eyB h2B => ?_) (fun aB bB haB hbB neB exB eyB w1B w2B => ?_)⟩
    · exact ⟨rfl, m, k, hv.up (by omega)⟩
    · exact ⟨rfl, m, k, hv.up (by omega)⟩
    · (exfalso; first | assumption | omega | grind)
    · (exfalso; first | assumption | omega | grind)
  · refine ⟨hv.mid, c_followM 997 hst hp.2.1 hk4 (fun h1B => ?_) (fun h1B => ?_) (fun aB bB haB hbB exB eyB h2B => ?_) (fun aB bB haB hbB neB exB eyB w1B w2B => ?_)⟩
    · (exfalso; first | assumption | omega | grind)
    · (exfalso; first | assumption | omega | grind)
    · exact ⟨rfl, m, k, hv.up (by omega)⟩
    · (exfalso; obtain rfl := nI_j haA haB (by omega) exA exB; obtain rfl := nI_j hbA hbB (by omega) eyA eyB; exact h2A ⟨w1B, w2B, neB⟩)
  · refine ⟨⟨hv.mid.1, by (repeat (first | rw [eU_ne (by omega)] | rw [eU_c (by omega)])); exact hv.mid.2.1, hv.mid.2.2⟩, c_followM 997 hst (by (repeat (first | rw [eU_ne (by omega)] | rw [eU_c (by omega)])); exact hp.2.1) hk4 (fun h1B => ?_) (fun h1B => ?_) (fun aB bB haB hbB exB eyB h2B => ?_) (fun aB bB haB hbB neB exB eyB w1B w2B => ?_)⟩
    · (exfalso; first | assumption | omega | grind)
    · (exfalso; first | assumption | omega | grind)
    · (exfalso; obtain rfl := nI_j haA haB (by omega) exA exB; obtain rfl := nI_j hbA hbB (by omega) eyA eyB; exact h2B ⟨w1A, w2A, neA⟩)
    · obtain rfl := nI_j haA haB (by omega) exA exB
      obtain rfl := nI_j hbA hbB (by omega) eyA eyB
      exact ⟨by (repeat (first | rw [eU_ne (by omega)] | rw [eU_c (by omega)])); exact (hp.2.2.2.2 _ _ haA hbA).1.symm, m, k, hv.rp (by omega) (fun a9 ha9 => by (repeat (first | rw [eU_ne (by omega)] | rw [eU_c (by omega)]))) (hg.fr (by (repeat (first | rw [eU_ne (by omega)] | rw [eU_c (by omega)]))) (by (repeat (first | rw [eU_ne (by omega)] | rw [eU_c (by omega)]))) (fun f9 hf9 => by (repeat (first | rw [eU_ne (by omega)] | rw [eU_c (by omega)])))) (hp.follow hk4 haA hbA w1A w2A) (fun p9 hp9 => (a1 p9 hp9).fr (by (repeat (first | rw [eU_ne (by omega)] | rw [eU_c (by omega)]))) (by (repeat (first | rw [eU_ne (by omega)] | rw [eU_c (by omega)]))) (by (repeat (first | rw [eU_ne (by omega)] | rw [eU_c (by omega)]))) (by (repeat (first | rw [eU_ne (by omega)] | rw [eU_c (by omega)])))) (fun p9 hp9 => (a2 p9 hp9).fr (fun f9 hf9 => by (repeat (first | rw [eU_ne (by omega)] | rw [eU_c (by omega)]))) (fun a9 ha9 hb9 => by (repeat (first | rw [eU_ne (by omega)] | rw [eU_c (by omega)])))) (fun p9 hp9 => (a3 p9 hp9).fr (by omega) (by (repeat (first | rw [eU_ne (by omega)] | rw [eU_c (by omega)]))) (by (repeat (first | rw [eU_ne (by omega)] | rw [eU_c (by omega)]))) (by (repeat (first | rw [eU_ne (by omega)] | rw [eU_c (by omega)]))) (fun e9 _ => by (repeat (first | rw [eU_ne (by omega)] | rw [eU_c (by omega)]))) (by (repeat (first | rw [eU_ne (by omega)] | rw [eU_c (by omega)]))) (fun i9 _ => by (repeat (first | rw [eU_ne (by omega)] | rw [eU_c (by omega)])))) (fun p9 hp9 => (a4 p9 hp9).fr (by (repeat (first | rw [eU_ne (by omega)] | rw [eU_c (by omega)]))) (by (repeat (first | rw [eU_ne (by omega)] | rw [eU_c (by omega)]))) (by (repeat (first | rw [eU_ne (by omega)] | rw [eU_c (by omega)]))) (fun i9 _ => by (repeat (first | rw [eU_ne (by omega)] | rw [eU_c (by omega)])))) (fun p9 hp9 => (a5 p9 hp9).fr hp9 (by (repeat (first | rw [eU_ne (by omega)] | rw [eU_c (by omega)]))) (fun i9 _ => by (repeat (first | rw [eU_ne (by omega)] | rw [eU_c (by omega)])))) (fun p9 hp9 => (hl p9 hp9).fr (fun a9 ha9 => ⟨by (repeat (first | rw [eU_ne (by omega)] | rw [eU_c (by omega)])), fun x9 _ => by (repeat (first | rw [eU_ne (by omega)] | rw [eU_c (by omega)]))⟩) (fun x9 _ => ⟨by (repeat (first | rw [eU_ne (by omega)] | rw [eU_c (by omega)])), by (repeat (first | rw [eU_ne (by omega)] | rw [eU_c (by omega)]))⟩) (by (repeat (first | rw [eU_ne (by omega)] | rw [eU_c (by omega)]))) (by (repeat (first | rw [eU_ne (by omega)] | rw [eU_c (by omega)]))) (fun _ => rfl)) (hs.fr (fun a9 ha9 => by (repeat (first | rw [eU_ne (by omega)] | rw [eU_c (by omega)]))) (fun a9 ha9 hb9 => by (repeat (first | rw [eU_ne (by omega)] | rw [eU_c (by omega)]))) (fun _ _ _ => rfl))⟩

theorem pr_person {c n : Nat} {t : eT} {I : eI} {R : eR} {L : Nat} {xs : Nat → Int32} (h : Inv c n t I R L xs) (hc : c ≤ 511) : MC yX7_person cX7_person 1 (some .int) 999 0 0 [.ref 4] n t I R (qI (fun r n1 t1 I1 R1 => MID t1 I1 L xs ∧ MC yX8_person cX8_person 1 (some .int) 999 0 0 [.ref 94] n1 t1 I1 R1 (qI (fun r2 n2 t2 I2 R2 => r2 = r ∧ Inv (c + 1) n2 t2 I2 R2 L xs)))) := by
  obtain ⟨m, k, hv⟩ := h
  obtain ⟨hm4, hk4, hst, hfz, hg, hp, a1, a2, a3, a4, a5, hl, hs⟩ := id hv
  refine c_person 999 hst hg.1 hm4 (fun h1A => ?_) (fun h1A => ?_)
  · refine ⟨hv.mid, c_personM 999 hst hg.2.1 hm4 (fun h1B => ?_) (fun h1B => ?_)⟩
    · exact ⟨rfl, m, k, hv.up (by omega)⟩
    · (exfalso; first | assumption | omega | grind)
  · refine ⟨⟨hv.mid.1, by (repeat (first | rw [eU_ne (by omega)] | rw [eU_c (by omega)])); exact hv.mid.2.1, hv.mid.2.2⟩, c_personM 999 hst (by (repeat (first | rw [eU_ne (by omega)] | rw [eU_c (by omega)])); exact hg.2.1) hm4 (fun h1B => ?_) (fun h1B => ?_)⟩
    · (exfalso; first | assumption | omega | grind)
    · exact ⟨rfl, m + 1, k, hv.rp (by omega) (fun a9 ha9 => by (repeat (first | rw [eU_ne (by omega)] | rw [eU_c (by omega)]))) ⟨rfl, rfl, hg.2.2.1, hg.2.2.2.1, hg.2.2.2.2.1, hg.2.2.2.2.2.1, hg.2.2.2.2.2.2⟩ (hp.fr (fun a9 _ _ => by (repeat (first | rw [eU_ne (by omega)] | rw [eU_c (by omega)]))) (fun a9 _ _ => by (repeat (first | rw [eU_ne (by omega)] | rw [eU_c (by omega)]))) (by (repeat (first | rw [eU_ne (by omega)] | rw [eU_c (by omega)]))) hk4) (fun p9 hp9 => (a1 p9 hp9).fr (by (repeat (first | rw [eU_ne (by omega)] | rw [eU_c (by omega)]))) (by (repeat (first | rw [eU_ne (by omega)] | rw [eU_c (by omega)]))) (by (repeat (first | rw [eU_ne (by omega)] | rw [eU_c (by omega)]))) (by (repeat (first | rw [eU_ne (by omega)] | rw [eU_c (by omega)])))) (fun p9 hp9 => (a2 p9 hp9).fr (fun f9 hf9 => by (repeat (first | rw [eU_ne (by omega)] | rw [eU_c (by omega)]))) (fun a9 ha9 hb9 => by (repeat (first | rw [eU_ne (by omega)] | rw [eU_c (by omega)])))) (fun p9 hp9 => (a3 p9 hp9).fr (by omega) (by (repeat (first | rw [eU_ne (by omega)] | rw [eU_c (by omega)]))) (by (repeat (first | rw [eU_ne (by omega)] | rw [eU_c (by omega)]))) (by (repeat (first | rw [eU_ne (by omega)] | rw [eU_c (by omega)]))) (fun e9 _ => by (repeat (first | rw [eU_ne (by omega)] | rw [eU_c (by omega)]))) (by (repeat (first | rw [eU_ne (by omega)] | rw [eU_c (by omega)]))) (fun i9 _ => by (repeat (first | rw [eU_ne (by omega)] | rw [eU_c (by omega)])))) (fun p9 hp9 => (a4 p9 hp9).fr (by (repeat (first | rw [eU_ne (by omega)] | rw [eU_c (by omega)]))) (by (repeat (first | rw [eU_ne (by omega)] | rw [eU_c (by omega)]))) (by (repeat (first | rw [eU_ne (by omega)] | rw [eU_c (by omega)]))) (fun i9 _ => by (repeat (first | rw [eU_ne (by omega)] | rw [eU_c (by omega)])))) (fun p9 hp9 => (a5 p9 hp9).fr hp9 (by (repeat (first | rw [eU_ne (by omega)] | rw [eU_c (by omega)]))) (fun i9 _ => by (repeat (first | rw [eU_ne (by omega)] | rw [eU_c (by omega)])))) (fun p9 hp9 => (hl p9 hp9).fr (fun a9 ha9 => ⟨by (repeat (first | rw [eU_ne (by omega)] | rw [eU_c (by omega)])), fun x9 _ => by (repeat (first | rw [eU_ne (by omega)] | rw [eU_c (by omega)]))⟩) (fun x9 _ => ⟨by (repeat (first | rw [eU_ne (by omega)] | rw [eU_c (by omega)])), by (repeat (first | rw [eU_ne (by omega)] | rw [eU_c (by omega)]))⟩) (by (repeat (first | rw [eU_ne (by omega)] | rw [eU_c (by omega)]))) (by (repeat (first | rw [eU_ne (by omega)] | rw [eU_c (by omega)]))) (fun _ => rfl)) (hs.fr (fun a9 ha9 => by (repeat (first | rw [eU_ne (by omega)] | rw [eU_c (by omega)]))) (fun a9 ha9 hb9 => by (repeat (first | rw [eU_ne (by omega)] | rw [eU_c (by omega)]))) (fun _ _ _ => rfl))⟩

theorem pr_can {c n : Nat} {t : eT} {I : eI} {R : eR} {L : Nat} {xs : Nat → Int32} (h : Inv c n t I R L xs) (hc : c ≤ 511) {p x v : Int32} : MC yX7_can cX7_can 6 (some .int) 999 0 0 [.ref 4, .int p, .int x, .int v] n t I R (qI (fun r n1 t1 I1 R1 => MID t1 I1 L xs ∧ MC yX8_can cX8_can 5 (some .int) 999 0 0 [.ref 94, .int p, .int x, .int v] n1 t1 I1 R1 (qI (fun r2 n2 t2 I2 R2 => r2 = r ∧ Inv (c + 1) n2 t2 I2 R2 L xs)))) := by
  obtain ⟨m, k, hv⟩ := h
  obtain ⟨hm4, hk4, hst, hfz, hg, hp, a1, a2, a3, a4, a5, hl, hs⟩ := id hv
  refine c_can 997 hst hg.1 hm4 hfz.1 hfz.2.1 hfz.lo hfz.hi (fun h1A => ?_) (fun jA hjA eA h2A => ?_) (fun jA hjA eA wA hwA ewA h2A => ?_) (fun jA hjA eA wA hwA ewA w1A w2A => ?_)
  · refine ⟨hv.mid, c_canM 997 hst hg.2.1 hm4 (fun h1B => ?_) (fun jB hjB eB h2B => ?_) (fun jB hjB eB wB hwB ewB h2B => ?_) (fun jB hjB eB wB hwB ewB w1B w2B => ?_)⟩
    · exact ⟨rfl, m, k, hv.up (by omega)⟩
    · (exfalso; first | assumption | omega | grind)
    · (exfalso; first | assumption | omega | grind)
    · (exfalso; first | assumption | omega | grind)
  · refine ⟨hv.mid, c_canM 997 hst hg.2.1 hm4 (fun h1B => ?_) (fun jB hjB eB h2B => ?_) (fun jB hjB eB wB hwB ewB h2B => ?_) (fun jB hjB eB wB hwB ewB w1B w2B => ?_)⟩
    · (exfalso; first | assumption | omega | grind)
    · exact ⟨rfl, m, k, hv.up (by omega)⟩
    · exact ⟨rfl, m, k, hv.up (by omega)⟩
    · (exfalso; exact h2A (by rw [ewB, nI_toInt (by omega)]; omega))
  · refine ⟨hv.mid, c_canM 997 hst hg.2.1 hm4 (fun h1B => ?_) (fun jB hjB eB h2B => ?_) (fun jB hjB eB wB hwB ewB h2B => ?_) (fun jB hjB eB wB hwB ewB w1B w2B => ?_)⟩
    · (exfalso; first | assumption | omega | grind)
    · exact ⟨rfl, m, k, hv.up (by omega)⟩
    · exact ⟨rfl, m, k, hv.up (by omega)⟩
    · (exfalso; obtain rfl := nI_j hwA hwB (by omega) ewA ewB; exact h2A ⟨w1B, w2B⟩)
  · refine ⟨⟨hv.mid.1, by (repeat (first | rw [eU_ne (by omega)] | rw [eU_c (by omega)])); exact hv.mid.2.1, hv.mid.2.2⟩, c_canM 997 hst (by (repeat (first | rw [eU_ne (by omega)] | rw [eU_c (by omega)])); exact hg.2.1) hm4 (fun h1B => ?_) (fun jB hjB eB h2B => ?_) (fun jB hjB eB wB hwB ewB h2B => ?_) (fun jB hjB eB wB hwB ewB w1B w2B => ?_)⟩
    · (exfalso; first | assumption | omega | grind)
    · (exfalso; exact h2B (by rw [ewA, nI_toInt (by omega)]; omega))
    · (exfalso; obtain rfl := nI_j hwA hwB (by omega) ewA ewB; exact h2B ⟨w1A, w2A⟩)
    · obtain rfl := nI_j hjA hjB (by omega) eA eB
      obtain rfl := nI_j hwA hwB (by omega) ewA ewB
      have hn := (a1 jA (by omega)).can hwA w1A w2A
      exact ⟨by (repeat (first | rw [eU_ne (by omega)] | rw [eU_c (by omega)])); exact hn.1, m, k, hv.rp (by omega) (fun a9 ha9 => by (repeat (first | rw [eU_ne (by omega)] | rw [eU_c (by omega)]))) (hg.fr (by (repeat (first | rw [eU_ne (by omega)] | rw [eU_c (by omega)]))) (by (repeat (first | rw [eU_ne (by omega)] | rw [eU_c (by omega)]))) (fun f9 hf9 => by (repeat (first | rw [eU_ne (by omega)] | rw [eU_c (by omega)])))) (hp.fr (fun a9 _ _ => by (repeat (first | rw [eU_ne (by omega)] | rw [eU_c (by omega)]))) (fun a9 _ _ => by (repeat (first | rw [eU_ne (by omega)] | rw [eU_c (by omega)]))) (by (repeat (first | rw [eU_ne (by omega)] | rw [eU_c (by omega)]))) hk4) (fun p9 hp9 => by
          by_cases g9 : p9 = jA
          · subst g9
            exact hn.2 hp9
          · exact (a1 p9 hp9).fr (by (repeat (first | rw [eU_ne (by omega)] | rw [eU_c (by omega)]))) (by (repeat (first | rw [eU_ne (by omega)] | rw [eU_c (by omega)]))) (by (repeat (first | rw [eU_ne (by omega)] | rw [eU_c (by omega)]))) (by (repeat (first | rw [eU_ne (by omega)] | rw [eU_c (by omega)])))) (fun p9 hp9 => (a2 p9 hp9).fr (fun f9 hf9 => by (repeat (first | rw [eU_ne (by omega)] | rw [eU_c (by omega)]))) (fun a9 ha9 hb9 => by (repeat (first | rw [eU_ne (by omega)] | rw [eU_c (by omega)])))) (fun p9 hp9 => (a3 p9 hp9).fr (by omega) (by (repeat (first | rw [eU_ne (by omega)] | rw [eU_c (by omega)]))) (by (repeat (first | rw [eU_ne (by omega)] | rw [eU_c (by omega)]))) (by (repeat (first | rw [eU_ne (by omega)] | rw [eU_c (by omega)]))) (fun e9 _ => by (repeat (first | rw [eU_ne (by omega)] | rw [eU_c (by omega)]))) (by (repeat (first | rw [eU_ne (by omega)] | rw [eU_c (by omega)]))) (fun i9 _ => by (repeat (first | rw [eU_ne (by omega)] | rw [eU_c (by omega)])))) (fun p9 hp9 => (a4 p9 hp9).fr (by (repeat (first | rw [eU_ne (by omega)] | rw [eU_c (by omega)]))) (by (repeat (first | rw [eU_ne (by omega)] | rw [eU_c (by omega)]))) (by (repeat (first | rw [eU_ne (by omega)] | rw [eU_c (by omega)]))) (fun i9 _ => by (repeat (first | rw [eU_ne (by omega)] | rw [eU_c (by omega)])))) (fun p9 hp9 => (a5 p9 hp9).fr hp9 (by (repeat (first | rw [eU_ne (by omega)] | rw [eU_c (by omega)]))) (fun i9 _ => by (repeat (first | rw [eU_ne (by omega)] | rw [eU_c (by omega)])))) (fun p9 hp9 => (hl p9 hp9).fr (fun a9 ha9 => ⟨by (repeat (first | rw [eU_ne (by omega)] | rw [eU_c (by omega)])), fun x9 _ => by (repeat (first | rw [eU_ne (by omega)] | rw [eU_c (by omega)]))⟩) (fun x9 _ => ⟨by (repeat (first | rw [eU_ne (by omega)] | rw [eU_c (by omega)])), by (repeat (first | rw [eU_ne (by omega)] | rw [eU_c (by omega)]))⟩) (by (repeat (first | rw [eU_ne (by omega)] | rw [eU_c (by omega)]))) (by (repeat (first | rw [eU_ne (by omega)] | rw [eU_c (by omega)]))) (fun _ => rfl)) (hs.fr (fun a9 ha9 => by (repeat (first | rw [eU_ne (by omega)] | rw [eU_c (by omega)]))) (fun a9 ha9 hb9 => by (repeat (first | rw [eU_ne (by omega)] | rw [eU_c (by omega)]))) (fun _ _ _ => rfl))⟩

theorem pr_rule {c n : Nat} {t : eT} {I : eI} {R : eR} {L : Nat} {xs : Nat → Int32} (h : Inv c n t I R L xs) (hc : c ≤ 511) {x v : Int32} : MC yX7_rule cX7_rule 4 (some .int) 999 0 0 [.ref 4, .int x, .int v] n t I R (qI (fun r n1 t1 I1 R1 => MID t1 I1 L xs ∧ MC yX8_rule cX8_rule 4 (some .int) 999 0 0 [.ref 94, .int x, .int v] n1 t1 I1 R1 (qI (fun r2 n2 t2 I2 R2 => r2 = r ∧ Inv (c + 1) n2 t2 I2 R2 L xs)))) := by
  obtain ⟨m, k, hv⟩ := h
  obtain ⟨hm4, hk4, hst, hfz, hg, hp, a1, a2, a3, a4, a5, hl, hs⟩ := id hv
  refine c_rule 997 hst hfz.2.2.1 hfz.hr (fun h2A => ?_) (fun wA hwA ewA h2A => ?_) (fun wA hwA ewA w1A w2A => ?_)
  · refine ⟨hv.mid, c_ruleM 997 hst (fun h2B => ?_) (fun wB hwB ewB h2B => ?_) (fun wB hwB ewB w1B w2B => ?_)⟩
    · exact ⟨rfl, m, k, hv.up (by omega)⟩
    · exact ⟨rfl, m, k, hv.up (by omega)⟩
    · (exfalso; exact h2A (by rw [ewB, nI_toInt (by omega)]; omega))
  · refine ⟨hv.mid, c_ruleM 997 hst (fun h2B => ?_) (fun wB hwB ewB h2B => ?_) (fun wB hwB ewB w1B w2B => ?_)⟩
    · exact ⟨rfl, m, k, hv.up (by omega)⟩
    · exact ⟨rfl, m, k, hv.up (by omega)⟩
    · (exfalso; obtain rfl := nI_j hwA hwB (by omega) ewA ewB; exact h2A ⟨w1B, w2B⟩)
  · refine ⟨⟨hv.mid.1, by (repeat (first | rw [eU_ne (by omega)] | rw [eU_c (by omega)])); exact hv.mid.2.1, hv.mid.2.2⟩, c_ruleM 997 hst (fun h2B => ?_) (fun wB hwB ewB h2B => ?_) (fun wB hwB ewB w1B w2B => ?_)⟩
    · (exfalso; exact h2B (by rw [ewA, nI_toInt (by omega)]; omega))
    · (exfalso; obtain rfl := nI_j hwA hwB (by omega) ewA ewB; exact h2B ⟨w1A, w2A⟩)
    · obtain rfl := nI_j hwA hwB (by omega) ewA ewB
      have hn := hg.rule hwA w1A w2A
      exact ⟨by (repeat (first | rw [eU_ne (by omega)] | rw [eU_c (by omega)])); exact hn.1, m, k, hv.rp (by omega) (fun a9 ha9 => by (repeat (first | rw [eU_ne (by omega)] | rw [eU_c (by omega)]))) hn.2 (hp.fr (fun a9 _ _ => by (repeat (first | rw [eU_ne (by omega)] | rw [eU_c (by omega)]))) (fun a9 _ _ => by (repeat (first | rw [eU_ne (by omega)] | rw [eU_c (by omega)]))) (by (repeat (first | rw [eU_ne (by omega)] | rw [eU_c (by omega)]))) hk4) (fun p9 hp9 => (a1 p9 hp9).fr (by (repeat (first | rw [eU_ne (by omega)] | rw [eU_c (by omega)]))) (by (repeat (first | rw [eU_ne (by omega)] | rw [eU_c (by omega)]))) (by (repeat (first | rw [eU_ne (by omega)] | rw [eU_c (by omega)]))) (by (repeat (first | rw [eU_ne (by omega)] | rw [eU_c (by omega)])))) (fun p9 hp9 => (a2 p9 hp9).fr (fun f9 hf9 => by (repeat (first | rw [eU_ne (by omega)] | rw [eU_c (by omega)]))) (fun a9 ha9 hb9 => by (repeat (first | rw [eU_ne (by omega)] | rw [eU_c (by omega)])))) (fun p9 hp9 => (a3 p9 hp9).fr (by omega) (by (repeat (first | rw [eU_ne (by omega)] | rw [eU_c (by omega)]))) (by (repeat (first | rw [eU_ne (by omega)] | rw [eU_c (by omega)]))) (by (repeat (first | rw [eU_ne (by omega)] | rw [eU_c (by omega)]))) (fun e9 _ => by (repeat (first | rw [eU_ne (by omega)] | rw [eU_c (by omega)]))) (by (repeat (first | rw [eU_ne (by omega)] | rw [eU_c (by omega)]))) (fun i9 _ => by (repeat (first | rw [eU_ne (by omega)] | rw [eU_c (by omega)])))) (fun p9 hp9 => (a4 p9 hp9).fr (by (repeat (first | rw [eU_ne (by omega)] | rw [eU_c (by omega)]))) (by (repeat (first | rw [eU_ne (by omega)] | rw [eU_c (by omega)]))) (by (repeat (first | rw [eU_ne (by omega)] | rw [eU_c (by omega)]))) (fun i9 _ => by (repeat (first | rw [eU_ne (by omega)] | rw [eU_c (by omega)])))) (fun p9 hp9 => (a5 p9 hp9).fr hp9 (by (repeat (first | rw [eU_ne (by omega)] | rw [eU_c (by omega)]))) (fun i9 _ => by (repeat (first | rw [eU_ne (by omega)] | rw [eU_c (by omega)])))) (fun p9 hp9 => (hl p9 hp9).fr (fun a9 ha9 => ⟨by (repeat (first | rw [eU_ne (by omega)] | rw [eU_c (by omega)])), fun x9 _ => by (repeat (first | rw [eU_ne (by omega)] | rw [eU_c (by omega)]))⟩) (fun x9 _ => ⟨by (repeat (first | rw [eU_ne (by omega)] | rw [eU_c (by omega)])), by (repeat (first | rw [eU_ne (by omega)] | rw [eU_c (by omega)]))⟩) (by (repeat (first | rw [eU_ne (by omega)] | rw [eU_c (by omega)]))) (by (repeat (first | rw [eU_ne (by omega)] | rw [eU_c (by omega)]))) (fun _ => rfl)) (hs.fr (fun a9 ha9 => by (repeat (first | rw [eU_ne (by omega)] | rw [eU_c (by omega)]))) (fun a9 ha9 hb9 => by (repeat (first | rw [eU_ne (by omega)] | rw [eU_c (by omega)]))) (fun _ _ _ => rfl))⟩

theorem pr_trial {c n : Nat} {t : eT} {I : eI} {R : eR} {L : Nat} {xs : Nat → Int32} (h : Inv c n t I R L xs) (hc : c ≤ 511) {p x w : Int32} : MC yX7_trial cX7_trial 5 (some .int) 999 0 0 [.ref 4, .int p, .int x, .int w] n t I R (qI (fun r n1 t1 I1 R1 => MID t1 I1 L xs ∧ MC yX8_trial cX8_trial 4 (some .int) 999 0 0 [.ref 94, .int p, .int x, .int w] n1 t1 I1 R1 (qI (fun r2 n2 t2 I2 R2 => r2 = r ∧ Inv (c + 1) n2 t2 I2 R2 L xs)))) := by
  obtain ⟨m, k, hv⟩ := h
  obtain ⟨hm4, hk4, hst, hfz, hg, hp, a1, a2, a3, a4, a5, hl, hs⟩ := id hv
  refine c_trial 997 hst hg.1 hm4 (cF := fun j => (I 121 j).toNatClampNeg) (fun j hj => ⟨(a4 j hj).c.1, (a4 j hj).c.2.2⟩) (fun h1A => ?_) (fun jA hjA eA h2A => ?_) (fun jA hjA eA h2A h3A => ?_) (fun jA hjA eA h2A h3A => ?_)
  · refine ⟨hv.mid, c_trialM 997 hst hg.2.1 hm4 (cF := fun j => (I 121 j).toNatClampNeg) (fun j hj => (a4 j hj).c.2) (fun h1B => ?_) (fun jB hjB eB h2B => ?_) (fun jB hjB eB h2B h3B => ?_) (fun jB hjB eB h2B h3B => ?_)⟩
    · exact ⟨rfl, m, k, hv.up (by omega)⟩
    · (exfalso; first | assumption | omega | grind)
    · (exfalso; first | assumption | omega | grind)
    · (exfalso; first | assumption | omega | grind)
  · refine ⟨hv.mid, c_trialM 997 hst hg.2.1 hm4 (cF := fun j => (I 121 j).toNatClampNeg) (fun j hj => (a4 j hj).c.2) (fun h1B => ?_) (fun jB hjB eB h2B => ?_) (fun jB hjB eB h2B h3B => ?_) (fun jB hjB eB h2B h3B => ?_)⟩
    · (exfalso; first | assumption | omega | grind)
    · exact ⟨rfl, m, k, hv.up (by omega)⟩
    · (exfalso; first | assumption | omega | grind)
    · (exfalso; first | assumption | omega | grind)
  · refine ⟨hv.mid, c_trialM 997 hst hg.2.1 hm4 (cF := fun j => (I 121 j).toNatClampNeg) (fun j hj => (a4 j hj).c.2) (fun h1B => ?_) (fun jB hjB eB h2B => ?_) (fun jB hjB eB h2B h3B => ?_) (fun jB hjB eB h2B h3B => ?_)⟩
    · (exfalso; first | assumption | omega | grind)
    · (exfalso; first | assumption | omega | grind)
    · exact ⟨rfl, m, k, hv.up (by omega)⟩
    · (exfalso; obtain rfl := nI_j hjA hjB (by omega) eA eB; exact absurd h3A (Nat.ne_of_lt h3B))
  · refine ⟨⟨hv.mid.1, by (repeat (first | rw [eU_ne (by omega)] | rw [eU_c (by omega)])); exact hv.mid.2.1, hv.mid.2.2⟩, c_trialM 997 hst (by (repeat (first | rw [eU_ne (by omega)] | rw [eU_c (by omega)])); exact hg.2.1) hm4 (cF := fun j => (I 121 j).toNatClampNeg) (fun j hj => by (repeat (first | rw [eU_ne (by omega)] | rw [eU_c (by omega)])); exact (a4 j hj).c.2) (fun h1B => ?_) (fun jB hjB eB h2B => ?_) (fun jB hjB eB h2B h3B => ?_) (fun jB hjB eB h2B h3B => ?_)⟩
    · (exfalso; first | assumption | omega | grind)
    · (exfalso; first | assumption | omega | grind)
    · (exfalso; obtain rfl := nI_j hjA hjB (by omega) eA eB; exact absurd h3B (Nat.ne_of_lt h3A))
    · obtain rfl := nI_j hjA hjB (by omega) eA eB
      have hn := (a4 jA (by omega)).trial (by omega) (a4 jA (by omega)).c.2.1 h3A (sub_b h2A).1 (sub_b h2A).2
      exact ⟨rfl, m, k, hv.rp (by omega) (fun a9 ha9 => by (repeat (first | rw [eU_ne (by omega)] | rw [eU_c (by omega)]))) (hg.fr (by (repeat (first | rw [eU_ne (by omega)] | rw [eU_c (by omega)]))) (by (repeat (first | rw [eU_ne (by omega)] | rw [eU_c (by omega)]))) (fun f9 hf9 => by (repeat (first | rw [eU_ne (by omega)] | rw [eU_c (by omega)])))) (hp.fr (fun a9 _ _ => by (repeat (first | rw [eU_ne (by omega)] | rw [eU_c (by omega)]))) (fun a9 _ _ => by (repeat (first | rw [eU_ne (by omega)] | rw [eU_c (by omega)]))) (by (repeat (first | rw [eU_ne (by omega)] | rw [eU_c (by omega)]))) hk4) (fun p9 hp9 => (a1 p9 hp9).fr (by (repeat (first | rw [eU_ne (by omega)] | rw [eU_c (by omega)]))) (by (repeat (first | rw [eU_ne (by omega)] | rw [eU_c (by omega)]))) (by (repeat (first | rw [eU_ne (by omega)] | rw [eU_c (by omega)]))) (by (repeat (first | rw [eU_ne (by omega)] | rw [eU_c (by omega)])))) (fun p9 hp9 => (a2 p9 hp9).fr (fun f9 hf9 => by (repeat (first | rw [eU_ne (by omega)] | rw [eU_c (by omega)]))) (fun a9 ha9 hb9 => by (repeat (first | rw [eU_ne (by omega)] | rw [eU_c (by omega)])))) (fun p9 hp9 => (a3 p9 hp9).fr (by omega) (by (repeat (first | rw [eU_ne (by omega)] | rw [eU_c (by omega)]))) (by (repeat (first | rw [eU_ne (by omega)] | rw [eU_c (by omega)]))) (by (repeat (first | rw [eU_ne (by omega)] | rw [eU_c (by omega)]))) (fun e9 _ => by (repeat (first | rw [eU_ne (by omega)] | rw [eU_c (by omega)]))) (by (repeat (first | rw [eU_ne (by omega)] | rw [eU_c (by omega)]))) (fun i9 _ => by (repeat (first | rw [eU_ne (by omega)] | rw [eU_c (by omega)])))) (fun p9 hp9 => by
          by_cases g9 : p9 = jA
          · subst g9
            exact hn
          · exact (a4 p9 hp9).fr (by (repeat (first | rw [eU_ne (by omega)] | rw [eU_c (by omega)]))) (by (repeat (first | rw [eU_ne (by omega)] | rw [eU_c (by omega)]))) (by (repeat (first | rw [eU_ne (by omega)] | rw [eU_c (by omega)]))) (fun i9 _ => by (repeat (first | rw [eU_ne (by omega)] | rw [eU_c (by omega)])))) (fun p9 hp9 => (a5 p9 hp9).fr hp9 (by (repeat (first | rw [eU_ne (by omega)] | rw [eU_c (by omega)]))) (fun i9 _ => by (repeat (first | rw [eU_ne (by omega)] | rw [eU_c (by omega)])))) (fun p9 hp9 => (hl p9 hp9).fr (fun a9 ha9 => ⟨by (repeat (first | rw [eU_ne (by omega)] | rw [eU_c (by omega)])), fun x9 _ => by (repeat (first | rw [eU_ne (by omega)] | rw [eU_c (by omega)]))⟩) (fun x9 _ => ⟨by (repeat (first | rw [eU_ne (by omega)] | rw [eU_c (by omega)])), by (repeat (first | rw [eU_ne (by omega)] | rw [eU_c (by omega)]))⟩) (by (repeat (first | rw [eU_ne (by omega)] | rw [eU_c (by omega)]))) (by (repeat (first | rw [eU_ne (by omega)] | rw [eU_c (by omega)]))) (fun _ => rfl)) (hs.fr (fun a9 ha9 => by (repeat (first | rw [eU_ne (by omega)] | rw [eU_c (by omega)]))) (fun a9 ha9 hb9 => by (repeat (first | rw [eU_ne (by omega)] | rw [eU_c (by omega)]))) (fun _ _ _ => rfl))⟩

theorem pr_leave {c n : Nat} {t : eT} {I : eI} {R : eR} {L : Nat} {xs : Nat → Int32} (h : Inv c n t I R L xs) (hc : c ≤ 511) {p q x w : Int32} : MC yX7_leave cX7_leave 8 (some .int) 999 0 0 [.ref 4, .int p, .int q, .int x, .int w] n t I R (qI (fun r n1 t1 I1 R1 => MID t1 I1 L xs ∧ MC yX8_leave cX8_leave 7 (some .int) 999 0 0 [.ref 94, .int p, .int q, .int x, .int w] n1 t1 I1 R1 (qI (fun r2 n2 t2 I2 R2 => r2 = r ∧ Inv (c + 1) n2 t2 I2 R2 L xs)))) := by
  obtain ⟨m, k, hv⟩ := h
  obtain ⟨hm4, hk4, hst, hfz, hg, hp, a1, a2, a3, a4, a5, hl, hs⟩ := id hv
  refine c_leave 997 hst hg.1 hm4 (fun h1A => ?_) (fun h1A => ?_) (fun aA bA haA hbA exA eyA h2A => ?_) (fun aA bA eA haA hbA neA heA exA eyA ewA w1A w2A zA => ?_) (fun aA bA eA haA hbA neA heA exA eyA ewA w1A w2A zA => ?_)
  · refine ⟨hv.mid, c_leaveM 997 hst hg.2.1 hm4 (fun h1B => ?_) (fun h1B => ?_) (fun aB bB haB hbB exB eyB h2B => ?_) (fun aB bB eB haB hbB neB heB exB eyB ewB w1B w2B zB => ?_) (fun aB bB eB haB hbB neB heB exB eyB ewB w1B w2B zB => ?_)⟩
    · exact ⟨rfl, m, k, hv.up (by omega)⟩
    · exact ⟨rfl, m, k, hv.up (by omega)⟩
    · (exfalso; first | assumption | omega | grind)
    · (exfalso; first | assumption | omega | grind)
    · (exfalso; first | assumption | omega | grind)
  · refine ⟨hv.mid, c_leaveM 997 hst hg.2.1 hm4 (fun h1B => ?_) (fun h1B => ?_) (fun aB bB haB hbB exB eyB h2B => ?_) (fun aB bB eB haB hbB neB heB exB eyB ewB w1B w2B zB => ?_) (fun aB bB eB haB hbB neB heB exB eyB ewB w1B w2B zB => ?_)⟩
    · exact ⟨rfl, m, k, hv.up (by omega)⟩
    · exact ⟨rfl, m, k, hv.up (by omega)⟩
    · (exfalso; first | assumption | omega | grind)
    · (exfalso; first | assumption | omega | grind)
    · (exfalso; first | assumption | omega | grind)
  · refine ⟨hv.mid, c_leaveM 997 hst hg.2.1 hm4 (fun h1B => ?_) (fun h1B => ?_) (fun aB bB haB hbB exB eyB h2B => ?_) (fun aB bB eB haB hbB neB heB exB eyB ewB w1B w2B zB => ?_) (fun aB bB eB haB hbB neB heB exB eyB ewB w1B w2B zB => ?_)⟩
    · (exfalso; first | assumption | omega | grind)
    · (exfalso; first | assumption | omega | grind)
    · exact ⟨rfl, m, k, hv.up (by omega)⟩
    · (exfalso; obtain rfl := nI_j haA haB (by omega) exA exB; obtain rfl := nI_j hbA hbB (by omega) eyA eyB; exact h2A ⟨neB, by rw [ewB, nI_toInt (by omega)]; omega, by rw [ewB, nI_toInt (by omega)]; omega, w1B, w2B⟩)
    · (exfalso; obtain rfl := nI_j haA haB (by omega) exA exB; obtain rfl := nI_j hbA hbB (by omega) eyA eyB; exact h2A ⟨neB, by rw [ewB, nI_toInt (by omega)]; omega, by rw [ewB, nI_toInt (by omega)]; omega, w1B, w2B⟩)
  · refine ⟨⟨hv.mid.1, by (repeat (first | rw [eU_ne (by omega)] | rw [eU_c (by omega)])); exact hv.mid.2.1, hv.mid.2.2⟩, c_leaveM 997 hst (by (repeat (first | rw [eU_ne (by omega)] | rw [eU_c (by omega)])); exact hg.2.1) hm4 (fun h1B => ?_) (fun h1B => ?_) (fun aB bB haB hbB exB eyB h2B => ?_) (fun aB bB eB haB hbB neB heB exB eyB ewB w1B w2B zB => ?_) (fun aB bB eB haB hbB neB heB exB eyB ewB w1B w2B zB => ?_)⟩
    · (exfalso; first | assumption | omega | grind)
    · (exfalso; first | assumption | omega | grind)
    · (exfalso; obtain rfl := nI_j haA haB (by omega) exA exB; obtain rfl := nI_j hbA hbB (by omega) eyA eyB; exact h2B ⟨neA, by rw [ewA, nI_toInt (by omega)]; omega, by rw [ewA, nI_toInt (by omega)]; omega, w1A, w2A⟩)
    · obtain rfl := nI_j haA haB (by omega) exA exB
      obtain rfl := nI_j hbA hbB (by omega) eyA eyB
      obtain rfl := nI_j heA heB (by omega) ewA ewB
      have h5 := a5 aA (by omega) bA eA (by omega) heA
      have hn := (a5 aA (by omega)).leave (by omega) (show bA < 4 by omega) heA (Or.inl ⟨neg_m1 w1A zB, rfl⟩)
      exact ⟨by (repeat (first | rw [eU_ne (by omega)] | rw [eU_c (by omega)])); exact (h5.elim (fun g => g.2) (fun g => absurd (g.1.symm.trans zA ▸ g.2) (by decide))), m, k, hv.rp (by omega) (fun a9 ha9 => by (repeat (first | rw [eU_ne (by omega)] | rw [eU_c (by omega)]))) (hg.fr (by (repeat (first | rw [eU_ne (by omega)] | rw [eU_c (by omega)]))) (by (repeat (first | rw [eU_ne (by omega)] | rw [eU_c (by omega)]))) (fun f9 hf9 => by (repeat (first | rw [eU_ne (by omega)] | rw [eU_c (by omega)])))) (hp.fr (fun a9 _ _ => by (repeat (first | rw [eU_ne (by omega)] | rw [eU_c (by omega)]))) (fun a9 _ _ => by (repeat (first | rw [eU_ne (by omega)] | rw [eU_c (by omega)]))) (by (repeat (first | rw [eU_ne (by omega)] | rw [eU_c (by omega)]))) hk4) (fun p9 hp9 => (a1 p9 hp9).fr (by (repeat (first | rw [eU_ne (by omega)] | rw [eU_c (by omega)]))) (by (repeat (first | rw [eU_ne (by omega)] | rw [eU_c (by omega)]))) (by (repeat (first | rw [eU_ne (by omega)] | rw [eU_c (by omega)]))) (by (repeat (first | rw [eU_ne (by omega)] | rw [eU_c (by omega)])))) (fun p9 hp9 => (a2 p9 hp9).fr (fun f9 hf9 => by (repeat (first | rw [eU_ne (by omega)] | rw [eU_c (by omega)]))) (fun a9 ha9 hb9 => by (repeat (first | rw [eU_ne (by omega)] | rw [eU_c (by omega)])))) (fun p9 hp9 => (a3 p9 hp9).fr (by omega) (by (repeat (first | rw [eU_ne (by omega)] | rw [eU_c (by omega)]))) (by (repeat (first | rw [eU_ne (by omega)] | rw [eU_c (by omega)]))) (by (repeat (first | rw [eU_ne (by omega)] | rw [eU_c (by omega)]))) (fun e9 _ => by (repeat (first | rw [eU_ne (by omega)] | rw [eU_c (by omega)]))) (by (repeat (first | rw [eU_ne (by omega)] | rw [eU_c (by omega)]))) (fun i9 _ => by (repeat (first | rw [eU_ne (by omega)] | rw [eU_c (by omega)])))) (fun p9 hp9 => (a4 p9 hp9).fr (by (repeat (first | rw [eU_ne (by omega)] | rw [eU_c (by omega)]))) (by (repeat (first | rw [eU_ne (by omega)] | rw [eU_c (by omega)]))) (by (repeat (first | rw [eU_ne (by omega)] | rw [eU_c (by omega)]))) (fun i9 _ => by (repeat (first | rw [eU_ne (by omega)] | rw [eU_c (by omega)])))) (fun p9 hp9 => by
          by_cases g9 : p9 = aA
          · subst g9
            exact hn
          · exact (a5 p9 hp9).fr hp9 (by (repeat (first | rw [eU_ne (by omega)] | rw [eU_c (by omega)]))) (fun i9 _ => by (repeat (first | rw [eU_ne (by omega)] | rw [eU_c (by omega)])))) (fun p9 hp9 => (hl p9 hp9).fr (fun a9 ha9 => ⟨by (repeat (first | rw [eU_ne (by omega)] | rw [eU_c (by omega)])), fun x9 _ => by (repeat (first | rw [eU_ne (by omega)] | rw [eU_c (by omega)]))⟩) (fun x9 _ => ⟨by (repeat (first | rw [eU_ne (by omega)] | rw [eU_c (by omega)])), by (repeat (first | rw [eU_ne (by omega)] | rw [eU_c (by omega)]))⟩) (by (repeat (first | rw [eU_ne (by omega)] | rw [eU_c (by omega)]))) (by (repeat (first | rw [eU_ne (by omega)] | rw [eU_c (by omega)]))) (fun _ => rfl)) (hs.fr (fun a9 ha9 => by (repeat (first | rw [eU_ne (by omega)] | rw [eU_c (by omega)]))) (fun a9 ha9 hb9 => by (repeat (first | rw [eU_ne (by omega)] | rw [eU_c (by omega)]))) (fun _ _ _ => rfl))⟩
    · obtain rfl := nI_j haA haB (by omega) exA exB
      obtain rfl := nI_j hbA hbB (by omega) eyA eyB
      obtain rfl := nI_j heA heB (by omega) ewA ewB
      have h5 := a5 aA (by omega) bA eA (by omega) heA
      have hn := (a5 aA (by omega)).leave (by omega) (show bA < 4 by omega) heA (Or.inr ⟨rfl, nneg zB⟩)
      exact ⟨by (repeat (first | rw [eU_ne (by omega)] | rw [eU_c (by omega)])); exact (h5.elim (fun g => g.2) (fun g => absurd (g.1.symm.trans zA ▸ g.2) (by decide))), m, k, hv.rp (by omega) (fun a9 ha9 => by (repeat (first | rw [eU_ne (by omega)] | rw [eU_c (by omega)]))) (hg.fr (by (repeat (first | rw [eU_ne (by omega)] | rw [eU_c (by omega)]))) (by (repeat (first | rw [eU_ne (by omega)] | rw [eU_c (by omega)]))) (fun f9 hf9 => by (repeat (first | rw [eU_ne (by omega)] | rw [eU_c (by omega)])))) (hp.fr (fun a9 _ _ => by (repeat (first | rw [eU_ne (by omega)] | rw [eU_c (by omega)]))) (fun a9 _ _ => by (repeat (first | rw [eU_ne (by omega)] | rw [eU_c (by omega)]))) (by (repeat (first | rw [eU_ne (by omega)] | rw [eU_c (by omega)]))) hk4) (fun p9 hp9 => (a1 p9 hp9).fr (by (repeat (first | rw [eU_ne (by omega)] | rw [eU_c (by omega)]))) (by (repeat (first | rw [eU_ne (by omega)] | rw [eU_c (by omega)]))) (by (repeat (first | rw [eU_ne (by omega)] | rw [eU_c (by omega)]))) (by (repeat (first | rw [eU_ne (by omega)] | rw [eU_c (by omega)])))) (fun p9 hp9 => (a2 p9 hp9).fr (fun f9 hf9 => by (repeat (first | rw [eU_ne (by omega)] | rw [eU_c (by omega)]))) (fun a9 ha9 hb9 => by (repeat (first | rw [eU_ne (by omega)] | rw [eU_c (by omega)])))) (fun p9 hp9 => (a3 p9 hp9).fr (by omega) (by (repeat (first | rw [eU_ne (by omega)] | rw [eU_c (by omega)]))) (by (repeat (first | rw [eU_ne (by omega)] | rw [eU_c (by omega)]))) (by (repeat (first | rw [eU_ne (by omega)] | rw [eU_c (by omega)]))) (fun e9 _ => by (repeat (first | rw [eU_ne (by omega)] | rw [eU_c (by omega)]))) (by (repeat (first | rw [eU_ne (by omega)] | rw [eU_c (by omega)]))) (fun i9 _ => by (repeat (first | rw [eU_ne (by omega)] | rw [eU_c (by omega)])))) (fun p9 hp9 => (a4 p9 hp9).fr (by (repeat (first | rw [eU_ne (by omega)] | rw [eU_c (by omega)]))) (by (repeat (first | rw [eU_ne (by omega)] | rw [eU_c (by omega)]))) (by (repeat (first | rw [eU_ne (by omega)] | rw [eU_c (by omega)]))) (fun i9 _ => by (repeat (first | rw [eU_ne (by omega)] | rw [eU_c (by omega)])))) (fun p9 hp9 => by
          by_cases g9 : p9 = aA
          · subst g9
            exact hn
          · exact (a5 p9 hp9).fr hp9 (by (repeat (first | rw [eU_ne (by omega)] | rw [eU_c (by omega)]))) (fun i9 _ => by (repeat (first | rw [eU_ne (by omega)] | rw [eU_c (by omega)])))) (fun p9 hp9 => (hl p9 hp9).fr (fun a9 ha9 => ⟨by (repeat (first | rw [eU_ne (by omega)] | rw [eU_c (by omega)])), fun x9 _ => by (repeat (first | rw [eU_ne (by omega)] | rw [eU_c (by omega)]))⟩) (fun x9 _ => ⟨by (repeat (first | rw [eU_ne (by omega)] | rw [eU_c (by omega)])), by (repeat (first | rw [eU_ne (by omega)] | rw [eU_c (by omega)]))⟩) (by (repeat (first | rw [eU_ne (by omega)] | rw [eU_c (by omega)]))) (by (repeat (first | rw [eU_ne (by omega)] | rw [eU_c (by omega)]))) (fun _ => rfl)) (hs.fr (fun a9 ha9 => by (repeat (first | rw [eU_ne (by omega)] | rw [eU_c (by omega)]))) (fun a9 ha9 hb9 => by (repeat (first | rw [eU_ne (by omega)] | rw [eU_c (by omega)]))) (fun _ _ _ => rfl))⟩
  · refine ⟨⟨hv.mid.1, by (repeat (first | rw [eU_ne (by omega)] | rw [eU_c (by omega)])); exact hv.mid.2.1, hv.mid.2.2⟩, c_leaveM 997 hst (by (repeat (first | rw [eU_ne (by omega)] | rw [eU_c (by omega)])); exact hg.2.1) hm4 (fun h1B => ?_) (fun h1B => ?_) (fun aB bB haB hbB exB eyB h2B => ?_) (fun aB bB eB haB hbB neB heB exB eyB ewB w1B w2B zB => ?_) (fun aB bB eB haB hbB neB heB exB eyB ewB w1B w2B zB => ?_)⟩
    · (exfalso; first | assumption | omega | grind)
    · (exfalso; first | assumption | omega | grind)
    · (exfalso; obtain rfl := nI_j haA haB (by omega) exA exB; obtain rfl := nI_j hbA hbB (by omega) eyA eyB; exact h2B ⟨neA, by rw [ewA, nI_toInt (by omega)]; omega, by rw [ewA, nI_toInt (by omega)]; omega, w1A, w2A⟩)
    · obtain rfl := nI_j haA haB (by omega) exA exB
      obtain rfl := nI_j hbA hbB (by omega) eyA eyB
      obtain rfl := nI_j heA heB (by omega) ewA ewB
      have h5 := a5 aA (by omega) bA eA (by omega) heA
      have hn := (a5 aA (by omega)).leave (by omega) (show bA < 4 by omega) heA (Or.inl ⟨neg_m1 w1A zB, rfl⟩)
      exact ⟨by (repeat (first | rw [eU_ne (by omega)] | rw [eU_c (by omega)])); exact (h5.elim (fun g => absurd g.1 zA) (fun g => g.1.symm)), m, k, hv.rp (by omega) (fun a9 ha9 => by (repeat (first | rw [eU_ne (by omega)] | rw [eU_c (by omega)]))) (hg.fr (by (repeat (first | rw [eU_ne (by omega)] | rw [eU_c (by omega)]))) (by (repeat (first | rw [eU_ne (by omega)] | rw [eU_c (by omega)]))) (fun f9 hf9 => by (repeat (first | rw [eU_ne (by omega)] | rw [eU_c (by omega)])))) (hp.fr (fun a9 _ _ => by (repeat (first | rw [eU_ne (by omega)] | rw [eU_c (by omega)]))) (fun a9 _ _ => by (repeat (first | rw [eU_ne (by omega)] | rw [eU_c (by omega)]))) (by (repeat (first | rw [eU_ne (by omega)] | rw [eU_c (by omega)]))) hk4) (fun p9 hp9 => (a1 p9 hp9).fr (by (repeat (first | rw [eU_ne (by omega)] | rw [eU_c (by omega)]))) (by (repeat (first | rw [eU_ne (by omega)] | rw [eU_c (by omega)]))) (by (repeat (first | rw [eU_ne (by omega)] | rw [eU_c (by omega)]))) (by (repeat (first | rw [eU_ne (by omega)] | rw [eU_c (by omega)])))) (fun p9 hp9 => (a2 p9 hp9).fr (fun f9 hf9 => by (repeat (first | rw [eU_ne (by omega)] | rw [eU_c (by omega)]))) (fun a9 ha9 hb9 => by (repeat (first | rw [eU_ne (by omega)] | rw [eU_c (by omega)])))) (fun p9 hp9 => (a3 p9 hp9).fr (by omega) (by (repeat (first | rw [eU_ne (by omega)] | rw [eU_c (by omega)]))) (by (repeat (first | rw [eU_ne (by omega)] | rw [eU_c (by omega)]))) (by (repeat (first | rw [eU_ne (by omega)] | rw [eU_c (by omega)]))) (fun e9 _ => by (repeat (first | rw [eU_ne (by omega)] | rw [eU_c (by omega)]))) (by (repeat (first | rw [eU_ne (by omega)] | rw [eU_c (by omega)]))) (fun i9 _ => by (repeat (first | rw [eU_ne (by omega)] | rw [eU_c (by omega)])))) (fun p9 hp9 => (a4 p9 hp9).fr (by (repeat (first | rw [eU_ne (by omega)] | rw [eU_c (by omega)]))) (by (repeat (first | rw [eU_ne (by omega)] | rw [eU_c (by omega)]))) (by (repeat (first | rw [eU_ne (by omega)] | rw [eU_c (by omega)]))) (fun i9 _ => by (repeat (first | rw [eU_ne (by omega)] | rw [eU_c (by omega)])))) (fun p9 hp9 => by
          by_cases g9 : p9 = aA
          · subst g9
            exact hn
          · exact (a5 p9 hp9).fr hp9 (by (repeat (first | rw [eU_ne (by omega)] | rw [eU_c (by omega)]))) (fun i9 _ => by (repeat (first | rw [eU_ne (by omega)] | rw [eU_c (by omega)])))) (fun p9 hp9 => (hl p9 hp9).fr (fun a9 ha9 => ⟨by (repeat (first | rw [eU_ne (by omega)] | rw [eU_c (by omega)])), fun x9 _ => by (repeat (first | rw [eU_ne (by omega)] | rw [eU_c (by omega)]))⟩) (fun x9 _ => ⟨by (repeat (first | rw [eU_ne (by omega)] | rw [eU_c (by omega)])), by (repeat (first | rw [eU_ne (by omega)] | rw [eU_c (by omega)]))⟩) (by (repeat (first | rw [eU_ne (by omega)] | rw [eU_c (by omega)]))) (by (repeat (first | rw [eU_ne (by omega)] | rw [eU_c (by omega)]))) (fun _ => rfl)) (hs.fr (fun a9 ha9 => by (repeat (first | rw [eU_ne (by omega)] | rw [eU_c (by omega)]))) (fun a9 ha9 hb9 => by (repeat (first | rw [eU_ne (by omega)] | rw [eU_c (by omega)]))) (fun _ _ _ => rfl))⟩
    · obtain rfl := nI_j haA haB (by omega) exA exB
      obtain rfl := nI_j hbA hbB (by omega) eyA eyB
      obtain rfl := nI_j heA heB (by omega) ewA ewB
      have h5 := a5 aA (by omega) bA eA (by omega) heA
      have hn := (a5 aA (by omega)).leave (by omega) (show bA < 4 by omega) heA (Or.inr ⟨rfl, nneg zB⟩)
      exact ⟨by (repeat (first | rw [eU_ne (by omega)] | rw [eU_c (by omega)])); exact (h5.elim (fun g => absurd g.1 zA) (fun g => g.1.symm)), m, k, hv.rp (by omega) (fun a9 ha9 => by (repeat (first | rw [eU_ne (by omega)] | rw [eU_c (by omega)]))) (hg.fr (by (repeat (first | rw [eU_ne (by omega)] | rw [eU_c (by omega)]))) (by (repeat (first | rw [eU_ne (by omega)] | rw [eU_c (by omega)]))) (fun f9 hf9 => by (repeat (first | rw [eU_ne (by omega)] | rw [eU_c (by omega)])))) (hp.fr (fun a9 _ _ => by (repeat (first | rw [eU_ne (by omega)] | rw [eU_c (by omega)]))) (fun a9 _ _ => by (repeat (first | rw [eU_ne (by omega)] | rw [eU_c (by omega)]))) (by (repeat (first | rw [eU_ne (by omega)] | rw [eU_c (by omega)]))) hk4) (fun p9 hp9 => (a1 p9 hp9).fr (by (repeat (first | rw [eU_ne (by omega)] | rw [eU_c (by omega)]))) (by (repeat (first | rw [eU_ne (by omega)] | rw [eU_c (by omega)]))) (by (repeat (first | rw [eU_ne (by omega)] | rw [eU_c (by omega)]))) (by (repeat (first | rw [eU_ne (by omega)] | rw [eU_c (by omega)])))) (fun p9 hp9 => (a2 p9 hp9).fr (fun f9 hf9 => by (repeat (first | rw [eU_ne (by omega)] | rw [eU_c (by omega)]))) (fun a9 ha9 hb9 => by (repeat (first | rw [eU_ne (by omega)] | rw [eU_c (by omega)])))) (fun p9 hp9 => (a3 p9 hp9).fr (by omega) (by (repeat (first | rw [eU_ne (by omega)] | rw [eU_c (by omega)]))) (by (repeat (first | rw [eU_ne (by omega)] | rw [eU_c (by omega)]))) (by (repeat (first | rw [eU_ne (by omega)] | rw [eU_c (by omega)]))) (fun e9 _ => by (repeat (first | rw [eU_ne (by omega)] | rw [eU_c (by omega)]))) (by (repeat (first | rw [eU_ne (by omega)] | rw [eU_c (by omega)]))) (fun i9 _ => by (repeat (first | rw [eU_ne (by omega)] | rw [eU_c (by omega)])))) (fun p9 hp9 => (a4 p9 hp9).fr (by (repeat (first | rw [eU_ne (by omega)] | rw [eU_c (by omega)]))) (by (repeat (first | rw [eU_ne (by omega)] | rw [eU_c (by omega)]))) (by (repeat (first | rw [eU_ne (by omega)] | rw [eU_c (by omega)]))) (fun i9 _ => by (repeat (first | rw [eU_ne (by omega)] | rw [eU_c (by omega)])))) (fun p9 hp9 => by
          by_cases g9 : p9 = aA
          · subst g9
            exact hn
          · exact (a5 p9 hp9).fr hp9 (by (repeat (first | rw [eU_ne (by omega)] | rw [eU_c (by omega)]))) (fun i9 _ => by (repeat (first | rw [eU_ne (by omega)] | rw [eU_c (by omega)])))) (fun p9 hp9 => (hl p9 hp9).fr (fun a9 ha9 => ⟨by (repeat (first | rw [eU_ne (by omega)] | rw [eU_c (by omega)])), fun x9 _ => by (repeat (first | rw [eU_ne (by omega)] | rw [eU_c (by omega)]))⟩) (fun x9 _ => ⟨by (repeat (first | rw [eU_ne (by omega)] | rw [eU_c (by omega)])), by (repeat (first | rw [eU_ne (by omega)] | rw [eU_c (by omega)]))⟩) (by (repeat (first | rw [eU_ne (by omega)] | rw [eU_c (by omega)]))) (by (repeat (first | rw [eU_ne (by omega)] | rw [eU_c (by omega)]))) (fun _ => rfl)) (hs.fr (fun a9 ha9 => by (repeat (first | rw [eU_ne (by omega)] | rw [eU_c (by omega)]))) (fun a9 ha9 hb9 => by (repeat (first | rw [eU_ne (by omega)] | rw [eU_c (by omega)]))) (fun _ _ _ => rfl))⟩

