theorem IVP.rq {c c2 m m2 k k2 n n2 : Nat} {t t2 : eT} {I I2 : eI} {R R2 : eR} {L : Nat} {xs : Nat → Int32} (h : IVP c m k n t I R L xs) (hS2 : ST n2 t2 R2) (ht : ∀ a, a < 4 → t2 a = t a) (q0 : ∀ a, a < 4 → I2 a = I a) (qG : IG m2 I2) (qP : IP k2 I2) (q1 : ∀ p, p < 4 → IA1 I2 p) (q2 : ∀ p, p < 4 → IA2 I2 p) (q3 : ∀ p, p < 4 → IA3 c2 I2 p) (q4 : ∀ p, p < 4 → IA4 I2 p) (q5 : ∀ p, p < 4 → IA5 I2 p) (qL : ∀ p, p < 4 → IL k2 I2 R2 p) (qS : IS n2 t2 I2 R2) (hm : m2 ≤ 4 := by omega) (hk : k2 ≤ 10 := by omega) : IVP c2 m2 k2 n2 t2 I2 R2 L xs :=
  ⟨hm, hk, hS2, h.2.2.2.1.fr ht q0, qG, qP, q1, q2, q3, q4, q5, qL, qS⟩
theorem IA3.c {I : eI} {c p : Nat} (h : IA3 c I p) : (I (54 + 10 * p) 9 = nI (I 119 p).toNatClampNeg ∧ (I 119 p).toNatClampNeg ≤ 12) ∧ (I 119 p = nI (I 119 p).toNatClampNeg ∧ (I 119 p).toNatClampNeg ≤ 12) ∧ ∀ i, i < (I 119 p).toNatClampNeg → (I (61 + 10 * p) i = nI (I 120 (12 * p + i)).toNatClampNeg ∧ (I 120 (12 * p + i)).toNatClampNeg < 3) ∧ (I 120 (12 * p + i) = nI (I 120 (12 * p + i)).toNatClampNeg ∧ (I 120 (12 * p + i)).toNatClampNeg < 3) := by
  obtain ⟨lc, h1, h2, h3, h4, -⟩ := h
  rw [h2, h3, nI_clamp (by omega)]
  refine ⟨⟨rfl, h1⟩, ⟨rfl, h1⟩, fun i hi => ?_⟩
  obtain ⟨e1, e, he, e2⟩ := h4 i hi
  rw [e1, e2, nI_clamp (by omega)]
  exact ⟨⟨rfl, he⟩, rfl, he⟩
theorem nI_subo {a : Nat} (h : 1 ≤ a) : nI a - 1 = nI (a - 1) := by
  have := nI_pred (a - 1)
  rw [show a - 1 + 1 = a by omega] at this
  exact this
theorem IA3.undo {I I2 : eI} {c0 c p e : Nat} (h : IA3 c0 I p) (hc : I 119 p = nI (c + 1)) (hc2 : c + 1 ≤ 12) (he : e < 3) (h2 : I 120 (12 * p + c) = nI e) (e0 : I2 (54 + 10 * p) 9 = nI c) (e1 : I2 119 p = nI c) (e2 : I2 (61 + 10 * p) = I (61 + 10 * p)) (e3 : ∀ i, i < 12 → I2 120 (12 * p + i) = I 120 (12 * p + i)) (e4 : I2 (60 + 10 * p) e = I (60 + 10 * p) e - 1) (e5 : I2 118 (3 * p + e) = I 118 (3 * p + e) - 1) (e6 : ∀ f, f < 3 → f ≠ e → I2 (60 + 10 * p) f = I (60 + 10 * p) f ∧ I2 118 (3 * p + f) = I 118 (3 * p + f)) : IA3 c0 I2 p := by
  obtain ⟨lc, b1, b2, b3, b4, b5⟩ := h
  obtain rfl : lc = c + 1 := (nI_eq (by omega) (by omega)).mp (b3.symm.trans hc)
  refine ⟨c, by omega, e0, e1, fun i hi => ?_, fun f hf => ?_⟩
  · rw [e2, e3 i (by omega)]
    exact b4 i (by omega)
  · obtain ⟨d1, ce, d2, d3, d4⟩ := b5 f hf
    have eo : occ (I2 120) (12 * p) (nI f) c = occ (I 120) (12 * p) (nI f) c := occ_cg c (fun x hx => e3 x (by omega))
    have es : occ (I 120) (12 * p) (nI f) (c + 1) = occ (I 120) (12 * p) (nI f) c + (if I 120 (12 * p + c) = nI f then 1 else 0) := rfl
    by_cases g : f = e
    · subst g
      rw [if_pos h2] at es
      rw [e4, e5, d1, d3, nI_subo (by omega)]
      exact ⟨rfl, ce - 1, by omega, rfl, by rw [eo]; omega⟩
    · rw [(e6 f hf g).1, (e6 f hf g).2]
      exact ⟨d1, ce, d2, d3, by rw [eo]; omega⟩
theorem ST_53 {n : Nat} {t : eT} {R : eR} {j : Nat} {v : Option Nat} (h : ST n t R) : ST n t (eU R 53 j v) := by
  refine ⟨h.1, h.2.1, fun x f y e => ?_⟩
  have hne : x ≠ 53 := by
    rintro rfl
    have e0 : R0 53 f = none := rfl
    rw [e0] at e
    cases e
  rw [eU_ne hne]
  exact h.2.2 x f y e
theorem IS.cut {n s0 : Nat} {t : eT} {I I2 : eI} {R : eR} (h : IS n t I R) (_ : s0 < 4) (hI : ∀ a, 132 ≤ a → I2 a = I a) (e4 : I2 124 s0 = -1) (e4b : ∀ s, s ≠ s0 → I2 124 s = I 124 s) (e5 : I2 125 = I 125) (e6 : I2 126 = I 126) : IS n t I2 (eU R 53 s0 none) := by
  have hr : ∀ s a, eU R 53 s0 none 53 s = some a → s ≠ s0 ∧ R 53 s = some a := fun s a g => by
    by_cases g2 : s = s0
    · subst g2; rw [eU_at] at g; cases g
    · rw [eU_c g2] at g; exact ⟨g2, g⟩
  have hb : ∀ s a, s < 4 → R 53 s = some a → 150 ≤ a := fun s a hs g => by
    rcases h.1 s hs with ⟨q, -⟩ | ⟨b, cb, lb, q1, q2, -⟩
    · rw [q] at g; cases g
    · rw [q1] at g; cases g; exact q2
  refine ⟨fun s hs => ?_, fun s s2 a a2 cc cc2 h1 h2 h3 h4 h5 h6 h7 => ?_, h.2.2.fr (fun a h1 _ => hI a h1)⟩
  · by_cases g : s = s0
    · subst g
      exact Or.inl ⟨eU_at _ _ _ _, e4⟩
    · exact (h.1 s hs).fr (Nat.le_refl _) (fun _ _ => rfl) (fun a ha _ => hI a (by omega)) (e4b s g) (by rw [e5]) (fun i _ => by rw [e6]) (eU_c g) (fun a ha _ => eU_o (by omega))
  · have g1 := hr s a h4
    have g2 := hr s2 a2 h5
    rw [eU_o (show a ≠ 53 by have := hb s a h1 g1.2; omega)] at h6
    rw [eU_o (show a2 ≠ 53 by have := hb s2 a2 h2 g2.2; omega)] at h7
    exact h.2.1 s s2 a a2 cc cc2 h1 h2 h3 g1.2 g2.2 h6 h7
theorem IS.no {n s : Nat} {t : eT} {I : eI} {R : eR} (h : IS n t I R) (hs : s < 4) (e : R 53 s = none) : I 124 s = -1 := by
  rcases h.1 s hs with ⟨-, q⟩ | ⟨b, cb, lb, q1, -⟩
  · exact q
  · rw [e] at q1; cases q1
theorem IS.yes {n s a : Nat} {t : eT} {I : eI} {R : eR} (h : IS n t I R) (hs : s < 4) (e : R 53 s = some a) : 150 ≤ a ∧ a < n ∧ (t a).1 = 6 ∧ I a 0 = I 125 s ∧ ∃ cc len, R a 1 = some cc ∧ 150 ≤ cc ∧ cc < n ∧ t cc = (9, len) ∧ len ≤ 60 ∧ I 124 s = nI len ∧ ∀ i, i < len → I cc i = I 126 (60 * s + i) := by
  rcases h.1 s hs with ⟨q, -⟩ | ⟨b, cb, lb, q1, q2, q3, q4, q5, q6, q7, q8, q9, q10, q11, q12⟩
  · rw [e] at q; cases q
  · rw [e] at q1
    cases q1
    exact ⟨q2, q3, q4, q11, cb, lb, q5, q6, q7, q8, q9, q10, q12⟩
theorem IS.yes2 {n s a cc len : Nat} {t : eT} {I : eI} {R : eR} (h : IS n t I R) (hs : s < 4) (e : R 53 s = some a) (e1 : R a 1 = some cc) (e2 : t cc = (9, len)) : 150 ≤ cc ∧ cc < n ∧ len ≤ 60 ∧ I 124 s = nI len ∧ ∀ i, i < len → I cc i = I 126 (60 * s + i) := by
  obtain ⟨-, -, -, -, c2, l2, g1, g2, g3, g4, g5, g6, g7⟩ := h.yes hs e
  rw [e1] at g1
  cases g1
  rw [e2] at g4
  cases g4
  exact ⟨g2, g3, g5, g6, g7⟩
theorem IS.sh {n : Nat} {t : eT} {I : eI} {R : eR} (h : IS n t I R) : ∀ j a, j < 4 → R 53 j = some a → (t a).1 = 6 ∧ ∃ c len, R a 1 = some c ∧ t c = (9, len) ∧ len ≤ 60 := fun j a hj e => by
  obtain ⟨-, -, g, -, c2, l2, g1, -, -, g4, g5, -⟩ := h.yes hj e
  exact ⟨g, c2, l2, g1, g4, g5⟩
theorem IS.sz {n : Nat} {t : eT} {I : eI} {R : eR} (h : IS n t I R) : ∀ j, j < 4 → I 124 j < 0 ∨ ∃ len, len ≤ 60 ∧ I 124 j = nI len := fun j hj => by
  rcases h.1 j hj with ⟨-, q⟩ | ⟨b, cb, lb, q1, q2, q3, q4, q5, q6, q7, q8, q9, q10, -⟩
  · rw [q]; exact Or.inl (by decide)
  · exact Or.inr ⟨lb, q9, q10⟩
theorem IS.neg {n s : Nat} {t : eT} {I : eI} {R : eR} (h : IS n t I R) (hs : s < 4) : I 124 s < 0 ↔ R 53 s = none := by
  constructor
  · intro g
    rcases h.1 s hs with ⟨q, -⟩ | ⟨b, cb, lb, q1, q2, q3, q4, q5, q6, q7, q8, q9, q10, -⟩
    · exact q
    · rw [q10] at g; exact absurd g (nI_pos (by omega))
  · intro g
    rw [h.no hs g]
    decide
theorem IS.wr {n j a cc len : Nat} {t : eT} {I I2 : eI} {R : eR} (h : IS n t I R) (hj : j < 4) (ra : R 53 j = some a) (rc : R a 1 = some cc) (tc : t cc = (9, len)) (hI : ∀ b, 132 ≤ b → b ≠ cc → I2 b = I b) (e4 : I2 124 = I 124) (e5 : I2 125 = I 125) (e6 : ∀ s, s < 4 → s ≠ j → ∀ i, i < 60 → I2 126 (60 * s + i) = I 126 (60 * s + i)) (e7 : ∀ i, i < len → I2 cc i = I2 126 (60 * j + i)) : IS n t I2 R := by
  refine ⟨fun s hs => ?_, h.2.1, h.2.2.fr (fun a h1 h2 => hI a h1 (by have := (h.yes2 hj ra rc tc).1; omega))⟩
  rcases h.1 s hs with ⟨q, q0⟩ | ⟨b, cb, lb, q1, q2, q3, q4, q5, q6, q7, q8, q9, q10, q11, q12⟩
  · exact Or.inl ⟨q, by rw [e4]; exact q0⟩
  · have hb : b ≠ cc := by rintro rfl; rw [tc] at q4; cases q4
    refine Or.inr ⟨b, cb, lb, q1, q2, q3, q4, q5, q6, q7, q8, q9, by rw [e4]; exact q10, by rw [hI b (by omega) hb, e5]; exact q11, fun i hi => ?_⟩
    by_cases g : s = j
    · subst g
      rw [ra] at q1
      cases q1
      rw [rc] at q5
      cases q5
      rw [tc] at q8
      cases q8
      exact e7 i hi
    · rw [hI cb (by omega) (h.2.1 s j b a cb cc hs hj g q1 ra q5 rc).2, e6 s hs g i (by omega)]
      exact q12 i hi
theorem IP.kd {k : Nat} {I : eI} (h : IP k I) : (∀ j, j < k → I 6 j = 0 ∨ I 6 j = 1 ∨ I 6 j = 2) ∧ ∀ j, j < k → I 95 j = 0 ∨ I 95 j = 1 ∨ I 95 j = 2 := by
  have key : ∀ j, j < k → I 6 j = I 95 j ∧ (I 95 j = 0 ∨ I 95 j = 1 ∨ I 95 j = 2) := fun j hj => by
    obtain ⟨e1, v, hv, e2⟩ := h.2.2.1 j hj
    rw [e2]
    refine ⟨e1.trans e2, ?_⟩
    rcases (show v = 0 ∨ v = 1 ∨ v = 2 by omega) with rfl | rfl | rfl
    · exact Or.inl rfl
    · exact Or.inr (Or.inl rfl)
    · exact Or.inr (Or.inr rfl)
  exact ⟨fun j hj => by rw [(key j hj).1]; exact (key j hj).2, fun j hj => (key j hj).2⟩
theorem dbl (x : Int32) : 2 * x + 1000 = x + 1000 + x := by
  rw [Int32.two_mul, Int32.add_assoc, Int32.add_assoc, Int32.add_comm 1000 x]
theorem pr_undo {c n : Nat} {t : eT} {I : eI} {R : eR} {L : Nat} {xs : Nat → Int32} (h : Inv c n t I R L xs) (hc : c ≤ 511) {p : Int32} : MC yX7_undo cX7_undo 2 (some .int) 999 0 0 [.ref 4, .int p] n t I R (qI (fun r n1 t1 I1 R1 => MID t1 I1 L xs ∧ MC yX8_undo cX8_undo 3 (some .int) 999 0 0 [.ref 94, .int p] n1 t1 I1 R1 (qI (fun r2 n2 t2 I2 R2 => r2 = r ∧ Inv (c + 1) n2 t2 I2 R2 L xs)))) := by
  obtain ⟨m, k, hv⟩ := h
  obtain ⟨hm4, hk4, hst, hfz, hg, hp, a1, a2, a3, a4, a5, hl, hs⟩ := id hv
  refine c_undo 997 hst hg.1 hm4 (cF := fun j => (I 119 j).toNatClampNeg) (eF := fun j c => (I 120 (12 * j + c)).toNatClampNeg) (fun j hj => (a3 j hj).c.1) (fun j c hj hc => ((a3 j hj).c.2.2 c hc).1) (fun h1A => ?_) (fun jA hjA eA zA => ?_) (fun jA cA hjA eA zA => ?_)
  · refine ⟨hv.mid, c_undoM 997 hst hg.2.1 hm4 (cF := fun j => (I 119 j).toNatClampNeg) (eF := fun j c => (I 120 (12 * j + c)).toNatClampNeg) (fun j hj => (a3 j hj).c.2.1) (fun j c hj hc => ((a3 j hj).c.2.2 c hc).2) (fun h1B => ?_) (fun jB hjB eB zB => ?_) (fun jB cB hjB eB zB => ?_)⟩
    · exact ⟨rfl, m, k, hv.up (by omega)⟩
    · (exfalso; first | assumption | omega | grind)
    · (exfalso; first | assumption | omega | grind)
  · refine ⟨hv.mid, c_undoM 997 hst hg.2.1 hm4 (cF := fun j => (I 119 j).toNatClampNeg) (eF := fun j c => (I 120 (12 * j + c)).toNatClampNeg) (fun j hj => (a3 j hj).c.2.1) (fun j c hj hc => ((a3 j hj).c.2.2 c hc).2) (fun h1B => ?_) (fun jB hjB eB zB => ?_) (fun jB cB hjB eB zB => ?_)⟩
    · (exfalso; first | assumption | omega | grind)
    · exact ⟨rfl, m, k, hv.up (by omega)⟩
    · (exfalso; obtain rfl := nI_j hjA hjB (by omega) eA eB; have := zA.symm.trans zB; omega)
  · refine ⟨⟨hv.mid.1, by (repeat (first | rw [eU_ne (by omega)] | rw [eU_c (by omega)])); exact hv.mid.2.1, hv.mid.2.2⟩, c_undoM 997 hst (by (repeat (first | rw [eU_ne (by omega)] | rw [eU_c (by omega)])); exact hg.2.1) hm4 (cF := fun j => (I 119 j).toNatClampNeg) (eF := fun j c => (I 120 (12 * j + c)).toNatClampNeg) (fun j hj => by (repeat (first | rw [eU_ne (by omega)] | rw [eU_c (by omega)])); exact (a3 j hj).c.2.1) (fun j c hj hc => by (repeat (first | rw [eU_ne (by omega)] | rw [eU_c (by omega)])); exact ((a3 j hj).c.2.2 c hc).2) (fun h1B => ?_) (fun jB hjB eB zB => ?_) (fun jB cB hjB eB zB => ?_)⟩
    · (exfalso; first | assumption | omega | grind)
    · (exfalso; obtain rfl := nI_j hjA hjB (by omega) eA eB; have := zA.symm.trans zB; omega)
    · obtain rfl := nI_j hjA hjB (by omega) eA eB
      obtain rfl : cA = cB := by have := zA.symm.trans zB; omega
      have hc9 := (a3 jA (by omega)).c
      have hd9 := (hc9.2.2 cA (by omega)).2
      generalize (I 120 (12 * jA + cA)).toNatClampNeg = e9 at *
      exact ⟨rfl, m, k, hv.rp (by omega) (fun a9 ha9 => by (repeat (first | rw [eU_ne (by omega)] | rw [eU_c (by omega)]))) (hg.fr (by (repeat (first | rw [eU_ne (by omega)] | rw [eU_c (by omega)]))) (by (repeat (first | rw [eU_ne (by omega)] | rw [eU_c (by omega)]))) (fun f9 hf9 => by (repeat (first | rw [eU_ne (by omega)] | rw [eU_c (by omega)])))) (hp.fr (fun a9 _ _ => by (repeat (first | rw [eU_ne (by omega)] | rw [eU_c (by omega)]))) (fun a9 _ _ => by (repeat (first | rw [eU_ne (by omega)] | rw [eU_c (by omega)]))) (by (repeat (first | rw [eU_ne (by omega)] | rw [eU_c (by omega)]))) hk4) (fun p9 hp9 => (a1 p9 hp9).fr (by (repeat (first | rw [eU_ne (by omega)] | rw [eU_c (by omega)]))) (by (repeat (first | rw [eU_ne (by omega)] | rw [eU_c (by omega)]))) (by (repeat (first | rw [eU_ne (by omega)] | rw [eU_c (by omega)]))) (by (repeat (first | rw [eU_ne (by omega)] | rw [eU_c (by omega)])))) (fun p9 hp9 => (a2 p9 hp9).fr (fun f9 hf9 => by (repeat (first | rw [eU_ne (by omega)] | rw [eU_c (by omega)]))) (fun a9 ha9 hb9 => by (repeat (first | rw [eU_ne (by omega)] | rw [eU_c (by omega)])))) (fun p9 hp9 => by
          by_cases g9 : p9 = jA
          · subst g9
            exact ((a3 p9 hp9).fr (c2 := c + 1) (by omega) rfl rfl rfl (fun _ _ => rfl) rfl (fun _ _ => rfl)).undo (by rw [hc9.2.1.1, zA]) (by omega) hd9.2 hd9.1 (by (repeat (first | rw [eU_ne (by omega)] | rw [eU_at] | rw [eU_c (by omega)]))) (by (repeat (first | rw [eU_ne (by omega)] | rw [eU_at] | rw [eU_c (by omega)]))) (by (repeat (first | rw [eU_ne (by omega)] | rw [eU_at] | rw [eU_c (by omega)]))) (fun i9 _ => by (repeat (first | rw [eU_ne (by omega)] | rw [eU_at] | rw [eU_c (by omega)]))) (by (repeat (first | rw [eU_ne (by omega)] | rw [eU_at] | rw [eU_c (by omega)]))) (by (repeat (first | rw [eU_ne (by omega)] | rw [eU_at] | rw [eU_c (by omega)]))) (fun f9 _ _ => ⟨by (repeat (first | rw [eU_ne (by omega)] | rw [eU_c (by omega)])), by (repeat (first | rw [eU_ne (by omega)] | rw [eU_c (by omega)]))⟩)
          · exact (a3 p9 hp9).fr (by omega) (by (repeat (first | rw [eU_ne (by omega)] | rw [eU_c (by omega)]))) (by (repeat (first | rw [eU_ne (by omega)] | rw [eU_c (by omega)]))) (by (repeat (first | rw [eU_ne (by omega)] | rw [eU_c (by omega)]))) (fun e9 _ => by (repeat (first | rw [eU_ne (by omega)] | rw [eU_c (by omega)]))) (by (repeat (first | rw [eU_ne (by omega)] | rw [eU_c (by omega)]))) (fun i9 _ => by (repeat (first | rw [eU_ne (by omega)] | rw [eU_c (by omega)])))) (fun p9 hp9 => (a4 p9 hp9).fr (by (repeat (first | rw [eU_ne (by omega)] | rw [eU_c (by omega)]))) (by (repeat (first | rw [eU_ne (by omega)] | rw [eU_c (by omega)]))) (by (repeat (first | rw [eU_ne (by omega)] | rw [eU_c (by omega)]))) (fun i9 _ => by (repeat (first | rw [eU_ne (by omega)] | rw [eU_c (by omega)])))) (fun p9 hp9 => (a5 p9 hp9).fr hp9 (by (repeat (first | rw [eU_ne (by omega)] | rw [eU_c (by omega)]))) (fun i9 _ => by (repeat (first | rw [eU_ne (by omega)] | rw [eU_c (by omega)])))) (fun p9 hp9 => (hl p9 hp9).fr (fun a9 ha9 => ⟨by (repeat (first | rw [eU_ne (by omega)] | rw [eU_c (by omega)])), fun x9 _ => by (repeat (first | rw [eU_ne (by omega)] | rw [eU_c (by omega)]))⟩) (fun x9 _ => ⟨by (repeat (first | rw [eU_ne (by omega)] | rw [eU_c (by omega)])), by (repeat (first | rw [eU_ne (by omega)] | rw [eU_c (by omega)]))⟩) (by (repeat (first | rw [eU_ne (by omega)] | rw [eU_c (by omega)]))) (by (repeat (first | rw [eU_ne (by omega)] | rw [eU_c (by omega)]))) (fun _ => rfl)) (hs.fr (fun a9 ha9 => by (repeat (first | rw [eU_ne (by omega)] | rw [eU_c (by omega)]))) (fun a9 ha9 hb9 => by (repeat (first | rw [eU_ne (by omega)] | rw [eU_c (by omega)]))) (fun _ _ _ => rfl))⟩

theorem pr_lose {c n : Nat} {t : eT} {I : eI} {R : eR} {L : Nat} {xs : Nat → Int32} (h : Inv c n t I R L xs) (hc : c ≤ 511) {x : Int32} : MC yX7_lose cX7_lose 3 (some .int) 999 0 0 [.ref 4, .int x] n t I R (qI (fun r n1 t1 I1 R1 => MID t1 I1 L xs ∧ MC yX8_lose cX8_lose 3 (some .int) 999 0 0 [.ref 94, .int x] n1 t1 I1 R1 (qI (fun r2 n2 t2 I2 R2 => r2 = r ∧ Inv (c + 1) n2 t2 I2 R2 L xs)))) := by
  obtain ⟨m, k, hv⟩ := h
  obtain ⟨hm4, hk4, hst, hfz, hg, hp, a1, a2, a3, a4, a5, hl, hs⟩ := id hv
  refine c_lose 997 hst (fun h1A => ?_) (fun jA hjA eA zA => ?_) (fun jA aA hjA eA raA => ?_)
  · refine ⟨hv.mid, c_loseM 997 hst (fun h1B => ?_) (fun jB hjB eB ltB => ?_) (fun jB hjB eB ltB => ?_)⟩
    · exact ⟨rfl, m, k, hv.up (by omega)⟩
    · (exfalso; first | assumption | omega | grind)
    · (exfalso; first | assumption | omega | grind)
  · refine ⟨hv.mid, c_loseM 997 (ST_53 hst) (fun h1B => ?_) (fun jB hjB eB ltB => ?_) (fun jB hjB eB ltB => ?_)⟩
    · (exfalso; first | assumption | omega | grind)
    · obtain rfl := nI_j hjA hjB (by omega) eA eB
      exact ⟨rfl, m, k, hv.rq (ST_53 hst) (fun _ _ => rfl) (fun a9 ha9 => by (repeat (first | rw [eU_ne (by omega)] | rw [eU_c (by omega)]))) (hg.fr (by (repeat (first | rw [eU_ne (by omega)] | rw [eU_c (by omega)]))) (by (repeat (first | rw [eU_ne (by omega)] | rw [eU_c (by omega)]))) (fun f9 hf9 => by (repeat (first | rw [eU_ne (by omega)] | rw [eU_c (by omega)])))) (hp.fr (fun a9 _ _ => by (repeat (first | rw [eU_ne (by omega)] | rw [eU_c (by omega)]))) (fun a9 _ _ => by (repeat (first | rw [eU_ne (by omega)] | rw [eU_c (by omega)]))) (by (repeat (first | rw [eU_ne (by omega)] | rw [eU_c (by omega)]))) hk4) (fun p9 hp9 => (a1 p9 hp9).fr (by (repeat (first | rw [eU_ne (by omega)] | rw [eU_c (by omega)]))) (by (repeat (first | rw [eU_ne (by omega)] | rw [eU_c (by omega)]))) (by (repeat (first | rw [eU_ne (by omega)] | rw [eU_c (by omega)]))) (by (repeat (first | rw [eU_ne (by omega)] | rw [eU_c (by omega)])))) (fun p9 hp9 => (a2 p9 hp9).fr (fun f9 hf9 => by (repeat (first | rw [eU_ne (by omega)] | rw [eU_c (by omega)]))) (fun a9 ha9 hb9 => by (repeat (first | rw [eU_ne (by omega)] | rw [eU_c (by omega)])))) (fun p9 hp9 => (a3 p9 hp9).fr (by omega) (by (repeat (first | rw [eU_ne (by omega)] | rw [eU_c (by omega)]))) (by (repeat (first | rw [eU_ne (by omega)] | rw [eU_c (by omega)]))) (by (repeat (first | rw [eU_ne (by omega)] | rw [eU_c (by omega)]))) (fun e9 _ => by (repeat (first | rw [eU_ne (by omega)] | rw [eU_c (by omega)]))) (by (repeat (first | rw [eU_ne (by omega)] | rw [eU_c (by omega)]))) (fun i9 _ => by (repeat (first | rw [eU_ne (by omega)] | rw [eU_c (by omega)])))) (fun p9 hp9 => (a4 p9 hp9).fr (by (repeat (first | rw [eU_ne (by omega)] | rw [eU_c (by omega)]))) (by (repeat (first | rw [eU_ne (by omega)] | rw [eU_c (by omega)]))) (by (repeat (first | rw [eU_ne (by omega)] | rw [eU_c (by omega)]))) (fun i9 _ => by (repeat (first | rw [eU_ne (by omega)] | rw [eU_c (by omega)])))) (fun p9 hp9 => (a5 p9 hp9).fr hp9 (by (repeat (first | rw [eU_ne (by omega)] | rw [eU_c (by omega)]))) (fun i9 _ => by (repeat (first | rw [eU_ne (by omega)] | rw [eU_c (by omega)])))) (fun p9 hp9 => (hl p9 hp9).fr (fun a9 ha9 => ⟨by (repeat (first | rw [eU_ne (by omega)] | rw [eU_c (by omega)])), fun x9 _ => by (repeat (first | rw [eU_ne (by omega)] | rw [eU_c (by omega)]))⟩) (fun x9 _ => ⟨by (repeat (first | rw [eU_ne (by omega)] | rw [eU_c (by omega)])), by (repeat (first | rw [eU_ne (by omega)] | rw [eU_c (by omega)]))⟩) (by (repeat (first | rw [eU_ne (by omega)] | rw [eU_c (by omega)]))) (by (repeat (first | rw [eU_ne (by omega)] | rw [eU_c (by omega)]))) (fun f9 => by (repeat (first | rw [eU_ne (by omega)] | rw [eU_c (by omega)])))) (hs.cut hjA (fun a9 ha9 => by (repeat (first | rw [eU_ne (by omega)] | rw [eU_c (by omega)]))) (by (repeat (first | rw [eU_ne (by omega)] | rw [eU_at] | rw [eU_c (by omega)]))) (fun s9 hs9 => by (repeat (first | rw [eU_ne (by omega)] | rw [eU_c (by omega)]))) (by (repeat (first | rw [eU_ne (by omega)] | rw [eU_c (by omega)]))) (by (repeat (first | rw [eU_ne (by omega)] | rw [eU_c (by omega)]))))⟩
    · obtain rfl := nI_j hjA hjB (by omega) eA eB
      exact absurd ((hs.neg hjA).mpr zA) ltB
  · refine ⟨hv.mid, c_loseM 997 (ST_53 hst) (fun h1B => ?_) (fun jB hjB eB ltB => ?_) (fun jB hjB eB ltB => ?_)⟩
    · (exfalso; first | assumption | omega | grind)
    · obtain rfl := nI_j hjA hjB (by omega) eA eB
      rw [(hs.neg hjA).mp ltB] at raA
      cases raA
    · obtain rfl := nI_j hjA hjB (by omega) eA eB
      exact ⟨rfl, m, k, hv.rq (ST_53 hst) (fun _ _ => rfl) (fun a9 ha9 => by (repeat (first | rw [eU_ne (by omega)] | rw [eU_c (by omega)]))) (hg.fr (by (repeat (first | rw [eU_ne (by omega)] | rw [eU_c (by omega)]))) (by (repeat (first | rw [eU_ne (by omega)] | rw [eU_c (by omega)]))) (fun f9 hf9 => by (repeat (first | rw [eU_ne (by omega)] | rw [eU_c (by omega)])))) (hp.fr (fun a9 _ _ => by (repeat (first | rw [eU_ne (by omega)] | rw [eU_c (by omega)]))) (fun a9 _ _ => by (repeat (first | rw [eU_ne (by omega)] | rw [eU_c (by omega)]))) (by (repeat (first | rw [eU_ne (by omega)] | rw [eU_c (by omega)]))) hk4) (fun p9 hp9 => (a1 p9 hp9).fr (by (repeat (first | rw [eU_ne (by omega)] | rw [eU_c (by omega)]))) (by (repeat (first | rw [eU_ne (by omega)] | rw [eU_c (by omega)]))) (by (repeat (first | rw [eU_ne (by omega)] | rw [eU_c (by omega)]))) (by (repeat (first | rw [eU_ne (by omega)] | rw [eU_c (by omega)])))) (fun p9 hp9 => (a2 p9 hp9).fr (fun f9 hf9 => by (repeat (first | rw [eU_ne (by omega)] | rw [eU_c (by omega)]))) (fun a9 ha9 hb9 => by (repeat (first | rw [eU_ne (by omega)] | rw [eU_c (by omega)])))) (fun p9 hp9 => (a3 p9 hp9).fr (by omega) (by (repeat (first | rw [eU_ne (by omega)] | rw [eU_c (by omega)]))) (by (repeat (first | rw [eU_ne (by omega)] | rw [eU_c (by omega)]))) (by (repeat (first | rw [eU_ne (by omega)] | rw [eU_c (by omega)]))) (fun e9 _ => by (repeat (first | rw [eU_ne (by omega)] | rw [eU_c (by omega)]))) (by (repeat (first | rw [eU_ne (by omega)] | rw [eU_c (by omega)]))) (fun i9 _ => by (repeat (first | rw [eU_ne (by omega)] | rw [eU_c (by omega)])))) (fun p9 hp9 => (a4 p9 hp9).fr (by (repeat (first | rw [eU_ne (by omega)] | rw [eU_c (by omega)]))) (by (repeat (first | rw [eU_ne (by omega)] | rw [eU_c (by omega)]))) (by (repeat (first | rw [eU_ne (by omega)] | rw [eU_c (by omega)]))) (fun i9 _ => by (repeat (first | rw [eU_ne (by omega)] | rw [eU_c (by omega)])))) (fun p9 hp9 => (a5 p9 hp9).fr hp9 (by (repeat (first | rw [eU_ne (by omega)] | rw [eU_c (by omega)]))) (fun i9 _ => by (repeat (first | rw [eU_ne (by omega)] | rw [eU_c (by omega)])))) (fun p9 hp9 => (hl p9 hp9).fr (fun a9 ha9 => ⟨by (repeat (first | rw [eU_ne (by omega)] | rw [eU_c (by omega)])), fun x9 _ => by (repeat (first | rw [eU_ne (by omega)] | rw [eU_c (by omega)]))⟩) (fun x9 _ => ⟨by (repeat (first | rw [eU_ne (by omega)] | rw [eU_c (by omega)])), by (repeat (first | rw [eU_ne (by omega)] | rw [eU_c (by omega)]))⟩) (by (repeat (first | rw [eU_ne (by omega)] | rw [eU_c (by omega)]))) (by (repeat (first | rw [eU_ne (by omega)] | rw [eU_c (by omega)]))) (fun f9 => by (repeat (first | rw [eU_ne (by omega)] | rw [eU_c (by omega)])))) (hs.cut hjA (fun a9 ha9 => by (repeat (first | rw [eU_ne (by omega)] | rw [eU_c (by omega)]))) (by (repeat (first | rw [eU_ne (by omega)] | rw [eU_at] | rw [eU_c (by omega)]))) (fun s9 hs9 => by (repeat (first | rw [eU_ne (by omega)] | rw [eU_c (by omega)]))) (by (repeat (first | rw [eU_ne (by omega)] | rw [eU_c (by omega)]))) (by (repeat (first | rw [eU_ne (by omega)] | rw [eU_c (by omega)]))))⟩

theorem pr_as {c n : Nat} {t : eT} {I : eI} {R : eR} {L : Nat} {xs : Nat → Int32} (h : Inv c n t I R L xs) (hc : c ≤ 511) {x w : Int32} : MC yX7_as cX7_as 3 (some .int) 999 0 0 [.ref 4, .int x, .int w] n t I R (qI (fun r n1 t1 I1 R1 => MID t1 I1 L xs ∧ MC yX8_as cX8_as 3 (some .int) 999 0 0 [.ref 94, .int x, .int w] n1 t1 I1 R1 (qI (fun r2 n2 t2 I2 R2 => r2 = r ∧ Inv (c + 1) n2 t2 I2 R2 L xs)))) := by
  obtain ⟨m, k, hv⟩ := h
  obtain ⟨hm4, hk4, hst, hfz, hg, hp, a1, a2, a3, a4, a5, hl, hs⟩ := id hv
  refine c_as 997 hst hp.1 hk4 (fun h1A => ?_) (fun jA hjA eA h2A => ?_) (fun jA hjA eA w1A w2A zA => ?_) (fun jA hjA eA w1A w2A zA => ?_)
  · refine ⟨⟨hv.mid.1, by (repeat (first | rw [eU_ne (by omega)] | rw [eU_c (by omega)])); exact hv.mid.2.1, hv.mid.2.2⟩, c_asM 997 hst (by (repeat (first | rw [eU_ne (by omega)] | rw [eU_c (by omega)])); exact hp.2.1) hk4 (fun h1B => ?_) (fun jB hjB eB h2B => ?_) (fun jB hjB eB w1B w2B zB => ?_) (fun jB hjB eB w1B w2B zB => ?_)⟩
    · exact ⟨rfl, m, k, hv.fr (by omega) (fun a9 ha9 => by (repeat (first | rw [eU_ne (by omega)] | rw [eU_c (by omega)]))) (by (repeat (first | rw [eU_ne (by omega)] | rw [eU_c (by omega)]))) (hg.flt (by (repeat (first | rw [eU_ne (by omega)] | rw [eU_c (by omega)]))) (by (repeat (first | rw [eU_ne (by omega)] | rw [eU_c (by omega)]))) (by (repeat (first | rw [eU_ne (by omega)] | rw [eU_c (by omega)]))) (fun f9 hf9 => by (repeat (first | rw [eU_ne (by omega)] | rw [eU_c (by omega)]))) rfl)⟩
    · (exfalso; first | assumption | omega | grind)
    · (exfalso; first | assumption | omega | grind)
    · (exfalso; first | assumption | omega | grind)
  · refine ⟨⟨hv.mid.1, by (repeat (first | rw [eU_ne (by omega)] | rw [eU_c (by omega)])); exact hv.mid.2.1, hv.mid.2.2⟩, c_asM 997 hst (by (repeat (first | rw [eU_ne (by omega)] | rw [eU_c (by omega)])); exact hp.2.1) hk4 (fun h1B => ?_) (fun jB hjB eB h2B => ?_) (fun jB hjB eB w1B w2B zB => ?_) (fun jB hjB eB w1B w2B zB => ?_)⟩
    · (exfalso; first | assumption | omega | grind)
    · exact ⟨rfl, m, k, hv.fr (by omega) (fun a9 ha9 => by (repeat (first | rw [eU_ne (by omega)] | rw [eU_c (by omega)]))) (by (repeat (first | rw [eU_ne (by omega)] | rw [eU_c (by omega)]))) (hg.flt (by (repeat (first | rw [eU_ne (by omega)] | rw [eU_c (by omega)]))) (by (repeat (first | rw [eU_ne (by omega)] | rw [eU_c (by omega)]))) (by (repeat (first | rw [eU_ne (by omega)] | rw [eU_c (by omega)]))) (fun f9 hf9 => by (repeat (first | rw [eU_ne (by omega)] | rw [eU_c (by omega)]))) rfl)⟩
    · (exfalso; first | assumption | omega | grind)
    · (exfalso; first | assumption | omega | grind)
  · refine ⟨⟨hv.mid.1, by (repeat (first | rw [eU_ne (by omega)] | rw [eU_c (by omega)])); exact hv.mid.2.1, hv.mid.2.2⟩, c_asM 997 hst (by (repeat (first | rw [eU_ne (by omega)] | rw [eU_c (by omega)])); exact hp.2.1) hk4 (fun h1B => ?_) (fun jB hjB eB h2B => ?_) (fun jB hjB eB w1B w2B zB => ?_) (fun jB hjB eB w1B w2B zB => ?_)⟩
    · (exfalso; first | assumption | omega | grind)
    · (exfalso; first | assumption | omega | grind)
    · exact ⟨rfl, m, k, hv.fr (by omega) (fun a9 ha9 => by (repeat (first | rw [eU_ne (by omega)] | rw [eU_c (by omega)]))) (by (repeat (first | rw [eU_ne (by omega)] | rw [eU_c (by omega)]))) (hg.flt (by (repeat (first | rw [eU_ne (by omega)] | rw [eU_c (by omega)]))) (by (repeat (first | rw [eU_ne (by omega)] | rw [eU_c (by omega)]))) (by (repeat (first | rw [eU_ne (by omega)] | rw [eU_c (by omega)]))) (fun f9 hf9 => by (repeat (first | rw [eU_ne (by omega)] | rw [eU_c (by omega)]))) rfl)⟩
    · obtain rfl := nI_j hjA hjB (by omega) eA eB
      rw [(hp.2.2.1 _ hjA).1] at zA
      exact absurd zB zA
  · refine ⟨⟨hv.mid.1, by (repeat (first | rw [eU_ne (by omega)] | rw [eU_c (by omega)])); exact hv.mid.2.1, hv.mid.2.2⟩, c_asM 997 hst (by (repeat (first | rw [eU_ne (by omega)] | rw [eU_c (by omega)])); exact hp.2.1) hk4 (fun h1B => ?_) (fun jB hjB eB h2B => ?_) (fun jB hjB eB w1B w2B zB => ?_) (fun jB hjB eB w1B w2B zB => ?_)⟩
    · (exfalso; first | assumption | omega | grind)
    · (exfalso; first | assumption | omega | grind)
    · obtain rfl := nI_j hjA hjB (by omega) eA eB
      rw [(hp.2.2.1 _ hjA).1] at zA
      exact absurd zA zB
    · exact ⟨rfl, m, k, hv.fr (by omega) (fun a9 ha9 => by (repeat (first | rw [eU_ne (by omega)] | rw [eU_c (by omega)]))) (by (repeat (first | rw [eU_ne (by omega)] | rw [eU_c (by omega)]))) (hg.flt (by (repeat (first | rw [eU_ne (by omega)] | rw [eU_c (by omega)]))) (by (repeat (first | rw [eU_ne (by omega)] | rw [eU_c (by omega)]))) (by (repeat (first | rw [eU_ne (by omega)] | rw [eU_c (by omega)]))) (fun f9 hf9 => by (repeat (first | rw [eU_ne (by omega)] | rw [eU_c (by omega)]))) rfl)⟩

theorem pr_speak {c n : Nat} {t : eT} {I : eI} {R : eR} {L : Nat} {xs : Nat → Int32} (h : Inv c n t I R L xs) (hc : c ≤ 511) {x : Int32} : MC yX7_speak cX7_speak 2 (some .int) 999 0 0 [.ref 4, .int x] n t I R (qI (fun r n1 t1 I1 R1 => MID t1 I1 L xs ∧ MC yX8_speak cX8_speak 2 (some .int) 999 0 0 [.ref 94, .int x] n1 t1 I1 R1 (qI (fun r2 n2 t2 I2 R2 => r2 = r ∧ Inv (c + 1) n2 t2 I2 R2 L xs)))) := by
  obtain ⟨m, k, hv⟩ := h
  obtain ⟨hm4, hk4, hst, hfz, hg, hp, a1, a2, a3, a4, a5, hl, hs⟩ := id hv
  refine c_speak 997 hst hp.1 hk4 (fun h1A => ?_) (fun jA hjA eA zA => ?_) (fun jA hjA eA zA => ?_)
  · refine ⟨hv.mid, c_speakM 997 hst hp.2.1 hk4 (fun h1B => ?_) (fun jB hjB eB zB => ?_) (fun jB hjB eB zB => ?_)⟩
    · exact ⟨rfl, m, k, hv.up (by omega)⟩
    · (exfalso; first | assumption | omega | grind)
    · (exfalso; first | assumption | omega | grind)
  · refine ⟨⟨hv.mid.1, by (repeat (first | rw [eU_ne (by omega)] | rw [eU_c (by omega)])); exact hv.mid.2.1, hv.mid.2.2⟩, c_speakM 997 hst (by (repeat (first | rw [eU_ne (by omega)] | rw [eU_c (by omega)])); exact hp.2.1) hk4 (fun h1B => ?_) (fun jB hjB eB zB => ?_) (fun jB hjB eB zB => ?_)⟩
    · (exfalso; first | assumption | omega | grind)
    · obtain rfl := nI_j hjA hjB (by omega) eA eB
      exact ⟨rfl, m, k, hv.fr (by omega) (fun a9 ha9 => by (repeat (first | rw [eU_ne (by omega)] | rw [eU_c (by omega)]))) (by (repeat (first | rw [eU_ne (by omega)] | rw [eU_c (by omega)]))) ⟨hg.1, hg.2.1, hg.2.2.1, hg.2.2.2.1, hg.2.2.2.2.1, (show (31 * I 4 8 + 5 : Int32) = 31 * I 94 42 + 5 by rw [hg.2.2.2.2.2.1]), hg.2.2.2.2.2.2⟩⟩
    · obtain rfl := nI_j hjA hjB (by omega) eA eB
      rw [(hp.2.2.1 _ hjA).1] at zA
      exact absurd zA zB
  · refine ⟨⟨hv.mid.1, by (repeat (first | rw [eU_ne (by omega)] | rw [eU_c (by omega)])); exact hv.mid.2.1, hv.mid.2.2⟩, c_speakM 997 hst (by (repeat (first | rw [eU_ne (by omega)] | rw [eU_c (by omega)])); exact hp.2.1) hk4 (fun h1B => ?_) (fun jB hjB eB zB => ?_) (fun jB hjB eB zB => ?_)⟩
    · (exfalso; first | assumption | omega | grind)
    · obtain rfl := nI_j hjA hjB (by omega) eA eB
      rw [(hp.2.2.1 _ hjA).1] at zA
      exact absurd zB zA
    · obtain rfl := nI_j hjA hjB (by omega) eA eB
      exact ⟨rfl, m, k, hv.fr (by omega) (fun a9 ha9 => by (repeat (first | rw [eU_ne (by omega)] | rw [eU_c (by omega)]))) (by (repeat (first | rw [eU_ne (by omega)] | rw [eU_c (by omega)]))) ⟨hg.1, hg.2.1, hg.2.2.1, hg.2.2.2.1, hg.2.2.2.2.1, (show (31 * I 4 8 + 4 : Int32) = 31 * I 94 42 + 4 by rw [hg.2.2.2.2.2.1]), hg.2.2.2.2.2.2⟩⟩

theorem pr_tell {c n : Nat} {t : eT} {I : eI} {R : eR} {L : Nat} {xs : Nat → Int32} (h : Inv c n t I R L xs) (hc : c ≤ 511) {x : Int32} : MC yX7_tell cX7_tell 2 (some .int) 999 0 0 [.ref 4, .int x] n t I R (qI (fun r n1 t1 I1 R1 => MID t1 I1 L xs ∧ MC yX8_tell cX8_tell 3 (some .int) 999 0 0 [.ref 94, .int x] n1 t1 I1 R1 (qI (fun r2 n2 t2 I2 R2 => r2 = r ∧ Inv (c + 1) n2 t2 I2 R2 L xs)))) := by
  obtain ⟨m, k, hv⟩ := h
  obtain ⟨hm4, hk4, hst, hfz, hg, hp, a1, a2, a3, a4, a5, hl, hs⟩ := id hv
  refine c_tell 995 hst hp.1 hk4 hp.kd.1 (fun h1A => ?_) (fun jA hjA eA zA => ?_) (fun jA hjA eA zA => ?_) (fun jA hjA eA zA => ?_)
  · refine ⟨hv.mid, c_tellM 997 hst hp.2.1 hk4 hp.kd.2 (fun h1B => ?_) (fun jB hjB eB zB => ?_) (fun jB hjB eB zB => ?_) (fun jB hjB eB zB => ?_)⟩
    · exact ⟨rfl, m, k, hv.up (by omega)⟩
    · (exfalso; first | assumption | omega | grind)
    · (exfalso; first | assumption | omega | grind)
    · (exfalso; first | assumption | omega | grind)
  · refine ⟨⟨hv.mid.1, by (repeat (first | rw [eU_ne (by omega)] | rw [eU_c (by omega)])); exact hv.mid.2.1, hv.mid.2.2⟩, c_tellM 997 hst (by (repeat (first | rw [eU_ne (by omega)] | rw [eU_c (by omega)])); exact hp.2.1) hk4 (by exact hp.kd.2) (fun h1B => ?_) (fun jB hjB eB zB => ?_) (fun jB hjB eB zB => ?_) (fun jB hjB eB zB => ?_)⟩
    · (exfalso; first | assumption | omega | grind)
    · obtain rfl := nI_j hjA hjB (by omega) eA eB
      exact ⟨(hp.2.2.2.1 _ hjA).1.symm, m, k, hv.fr (by omega) (fun a9 ha9 => by (repeat (first | rw [eU_ne (by omega)] | rw [eU_c (by omega)]))) (by (repeat (first | rw [eU_ne (by omega)] | rw [eU_c (by omega)]))) ⟨hg.1, hg.2.1, hg.2.2.1, hg.2.2.2.1, hg.2.2.2.2.1, (show (31 * I 4 8 + 1 : Int32) = 31 * I 94 42 + 1 by rw [hg.2.2.2.2.2.1]), hg.2.2.2.2.2.2⟩⟩
    · (exfalso; obtain rfl := nI_j hjA hjB (by omega) eA eB; rw [(hp.2.2.1 _ hjA).1] at zA; have z9 : I 95 jA = 1 := zB; rw [zA] at z9; exact absurd z9 (by decide))
    · (exfalso; obtain rfl := nI_j hjA hjB (by omega) eA eB; rw [(hp.2.2.1 _ hjA).1] at zA; have z9 : I 95 jA = 2 := zB; rw [zA] at z9; exact absurd z9 (by decide))
  · refine ⟨⟨hv.mid.1, by (repeat (first | rw [eU_ne (by omega)] | rw [eU_c (by omega)])); exact hv.mid.2.1, hv.mid.2.2⟩, c_tellM 997 hst (by (repeat (first | rw [eU_ne (by omega)] | rw [eU_c (by omega)])); exact hp.2.1) hk4 (by exact hp.kd.2) (fun h1B => ?_) (fun jB hjB eB zB => ?_) (fun jB hjB eB zB => ?_) (fun jB hjB eB zB => ?_)⟩
    · (exfalso; first | assumption | omega | grind)
    · (exfalso; obtain rfl := nI_j hjA hjB (by omega) eA eB; rw [(hp.2.2.1 _ hjA).1] at zA; have z9 : I 95 jA = 0 := zB; rw [zA] at z9; exact absurd z9 (by decide))
    · obtain rfl := nI_j hjA hjB (by omega) eA eB
      exact ⟨(show I 96 jA + 1000 = I 7 jA + 1000 by rw [(hp.2.2.2.1 _ hjA).1]), m, k, hv.fr (by omega) (fun a9 ha9 => by (repeat (first | rw [eU_ne (by omega)] | rw [eU_c (by omega)]))) (by (repeat (first | rw [eU_ne (by omega)] | rw [eU_c (by omega)]))) ⟨hg.1, hg.2.1, hg.2.2.1, hg.2.2.2.1, hg.2.2.2.2.1, (show (31 * (31 * I 4 8 + 2) + 1 : Int32) = 31 * (31 * I 94 42 + 2) + 1 by rw [hg.2.2.2.2.2.1]), hg.2.2.2.2.2.2⟩⟩
    · (exfalso; obtain rfl := nI_j hjA hjB (by omega) eA eB; rw [(hp.2.2.1 _ hjA).1] at zA; have z9 : I 95 jA = 2 := zB; rw [zA] at z9; exact absurd z9 (by decide))
  · refine ⟨⟨hv.mid.1, by (repeat (first | rw [eU_ne (by omega)] | rw [eU_c (by omega)])); exact hv.mid.2.1, hv.mid.2.2⟩, c_tellM 997 hst (by (repeat (first | rw [eU_ne (by omega)] | rw [eU_c (by omega)])); exact hp.2.1) hk4 (by exact hp.kd.2) (fun h1B => ?_) (fun jB hjB eB zB => ?_) (fun jB hjB eB zB => ?_) (fun jB hjB eB zB => ?_)⟩
    · (exfalso; first | assumption | omega | grind)
    · (exfalso; obtain rfl := nI_j hjA hjB (by omega) eA eB; rw [(hp.2.2.1 _ hjA).1] at zA; have z9 : I 95 jA = 0 := zB; rw [zA] at z9; exact absurd z9 (by decide))
    · (exfalso; obtain rfl := nI_j hjA hjB (by omega) eA eB; rw [(hp.2.2.1 _ hjA).1] at zA; have z9 : I 95 jA = 1 := zB; rw [zA] at z9; exact absurd z9 (by decide))
    · obtain rfl := nI_j hjA hjB (by omega) eA eB
      exact ⟨(show 2 * I 96 jA + 1000 = I 7 jA + 1000 + I 7 jA by rw [(hp.2.2.2.1 _ hjA).1]; exact dbl _), m, k, hv.fr (by omega) (fun a9 ha9 => by (repeat (first | rw [eU_ne (by omega)] | rw [eU_c (by omega)]))) (by (repeat (first | rw [eU_ne (by omega)] | rw [eU_c (by omega)]))) ⟨hg.1, hg.2.1, hg.2.2.1, hg.2.2.2.1, hg.2.2.2.2.1, (show (31 * (31 * (31 * (31 * I 4 8 + 3) + 2) + 1) + 1 : Int32) = 31 * (31 * (31 * (31 * I 94 42 + 3) + 2) + 1) + 1 by rw [hg.2.2.2.2.2.1]), hg.2.2.2.2.2.2⟩⟩

