theorem T0_b {a : Nat} {v : Nat × Nat} (h : T0 a = some v) : a < 150 := by
  apply Decidable.byContradiction
  intro g
  have e : T0 a = none := by
    unfold T0
    rw [List.getD_eq_getElem?_getD, List.getElem?_eq_none (show T0L.length ≤ a from (show T0L.length = 150 from rfl) ▸ (by omega))]
    rfl
  rw [e] at h
  cases h
theorem R0_b {a f b : Nat} (h : R0 a f = some b) : a < 150 := by
  apply Decidable.byContradiction
  intro g
  have e : R0 a f = none := by
    have e0 : R0L.getD a [] = [] := by
      rw [List.getD_eq_getElem?_getD, List.getElem?_eq_none (show R0L.length ≤ a from (show R0L.length = 150 from rfl) ▸ (by omega))]
      rfl
    unfold R0
    rw [e0]
    rfl
  rw [e] at h
  cases h
theorem ST_new {n ln j : Nat} {t : eT} {R : eR} (h : ST n t R) : ST (n + 2) (eG (eG t n (6, 0)) (n + 1) (9, ln)) (eU (eU (eG (eG R n (fun _ => none)) (n + 1) (fun _ => none)) n 1 (some (n + 1))) 53 j (some n)) := by
  have hn := h.1
  refine ST_53 ⟨by omega, fun a v e => ?_, fun a f b e => ?_⟩
  · have := T0_b e
    rw [eG_ne (by omega), eG_ne (by omega)]
    exact h.2.1 a v e
  · have := R0_b e
    rw [eU_ne (by omega), eG_ne (by omega), eG_ne (by omega)]
    exact h.2.2 a f b e
theorem IS.new {n j ln : Nat} {t t2 : eT} {I I2 : eI} {R R2 : eR} (h : IS n t I R) (hn : 150 ≤ n) (_ : j < 4) (ht : ∀ a, a < n → t2 a = t a) (tn : t2 n = (6, 0)) (tn1 : t2 (n + 1) = (9, ln)) (hln : ln ≤ 60) (hR : ∀ a f, a < n → (a ≠ 53 ∨ f ≠ j) → R2 a f = R a f) (r1 : R2 53 j = some n) (r2 : R2 n 1 = some (n + 1)) (hI : ∀ a, 132 ≤ a → a < n → I2 a = I a) (i0 : I2 n 0 = I2 125 j) (e4 : I2 124 j = nI ln) (e4b : ∀ s, s ≠ j → I2 124 s = I 124 s) (e5 : ∀ s, s ≠ j → I2 125 s = I 125 s) (e6 : ∀ s, s ≠ j → ∀ i, i < 60 → I2 126 (60 * s + i) = I 126 (60 * s + i)) (e7 : ∀ i, i < ln → I2 (n + 1) i = I2 126 (60 * j + i)) : IS (n + 2) t2 I2 R2 := by
  have key : ∀ s a cc, s < 4 → R2 53 s = some a → R2 a 1 = some cc → (s = j ∧ a = n ∧ cc = n + 1) ∨ (s ≠ j ∧ a < n ∧ cc < n ∧ R 53 s = some a ∧ R a 1 = some cc) := fun s a cc hs g1 g2 => by
    by_cases g : s = j
    · subst g
      rw [r1] at g1
      cases g1
      rw [r2] at g2
      cases g2
      exact Or.inl ⟨rfl, rfl, rfl⟩
    · rw [hR 53 s (by omega) (Or.inr g)] at g1
      rcases h.1 s hs with ⟨q, -⟩ | ⟨b, cb, lb, q1, q2, q3, q4, q5, q6, q7, -⟩
      · rw [q] at g1; cases g1
      · rw [q1] at g1
        cases g1
        rw [hR _ 1 q3 (Or.inl (by omega)), q5] at g2
        cases g2
        exact Or.inr ⟨g, q3, q7, q1, q5⟩
  refine ⟨fun s hs => ?_, fun s s2 a a2 cc cc2 h1 h2 h3 h4 h5 h6 h7 => ?_, h.2.2.fr (fun a h1 h2 => hI a h1 (by omega))⟩
  · by_cases g : s = j
    · subst g
      exact Or.inr ⟨n, n + 1, ln, r1, hn, by omega, by rw [tn], r2, by omega, by omega, tn1, hln, e4, i0, e7⟩
    · exact (h.1 s hs).fr (by omega) ht (fun a h8 h9 => hI a (by omega) h9) (e4b s g) (e5 s g) (e6 s g) (hR 53 s (by omega) (Or.inr g)) (fun a h8 h9 => hR a 1 h9 (Or.inl (by omega)))
  · rcases key s a cc h1 h4 h6 with ⟨b1, b2, b3⟩ | ⟨b1, b2, b3, b4, b5⟩
    · rcases key s2 a2 cc2 h2 h5 h7 with ⟨d1, d2, d3⟩ | ⟨d1, d2, d3, d4, d5⟩
      · exact absurd (b1.trans d1.symm) h3
      · omega
    · rcases key s2 a2 cc2 h2 h5 h7 with ⟨d1, d2, d3⟩ | ⟨d1, d2, d3, d4, d5⟩
      · omega
      · exact h.2.1 s s2 a a2 cc cc2 h1 h2 h3 b4 d4 b5 d5
theorem pr_put {c n : Nat} {t : eT} {I : eI} {R : eR} {L : Nat} {xs : Nat → Int32} (h : Inv c n t I R L xs) (hc : c ≤ 511) {x y v : Int32} : MC yX7_put cX7_put 5 (some .int) 999 0 0 [.ref 4, .int x, .int y, .int v] n t I R (qI (fun r n1 t1 I1 R1 => MID t1 I1 L xs ∧ MC yX8_put cX8_put 4 (some .int) 999 0 0 [.ref 94, .int x, .int y, .int v] n1 t1 I1 R1 (qI (fun r2 n2 t2 I2 R2 => r2 = r ∧ Inv (c + 1) n2 t2 I2 R2 L xs)))) := by
  obtain ⟨m, k, hv⟩ := h
  obtain ⟨hm4, hk4, hst, hfz, hg, hp, a1, a2, a3, a4, a5, hl, hs⟩ := id hv
  refine c_put 997 hst hs.sh (fun h1A => ?_) (fun jA hjA eA zA => ?_) (fun jA aA cA lenA hjA eA raA rcA tcA h3A => ?_) (fun jA aA cA lenA iA hjA eA raA rcA tcA hiA eyA => ?_)
  · refine ⟨⟨hv.mid.1, by (repeat (first | rw [eU_ne (by omega)] | rw [eU_c (by omega)])); exact hv.mid.2.1, hv.mid.2.2⟩, c_putM 997 hst (fun j9 hj9 => by (repeat (first | rw [eU_ne (by omega)] | rw [eG_ne (by omega)] | rw [eU_c (by omega)])); exact hs.sz j9 hj9) (fun h1B => ?_) (fun jB hjB eB zB => ?_) (fun jB lenB hjB eB hlB zB h3B => ?_) (fun jB lenB iB hjB eB hlB zB hiB eyB => ?_)⟩
    · exact ⟨rfl, m, k, hv.fr (by omega) (fun a9 ha9 => by (repeat (first | rw [eU_ne (by omega)] | rw [eU_c (by omega)]))) (by (repeat (first | rw [eU_ne (by omega)] | rw [eU_c (by omega)]))) (hg.flt (by (repeat (first | rw [eU_ne (by omega)] | rw [eU_c (by omega)]))) (by (repeat (first | rw [eU_ne (by omega)] | rw [eU_c (by omega)]))) (by (repeat (first | rw [eU_ne (by omega)] | rw [eU_c (by omega)]))) (fun f9 hf9 => by (repeat (first | rw [eU_ne (by omega)] | rw [eU_c (by omega)]))) rfl)⟩
    · (exfalso; first | assumption | omega | grind)
    · (exfalso; first | assumption | omega | grind)
    · (exfalso; first | assumption | omega | grind)
  · refine ⟨⟨hv.mid.1, by (repeat (first | rw [eU_ne (by omega)] | rw [eU_c (by omega)])); exact hv.mid.2.1, hv.mid.2.2⟩, c_putM 997 hst (fun j9 hj9 => by (repeat (first | rw [eU_ne (by omega)] | rw [eG_ne (by omega)] | rw [eU_c (by omega)])); exact hs.sz j9 hj9) (fun h1B => ?_) (fun jB hjB eB zB => ?_) (fun jB lenB hjB eB hlB zB h3B => ?_) (fun jB lenB iB hjB eB hlB zB hiB eyB => ?_)⟩
    · (exfalso; first | assumption | omega | grind)
    · exact ⟨rfl, m, k, hv.fr (by omega) (fun a9 ha9 => by (repeat (first | rw [eU_ne (by omega)] | rw [eU_c (by omega)]))) (by (repeat (first | rw [eU_ne (by omega)] | rw [eU_c (by omega)]))) (hg.flt (by (repeat (first | rw [eU_ne (by omega)] | rw [eU_c (by omega)]))) (by (repeat (first | rw [eU_ne (by omega)] | rw [eU_c (by omega)]))) (by (repeat (first | rw [eU_ne (by omega)] | rw [eU_c (by omega)]))) (fun f9 hf9 => by (repeat (first | rw [eU_ne (by omega)] | rw [eU_c (by omega)]))) rfl)⟩
    · exfalso
      obtain rfl := nI_j hjA hjB (by omega) eA eB
      (repeat (first | rw [eU_ne (by omega)] at zB | rw [eG_ne (by omega)] at zB | rw [eU_c (by omega)] at zB))
      exact nI_m1 lenB (by omega) (zB.symm.trans (hs.no hjA zA))
    · exfalso
      obtain rfl := nI_j hjA hjB (by omega) eA eB
      (repeat (first | rw [eU_ne (by omega)] at zB | rw [eG_ne (by omega)] at zB | rw [eU_c (by omega)] at zB))
      exact nI_m1 lenB (by omega) (zB.symm.trans (hs.no hjA zA))
  · refine ⟨⟨hv.mid.1, by (repeat (first | rw [eU_ne (by omega)] | rw [eU_c (by omega)])); exact hv.mid.2.1, hv.mid.2.2⟩, c_putM 997 hst (fun j9 hj9 => by (repeat (first | rw [eU_ne (by omega)] | rw [eG_ne (by omega)] | rw [eU_c (by omega)])); exact hs.sz j9 hj9) (fun h1B => ?_) (fun jB hjB eB zB => ?_) (fun jB lenB hjB eB hlB zB h3B => ?_) (fun jB lenB iB hjB eB hlB zB hiB eyB => ?_)⟩
    · (exfalso; first | assumption | omega | grind)
    · exfalso
      obtain rfl := nI_j hjA hjB (by omega) eA eB
      (repeat (first | rw [eU_ne (by omega)] at zB | rw [eG_ne (by omega)] at zB | rw [eU_c (by omega)] at zB))
      rw [(hs.neg hjA).mp zB] at raA
      cases raA
    · exact ⟨rfl, m, k, hv.fr (by omega) (fun a9 ha9 => by (repeat (first | rw [eU_ne (by omega)] | rw [eU_c (by omega)]))) (by (repeat (first | rw [eU_ne (by omega)] | rw [eU_c (by omega)]))) (hg.flt (by (repeat (first | rw [eU_ne (by omega)] | rw [eU_c (by omega)]))) (by (repeat (first | rw [eU_ne (by omega)] | rw [eU_c (by omega)]))) (by (repeat (first | rw [eU_ne (by omega)] | rw [eU_c (by omega)]))) (fun f9 hf9 => by (repeat (first | rw [eU_ne (by omega)] | rw [eU_c (by omega)]))) rfl)⟩
    · exfalso
      obtain rfl := nI_j hjA hjB (by omega) eA eB
      have hy := hs.yes2 hjA raA rcA tcA
      (repeat (first | rw [eU_ne (by omega)] at zB | rw [eG_ne (by omega)] at zB | rw [eU_c (by omega)] at zB))
      obtain rfl : lenA = lenB := (nI_eq (by omega) (by omega)).mp (hy.2.2.2.1.symm.trans zB)
      exact h3A (by rw [eyB, nI_toInt (by omega)]; omega)
  · obtain ⟨y1, -⟩ := hs.yes2 hjA raA rcA tcA
    refine ⟨⟨hv.mid.1, by (repeat (first | rw [eU_ne (by omega)] | rw [eU_c (by omega)])); exact hv.mid.2.1, hv.mid.2.2⟩, c_putM 997 hst (fun j9 hj9 => by (repeat (first | rw [eU_ne (by omega)] | rw [eG_ne (by omega)] | rw [eU_c (by omega)])); exact hs.sz j9 hj9) (fun h1B => ?_) (fun jB hjB eB zB => ?_) (fun jB lenB hjB eB hlB zB h3B => ?_) (fun jB lenB iB hjB eB hlB zB hiB eyB => ?_)⟩
    · (exfalso; first | assumption | omega | grind)
    · exfalso
      obtain rfl := nI_j hjA hjB (by omega) eA eB
      have hy := hs.yes2 hjA raA rcA tcA
      (repeat (first | rw [eU_ne (by omega)] at zB | rw [eG_ne (by omega)] at zB | rw [eU_c (by omega)] at zB))
      rw [(hs.neg hjA).mp zB] at raA
      cases raA
    · exfalso
      obtain rfl := nI_j hjA hjB (by omega) eA eB
      have hy := hs.yes2 hjA raA rcA tcA
      (repeat (first | rw [eU_ne (by omega)] at zB | rw [eG_ne (by omega)] at zB | rw [eU_c (by omega)] at zB))
      obtain rfl : lenA = lenB := (nI_eq (by omega) (by omega)).mp (hy.2.2.2.1.symm.trans zB)
      exact h3B (by rw [eyA, nI_toInt (by omega)]; omega)
    · obtain rfl := nI_j hjA hjB (by omega) eA eB
      have hy := hs.yes2 hjA raA rcA tcA
      (repeat (first | rw [eU_ne (by omega)] at zB | rw [eG_ne (by omega)] at zB | rw [eU_c (by omega)] at zB))
      obtain rfl : lenA = lenB := (nI_eq (by omega) (by omega)).mp (hy.2.2.2.1.symm.trans zB)
      obtain rfl : iA = iB := nI_j hiA hiB (by omega) eyA eyB
      exact ⟨rfl, m, k, hv.rp (by omega) (fun a9 ha9 => by (repeat (first | rw [eU_ne (by omega)] | rw [eU_c (by omega)]))) (hg.flt (by (repeat (first | rw [eU_ne (by omega)] | rw [eU_c (by omega)]))) (by (repeat (first | rw [eU_ne (by omega)] | rw [eU_c (by omega)]))) (by (repeat (first | rw [eU_ne (by omega)] | rw [eU_c (by omega)]))) (fun f9 hf9 => by (repeat (first | rw [eU_ne (by omega)] | rw [eU_c (by omega)]))) (by (repeat (first | rw [eU_ne (by omega)] | rw [eU_at] | rw [eU_c (by omega)])))) (hp.fr (fun a9 _ _ => by (repeat (first | rw [eU_ne (by omega)] | rw [eU_c (by omega)]))) (fun a9 _ _ => by (repeat (first | rw [eU_ne (by omega)] | rw [eU_c (by omega)]))) (by (repeat (first | rw [eU_ne (by omega)] | rw [eU_c (by omega)]))) hk4) (fun p9 hp9 => (a1 p9 hp9).fr (by (repeat (first | rw [eU_ne (by omega)] | rw [eU_c (by omega)]))) (by (repeat (first | rw [eU_ne (by omega)] | rw [eU_c (by omega)]))) (by (repeat (first | rw [eU_ne (by omega)] | rw [eU_c (by omega)]))) (by (repeat (first | rw [eU_ne (by omega)] | rw [eU_c (by omega)])))) (fun p9 hp9 => (a2 p9 hp9).fr (fun f9 hf9 => by (repeat (first | rw [eU_ne (by omega)] | rw [eU_c (by omega)]))) (fun a9 ha9 hb9 => by (repeat (first | rw [eU_ne (by omega)] | rw [eU_c (by omega)])))) (fun p9 hp9 => (a3 p9 hp9).fr (by omega) (by (repeat (first | rw [eU_ne (by omega)] | rw [eU_c (by omega)]))) (by (repeat (first | rw [eU_ne (by omega)] | rw [eU_c (by omega)]))) (by (repeat (first | rw [eU_ne (by omega)] | rw [eU_c (by omega)]))) (fun e9 _ => by (repeat (first | rw [eU_ne (by omega)] | rw [eU_c (by omega)]))) (by (repeat (first | rw [eU_ne (by omega)] | rw [eU_c (by omega)]))) (fun i9 _ => by (repeat (first | rw [eU_ne (by omega)] | rw [eU_c (by omega)])))) (fun p9 hp9 => (a4 p9 hp9).fr (by (repeat (first | rw [eU_ne (by omega)] | rw [eU_c (by omega)]))) (by (repeat (first | rw [eU_ne (by omega)] | rw [eU_c (by omega)]))) (by (repeat (first | rw [eU_ne (by omega)] | rw [eU_c (by omega)]))) (fun i9 _ => by (repeat (first | rw [eU_ne (by omega)] | rw [eU_c (by omega)])))) (fun p9 hp9 => (a5 p9 hp9).fr hp9 (by (repeat (first | rw [eU_ne (by omega)] | rw [eU_c (by omega)]))) (fun i9 _ => by (repeat (first | rw [eU_ne (by omega)] | rw [eU_c (by omega)])))) (fun p9 hp9 => (hl p9 hp9).fr (fun a9 ha9 => ⟨by (repeat (first | rw [eU_ne (by omega)] | rw [eU_c (by omega)])), fun x9 _ => by (repeat (first | rw [eU_ne (by omega)] | rw [eU_c (by omega)]))⟩) (fun x9 _ => ⟨by (repeat (first | rw [eU_ne (by omega)] | rw [eU_c (by omega)])), by (repeat (first | rw [eU_ne (by omega)] | rw [eU_c (by omega)]))⟩) (by (repeat (first | rw [eU_ne (by omega)] | rw [eU_c (by omega)]))) (by (repeat (first | rw [eU_ne (by omega)] | rw [eU_c (by omega)]))) (fun _ => rfl)) (hs.wr hjA raA rcA tcA (fun b9 h8 h9 => by (repeat (first | rw [eU_ne (by omega)] | rw [eU_c (by omega)]))) (by (repeat (first | rw [eU_ne (by omega)] | rw [eU_c (by omega)]))) (by (repeat (first | rw [eU_ne (by omega)] | rw [eU_c (by omega)]))) (fun s9 h7 h8 i9 h9 => by (repeat (first | rw [eU_ne (by omega)] | rw [eU_c (by omega)]))) (fun i9 h9 => by
          by_cases g : i9 = iA
          · subst g
            (repeat (first | rw [eU_ne (by omega)] | rw [eU_at] | rw [eU_c (by omega)]))
            rw [(hs.yes hjA raA).2.2.2.1]
          · (repeat (first | rw [eU_ne (by omega)] | rw [eU_c (by omega)]))
            exact hy.2.2.2.2 i9 h9))⟩

theorem pr_cell {c n : Nat} {t : eT} {I : eI} {R : eR} {L : Nat} {xs : Nat → Int32} (h : Inv c n t I R L xs) (hc : c ≤ 511) {x y l : Int32} : MC yX7_cell cX7_cell 5 (some .long) 999 0 0 [.ref 4, .int x, .int y, .int l] n t I R (qL (fun r n1 t1 I1 R1 => MID t1 I1 L xs ∧ MC yX8_cell cX8_cell 4 (some .long) 999 0 0 [.ref 94, .int x, .int y, .int l] n1 t1 I1 R1 (qL (fun r2 n2 t2 I2 R2 => r2 = r ∧ Inv (c + 1) n2 t2 I2 R2 L xs)))) := by
  obtain ⟨m, k, hv⟩ := h
  obtain ⟨hm4, hk4, hst, hfz, hg, hp, a1, a2, a3, a4, a5, hl, hs⟩ := id hv
  refine c_cell 997 hst hs.sh (fun h1A => ?_) (fun h1A => ?_) (fun jA hjA eA lvA zA => ?_) (fun jA aA hjA eA lvA raA h3A => ?_) (fun jA aA cA lenA hjA eA lvA raA hzA rcA tcA h4A => ?_) (fun jA aA cA lenA iA hjA eA lvA raA hzA rcA tcA hiA eyA => ?_)
  · refine ⟨⟨hv.mid.1, by (repeat (first | rw [eU_ne (by omega)] | rw [eU_c (by omega)])); exact hv.mid.2.1, hv.mid.2.2⟩, c_cellM 996 hst (fun j9 hj9 => by (repeat (first | rw [eU_ne (by omega)] | rw [eG_ne (by omega)] | rw [eU_c (by omega)])); exact hs.sz j9 hj9) (fun h1B => ?_) (fun h1B => ?_) (fun jB hjB eB lvB zB => ?_) (fun jB lenB hjB eB lvB hlB zB h3B => ?_) (fun jB lenB hjB eB lvB hlB zB hzB h4B => ?_) (fun jB lenB iB hjB eB lvB hlB zB hzB hiB eyB => ?_)⟩
    · exact ⟨rfl, m, k, hv.fr (by omega) (fun a9 ha9 => by (repeat (first | rw [eU_ne (by omega)] | rw [eU_c (by omega)]))) (by (repeat (first | rw [eU_ne (by omega)] | rw [eU_c (by omega)]))) (hg.flt (by (repeat (first | rw [eU_ne (by omega)] | rw [eU_c (by omega)]))) (by (repeat (first | rw [eU_ne (by omega)] | rw [eU_c (by omega)]))) (by (repeat (first | rw [eU_ne (by omega)] | rw [eU_c (by omega)]))) (fun f9 hf9 => by (repeat (first | rw [eU_ne (by omega)] | rw [eU_c (by omega)]))) rfl)⟩
    · exact ⟨rfl, m, k, hv.fr (by omega) (fun a9 ha9 => by (repeat (first | rw [eU_ne (by omega)] | rw [eU_c (by omega)]))) (by (repeat (first | rw [eU_ne (by omega)] | rw [eU_c (by omega)]))) (hg.flt (by (repeat (first | rw [eU_ne (by omega)] | rw [eU_c (by omega)]))) (by (repeat (first | rw [eU_ne (by omega)] | rw [eU_c (by omega)]))) (by (repeat (first | rw [eU_ne (by omega)] | rw [eU_c (by omega)]))) (fun f9 hf9 => by (repeat (first | rw [eU_ne (by omega)] | rw [eU_c (by omega)]))) rfl)⟩
    · (exfalso; first | assumption | omega | grind)
    · (exfalso; first | assumption | omega | grind)
    · (exfalso; first | assumption | omega | grind)
    · (exfalso; first | assumption | omega | grind)
  · refine ⟨⟨hv.mid.1, by (repeat (first | rw [eU_ne (by omega)] | rw [eU_c (by omega)])); exact hv.mid.2.1, hv.mid.2.2⟩, c_cellM 996 hst (fun j9 hj9 => by (repeat (first | rw [eU_ne (by omega)] | rw [eG_ne (by omega)] | rw [eU_c (by omega)])); exact hs.sz j9 hj9) (fun h1B => ?_) (fun h1B => ?_) (fun jB hjB eB lvB zB => ?_) (fun jB lenB hjB eB lvB hlB zB h3B => ?_) (fun jB lenB hjB eB lvB hlB zB hzB h4B => ?_) (fun jB lenB iB hjB eB lvB hlB zB hzB hiB eyB => ?_)⟩
    · exact ⟨rfl, m, k, hv.fr (by omega) (fun a9 ha9 => by (repeat (first | rw [eU_ne (by omega)] | rw [eU_c (by omega)]))) (by (repeat (first | rw [eU_ne (by omega)] | rw [eU_c (by omega)]))) (hg.flt (by (repeat (first | rw [eU_ne (by omega)] | rw [eU_c (by omega)]))) (by (repeat (first | rw [eU_ne (by omega)] | rw [eU_c (by omega)]))) (by (repeat (first | rw [eU_ne (by omega)] | rw [eU_c (by omega)]))) (fun f9 hf9 => by (repeat (first | rw [eU_ne (by omega)] | rw [eU_c (by omega)]))) rfl)⟩
    · exact ⟨rfl, m, k, hv.fr (by omega) (fun a9 ha9 => by (repeat (first | rw [eU_ne (by omega)] | rw [eU_c (by omega)]))) (by (repeat (first | rw [eU_ne (by omega)] | rw [eU_c (by omega)]))) (hg.flt (by (repeat (first | rw [eU_ne (by omega)] | rw [eU_c (by omega)]))) (by (repeat (first | rw [eU_ne (by omega)] | rw [eU_c (by omega)]))) (by (repeat (first | rw [eU_ne (by omega)] | rw [eU_c (by omega)]))) (fun f9 hf9 => by (repeat (first | rw [eU_ne (by omega)] | rw [eU_c (by omega)]))) rfl)⟩
    · exact absurd lvB h1A
    · exact absurd lvB h1A
    · exact absurd lvB h1A
    · exact absurd lvB h1A
  · refine ⟨⟨hv.mid.1, by (repeat (first | rw [eU_ne (by omega)] | rw [eU_c (by omega)])); exact hv.mid.2.1, hv.mid.2.2⟩, c_cellM 996 hst (fun j9 hj9 => by (repeat (first | rw [eU_ne (by omega)] | rw [eG_ne (by omega)] | rw [eU_c (by omega)])); exact hs.sz j9 hj9) (fun h1B => ?_) (fun h1B => ?_) (fun jB hjB eB lvB zB => ?_) (fun jB lenB hjB eB lvB hlB zB h3B => ?_) (fun jB lenB hjB eB lvB hlB zB hzB h4B => ?_) (fun jB lenB iB hjB eB lvB hlB zB hzB hiB eyB => ?_)⟩
    · (exfalso; first | assumption | omega | grind)
    · exact absurd lvA h1B
    · exact ⟨rfl, m, k, hv.fr (by omega) (fun a9 ha9 => by (repeat (first | rw [eU_ne (by omega)] | rw [eU_c (by omega)]))) (by (repeat (first | rw [eU_ne (by omega)] | rw [eU_c (by omega)]))) (hg.flt (by (repeat (first | rw [eU_ne (by omega)] | rw [eU_c (by omega)]))) (by (repeat (first | rw [eU_ne (by omega)] | rw [eU_c (by omega)]))) (by (repeat (first | rw [eU_ne (by omega)] | rw [eU_c (by omega)]))) (fun f9 hf9 => by (repeat (first | rw [eU_ne (by omega)] | rw [eU_c (by omega)]))) rfl)⟩
    · exfalso
      obtain rfl := nI_j hjA hjB (by omega) eA eB
      (repeat (first | rw [eU_ne (by omega)] at zB | rw [eG_ne (by omega)] at zB | rw [eU_c (by omega)] at zB))
      exact nI_m1 lenB (by omega) (zB.symm.trans (hs.no hjA zA))
    · exfalso
      obtain rfl := nI_j hjA hjB (by omega) eA eB
      (repeat (first | rw [eU_ne (by omega)] at zB | rw [eG_ne (by omega)] at zB | rw [eU_c (by omega)] at zB))
      exact nI_m1 lenB (by omega) (zB.symm.trans (hs.no hjA zA))
    · exfalso
      obtain rfl := nI_j hjA hjB (by omega) eA eB
      (repeat (first | rw [eU_ne (by omega)] at zB | rw [eG_ne (by omega)] at zB | rw [eU_c (by omega)] at zB))
      exact nI_m1 lenB (by omega) (zB.symm.trans (hs.no hjA zA))
  · refine ⟨⟨hv.mid.1, by (repeat (first | rw [eU_ne (by omega)] | rw [eU_c (by omega)])); exact hv.mid.2.1, hv.mid.2.2⟩, c_cellM 996 hst (fun j9 hj9 => by (repeat (first | rw [eU_ne (by omega)] | rw [eG_ne (by omega)] | rw [eU_c (by omega)])); exact hs.sz j9 hj9) (fun h1B => ?_) (fun h1B => ?_) (fun jB hjB eB lvB zB => ?_) (fun jB lenB hjB eB lvB hlB zB h3B => ?_) (fun jB lenB hjB eB lvB hlB zB hzB h4B => ?_) (fun jB lenB iB hjB eB lvB hlB zB hzB hiB eyB => ?_)⟩
    · (exfalso; first | assumption | omega | grind)
    · exact absurd lvA h1B
    · exfalso
      obtain rfl := nI_j hjA hjB (by omega) eA eB
      (repeat (first | rw [eU_ne (by omega)] at zB | rw [eG_ne (by omega)] at zB | rw [eU_c (by omega)] at zB))
      rw [(hs.neg hjA).mp zB] at raA
      cases raA
    · exact ⟨rfl, m, k, hv.fr (by omega) (fun a9 ha9 => by (repeat (first | rw [eU_ne (by omega)] | rw [eU_c (by omega)]))) (by (repeat (first | rw [eU_ne (by omega)] | rw [eU_c (by omega)]))) (hg.flt (by (repeat (first | rw [eU_ne (by omega)] | rw [eU_c (by omega)]))) (by (repeat (first | rw [eU_ne (by omega)] | rw [eU_c (by omega)]))) (by (repeat (first | rw [eU_ne (by omega)] | rw [eU_c (by omega)]))) (fun f9 hf9 => by (repeat (first | rw [eU_ne (by omega)] | rw [eU_c (by omega)]))) rfl)⟩
    · exfalso
      obtain rfl := nI_j hjA hjB (by omega) eA eB
      (repeat (first | rw [eU_ne (by omega)] at hzB | rw [eG_ne (by omega)] at hzB | rw [eU_c (by omega)] at hzB))
      exact h3A ((hs.yes hjA raA).2.2.2.1.trans hzB)
    · exfalso
      obtain rfl := nI_j hjA hjB (by omega) eA eB
      (repeat (first | rw [eU_ne (by omega)] at hzB | rw [eG_ne (by omega)] at hzB | rw [eU_c (by omega)] at hzB))
      exact h3A ((hs.yes hjA raA).2.2.2.1.trans hzB)
  · refine ⟨⟨hv.mid.1, by (repeat (first | rw [eU_ne (by omega)] | rw [eU_c (by omega)])); exact hv.mid.2.1, hv.mid.2.2⟩, c_cellM 996 hst (fun j9 hj9 => by (repeat (first | rw [eU_ne (by omega)] | rw [eG_ne (by omega)] | rw [eU_c (by omega)])); exact hs.sz j9 hj9) (fun h1B => ?_) (fun h1B => ?_) (fun jB hjB eB lvB zB => ?_) (fun jB lenB hjB eB lvB hlB zB h3B => ?_) (fun jB lenB hjB eB lvB hlB zB hzB h4B => ?_) (fun jB lenB iB hjB eB lvB hlB zB hzB hiB eyB => ?_)⟩
    · (exfalso; first | assumption | omega | grind)
    · exact absurd lvA h1B
    · exfalso
      obtain rfl := nI_j hjA hjB (by omega) eA eB
      (repeat (first | rw [eU_ne (by omega)] at zB | rw [eG_ne (by omega)] at zB | rw [eU_c (by omega)] at zB))
      rw [(hs.neg hjA).mp zB] at raA
      cases raA
    · exfalso
      obtain rfl := nI_j hjA hjB (by omega) eA eB
      (repeat (first | rw [eU_ne (by omega)] at h3B | rw [eG_ne (by omega)] at h3B | rw [eU_c (by omega)] at h3B))
      exact h3B ((hs.yes hjA raA).2.2.2.1.symm.trans hzA)
    · exact ⟨rfl, m, k, hv.fr (by omega) (fun a9 ha9 => by (repeat (first | rw [eU_ne (by omega)] | rw [eU_c (by omega)]))) (by (repeat (first | rw [eU_ne (by omega)] | rw [eU_c (by omega)]))) (hg.flt (by (repeat (first | rw [eU_ne (by omega)] | rw [eU_c (by omega)]))) (by (repeat (first | rw [eU_ne (by omega)] | rw [eU_c (by omega)]))) (by (repeat (first | rw [eU_ne (by omega)] | rw [eU_c (by omega)]))) (fun f9 hf9 => by (repeat (first | rw [eU_ne (by omega)] | rw [eU_c (by omega)]))) rfl)⟩
    · exfalso
      obtain rfl := nI_j hjA hjB (by omega) eA eB
      have hy := hs.yes2 hjA raA rcA tcA
      (repeat (first | rw [eU_ne (by omega)] at zB | rw [eG_ne (by omega)] at zB | rw [eU_c (by omega)] at zB))
      obtain rfl : lenA = lenB := (nI_eq (by omega) (by omega)).mp (hy.2.2.2.1.symm.trans zB)
      exact h4A (by rw [eyB, nI_toInt (by omega)]; omega)
  · refine ⟨⟨hv.mid.1, by (repeat (first | rw [eU_ne (by omega)] | rw [eU_c (by omega)])); exact hv.mid.2.1, hv.mid.2.2⟩, c_cellM 996 hst (fun j9 hj9 => by (repeat (first | rw [eU_ne (by omega)] | rw [eG_ne (by omega)] | rw [eU_c (by omega)])); exact hs.sz j9 hj9) (fun h1B => ?_) (fun h1B => ?_) (fun jB hjB eB lvB zB => ?_) (fun jB lenB hjB eB lvB hlB zB h3B => ?_) (fun jB lenB hjB eB lvB hlB zB hzB h4B => ?_) (fun jB lenB iB hjB eB lvB hlB zB hzB hiB eyB => ?_)⟩
    · (exfalso; first | assumption | omega | grind)
    · exact absurd lvA h1B
    · exfalso
      obtain rfl := nI_j hjA hjB (by omega) eA eB
      (repeat (first | rw [eU_ne (by omega)] at zB | rw [eG_ne (by omega)] at zB | rw [eU_c (by omega)] at zB))
      rw [(hs.neg hjA).mp zB] at raA
      cases raA
    · exfalso
      obtain rfl := nI_j hjA hjB (by omega) eA eB
      (repeat (first | rw [eU_ne (by omega)] at h3B | rw [eG_ne (by omega)] at h3B | rw [eU_c (by omega)] at h3B))
      exact h3B ((hs.yes hjA raA).2.2.2.1.symm.trans hzA)
    · exfalso
      obtain rfl := nI_j hjA hjB (by omega) eA eB
      have hy := hs.yes2 hjA raA rcA tcA
      (repeat (first | rw [eU_ne (by omega)] at zB | rw [eG_ne (by omega)] at zB | rw [eU_c (by omega)] at zB))
      obtain rfl : lenA = lenB := (nI_eq (by omega) (by omega)).mp (hy.2.2.2.1.symm.trans zB)
      exact h4B (by rw [eyA, nI_toInt (by omega)]; omega)
    · obtain rfl := nI_j hjA hjB (by omega) eA eB
      have hy := hs.yes2 hjA raA rcA tcA
      (repeat (first | rw [eU_ne (by omega)] at zB | rw [eG_ne (by omega)] at zB | rw [eU_c (by omega)] at zB))
      obtain rfl : lenA = lenB := (nI_eq (by omega) (by omega)).mp (hy.2.2.2.1.symm.trans zB)
      obtain rfl : iA = iB := nI_j hiA hiB (by omega) eyA eyB
      exact ⟨by (repeat (first | rw [eU_ne (by omega)] | rw [eU_c (by omega)])); rw [hy.2.2.2.2 iA hiA], m, k, hv.fr (by omega) (fun a9 ha9 => by (repeat (first | rw [eU_ne (by omega)] | rw [eU_c (by omega)]))) (by (repeat (first | rw [eU_ne (by omega)] | rw [eU_c (by omega)]))) (hg.flt (by (repeat (first | rw [eU_ne (by omega)] | rw [eU_c (by omega)]))) (by (repeat (first | rw [eU_ne (by omega)] | rw [eU_c (by omega)]))) (by (repeat (first | rw [eU_ne (by omega)] | rw [eU_c (by omega)]))) (fun f9 hf9 => by (repeat (first | rw [eU_ne (by omega)] | rw [eU_c (by omega)]))) rfl)⟩

theorem pr_sheet {c n : Nat} {t : eT} {I : eI} {R : eR} {L : Nat} {xs : Nat → Int32} (h : Inv c n t I R L xs) (hc : c ≤ 511) {x l v : Int32} : MC yX7_sheet cX7_sheet 4 (some .int) 999 2 62 [.ref 4, .int x, .int l, .int v] n t I R (qI (fun r n1 t1 I1 R1 => MID t1 I1 L xs ∧ MC yX8_sheet cX8_sheet 5 (some .int) 999 0 0 [.ref 94, .int x, .int l, .int v] n1 t1 I1 R1 (qI (fun r2 n2 t2 I2 R2 => r2 = r ∧ Inv (c + 1) n2 t2 I2 R2 L xs)))) := by
  obtain ⟨m, k, hv⟩ := h
  obtain ⟨hm4, hk4, hst, hfz, hg, hp, a1, a2, a3, a4, a5, hl, hs⟩ := id hv
  refine c_sheet 997 hst (fun h1A => ?_) (fun jA hjA eA h2A => ?_) (fun jA hjA eA lvA h3A => ?_) (fun jA lnA hjA eA lvA hlA evA => ?_)
  · refine ⟨⟨hv.mid.1, by (repeat (first | rw [eU_ne (by omega)] | rw [eU_c (by omega)])); exact hv.mid.2.1, hv.mid.2.2⟩, c_sheetM 997 hst (fun h1B => ?_) (fun jB hjB eB h2B => ?_) (fun jB hjB eB lvB h3B => ?_) (fun jB lnB hjB eB lvB hlB evB => ?_)⟩
    · exact ⟨rfl, m, k, hv.fr (by omega) (fun a9 ha9 => by (repeat (first | rw [eU_ne (by omega)] | rw [eU_c (by omega)]))) (by (repeat (first | rw [eU_ne (by omega)] | rw [eU_c (by omega)]))) (hg.flt (by (repeat (first | rw [eU_ne (by omega)] | rw [eU_c (by omega)]))) (by (repeat (first | rw [eU_ne (by omega)] | rw [eU_c (by omega)]))) (by (repeat (first | rw [eU_ne (by omega)] | rw [eU_c (by omega)]))) (fun f9 hf9 => by (repeat (first | rw [eU_ne (by omega)] | rw [eU_c (by omega)]))) rfl)⟩
    · (exfalso; first | assumption | omega | grind)
    · (exfalso; first | assumption | omega | grind)
    · (exfalso; first | assumption | omega | grind)
  · refine ⟨⟨hv.mid.1, by (repeat (first | rw [eU_ne (by omega)] | rw [eU_c (by omega)])); exact hv.mid.2.1, hv.mid.2.2⟩, c_sheetM 997 hst (fun h1B => ?_) (fun jB hjB eB h2B => ?_) (fun jB hjB eB lvB h3B => ?_) (fun jB lnB hjB eB lvB hlB evB => ?_)⟩
    · (exfalso; first | assumption | omega | grind)
    · exact ⟨rfl, m, k, hv.fr (by omega) (fun a9 ha9 => by (repeat (first | rw [eU_ne (by omega)] | rw [eU_c (by omega)]))) (by (repeat (first | rw [eU_ne (by omega)] | rw [eU_c (by omega)]))) (hg.flt (by (repeat (first | rw [eU_ne (by omega)] | rw [eU_c (by omega)]))) (by (repeat (first | rw [eU_ne (by omega)] | rw [eU_c (by omega)]))) (by (repeat (first | rw [eU_ne (by omega)] | rw [eU_c (by omega)]))) (fun f9 hf9 => by (repeat (first | rw [eU_ne (by omega)] | rw [eU_c (by omega)]))) rfl)⟩
    · (exfalso; omega)
    · (exfalso; exact h2A ⟨lvB, by rw [evB, nI_toInt (by omega)]; omega⟩)
  · refine ⟨⟨hv.mid.1, by (repeat (first | rw [eU_ne (by omega)] | rw [eU_c (by omega)])); exact hv.mid.2.1, hv.mid.2.2⟩, c_sheetM 997 hst (fun h1B => ?_) (fun jB hjB eB h2B => ?_) (fun jB hjB eB lvB h3B => ?_) (fun jB lnB hjB eB lvB hlB evB => ?_)⟩
    · (exfalso; first | assumption | omega | grind)
    · (exfalso; omega)
    · exact ⟨rfl, m, k, hv.fr (by omega) (fun a9 ha9 => by (repeat (first | rw [eU_ne (by omega)] | rw [eU_c (by omega)]))) (by (repeat (first | rw [eU_ne (by omega)] | rw [eU_c (by omega)]))) (hg.flt (by (repeat (first | rw [eU_ne (by omega)] | rw [eU_c (by omega)]))) (by (repeat (first | rw [eU_ne (by omega)] | rw [eU_c (by omega)]))) (by (repeat (first | rw [eU_ne (by omega)] | rw [eU_c (by omega)]))) (fun f9 hf9 => by (repeat (first | rw [eU_ne (by omega)] | rw [eU_c (by omega)]))) rfl)⟩
    · (exfalso; rw [evB, nI_toInt (by omega)] at h3A; omega)
  · have hn := hst.1
    refine ⟨⟨by (repeat (first | rw [eU_ne (by omega)] | rw [eG_ne (by omega)] | rw [eU_c (by omega)])); exact hv.mid.1, by (repeat (first | rw [eU_ne (by omega)] | rw [eG_ne (by omega)] | rw [eU_c (by omega)])); exact hv.mid.2.1, by (repeat (first | rw [eU_ne (by omega)] | rw [eG_ne (by omega)] | rw [eU_c (by omega)])); exact hv.mid.2.2⟩, c_sheetM 997 (ST_new hst) (fun h1B => ?_) (fun jB hjB eB h2B => ?_) (fun jB hjB eB lvB h3B => ?_) (fun jB lnB hjB eB lvB hlB evB => ?_)⟩
    · (exfalso; first | assumption | omega | grind)
    · (exfalso; exact h2B ⟨lvA, by rw [evA, nI_toInt (by omega)]; omega⟩)
    · (exfalso; rw [evA, nI_toInt (by omega)] at h3B; omega)
    · obtain rfl := nI_j hjA hjB (by omega) eA eB
      obtain rfl : lnA = lnB := nI_j (m := 61) (by omega) (by omega) (by omega) evA evB
      exact ⟨rfl, m, k, hv.rq (ST_new hst) (fun a9 ha9 => by (repeat (first | rw [eU_ne (by omega)] | rw [eG_ne (by omega)] | rw [eU_c (by omega)]))) (fun a9 ha9 => by (repeat (first | rw [eU_ne (by omega)] | rw [eG_ne (by omega)] | rw [eU_c (by omega)]))) (hg.flt (by (repeat (first | rw [eU_ne (by omega)] | rw [eG_ne (by omega)] | rw [eU_c (by omega)]))) (by (repeat (first | rw [eU_ne (by omega)] | rw [eG_ne (by omega)] | rw [eU_c (by omega)]))) (by (repeat (first | rw [eU_ne (by omega)] | rw [eG_ne (by omega)] | rw [eU_c (by omega)]))) (fun f9 hf9 => by (repeat (first | rw [eU_ne (by omega)] | rw [eG_ne (by omega)] | rw [eU_c (by omega)]))) (by (repeat (first | rw [eU_ne (by omega)] | rw [eG_ne (by omega)] | rw [eU_at] | rw [eG_eq] | rw [eU_c (by omega)])))) (hp.fr (fun a9 _ _ => by (repeat (first | rw [eU_ne (by omega)] | rw [eG_ne (by omega)] | rw [eU_c (by omega)]))) (fun a9 _ _ => by (repeat (first | rw [eU_ne (by omega)] | rw [eG_ne (by omega)] | rw [eU_c (by omega)]))) (by (repeat (first | rw [eU_ne (by omega)] | rw [eG_ne (by omega)] | rw [eU_c (by omega)]))) hk4) (fun p9 hp9 => (a1 p9 hp9).fr (by (repeat (first | rw [eU_ne (by omega)] | rw [eG_ne (by omega)] | rw [eU_c (by omega)]))) (by (repeat (first | rw [eU_ne (by omega)] | rw [eG_ne (by omega)] | rw [eU_c (by omega)]))) (by (repeat (first | rw [eU_ne (by omega)] | rw [eG_ne (by omega)] | rw [eU_c (by omega)]))) (by (repeat (first | rw [eU_ne (by omega)] | rw [eG_ne (by omega)] | rw [eU_c (by omega)])))) (fun p9 hp9 => (a2 p9 hp9).fr (fun f9 hf9 => by (repeat (first | rw [eU_ne (by omega)] | rw [eG_ne (by omega)] | rw [eU_c (by omega)]))) (fun a9 ha9 hb9 => by (repeat (first | rw [eU_ne (by omega)] | rw [eG_ne (by omega)] | rw [eU_c (by omega)])))) (fun p9 hp9 => (a3 p9 hp9).fr (by omega) (by (repeat (first | rw [eU_ne (by omega)] | rw [eG_ne (by omega)] | rw [eU_c (by omega)]))) (by (repeat (first | rw [eU_ne (by omega)] | rw [eG_ne (by omega)] | rw [eU_c (by omega)]))) (by (repeat (first | rw [eU_ne (by omega)] | rw [eG_ne (by omega)] | rw [eU_c (by omega)]))) (fun e9 _ => by (repeat (first | rw [eU_ne (by omega)] | rw [eG_ne (by omega)] | rw [eU_c (by omega)]))) (by (repeat (first | rw [eU_ne (by omega)] | rw [eG_ne (by omega)] | rw [eU_c (by omega)]))) (fun i9 _ => by (repeat (first | rw [eU_ne (by omega)] | rw [eG_ne (by omega)] | rw [eU_c (by omega)])))) (fun p9 hp9 => (a4 p9 hp9).fr (by (repeat (first | rw [eU_ne (by omega)] | rw [eG_ne (by omega)] | rw [eU_c (by omega)]))) (by (repeat (first | rw [eU_ne (by omega)] | rw [eG_ne (by omega)] | rw [eU_c (by omega)]))) (by (repeat (first | rw [eU_ne (by omega)] | rw [eG_ne (by omega)] | rw [eU_c (by omega)]))) (fun i9 _ => by (repeat (first | rw [eU_ne (by omega)] | rw [eG_ne (by omega)] | rw [eU_c (by omega)])))) (fun p9 hp9 => (a5 p9 hp9).fr hp9 (by (repeat (first | rw [eU_ne (by omega)] | rw [eG_ne (by omega)] | rw [eU_c (by omega)]))) (fun i9 _ => by (repeat (first | rw [eU_ne (by omega)] | rw [eG_ne (by omega)] | rw [eU_c (by omega)])))) (fun p9 hp9 => (hl p9 hp9).fr (fun a9 ha9 => ⟨by (repeat (first | rw [eU_ne (by omega)] | rw [eG_ne (by omega)] | rw [eU_c (by omega)])), fun x9 _ => by (repeat (first | rw [eU_ne (by omega)] | rw [eG_ne (by omega)] | rw [eU_c (by omega)]))⟩) (fun x9 _ => ⟨by (repeat (first | rw [eU_ne (by omega)] | rw [eG_ne (by omega)] | rw [eU_c (by omega)])), by (repeat (first | rw [eU_ne (by omega)] | rw [eG_ne (by omega)] | rw [eU_c (by omega)]))⟩) (by (repeat (first | rw [eU_ne (by omega)] | rw [eG_ne (by omega)] | rw [eU_c (by omega)]))) (by (repeat (first | rw [eU_ne (by omega)] | rw [eG_ne (by omega)] | rw [eU_c (by omega)]))) (fun f9 => by (repeat (first | rw [eU_ne (by omega)] | rw [eG_ne (by omega)] | rw [eU_c (by omega)])))) (hs.new hst.1 hjA (fun a9 ha9 => by (repeat (first | rw [eU_ne (by omega)] | rw [eG_ne (by omega)] | rw [eU_c (by omega)]))) (by (repeat (first | rw [eU_ne (by omega)] | rw [eG_ne (by omega)] | rw [eU_at] | rw [eG_eq] | rw [eU_c (by omega)]))) (by (repeat (first | rw [eU_ne (by omega)] | rw [eG_ne (by omega)] | rw [eU_at] | rw [eG_eq] | rw [eU_c (by omega)]))) hlA (fun a9 f9 h8 h9 => h9.elim (fun g => by (repeat (first | rw [eU_ne (by omega)] | rw [eG_ne (by omega)] | rw [eU_c (by omega)]))) (fun g => by (repeat (first | rw [eU_ne (by omega)] | rw [eG_ne (by omega)] | rw [eU_c (by omega)])))) (by (repeat (first | rw [eU_ne (by omega)] | rw [eG_ne (by omega)] | rw [eU_at] | rw [eG_eq] | rw [eU_c (by omega)]))) (by (repeat (first | rw [eU_ne (by omega)] | rw [eG_ne (by omega)] | rw [eU_at] | rw [eG_eq] | rw [eU_c (by omega)]))) (fun a9 h8 h9 => by (repeat (first | rw [eU_ne (by omega)] | rw [eG_ne (by omega)] | rw [eU_c (by omega)]))) (by (repeat (first | rw [eU_ne (by omega)] | rw [eG_ne (by omega)] | rw [eU_at] | rw [eG_eq] | rw [eU_c (by omega)]))) (by (repeat (first | rw [eU_ne (by omega)] | rw [eG_ne (by omega)] | rw [eU_at] | rw [eG_eq] | rw [eU_c (by omega)]))) (fun s9 hs9 => by (repeat (first | rw [eU_ne (by omega)] | rw [eG_ne (by omega)] | rw [eU_c (by omega)]))) (fun s9 hs9 => by (repeat (first | rw [eU_ne (by omega)] | rw [eG_ne (by omega)] | rw [eU_c (by omega)]))) (fun s9 hs9 i9 hi9 => by
          rw [eU_ne (show (126 : Nat) ≠ 94 by decide), eG_eq, if_neg (by omega)]
          (repeat (first | rw [eU_ne (by omega)] | rw [eG_ne (by omega)] | rw [eU_c (by omega)]))) (fun i9 hi9 => by
          rw [eU_ne (show (126 : Nat) ≠ 94 by decide), eG_eq, if_pos (by omega)]
          (repeat (first | rw [eU_ne (by omega)] | rw [eG_ne (by omega)] | rw [eU_at] | rw [eG_eq] | rw [eU_c (by omega)]))))⟩

theorem pr_copy {c n : Nat} {t : eT} {I : eI} {R : eR} {L : Nat} {xs : Nat → Int32} (h : Inv c n t I R L xs) (hc : c ≤ 511) {x i y k v : Int32} : MC yX7_copy cX7_copy 8 (some .int) 999 0 0 [.ref 4, .int x, .int i, .int y, .int k, .int v] n t I R (qI (fun r n1 t1 I1 R1 => MID t1 I1 L xs ∧ MC yX8_copy cX8_copy 7 (some .int) 999 0 0 [.ref 94, .int x, .int i, .int y, .int k, .int v] n1 t1 I1 R1 (qI (fun r2 n2 t2 I2 R2 => r2 = r ∧ Inv (c + 1) n2 t2 I2 R2 L xs)))) := by
  obtain ⟨m, k, hv⟩ := h
  obtain ⟨hm4, hk4, hst, hfz, hg, hp, a1, a2, a3, a4, a5, hl, hs⟩ := id hv
  refine c_copy 997 hst hs.sh (fun h1A => ?_) (fun jA oA hjA hoA exA eyA zA => ?_) (fun jA oA aA bA hjA hoA exA eyA raA rbA neA => ?_) (fun jA oA aA bA caA cbA laA lbA hjA hoA exA eyA raA rbA rcaA rcbA tcaA tcbA eqA h4A => ?_) (fun jA oA aA bA caA cbA laA lbA hjA hoA exA eyA raA rbA rcaA rcbA tcaA tcbA eqA i0A k0A v0A h1A h2A eiA ekA evA => ?_)
  · refine ⟨⟨hv.mid.1, by (repeat (first | rw [eU_ne (by omega)] | rw [eU_c (by omega)])); exact hv.mid.2.1, hv.mid.2.2⟩, c_copyM 997 hst (fun j9 hj9 => by (repeat (first | rw [eU_ne (by omega)] | rw [eG_ne (by omega)] | rw [eU_c (by omega)])); exact hs.sz j9 hj9) (fun h1B => ?_) (fun jB oB hjB hoB exB eyB zB => ?_) (fun jB oB laB lbB hjB hoB exB eyB la6B lb6B zaB zbB neB => ?_) (fun jB oB laB lbB hjB hoB exB eyB la6B lb6B zaB zbB eqB h4B => ?_) (fun jB oB laB lbB hjB hoB exB eyB la6B lb6B zaB zbB eqB i0B k0B v0B h1B h2B eiB ekB evB => ?_)⟩
    · exact ⟨rfl, m, k, hv.fr (by omega) (fun a9 ha9 => by (repeat (first | rw [eU_ne (by omega)] | rw [eU_c (by omega)]))) (by (repeat (first | rw [eU_ne (by omega)] | rw [eU_c (by omega)]))) (hg.flt (by (repeat (first | rw [eU_ne (by omega)] | rw [eU_c (by omega)]))) (by (repeat (first | rw [eU_ne (by omega)] | rw [eU_c (by omega)]))) (by (repeat (first | rw [eU_ne (by omega)] | rw [eU_c (by omega)]))) (fun f9 hf9 => by (repeat (first | rw [eU_ne (by omega)] | rw [eU_c (by omega)]))) rfl)⟩
    · exact (h1A.elim (fun g => g jB hjB exB) (fun g => g oB hoB eyB)).elim
    · exact (h1A.elim (fun g => g jB hjB exB) (fun g => g oB hoB eyB)).elim
    · exact (h1A.elim (fun g => g jB hjB exB) (fun g => g oB hoB eyB)).elim
    · exact (h1A.elim (fun g => g jB hjB exB) (fun g => g oB hoB eyB)).elim
  · refine ⟨⟨hv.mid.1, by (repeat (first | rw [eU_ne (by omega)] | rw [eU_c (by omega)])); exact hv.mid.2.1, hv.mid.2.2⟩, c_copyM 997 hst (fun j9 hj9 => by (repeat (first | rw [eU_ne (by omega)] | rw [eG_ne (by omega)] | rw [eU_c (by omega)])); exact hs.sz j9 hj9) (fun h1B => ?_) (fun jB oB hjB hoB exB eyB zB => ?_) (fun jB oB laB lbB hjB hoB exB eyB la6B lb6B zaB zbB neB => ?_) (fun jB oB laB lbB hjB hoB exB eyB la6B lb6B zaB zbB eqB h4B => ?_) (fun jB oB laB lbB hjB hoB exB eyB la6B lb6B zaB zbB eqB i0B k0B v0B h1B h2B eiB ekB evB => ?_)⟩
    · exact (h1B.elim (fun g => g jA hjA exA) (fun g => g oA hoA eyA)).elim
    · exact ⟨rfl, m, k, hv.fr (by omega) (fun a9 ha9 => by (repeat (first | rw [eU_ne (by omega)] | rw [eU_c (by omega)]))) (by (repeat (first | rw [eU_ne (by omega)] | rw [eU_c (by omega)]))) (hg.flt (by (repeat (first | rw [eU_ne (by omega)] | rw [eU_c (by omega)]))) (by (repeat (first | rw [eU_ne (by omega)] | rw [eU_c (by omega)]))) (by (repeat (first | rw [eU_ne (by omega)] | rw [eU_c (by omega)]))) (fun f9 hf9 => by (repeat (first | rw [eU_ne (by omega)] | rw [eU_c (by omega)]))) rfl)⟩
    · exfalso
      obtain rfl := nI_j hjA hjB (by omega) exA exB
      obtain rfl := nI_j hoA hoB (by omega) eyA eyB
      (repeat (first | rw [eU_ne (by omega)] at zaB | rw [eG_ne (by omega)] at zaB | rw [eU_c (by omega)] at zaB))
      (repeat (first | rw [eU_ne (by omega)] at zbB | rw [eG_ne (by omega)] at zbB | rw [eU_c (by omega)] at zbB))
      exact zA.elim (fun g => nI_m1 laB (by omega) (zaB.symm.trans (hs.no hjA g))) (fun g => nI_m1 lbB (by omega) (zbB.symm.trans (hs.no hoA g)))
    · exfalso
      obtain rfl := nI_j hjA hjB (by omega) exA exB
      obtain rfl := nI_j hoA hoB (by omega) eyA eyB
      (repeat (first | rw [eU_ne (by omega)] at zaB | rw [eG_ne (by omega)] at zaB | rw [eU_c (by omega)] at zaB))
      (repeat (first | rw [eU_ne (by omega)] at zbB | rw [eG_ne (by omega)] at zbB | rw [eU_c (by omega)] at zbB))
      exact zA.elim (fun g => nI_m1 laB (by omega) (zaB.symm.trans (hs.no hjA g))) (fun g => nI_m1 lbB (by omega) (zbB.symm.trans (hs.no hoA g)))
    · exfalso
      obtain rfl := nI_j hjA hjB (by omega) exA exB
      obtain rfl := nI_j hoA hoB (by omega) eyA eyB
      (repeat (first | rw [eU_ne (by omega)] at zaB | rw [eG_ne (by omega)] at zaB | rw [eU_c (by omega)] at zaB))
      (repeat (first | rw [eU_ne (by omega)] at zbB | rw [eG_ne (by omega)] at zbB | rw [eU_c (by omega)] at zbB))
      exact zA.elim (fun g => nI_m1 laB (by omega) (zaB.symm.trans (hs.no hjA g))) (fun g => nI_m1 lbB (by omega) (zbB.symm.trans (hs.no hoA g)))
  · refine ⟨⟨hv.mid.1, by (repeat (first | rw [eU_ne (by omega)] | rw [eU_c (by omega)])); exact hv.mid.2.1, hv.mid.2.2⟩, c_copyM 997 hst (fun j9 hj9 => by (repeat (first | rw [eU_ne (by omega)] | rw [eG_ne (by omega)] | rw [eU_c (by omega)])); exact hs.sz j9 hj9) (fun h1B => ?_) (fun jB oB hjB hoB exB eyB zB => ?_) (fun jB oB laB lbB hjB hoB exB eyB la6B lb6B zaB zbB neB => ?_) (fun jB oB laB lbB hjB hoB exB eyB la6B lb6B zaB zbB eqB h4B => ?_) (fun jB oB laB lbB hjB hoB exB eyB la6B lb6B zaB zbB eqB i0B k0B v0B h1B h2B eiB ekB evB => ?_)⟩
    · exact (h1B.elim (fun g => g jA hjA exA) (fun g => g oA hoA eyA)).elim
    · exfalso
      obtain rfl := nI_j hjA hjB (by omega) exA exB
      obtain rfl := nI_j hoA hoB (by omega) eyA eyB
      rcases zB with g | g
      · (repeat (first | rw [eU_ne (by omega)] at g | rw [eG_ne (by omega)] at g | rw [eU_c (by omega)] at g))
        rw [(hs.neg hjA).mp g] at raA
        cases raA
      · (repeat (first | rw [eU_ne (by omega)] at g | rw [eG_ne (by omega)] at g | rw [eU_c (by omega)] at g))
        rw [(hs.neg hoA).mp g] at rbA
        cases rbA
    · exact ⟨rfl, m, k, hv.fr (by omega) (fun a9 ha9 => by (repeat (first | rw [eU_ne (by omega)] | rw [eU_c (by omega)]))) (by (repeat (first | rw [eU_ne (by omega)] | rw [eU_c (by omega)]))) (hg.flt (by (repeat (first | rw [eU_ne (by omega)] | rw [eU_c (by omega)]))) (by (repeat (first | rw [eU_ne (by omega)] | rw [eU_c (by omega)]))) (by (repeat (first | rw [eU_ne (by omega)] | rw [eU_c (by omega)]))) (fun f9 hf9 => by (repeat (first | rw [eU_ne (by omega)] | rw [eU_c (by omega)]))) rfl)⟩
    · exfalso
      obtain rfl := nI_j hjA hjB (by omega) exA exB
      obtain rfl := nI_j hoA hoB (by omega) eyA eyB
      have ya := hs.yes hjA raA
      have yb := hs.yes hoA rbA
      (repeat (first | rw [eU_ne (by omega)] at eqB | rw [eG_ne (by omega)] at eqB | rw [eU_c (by omega)] at eqB))
      exact neA (ya.2.2.2.1.trans (eqB.trans yb.2.2.2.1.symm))
    · exfalso
      obtain rfl := nI_j hjA hjB (by omega) exA exB
      obtain rfl := nI_j hoA hoB (by omega) eyA eyB
      have ya := hs.yes hjA raA
      have yb := hs.yes hoA rbA
      (repeat (first | rw [eU_ne (by omega)] at eqB | rw [eG_ne (by omega)] at eqB | rw [eU_c (by omega)] at eqB))
      exact neA (ya.2.2.2.1.trans (eqB.trans yb.2.2.2.1.symm))
  · refine ⟨⟨hv.mid.1, by (repeat (first | rw [eU_ne (by omega)] | rw [eU_c (by omega)])); exact hv.mid.2.1, hv.mid.2.2⟩, c_copyM 997 hst (fun j9 hj9 => by (repeat (first | rw [eU_ne (by omega)] | rw [eG_ne (by omega)] | rw [eU_c (by omega)])); exact hs.sz j9 hj9) (fun h1B => ?_) (fun jB oB hjB hoB exB eyB zB => ?_) (fun jB oB laB lbB hjB hoB exB eyB la6B lb6B zaB zbB neB => ?_) (fun jB oB laB lbB hjB hoB exB eyB la6B lb6B zaB zbB eqB h4B => ?_) (fun jB oB laB lbB hjB hoB exB eyB la6B lb6B zaB zbB eqB i0B k0B v0B h1B h2B eiB ekB evB => ?_)⟩
    · exact (h1B.elim (fun g => g jA hjA exA) (fun g => g oA hoA eyA)).elim
    · exfalso
      obtain rfl := nI_j hjA hjB (by omega) exA exB
      obtain rfl := nI_j hoA hoB (by omega) eyA eyB
      have ya2 := hs.yes2 hjA raA rcaA tcaA
      have yb2 := hs.yes2 hoA rbA rcbA tcbA
      rcases zB with g | g
      · (repeat (first | rw [eU_ne (by omega)] at g | rw [eG_ne (by omega)] at g | rw [eU_c (by omega)] at g))
        rw [(hs.neg hjA).mp g] at raA
        cases raA
      · (repeat (first | rw [eU_ne (by omega)] at g | rw [eG_ne (by omega)] at g | rw [eU_c (by omega)] at g))
        rw [(hs.neg hoA).mp g] at rbA
        cases rbA
    · exfalso
      obtain rfl := nI_j hjA hjB (by omega) exA exB
      obtain rfl := nI_j hoA hoB (by omega) eyA eyB
      have ya := hs.yes hjA raA
      have yb := hs.yes hoA rbA
      have ya2 := hs.yes2 hjA raA rcaA tcaA
      have yb2 := hs.yes2 hoA rbA rcbA tcbA
      (repeat (first | rw [eU_ne (by omega)] at neB | rw [eG_ne (by omega)] at neB | rw [eU_c (by omega)] at neB))
      exact neB (ya.2.2.2.1.symm.trans (eqA.trans yb.2.2.2.1))
    · exact ⟨rfl, m, k, hv.fr (by omega) (fun a9 ha9 => by (repeat (first | rw [eU_ne (by omega)] | rw [eU_c (by omega)]))) (by (repeat (first | rw [eU_ne (by omega)] | rw [eU_c (by omega)]))) (hg.flt (by (repeat (first | rw [eU_ne (by omega)] | rw [eU_c (by omega)]))) (by (repeat (first | rw [eU_ne (by omega)] | rw [eU_c (by omega)]))) (by (repeat (first | rw [eU_ne (by omega)] | rw [eU_c (by omega)]))) (fun f9 hf9 => by (repeat (first | rw [eU_ne (by omega)] | rw [eU_c (by omega)]))) rfl)⟩
    · exfalso
      obtain rfl := nI_j hjA hjB (by omega) exA exB
      obtain rfl := nI_j hoA hoB (by omega) eyA eyB
      have ya2 := hs.yes2 hjA raA rcaA tcaA
      have yb2 := hs.yes2 hoA rbA rcbA tcbA
      (repeat (first | rw [eU_ne (by omega)] at zaB | rw [eG_ne (by omega)] at zaB | rw [eU_c (by omega)] at zaB))
      (repeat (first | rw [eU_ne (by omega)] at zbB | rw [eG_ne (by omega)] at zbB | rw [eU_c (by omega)] at zbB))
      obtain rfl : laA = laB := (nI_eq (by omega) (by omega)).mp (ya2.2.2.2.1.symm.trans zaB)
      obtain rfl : lbA = lbB := (nI_eq (by omega) (by omega)).mp (yb2.2.2.2.1.symm.trans zbB)
      exact h4A (by rw [eiB, ekB, evB, nI_toInt (by omega), nI_toInt (by omega), nI_toInt (by omega)]; omega)
  · obtain ⟨y1, -⟩ := hs.yes2 hoA rbA rcbA tcbA
    refine ⟨⟨hv.mid.1, by (repeat (first | rw [eU_ne (by omega)] | rw [eG_ne (by omega)] | rw [eU_c (by omega)])); exact hv.mid.2.1, hv.mid.2.2⟩, c_copyM 997 hst (fun j9 hj9 => by (repeat (first | rw [eU_ne (by omega)] | rw [eG_ne (by omega)] | rw [eU_c (by omega)])); exact hs.sz j9 hj9) (fun h1B => ?_) (fun jB oB hjB hoB exB eyB zB => ?_) (fun jB oB laB lbB hjB hoB exB eyB la6B lb6B zaB zbB neB => ?_) (fun jB oB laB lbB hjB hoB exB eyB la6B lb6B zaB zbB eqB h4B => ?_) (fun jB oB laB lbB hjB hoB exB eyB la6B lb6B zaB zbB eqB i0B k0B v0B h1B h2B eiB ekB evB => ?_)⟩
    · exact (h1B.elim (fun g => g jA hjA exA) (fun g => g oA hoA eyA)).elim
    · exfalso
      obtain rfl := nI_j hjA hjB (by omega) exA exB
      obtain rfl := nI_j hoA hoB (by omega) eyA eyB
      have ya2 := hs.yes2 hjA raA rcaA tcaA
      have yb2 := hs.yes2 hoA rbA rcbA tcbA
      rcases zB with g | g
      · (repeat (first | rw [eU_ne (by omega)] at g | rw [eG_ne (by omega)] at g | rw [eU_c (by omega)] at g))
        rw [(hs.neg hjA).mp g] at raA
        cases raA
      · (repeat (first | rw [eU_ne (by omega)] at g | rw [eG_ne (by omega)] at g | rw [eU_c (by omega)] at g))
        rw [(hs.neg hoA).mp g] at rbA
        cases rbA
    · exfalso
      obtain rfl := nI_j hjA hjB (by omega) exA exB
      obtain rfl := nI_j hoA hoB (by omega) eyA eyB
      have ya := hs.yes hjA raA
      have yb := hs.yes hoA rbA
      have ya2 := hs.yes2 hjA raA rcaA tcaA
      have yb2 := hs.yes2 hoA rbA rcbA tcbA
      (repeat (first | rw [eU_ne (by omega)] at neB | rw [eG_ne (by omega)] at neB | rw [eU_c (by omega)] at neB))
      exact neB (ya.2.2.2.1.symm.trans (eqA.trans yb.2.2.2.1))
    · exfalso
      obtain rfl := nI_j hjA hjB (by omega) exA exB
      obtain rfl := nI_j hoA hoB (by omega) eyA eyB
      have ya2 := hs.yes2 hjA raA rcaA tcaA
      have yb2 := hs.yes2 hoA rbA rcbA tcbA
      (repeat (first | rw [eU_ne (by omega)] at zaB | rw [eG_ne (by omega)] at zaB | rw [eU_c (by omega)] at zaB))
      (repeat (first | rw [eU_ne (by omega)] at zbB | rw [eG_ne (by omega)] at zbB | rw [eU_c (by omega)] at zbB))
      obtain rfl : laA = laB := (nI_eq (by omega) (by omega)).mp (ya2.2.2.2.1.symm.trans zaB)
      obtain rfl : lbA = lbB := (nI_eq (by omega) (by omega)).mp (yb2.2.2.2.1.symm.trans zbB)
      exact h4B (by rw [eiA, ekA, evA, nI_toInt (by omega), nI_toInt (by omega), nI_toInt (by omega)]; omega)
    · obtain rfl := nI_j hjA hjB (by omega) exA exB
      obtain rfl := nI_j hoA hoB (by omega) eyA eyB
      have ya2 := hs.yes2 hjA raA rcaA tcaA
      have yb2 := hs.yes2 hoA rbA rcbA tcbA
      (repeat (first | rw [eU_ne (by omega)] at zaB | rw [eG_ne (by omega)] at zaB | rw [eU_c (by omega)] at zaB))
      (repeat (first | rw [eU_ne (by omega)] at zbB | rw [eG_ne (by omega)] at zbB | rw [eU_c (by omega)] at zbB))
      obtain rfl : laA = laB := (nI_eq (by omega) (by omega)).mp (ya2.2.2.2.1.symm.trans zaB)
      obtain rfl : lbA = lbB := (nI_eq (by omega) (by omega)).mp (yb2.2.2.2.1.symm.trans zbB)
      obtain rfl : i0A = i0B := nI_j (m := 61) (by omega) (by omega) (by omega) eiA eiB
      obtain rfl : k0A = k0B := nI_j (m := 61) (by omega) (by omega) (by omega) ekA ekB
      obtain rfl : v0A = v0B := nI_j (m := 61) (by omega) (by omega) (by omega) evA evB
      exact ⟨rfl, m, k, hv.rp (by omega) (fun a9 ha9 => by (repeat (first | rw [eU_ne (by omega)] | rw [eG_ne (by omega)] | rw [eU_c (by omega)]))) (hg.flt (by (repeat (first | rw [eU_ne (by omega)] | rw [eG_ne (by omega)] | rw [eU_c (by omega)]))) (by (repeat (first | rw [eU_ne (by omega)] | rw [eG_ne (by omega)] | rw [eU_c (by omega)]))) (by (repeat (first | rw [eU_ne (by omega)] | rw [eG_ne (by omega)] | rw [eU_c (by omega)]))) (fun f9 hf9 => by (repeat (first | rw [eU_ne (by omega)] | rw [eG_ne (by omega)] | rw [eU_c (by omega)]))) (by (repeat (first | rw [eU_ne (by omega)] | rw [eG_ne (by omega)] | rw [eU_at] | rw [eG_eq] | rw [eU_c (by omega)])))) (hp.fr (fun a9 _ _ => by (repeat (first | rw [eU_ne (by omega)] | rw [eG_ne (by omega)] | rw [eU_c (by omega)]))) (fun a9 _ _ => by (repeat (first | rw [eU_ne (by omega)] | rw [eG_ne (by omega)] | rw [eU_c (by omega)]))) (by (repeat (first | rw [eU_ne (by omega)] | rw [eG_ne (by omega)] | rw [eU_c (by omega)]))) hk4) (fun p9 hp9 => (a1 p9 hp9).fr (by (repeat (first | rw [eU_ne (by omega)] | rw [eG_ne (by omega)] | rw [eU_c (by omega)]))) (by (repeat (first | rw [eU_ne (by omega)] | rw [eG_ne (by omega)] | rw [eU_c (by omega)]))) (by (repeat (first | rw [eU_ne (by omega)] | rw [eG_ne (by omega)] | rw [eU_c (by omega)]))) (by (repeat (first | rw [eU_ne (by omega)] | rw [eG_ne (by omega)] | rw [eU_c (by omega)])))) (fun p9 hp9 => (a2 p9 hp9).fr (fun f9 hf9 => by (repeat (first | rw [eU_ne (by omega)] | rw [eG_ne (by omega)] | rw [eU_c (by omega)]))) (fun a9 ha9 hb9 => by (repeat (first | rw [eU_ne (by omega)] | rw [eG_ne (by omega)] | rw [eU_c (by omega)])))) (fun p9 hp9 => (a3 p9 hp9).fr (by omega) (by (repeat (first | rw [eU_ne (by omega)] | rw [eG_ne (by omega)] | rw [eU_c (by omega)]))) (by (repeat (first | rw [eU_ne (by omega)] | rw [eG_ne (by omega)] | rw [eU_c (by omega)]))) (by (repeat (first | rw [eU_ne (by omega)] | rw [eG_ne (by omega)] | rw [eU_c (by omega)]))) (fun e9 _ => by (repeat (first | rw [eU_ne (by omega)] | rw [eG_ne (by omega)] | rw [eU_c (by omega)]))) (by (repeat (first | rw [eU_ne (by omega)] | rw [eG_ne (by omega)] | rw [eU_c (by omega)]))) (fun i9 _ => by (repeat (first | rw [eU_ne (by omega)] | rw [eG_ne (by omega)] | rw [eU_c (by omega)])))) (fun p9 hp9 => (a4 p9 hp9).fr (by (repeat (first | rw [eU_ne (by omega)] | rw [eG_ne (by omega)] | rw [eU_c (by omega)]))) (by (repeat (first | rw [eU_ne (by omega)] | rw [eG_ne (by omega)] | rw [eU_c (by omega)]))) (by (repeat (first | rw [eU_ne (by omega)] | rw [eG_ne (by omega)] | rw [eU_c (by omega)]))) (fun i9 _ => by (repeat (first | rw [eU_ne (by omega)] | rw [eG_ne (by omega)] | rw [eU_c (by omega)])))) (fun p9 hp9 => (a5 p9 hp9).fr hp9 (by (repeat (first | rw [eU_ne (by omega)] | rw [eG_ne (by omega)] | rw [eU_c (by omega)]))) (fun i9 _ => by (repeat (first | rw [eU_ne (by omega)] | rw [eG_ne (by omega)] | rw [eU_c (by omega)])))) (fun p9 hp9 => (hl p9 hp9).fr (fun a9 ha9 => ⟨by (repeat (first | rw [eU_ne (by omega)] | rw [eG_ne (by omega)] | rw [eU_c (by omega)])), fun x9 _ => by (repeat (first | rw [eU_ne (by omega)] | rw [eG_ne (by omega)] | rw [eU_c (by omega)]))⟩) (fun x9 _ => ⟨by (repeat (first | rw [eU_ne (by omega)] | rw [eG_ne (by omega)] | rw [eU_c (by omega)])), by (repeat (first | rw [eU_ne (by omega)] | rw [eG_ne (by omega)] | rw [eU_c (by omega)]))⟩) (by (repeat (first | rw [eU_ne (by omega)] | rw [eG_ne (by omega)] | rw [eU_c (by omega)]))) (by (repeat (first | rw [eU_ne (by omega)] | rw [eG_ne (by omega)] | rw [eU_c (by omega)]))) (fun _ => rfl)) (hs.wr hoA rbA rcbA tcbA (fun b9 h8 h9 => by (repeat (first | rw [eU_ne (by omega)] | rw [eG_ne (by omega)] | rw [eU_c (by omega)]))) (by (repeat (first | rw [eU_ne (by omega)] | rw [eG_ne (by omega)] | rw [eU_c (by omega)]))) (by (repeat (first | rw [eU_ne (by omega)] | rw [eG_ne (by omega)] | rw [eU_c (by omega)]))) (fun s9 h7 h8 i9 h9 => by
          rw [eU_ne (show (126 : Nat) ≠ 94 by decide), eG_eq, if_neg (by omega)]
          (repeat (first | rw [eU_ne (by omega)] | rw [eG_ne (by omega)] | rw [eU_c (by omega)]))) (fun i9 h9 => by
          rw [eU_ne (show cbA ≠ 94 by omega), eG_ne (show cbA ≠ 126 by omega), eG_ne (show cbA ≠ 127 by omega), eG_eq, eU_ne (show (126 : Nat) ≠ 94 by decide), eG_eq]
          by_cases g : k0A ≤ i9 ∧ i9 < k0A + v0A
          · rw [pk_cpy_in g.1 g.2, if_pos (by omega), eG_eq, if_pos (by omega)]
            (repeat (first | rw [eU_ne (by omega)] | rw [eG_ne (by omega)] | rw [eU_c (by omega)]))
            rw [ya2.2.2.2.2 _ (by omega)]
            exact congrArg _ (by omega)
          · rw [pk_cpy_out (by omega), if_neg (by omega)]
            (repeat (first | rw [eU_ne (by omega)] | rw [eG_ne (by omega)] | rw [eU_c (by omega)]))
            exact yb2.2.2.2.2 i9 h9))⟩

