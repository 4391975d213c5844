theorem nI_j {p : Int32} {a b m : Nat} (ha : a < m) (hb : b < m) (hm : m ≤ 100) (e1 : p = nI a) (e2 : p = nI b) : a = b := (nI_eq (by omega) (by omega)).mp (e1.symm.trans e2)
theorem pr_asked {c n : Nat} {t : eT} {I : eI} {R : eR} {L : Nat} {xs : Nat → Int32} (h : Inv c n t I R L xs) (hc : c ≤ 511) {p : Int32} : MC yX7_asked cX7_asked 2 (some .int) 999 0 0 [.ref 4, .int p] n t I R (qI (fun r n1 t1 I1 R1 => MID t1 I1 L xs ∧ MC yX8_asked cX8_asked 2 (some .int) 999 0 0 [.ref 94, .int p] n1 t1 I1 R1 (qI (fun r2 n2 t2 I2 R2 => r2 = r ∧ Inv (c + 1) n2 t2 I2 R2 L xs)))) := by
  obtain ⟨m, k, hv⟩ := h
  obtain ⟨hm4, hk4, hst, hfz, hg, hp, a1, a2, a3, a4, a5, hl, hs⟩ := id hv
  refine c_asked 997 hst hg.1 hm4 (fun h1A => ?_) (fun jA hjA eA => ?_)
  · refine ⟨hv.mid, c_askedM 997 hst hg.2.1 hm4 (fun h1B => ?_) (fun jB hjB eB => ?_)⟩
    · exact ⟨rfl, m, k, hv.up (by omega)⟩
    · (exfalso; first | assumption | omega | grind)
  · refine ⟨hv.mid, c_askedM 997 hst hg.2.1 hm4 (fun h1B => ?_) (fun jB hjB eB => ?_)⟩
    · (exfalso; first | assumption | omega | grind)
    · obtain rfl := nI_j hjA hjB (by omega) eA eB
      exact ⟨(a2 _ (by omega)).2.1.symm, m, k, hv.up (by omega)⟩

theorem pr_counted {c n : Nat} {t : eT} {I : eI} {R : eR} {L : Nat} {xs : Nat → Int32} (h : Inv c n t I R L xs) (hc : c ≤ 511) {p x : Int32} : MC yX7_counted cX7_counted 3 (some .int) 999 0 0 [.ref 4, .int p, .int x] n t I R (qI (fun r n1 t1 I1 R1 => MID t1 I1 L xs ∧ MC yX8_counted cX8_counted 3 (some .int) 999 0 0 [.ref 94, .int p, .int x] n1 t1 I1 R1 (qI (fun r2 n2 t2 I2 R2 => r2 = r ∧ Inv (c + 1) n2 t2 I2 R2 L xs)))) := by
  obtain ⟨m, k, hv⟩ := h
  obtain ⟨hm4, hk4, hst, hfz, hg, hp, a1, a2, a3, a4, a5, hl, hs⟩ := id hv
  refine c_counted 997 hst hg.1 hm4 (fun h1A => ?_) (fun jA hjA eA h2A => ?_) (fun jA hjA eA wA hwA ewA => ?_)
  · refine ⟨hv.mid, c_countedM 997 hst hg.2.1 hm4 (fun h1B => ?_) (fun jB hjB eB h2B => ?_) (fun jB hjB eB wB hwB ewB => ?_)⟩
    · exact ⟨rfl, m, k, hv.up (by omega)⟩
    · (exfalso; first | assumption | omega | grind)
    · (exfalso; first | assumption | omega | grind)
  · refine ⟨hv.mid, c_countedM 997 hst hg.2.1 hm4 (fun h1B => ?_) (fun jB hjB eB h2B => ?_) (fun jB hjB eB wB hwB ewB => ?_)⟩
    · (exfalso; first | assumption | omega | grind)
    · exact ⟨rfl, m, k, hv.up (by omega)⟩
    · (exfalso; exact h2A (by rw [ewB, nI_toInt (by omega)]; omega))
  · refine ⟨hv.mid, c_countedM 997 hst hg.2.1 hm4 (fun h1B => ?_) (fun jB hjB eB h2B => ?_) (fun jB hjB eB wB hwB ewB => ?_)⟩
    · (exfalso; first | assumption | omega | grind)
    · (exfalso; exact h2B (by rw [ewA, nI_toInt (by omega)]; omega))
    · obtain rfl := nI_j hjA hjB (by omega) eA eB
      obtain rfl := nI_j hwA hwB (by omega) ewA ewB
      obtain ⟨lc, -, -, -, -, h5⟩ := a3 _ (show jA < 4 by omega)
      exact ⟨(h5 _ hwA).1.symm, m, k, hv.up (by omega)⟩

theorem pr_many {c n : Nat} {t : eT} {I : eI} {R : eR} {L : Nat} {xs : Nat → Int32} (h : Inv c n t I R L xs) (hc : c ≤ 511) {x : Int32} : MC yX7_many cX7_many 2 (some .int) 999 0 0 [.ref 4, .int x] n t I R (qI (fun r n1 t1 I1 R1 => MID t1 I1 L xs ∧ MC yX8_many cX8_many 2 (some .int) 999 0 0 [.ref 94, .int x] n1 t1 I1 R1 (qI (fun r2 n2 t2 I2 R2 => r2 = r ∧ Inv (c + 1) n2 t2 I2 R2 L xs)))) := by
  obtain ⟨m, k, hv⟩ := h
  obtain ⟨hm4, hk4, hst, hfz, hg, hp, a1, a2, a3, a4, a5, hl, hs⟩ := id hv
  refine c_many 997 hst (fun h1A => ?_) (fun eA => ?_) (fun eA => ?_)
  · refine ⟨hv.mid, c_manyM 997 hst (fun h1B => ?_) (fun eB => ?_) (fun eB => ?_)⟩
    · exact ⟨rfl, m, k, hv.up (by omega)⟩
    · (exfalso; exact h1A (by rw [eB]; decide))
    · (exfalso; exact h1A (by rw [eB]; decide))
  · refine ⟨hv.mid, c_manyM 997 hst (fun h1B => ?_) (fun eB => ?_) (fun eB => ?_)⟩
    · (exfalso; exact h1B (by rw [eA]; decide))
    · exact ⟨by rw [hp.1, hp.2.1], m, k, hv.up (by omega)⟩
    · (exfalso; rw [eA] at eB; exact absurd eB (by decide))
  · refine ⟨hv.mid, c_manyM 997 hst (fun h1B => ?_) (fun eB => ?_) (fun eB => ?_)⟩
    · (exfalso; exact h1B (by rw [eA]; decide))
    · (exfalso; rw [eA] at eB; exact absurd eB (by decide))
    · exact ⟨by rw [hg.1, hg.2.1], m, k, hv.up (by omega)⟩

theorem pr_part {c n : Nat} {t : eT} {I : eI} {R : eR} {L : Nat} {xs : Nat → Int32} (h : Inv c n t I R L xs) (hc : c ≤ 511) {x w : Int32} : MC yX7_part cX7_part 3 (some .int) 999 0 0 [.ref 4, .int x, .int w] n t I R (qI (fun r n1 t1 I1 R1 => MID t1 I1 L xs ∧ MC yX8_part cX8_part 3 (some .int) 999 0 0 [.ref 94, .int x, .int w] n1 t1 I1 R1 (qI (fun r2 n2 t2 I2 R2 => r2 = r ∧ Inv (c + 1) n2 t2 I2 R2 L xs)))) := by
  obtain ⟨m, k, hv⟩ := h
  obtain ⟨hm4, hk4, hst, hfz, hg, hp, a1, a2, a3, a4, a5, hl, hs⟩ := id hv
  refine c_part 997 hst hp.1 hk4 (fun h1A => ?_) (fun jA hjA eA h2A => ?_) (fun jA hjA eA ewA => ?_) (fun jA hjA eA ewA => ?_)
  · refine ⟨hv.mid, c_partM 997 hst hp.2.1 hk4 (fun h1B => ?_) (fun jB hjB eB h2B => ?_) (fun jB hjB eB ewB => ?_) (fun jB hjB eB ewB => ?_)⟩
    · exact ⟨rfl, m, k, hv.up (by omega)⟩
    · (exfalso; first | assumption | omega | grind)
    · (exfalso; first | assumption | omega | grind)
    · (exfalso; first | assumption | omega | grind)
  · refine ⟨hv.mid, c_partM 997 hst hp.2.1 hk4 (fun h1B => ?_) (fun jB hjB eB h2B => ?_) (fun jB hjB eB ewB => ?_) (fun jB hjB eB ewB => ?_)⟩
    · (exfalso; first | assumption | omega | grind)
    · exact ⟨rfl, m, k, hv.up (by omega)⟩
    · (exfalso; exact h2A (by rw [ewB]; decide))
    · (exfalso; exact h2A (by rw [ewB]; decide))
  · refine ⟨hv.mid, c_partM 997 hst hp.2.1 hk4 (fun h1B => ?_) (fun jB hjB eB h2B => ?_) (fun jB hjB eB ewB => ?_) (fun jB hjB eB ewB => ?_)⟩
    · (exfalso; first | assumption | omega | grind)
    · (exfalso; exact h2B (by rw [ewA]; decide))
    · obtain rfl := nI_j hjA hjB (by omega) eA eB
      exact ⟨(hp.2.2.1 _ hjA).1.symm, m, k, hv.up (by omega)⟩
    · (exfalso; rw [ewA] at ewB; exact absurd ewB (by decide))
  · refine ⟨hv.mid, c_partM 997 hst hp.2.1 hk4 (fun h1B => ?_) (fun jB hjB eB h2B => ?_) (fun jB hjB eB ewB => ?_) (fun jB hjB eB ewB => ?_)⟩
    · (exfalso; first | assumption | omega | grind)
    · (exfalso; exact h2B (by rw [ewA]; decide))
    · (exfalso; rw [ewA] at ewB; exact absurd ewB (by decide))
    · obtain rfl := nI_j hjA hjB (by omega) eA eB
      exact ⟨(hp.2.2.2.1 _ hjA).1.symm, m, k, hv.up (by omega)⟩

theorem pr_follows {c n : Nat} {t : eT} {I : eI} {R : eR} {L : Nat} {xs : Nat → Int32} (h : Inv c n t I R L xs) (hc : c ≤ 511) {x y : Int32} : MC yX7_follows cX7_follows 3 (some .int) 999 0 0 [.ref 4, .int x, .int y] n t I R (qI (fun r n1 t1 I1 R1 => MID t1 I1 L xs ∧ MC yX8_follows cX8_follows 3 (some .int) 999 0 0 [.ref 94, .int x, .int y] n1 t1 I1 R1 (qI (fun r2 n2 t2 I2 R2 => r2 = r ∧ Inv (c + 1) n2 t2 I2 R2 L xs)))) := by
  obtain ⟨m, k, hv⟩ := h
  obtain ⟨hm4, hk4, hst, hfz, hg, hp, a1, a2, a3, a4, a5, hl, hs⟩ := id hv
  refine c_follows 997 hst hp.1 hk4 (fun h1A => ?_) (fun h1A => ?_) (fun jA hjA exA eyA => ?_) (fun aA bA haA hbA neA exA eyA => ?_)
  · refine ⟨hv.mid, c_followsM 997 hst hp.2.1 hk4 (fun h1B => ?_) (fun h1B => ?_) (fun jB hjB exB eyB => ?_) (fun aB bB haB hbB neB exB eyB => ?_)⟩
    · exact ⟨rfl, m, k, hv.up (by omega)⟩
    · exact ⟨rfl, m, k, hv.up (by omega)⟩
    · (exfalso; first | assumption | omega | grind)
    · (exfalso; first | assumption | omega | grind)
  · refine ⟨hv.mid, c_followsM 997 hst hp.2.1 hk4 (fun h1B => ?_) (fun h1B => ?_) (fun jB hjB exB eyB => ?_) (fun aB bB haB hbB neB exB eyB => ?_)⟩
    · exact ⟨rfl, m, k, hv.up (by omega)⟩
    · exact ⟨rfl, m, k, hv.up (by omega)⟩
    · (exfalso; first | assumption | omega | grind)
    · (exfalso; first | assumption | omega | grind)
  · refine ⟨hv.mid, c_followsM 997 hst hp.2.1 hk4 (fun h1B => ?_) (fun h1B => ?_) (fun jB hjB exB eyB => ?_) (fun aB bB haB hbB neB exB eyB => ?_)⟩
    · (exfalso; first | assumption | omega | grind)
    · (exfalso; first | assumption | omega | grind)
    · exact ⟨rfl, m, k, hv.up (by omega)⟩
    · (exfalso; exact neB ((nI_j hjA haB (by omega) exA exB).symm.trans (nI_j hjA hbB (by omega) eyA eyB)))
  · refine ⟨hv.mid, c_followsM 997 hst hp.2.1 hk4 (fun h1B => ?_) (fun h1B => ?_) (fun jB hjB exB eyB => ?_) (fun aB bB haB hbB neB exB eyB => ?_)⟩
    · (exfalso; first | assumption | omega | grind)
    · (exfalso; first | assumption | omega | grind)
    · (exfalso; exact neA ((nI_j hjB haA (by omega) exB exA).symm.trans (nI_j hjB hbA (by omega) eyB eyA)))
    · obtain rfl := nI_j haA haB (by omega) exA exB
      obtain rfl := nI_j hbA hbB (by omega) eyA eyB
      exact ⟨(hp.2.2.2.2 _ _ haA hbA).1.symm, m, k, hv.up (by omega)⟩

theorem pr_span {c n : Nat} {t : eT} {I : eI} {R : eR} {L : Nat} {xs : Nat → Int32} (h : Inv c n t I R L xs) (hc : c ≤ 511) {p w : Int32} : MC yX7_span cX7_span 3 (some .int) 999 0 0 [.ref 4, .int p, .int w] n t I R (qI (fun r n1 t1 I1 R1 => MID t1 I1 L xs ∧ MC yX8_span cX8_span 3 (some .int) 999 0 0 [.ref 94, .int p, .int w] n1 t1 I1 R1 (qI (fun r2 n2 t2 I2 R2 => r2 = r ∧ Inv (c + 1) n2 t2 I2 R2 L xs)))) := by
  obtain ⟨m, k, hv⟩ := h
  obtain ⟨hm4, hk4, hst, hfz, hg, hp, a1, a2, a3, a4, a5, hl, hs⟩ := id hv
  refine c_span 997 hst hg.1 hm4 (fun h1A => ?_) (fun jA hjA eA h2A => ?_) (fun jA hjA eA w1A w2A => ?_)
  · refine ⟨hv.mid, c_spanM 997 hst hg.2.1 hm4 (fun h1B => ?_) (fun jB hjB eB h2B => ?_) (fun jB hjB eB w1B w2B => ?_)⟩
    · exact ⟨rfl, m, k, hv.up (by omega)⟩
    · (exfalso; first | assumption | omega | grind)
    · (exfalso; first | assumption | omega | grind)
  · refine ⟨hv.mid, c_spanM 997 hst hg.2.1 hm4 (fun h1B => ?_) (fun jB hjB eB h2B => ?_) (fun jB hjB eB w1B w2B => ?_)⟩
    · (exfalso; first | assumption | omega | grind)
    · exact ⟨rfl, m, k, hv.up (by omega)⟩
    · (exfalso; first | assumption | omega | grind)
  · refine ⟨hv.mid, c_spanM 997 hst hg.2.1 hm4 (fun h1B => ?_) (fun jB hjB eB h2B => ?_) (fun jB hjB eB w1B w2B => ?_)⟩
    · (exfalso; first | assumption | omega | grind)
    · (exfalso; first | assumption | omega | grind)
    · obtain rfl := nI_j hjA hjB (by omega) eA eB
      obtain ⟨lc, -, -, -, -, h5⟩ := a3 _ (show jA < 4 by omega)
      exact ⟨by rw [(h5 0 (by decide)).1, (h5 1 (by decide)).1, (h5 2 (by decide)).1]; rfl, m, k, hv.up (by omega)⟩

theorem IA5.lt {I : eI} {p q e : Nat} (h : IA5 I p) (hq : q < 4) (he : e < 2) {w : Int32} (hw : 0 ≤ w.toInt) : I (63 + 10 * p) (e * 4 + q) < w ↔ I 123 (8 * p + 2 * q + e) < w := by
  rcases h q e hq he with ⟨h1, h2⟩ | ⟨h1, h2⟩
  · rw [h1, h2, i_lt, i_lt]
    have e1 : (-1 : Int32).toInt = -1 := by decide
    have e2 : (-9 : Int32).toInt = -9 := by decide
    omega
  · rw [h1]

theorem pr_told {c n : Nat} {t : eT} {I : eI} {R : eR} {L : Nat} {xs : Nat → Int32} (h : Inv c n t I R L xs) (hc : c ≤ 511) {q p g w : Int32} : MC yX7_told cX7_told 5 (some .int) 999 0 0 [.ref 4, .int q, .int p, .int g, .int w] n t I R (qI (fun r n1 t1 I1 R1 => MID t1 I1 L xs ∧ MC yX8_told cX8_told 5 (some .int) 999 0 0 [.ref 94, .int q, .int p, .int g, .int w] n1 t1 I1 R1 (qI (fun r2 n2 t2 I2 R2 => r2 = r ∧ Inv (c + 1) n2 t2 I2 R2 L xs)))) := by
  obtain ⟨m, k, hv⟩ := h
  obtain ⟨hm4, hk4, hst, hfz, hg, hp, a1, a2, a3, a4, a5, hl, hs⟩ := id hv
  refine c_told 996 hst hg.1 hm4 (fun h1A => ?_) (fun h1A => ?_) (fun aA bA haA hbA epA eqA h2A => ?_) (fun aA bA haA hbA epA eqA h2A neA ltA => ?_) (fun aA bA haA hbA epA eqA h2A vA => ?_)
  · refine ⟨hv.mid, c_toldM 996 hst hg.2.1 hm4 (fun h1B => ?_) (fun h1B => ?_) (fun aB bB haB hbB epB eqB h2B => ?_) (fun aB bB haB hbB epB eqB h2B neB ltB => ?_) (fun aB bB haB hbB epB eqB h2B vB => ?_)⟩
    · exact ⟨rfl, m, k, hv.up (by omega)⟩
    · exact ⟨rfl, m, k, hv.up (by omega)⟩
    · (exfalso; first | assumption | omega | grind)
    · (exfalso; first | assumption | omega | grind)
    · (exfalso; first | assumption | omega | grind)
  · refine ⟨hv.mid, c_toldM 996 hst hg.2.1 hm4 (fun h1B => ?_) (fun h1B => ?_) (fun aB bB haB hbB epB eqB h2B => ?_) (fun aB bB haB hbB epB eqB h2B neB ltB => ?_) (fun aB bB haB hbB epB eqB h2B vB => ?_)⟩
    · exact ⟨rfl, m, k, hv.up (by omega)⟩
    · exact ⟨rfl, m, k, hv.up (by omega)⟩
    · (exfalso; first | assumption | omega | grind)
    · (exfalso; first | assumption | omega | grind)
    · (exfalso; first | assumption | omega | grind)
  · refine ⟨hv.mid, c_toldM 996 hst hg.2.1 hm4 (fun h1B => ?_) (fun h1B => ?_) (fun aB bB haB hbB epB eqB h2B => ?_) (fun aB bB haB hbB epB eqB h2B neB ltB => ?_) (fun aB bB haB hbB epB eqB h2B vB => ?_)⟩
    · (exfalso; first | assumption | omega | grind)
    · (exfalso; first | assumption | omega | grind)
    · exact ⟨rfl, m, k, hv.up (by omega)⟩
    · (exfalso; first | assumption | omega | grind)
    · (exfalso; first | assumption | omega | grind)
  · refine ⟨hv.mid, c_toldM 996 hst hg.2.1 hm4 (fun h1B => ?_) (fun h1B => ?_) (fun aB bB haB hbB epB eqB h2B => ?_) (fun aB bB haB hbB epB eqB h2B neB ltB => ?_) (fun aB bB haB hbB epB eqB h2B vB => ?_)⟩
    · (exfalso; first | assumption | omega | grind)
    · (exfalso; first | assumption | omega | grind)
    · (exfalso; first | assumption | omega | grind)
    · exact ⟨rfl, m, k, hv.up (by omega)⟩
    · obtain rfl := nI_j haA haB (by omega) epA epB
      obtain rfl := nI_j hbA hbB (by omega) eqA eqB
      have hlt := (a5 aA (by omega)).lt (q := bA) (e := 1) (by omega) (by decide) h2A.2.1
      rw [show 1 * 4 + bA = 4 + bA by omega] at hlt
      exact absurd (hlt.mp ltA) (vB.elim (fun g => absurd g neA) id)
  · refine ⟨hv.mid, c_toldM 996 hst hg.2.1 hm4 (fun h1B => ?_) (fun h1B => ?_) (fun aB bB haB hbB epB eqB h2B => ?_) (fun aB bB haB hbB epB eqB h2B neB ltB => ?_) (fun aB bB haB hbB epB eqB h2B vB => ?_)⟩
    · (exfalso; first | assumption | omega | grind)
    · (exfalso; first | assumption | omega | grind)
    · (exfalso; first | assumption | omega | grind)
    · obtain rfl := nI_j haA haB (by omega) epA epB
      obtain rfl := nI_j hbA hbB (by omega) eqA eqB
      have hlt := (a5 aA (by omega)).lt (q := bA) (e := 1) (by omega) (by decide) h2A.2.1
      rw [show 1 * 4 + bA = 4 + bA by omega] at hlt
      exact absurd (hlt.mpr ltB) (vA.elim (fun g => absurd g neB) id)
    · obtain rfl := nI_j haA haB (by omega) epA epB
      obtain rfl := nI_j hbA hbB (by omega) eqA eqB
      obtain ⟨lc, -, -, -, -, h5⟩ := a3 _ (show aA < 4 by omega)
      exact ⟨by rw [(h5 0 (by decide)).1, (h5 1 (by decide)).1, (h5 2 (by decide)).1]; rfl, m, k, hv.up (by omega)⟩

theorem pr_trace {c n : Nat} {t : eT} {I : eI} {R : eR} {L : Nat} {xs : Nat → Int32} (h : Inv c n t I R L xs) (hc : c ≤ 511) : MC yX7_trace cX7_trace 1 (some .int) 999 0 0 [.ref 4] n t I R (qI (fun r n1 t1 I1 R1 => MID t1 I1 L xs ∧ MC yX8_trace cX8_trace 1 (some .int) 999 0 0 [.ref 94] n1 t1 I1 R1 (qI (fun r2 n2 t2 I2 R2 => r2 = r ∧ Inv (c + 1) n2 t2 I2 R2 L xs)))) := by
  obtain ⟨m, k, hv⟩ := h
  obtain ⟨hm4, hk4, hst, hfz, hg, hp, a1, a2, a3, a4, a5, hl, hs⟩ := id hv
  refine c_trace 999 hst ?_
  · refine ⟨hv.mid, c_traceM 999 hst ?_⟩
    · exact ⟨hg.2.2.2.2.2.1.symm, m, k, hv.up (by omega)⟩

theorem pr_fault {c n : Nat} {t : eT} {I : eI} {R : eR} {L : Nat} {xs : Nat → Int32} (h : Inv c n t I R L xs) (hc : c ≤ 511) : MC yX7_fault cX7_fault 1 (some .int) 999 0 0 [.ref 4] n t I R (qI (fun r n1 t1 I1 R1 => MID t1 I1 L xs ∧ MC yX8_fault cX8_fault 1 (some .int) 999 0 0 [.ref 94] n1 t1 I1 R1 (qI (fun r2 n2 t2 I2 R2 => r2 = r ∧ Inv (c + 1) n2 t2 I2 R2 L xs)))) := by
  obtain ⟨m, k, hv⟩ := h
  obtain ⟨hm4, hk4, hst, hfz, hg, hp, a1, a2, a3, a4, a5, hl, hs⟩ := id hv
  refine c_fault 999 hst ?_
  · refine ⟨hv.mid, c_faultM 999 hst ?_⟩
    · exact ⟨hg.2.2.2.2.2.2.symm, m, k, hv.up (by omega)⟩

