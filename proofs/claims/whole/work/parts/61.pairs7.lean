theorem neg9 {v : Int32} (h : v = -9 ∨ ∃ x, x < 10 ∧ v = nI x) : v < 0 ↔ v = -9 := by
  rcases h with h | ⟨x, hx, h⟩
  · rw [h]; exact ⟨fun _ => rfl, fun _ => by decide⟩
  · rw [h]; exact ⟨fun g => absurd g (nI_pos (by omega)), fun g => absurd g (nI_m9 x (by omega))⟩
theorem wt_pos {wv cv : Nat → Nat} {la : Nat → Option Nat} {px py a pl : Nat} (h1 : la a = some pl) (h2 : errN pl px py < 3) : ¬ wtN wv cv la px py a = 0 := by
  unfold wtN
  rw [h1]
  show ¬ (if errN pl px py < 3 then (wv a + 1) * (cv (errN pl px py) + 1) else 0) = 0
  rw [if_pos h2]
  exact Nat.ne_of_gt (Nat.mul_pos (Nat.succ_pos _) (Nat.succ_pos _))
def cvI (I : eI) (j e : Nat) : Nat := (I 118 (3 * j + e)).toNatClampNeg
def okM (I : eI) (j a su : Nat) (w : Int32) (p2 p3 : Nat) : Prop := ¬ 10 * p2 < su * p3 ∧ (¬ I 95 a = 2 ∨ (I 114 j = nI a ∧ w - I 115 j ≤ I 94 27))
theorem IA3.cv {c p : Nat} {I : eI} (h : IA3 c I p) (hc : c ≤ 511) : ∀ e, e < 3 → (I (60 + 10 * p) e = nI (cvI I p e) ∧ cvI I p e ≤ 512) ∧ (I 118 (3 * p + e) = nI (cvI I p e) ∧ cvI I p e ≤ 512) := fun e he => by
  obtain ⟨lc, -, -, -, -, h5⟩ := h
  obtain ⟨d1, ce, d2, d3, -⟩ := h5 e he
  have e1 : cvI I p e = ce := by unfold cvI; rw [d3]; exact nI_clamp (by omega)
  rw [d1, d3, e1]
  exact ⟨⟨rfl, by omega⟩, rfl, by omega⟩
theorem c_pressA {c m k n : Nat} {t : eT} {I : eI} {R : eR} {L : Nat} {xs : Nat → Int32} {Q : Int32 → Nat → eT → eI → eR → Prop} (hv : IVP c m k n t I R L xs) (hc : c ≤ 511) {j : Nat} (hj : j < m) {la : Nat → Option Nat} {su lc : Nat} (hsu : I 94 26 = nI su) (hsu2 : su ≤ 10) (hlc : I 119 j = nI lc) (hlc2 : lc ≤ 12) {u : Nat} (g2 : R (54 + 10 * j) 1 = some u) (hu : u = 56 + 10 * j ∨ u = 58 + 10 * j) (l1 : LayC I u la) {x y w : Int32} (h2 : ¬ ((0 ≤ x.toInt ∧ x.toInt ≤ 39) ∧ (0 ≤ y.toInt ∧ y.toInt ≤ 29) ∧ (0 ≤ w.toInt ∧ w.toInt ≤ 9999)) → Q (-2) n t I R) (h3 : ((0 ≤ x.toInt ∧ x.toInt ≤ 39) ∧ (0 ≤ y.toInt ∧ y.toInt ≤ 29) ∧ (0 ≤ w.toInt ∧ w.toInt ≤ 9999)) → w < I 117 j → Q (-3) n t I R) (h4 : ∀ px py, px < 40 → py < 30 → x = nI px → y = nI py → (0 ≤ w.toInt ∧ w.toInt ≤ 9999) → ¬ w < I 117 j → (∀ a, a < k → (wtN (wvI I) (cvI I j) la px py) a = 0) → Q (-9) n t (eU I (54 + 10 * j) 3 w) R) (h5 : ∀ px py, px < 40 → py < 30 → x = nI px → y = nI py → (0 ≤ w.toInt ∧ w.toInt ≤ 9999) → ¬ w < I 117 j → ∀ a pl, a < k → la a = some pl → errN pl px py < 3 → (pAcc (wtN (wvI I) (cvI I j) la px py) k).1 = nI a → okM I j a su w (pAcc (wtN (wvI I) (cvI I j) la px py) k).2.1 (pAcc (wtN (wvI I) (cvI I j) la px py) k).2.2 → Q (nI a) n t (tkC (eU I (54 + 10 * j) 3 w) j lc (errN pl px py)) R) (h6 : ∀ px py, px < 40 → py < 30 → x = nI px → y = nI py → (0 ≤ w.toInt ∧ w.toInt ≤ 9999) → ¬ w < I 117 j → ∀ a pl, a < k → la a = some pl → errN pl px py < 3 → (pAcc (wtN (wvI I) (cvI I j) la px py) k).1 = nI a → ¬ okM I j a su w (pAcc (wtN (wvI I) (cvI I j) la px py) k).2.1 (pAcc (wtN (wvI I) (cvI I j) la px py) k).2.2 → Q (100 + nI a) n t (eU (eU (eU (eU I (54 + 10 * j) 3 w) (54 + 10 * j) 4 (nI a)) (54 + 10 * j) 5 (nI (errN pl px py))) (54 + 10 * j) 6 w) R) : MC yX7_press cX7_press 6 (some .int) 999 0 0 [.ref 4, .int (nI j), .int x, .int y, .int w] n t I R (qI Q) := by
  obtain ⟨hm4, hk4, hst, hfz, hg, hp, a1, a2, a3, a4, a5, hl, hs⟩ := id hv
  have ecv := (a3 j (show j < 4 by omega)).cv hc
  obtain ⟨b1, b2, -, -, -, b6⟩ := a2 j (show j < 4 by omega)
  obtain ⟨l9, -, m2, m3, -⟩ := a3 j (show j < 4 by omega)
  have uv := UV.of hst (show j < 4 by omega) hu
  refine c_press 995 hst hg.1 hm4 hj h2 (fun r1 r2 => h3 r1 (by rw [← b1]; exact r2)) (fun px py hpx hpy ex ey hw hno => ?_)
  have hno2 : ¬ w < I 117 j := by rw [← b1]; exact hno
  have q1 : ∀ a, a < k → eU I (54 + 10 * j) 3 w 6 a = I 95 a := fun a ha => by (repeat (first | rw [eU_ne (by omega)] | rw [eU_c (by omega)])); exact (hp.2.2.1 a ha).1
  have q2 : eU I (54 + 10 * j) 3 w (54 + 10 * j) 4 = I 114 j := by (repeat (first | rw [eU_ne (by omega)] | rw [eU_c (by omega)])); exact b2
  have q3 : eU I (54 + 10 * j) 3 w (54 + 10 * j) 6 = I 115 j := by (repeat (first | rw [eU_ne (by omega)] | rw [eU_c (by omega)])); exact b6
  have q4 : eU I (54 + 10 * j) 3 w 52 1 = I 94 27 := by (repeat (first | rw [eU_ne (by omega)] | rw [eU_c (by omega)])); exact hg.2.2.2.2.1
  refine c_pressFor 995 hst (by (repeat (first | rw [eU_ne (by omega)] | rw [eU_c (by omega)])); exact hp.1) hk4 (show j < 4 by omega) uv.1 uv.2.1 uv.2.2.1 g2 (wv := wvI I) (cv := cvI I j) (fun a ha => by (repeat (first | rw [eU_ne (by omega)] | rw [eU_c (by omega)])); exact ⟨(hp.w a ha).1, (hp.w a ha).2.2⟩) (fun e he => by (repeat (first | rw [eU_ne (by omega)] | rw [eU_c (by omega)])); exact (ecv e he).1) (lay := la) (fun a ha => by (repeat (first | rw [eU_ne (by omega)] | rw [eU_c (by omega)])); exact l1 a ha) hpx hpy (su := su) (c := lc) (by (repeat (first | rw [eU_ne (by omega)] | rw [eU_c (by omega)])); exact hg.2.2.1.trans hsu) hsu2 (by (repeat (first | rw [eU_ne (by omega)] | rw [eU_c (by omega)])); exact m2.trans (m3.symm.trans hlc)) hlc2 (fun h0 => h4 px py hpx hpy ex ey hw hno2 h0) (fun a pl ha hla her hme hok => h5 px py hpx hpy ex ey hw hno2 a pl ha hla her hme ?_) (fun a pl ha hla her hme hok => h6 px py hpx hpy ex ey hw hno2 a pl ha hla her hme ?_)
  · unfold okM
    rw [← q1 a ha, ← q2, ← q3, ← q4]
    exact hok
  · unfold okM
    rw [← q1 a ha, ← q2, ← q3, ← q4]
    exact hok
theorem c_pressB {c m k n : Nat} {t : eT} {I : eI} {R : eR} {L : Nat} {xs : Nat → Int32} {Q : Int32 → Nat → eT → eI → eR → Prop} (hv : IVP c m k n t I R L xs) (hc : c ≤ 511) {j : Nat} (hj : j < m) {la : Nat → Option Nat} {su lc : Nat} (hsu : I 94 26 = nI su) (hsu2 : su ≤ 10) (hlc : I 119 j = nI lc) (hlc2 : lc ≤ 12) {I1 : eI} (hF : ∀ a, 94 ≤ a → I1 a = I a) (l2 : LayM I 106 j la) {x y w : Int32} (h2 : ¬ ((0 ≤ x.toInt ∧ x.toInt ≤ 39) ∧ (0 ≤ y.toInt ∧ y.toInt ≤ 29) ∧ (0 ≤ w.toInt ∧ w.toInt ≤ 9999)) → Q (-2) n t I1 R) (h3 : ((0 ≤ x.toInt ∧ x.toInt ≤ 39) ∧ (0 ≤ y.toInt ∧ y.toInt ≤ 29) ∧ (0 ≤ w.toInt ∧ w.toInt ≤ 9999)) → w < I 117 j → Q (-3) n t I1 R) (h4 : ∀ px py, px < 40 → py < 30 → x = nI px → y = nI py → (0 ≤ w.toInt ∧ w.toInt ≤ 9999) → ¬ w < I 117 j → (∀ a, a < k → (wtN (wvI I) (cvI I j) la px py) a = 0) → Q (-9) n t (eU I1 117 j w) R) (h5 : ∀ px py, px < 40 → py < 30 → x = nI px → y = nI py → (0 ≤ w.toInt ∧ w.toInt ≤ 9999) → ¬ w < I 117 j → ∀ a pl, a < k → la a = some pl → errN pl px py < 3 → (pAcc (wtN (wvI I) (cvI I j) la px py) k).1 = nI a → okM I j a su w (pAcc (wtN (wvI I) (cvI I j) la px py) k).2.1 (pAcc (wtN (wvI I) (cvI I j) la px py) k).2.2 → Q (nI a) n t (tkM (eU I1 117 j w) j lc (errN pl px py)) R) (h6 : ∀ px py, px < 40 → py < 30 → x = nI px → y = nI py → (0 ≤ w.toInt ∧ w.toInt ≤ 9999) → ¬ w < I 117 j → ∀ a pl, a < k → la a = some pl → errN pl px py < 3 → (pAcc (wtN (wvI I) (cvI I j) la px py) k).1 = nI a → ¬ okM I j a su w (pAcc (wtN (wvI I) (cvI I j) la px py) k).2.1 (pAcc (wtN (wvI I) (cvI I j) la px py) k).2.2 → Q (100 + nI a) n t (eU (eU (eU (eU I1 117 j w) 114 j (nI a)) 115 j w) 116 j (nI (errN pl px py))) R) : MC yX8_press cX8_press 14 (some .int) 999 0 0 [.ref 94, .int (nI j), .int x, .int y, .int w] n t I1 R (qI Q) := by
  obtain ⟨hm4, hk4, hst, hfz, hg, hp, a1, a2, a3, a4, a5, hl, hs⟩ := id hv
  have ecv := (a3 j (show j < 4 by omega)).cv hc
  refine c_pressM 997 hst (by rw [hF 94 (by decide)]; exact hg.2.1) hm4 (by rw [hF 94 (by decide)]; exact hp.2.1) hk4 hj (wv := wvI I) (cv := cvI I j) (fun a ha => by rw [hF 96 (by decide)]; exact (hp.w a ha).2) (fun e he => by rw [hF 118 (by decide)]; exact (ecv e he).2) (lay := la) (fun a ha => by rw [hF 106 (by decide)]; exact l2 a ha) (su := su) (c := lc) (by rw [hF 94 (by decide)]; exact hsu) hsu2 (by rw [hF 119 (by decide)]; exact hlc) hlc2 h2 (fun r1 r2 => h3 r1 (by rw [← hF 117 (by decide)]; exact r2)) (fun px py hpx hpy ex ey hw hno h0 => h4 px py hpx hpy ex ey hw (by rw [← hF 117 (by decide)]; exact hno) h0) (fun px py hpx hpy ex ey hw hno a pl ha hla her hme hok => h5 px py hpx hpy ex ey hw (by rw [← hF 117 (by decide)]; exact hno) a pl ha hla her hme ?_) (fun px py hpx hpy ex ey hw hno a pl ha hla her hme hok => h6 px py hpx hpy ex ey hw (by rw [← hF 117 (by decide)]; exact hno) a pl ha hla her hme ?_)
  · unfold okM
    rw [← hF 95 (by decide), ← hF 114 (by decide), ← hF 115 (by decide), ← hF 94 (by decide)]
    exact hok
  · unfold okM
    rw [← hF 95 (by decide), ← hF 114 (by decide), ← hF 115 (by decide), ← hF 94 (by decide)]
    exact hok
theorem pr_confirm {c n : Nat} {t : eT} {I : eI} {R : eR} {L : Nat} {xs : Nat → Int32} (h : Inv c n t I R L xs) (hc : c ≤ 511) {p w : Int32} : MC yX7_confirm cX7_confirm 5 (some .int) 999 0 0 [.ref 4, .int p, .int w] n t I R (qI (fun r n1 t1 I1 R1 => MID t1 I1 L xs ∧ MC yX8_confirm cX8_confirm 4 (some .int) 999 0 0 [.ref 94, .int p, .int w] n1 t1 I1 R1 (qI (fun r2 n2 t2 I2 R2 => r2 = r ∧ Inv (c + 1) n2 t2 I2 R2 L xs)))) := by
  obtain ⟨m, k, hv⟩ := h
  obtain ⟨hm4, hk4, hst, hfz, hg, hp, a1, a2, a3, a4, a5, hl, hs⟩ := id hv
  rcases per_or m p with ⟨j, hj, rfl⟩ | hno
  · obtain ⟨lc, l1, l2, l3, l4, l5⟩ := a3 j (by omega)
    obtain ⟨b1, b2, b3, b4, ⟨e9, he9, b5⟩, b6⟩ := a2 j (by omega)
    refine c_confirm 996 hst hg.1 hm4 hj l2 l1 (b4.trans b5) he9 (fun h2A => ?_) (fun h2A h3A => ?_) (fun h2A h3A h4A => ?_)
    · refine ⟨hv.mid, c_confirmM 996 hst hg.2.1 hm4 hj l3 l1 b5 he9 (fun h2B => ?_) (fun h2B h3B => ?_) (fun h2B h3B h4B => ?_)⟩
      · exact ⟨rfl, m, k, hv.up (by omega)⟩
      · exact absurd h2B h2A
      · exact absurd h2B h2A
    · refine ⟨hv.mid, c_confirmM 996 hst hg.2.1 hm4 hj l3 l1 b5 he9 (fun h2B => ?_) (fun h2B h3B => ?_) (fun h2B h3B h4B => ?_)⟩
      · exact absurd h2A h2B
      · exact ⟨rfl, m, k, hv.up (by omega)⟩
      · exact (h3A.elim (fun g => h3B ((neg9 b3).mpr (b2.symm.trans g))) (fun g => h4B (by rw [← b1]; exact g))).elim
    · have ts := tkC_s (I := eU I (54 + 10 * j) 3 w) (j := j) (c := lc) (e := e9)
      have hF : ∀ a, 94 ≤ a → tkC (eU I (54 + 10 * j) 3 w) j lc (e9) a = I a := fun a ha => by rw [ts.2.2.2.2.2.2 a (by omega) (by omega) (by omega), eU_ne (by omega)]
      refine ⟨⟨hv.mid.1, by rw [ts.2.2.2.2.2.2 3 (by omega) (by omega) (by omega), eU_ne (by omega)]; exact hv.mid.2.1, hv.mid.2.2⟩, c_confirmM 996 hst (by rw [hF 94 (by decide)]; exact hg.2.1) hm4 hj (by rw [hF 119 (by decide)]; exact l3) l1 (by rw [hF 116 (by decide)]; exact b5) he9 (fun h2B => ?_) (fun h2B h3B => ?_) (fun h2B h3B h4B => ?_)⟩
      · exact absurd h2A h2B
      · rw [hF 114 (by decide), hF 117 (by decide)] at h3B
        exact (h3B.elim (fun g => h3A (b2.trans ((neg9 b3).mp g))) (fun g => h4A (by rw [b1]; exact g))).elim
      · exact ⟨by rw [hF 114 (by decide)]; exact b2.symm, m, k, hv.take (by omega) l3 l1 he9 ts tkM_s⟩
  · exact c_confirmNo 997 hst hg.1 hm4 hno ⟨hv.mid, c_confirmNoM 997 hst hg.2.1 hm4 hno ⟨rfl, m, k, hv.up (by omega)⟩⟩

theorem pr_press {c n : Nat} {t : eT} {I : eI} {R : eR} {L : Nat} {xs : Nat → Int32} (h : Inv c n t I R L xs) (hc : c ≤ 511) {p x y w : Int32} : MC yX7_press cX7_press 6 (some .int) 999 0 0 [.ref 4, .int p, .int x, .int y, .int w] n t I R (qI (fun r n1 t1 I1 R1 => MID t1 I1 L xs ∧ MC yX8_press cX8_press 14 (some .int) 999 0 0 [.ref 94, .int p, .int x, .int y, .int w] n1 t1 I1 R1 (qI (fun r2 n2 t2 I2 R2 => r2 = r ∧ Inv (c + 1) n2 t2 I2 R2 L xs)))) := by
  obtain ⟨m, k, hv⟩ := h
  obtain ⟨hm4, hk4, hst, hfz, hg, hp, a1, a2, a3, a4, a5, hl, hs⟩ := id hv
  rcases per_or m p with ⟨j, hj, rfl⟩ | hno
  · obtain ⟨u, v, g1, g2, g3, g4, g5, g6⟩ := hl j (show j < 4 by omega)
    obtain ⟨la, l1, l2, -⟩ := g4
    obtain ⟨su, su1, su2⟩ := hg.2.2.2.1
    obtain ⟨lc, m1, m2, m3, -⟩ := a3 j (show j < 4 by omega)
    refine c_pressA hv hc hj su2 su1 m3 m1 g2 (by omega) l1 (fun h2A => ?_) (fun h2A h3A => ?_) (fun pxA pyA hpxA hpyA exA eyA hwA h3A h0A => ?_) (fun pxA pyA hpxA hpyA exA eyA hwA h3A aA plA haA hlaA herA hmeA hokA => ?_) (fun pxA pyA hpxA hpyA exA eyA hwA h3A aA plA haA hlaA herA hmeA hnoA => ?_)
    · refine ⟨hv.mid, c_pressB hv hc hj su2 su1 m3 m1 (fun _ _ => rfl) l2 (fun h2B => ?_) (fun h2B h3B => ?_) (fun pxB pyB hpxB hpyB exB eyB hwB h3B h0B => ?_) (fun pxB pyB hpxB hpyB exB eyB hwB h3B aB plB haB hlaB herB hmeB hokB => ?_) (fun pxB pyB hpxB hpyB exB eyB hwB h3B aB plB haB hlaB herB hmeB hnoB => ?_)⟩
      · exact ⟨rfl, m, k, hv.up (by omega)⟩
      · exact absurd h2B h2A
      · exact absurd ⟨by rw [exB, nI_toInt (by omega)]; omega, by rw [eyB, nI_toInt (by omega)]; omega, hwB⟩ h2A
      · exact absurd ⟨by rw [exB, nI_toInt (by omega)]; omega, by rw [eyB, nI_toInt (by omega)]; omega, hwB⟩ h2A
      · exact absurd ⟨by rw [exB, nI_toInt (by omega)]; omega, by rw [eyB, nI_toInt (by omega)]; omega, hwB⟩ h2A
    · refine ⟨hv.mid, c_pressB hv hc hj su2 su1 m3 m1 (fun _ _ => rfl) l2 (fun h2B => ?_) (fun h2B h3B => ?_) (fun pxB pyB hpxB hpyB exB eyB hwB h3B h0B => ?_) (fun pxB pyB hpxB hpyB exB eyB hwB h3B aB plB haB hlaB herB hmeB hokB => ?_) (fun pxB pyB hpxB hpyB exB eyB hwB h3B aB plB haB hlaB herB hmeB hnoB => ?_)⟩
      · exact absurd h2A h2B
      · exact ⟨rfl, m, k, hv.up (by omega)⟩
      · exact absurd h3A h3B
      · exact absurd h3A h3B
      · exact absurd h3A h3B
    · refine ⟨⟨hv.mid.1, by (repeat (first | rw [eU_ne (by omega)] | rw [eU_c (by omega)])); exact hv.mid.2.1, hv.mid.2.2⟩, c_pressB hv hc hj su2 su1 m3 m1 (fun a9 h9 => by (repeat (first | rw [eU_ne (by omega)] | rw [eU_c (by omega)]))) l2 (fun h2B => ?_) (fun h2B h3B => ?_) (fun pxB pyB hpxB hpyB exB eyB hwB h3B h0B => ?_) (fun pxB pyB hpxB hpyB exB eyB hwB h3B aB plB haB hlaB herB hmeB hokB => ?_) (fun pxB pyB hpxB hpyB exB eyB hwB h3B aB plB haB hlaB herB hmeB hnoB => ?_)⟩
      · exact absurd ⟨by rw [exA, nI_toInt (by omega)]; omega, by rw [eyA, nI_toInt (by omega)]; omega, hwA⟩ h2B
      · exact absurd h3B h3A
      · obtain rfl := nI_j (m := 40) hpxA hpxB (by omega) exA exB
        obtain rfl := nI_j (m := 30) hpyA hpyB (by omega) eyA eyB
        exact ⟨rfl, m, k, hv.pj (by omega) (show j < 4 by omega) (fun a9 h9 => by (repeat (first | rw [eU_ne (by omega)] | rw [eU_c (by omega)]))) (fun a9 p9 h6 h7 h8 h9 => by (repeat (first | rw [eU_ne (by omega)] | rw [eU_c (by omega)]))) (fun y9 h9 => by (repeat (first | rw [eU_ne (by omega)] | rw [eU_c (by omega)]))) (fun y9 h9 => by (repeat (first | rw [eU_ne (by omega)] | rw [eU_c (by omega)]))) (by (repeat (first | rw [eU_ne (by omega)] | rw [eU_c (by omega)]))) (by unfold IA2; (repeat (first | rw [eU_ne (by omega)] | rw [eU_at] | rw [eU_c (by omega)])); exact ⟨rfl, (a2 j (by omega)).2⟩) ((a3 j (by omega)).fr (by omega) (by (repeat (first | rw [eU_ne (by omega)] | rw [eU_c (by omega)]))) (by (repeat (first | rw [eU_ne (by omega)] | rw [eU_c (by omega)]))) (by (repeat (first | rw [eU_ne (by omega)] | rw [eU_c (by omega)]))) (fun e9 _ => by (repeat (first | rw [eU_ne (by omega)] | rw [eU_c (by omega)]))) (by (repeat (first | rw [eU_ne (by omega)] | rw [eU_c (by omega)]))) (fun i9 _ => by (repeat (first | rw [eU_ne (by omega)] | rw [eU_c (by omega)]))))⟩
      · exfalso
        obtain rfl := nI_j (m := 40) hpxA hpxB (by omega) exA exB
        obtain rfl := nI_j (m := 30) hpyA hpyB (by omega) eyA eyB
        exact wt_pos hlaB herB (h0A _ haB)
      · exfalso
        obtain rfl := nI_j (m := 40) hpxA hpxB (by omega) exA exB
        obtain rfl := nI_j (m := 30) hpyA hpyB (by omega) eyA eyB
        exact wt_pos hlaB herB (h0A _ haB)
    · have ts := tkC_s (I := eU I (54 + 10 * j) 3 w) (j := j) (c := lc) (e := errN plA pxA pyA)
      have hF : ∀ a, 94 ≤ a → tkC (eU I (54 + 10 * j) 3 w) j lc (errN plA pxA pyA) a = I a := fun a ha => by rw [ts.2.2.2.2.2.2 a (by omega) (by omega) (by omega), eU_ne (by omega)]
      refine ⟨⟨hv.mid.1, by rw [ts.2.2.2.2.2.2 3 (by omega) (by omega) (by omega), eU_ne (by omega)]; exact hv.mid.2.1, hv.mid.2.2⟩, c_pressB hv hc hj su2 su1 m3 m1 hF l2 (fun h2B => ?_) (fun h2B h3B => ?_) (fun pxB pyB hpxB hpyB exB eyB hwB h3B h0B => ?_) (fun pxB pyB hpxB hpyB exB eyB hwB h3B aB plB haB hlaB herB hmeB hokB => ?_) (fun pxB pyB hpxB hpyB exB eyB hwB h3B aB plB haB hlaB herB hmeB hnoB => ?_)⟩
      · exact absurd ⟨by rw [exA, nI_toInt (by omega)]; omega, by rw [eyA, nI_toInt (by omega)]; omega, hwA⟩ h2B
      · exact absurd h3B h3A
      · exfalso
        obtain rfl := nI_j (m := 40) hpxA hpxB (by omega) exA exB
        obtain rfl := nI_j (m := 30) hpyA hpyB (by omega) eyA eyB
        exact wt_pos hlaA herA (h0B _ haA)
      · obtain rfl := nI_j (m := 40) hpxA hpxB (by omega) exA exB
        obtain rfl := nI_j (m := 30) hpyA hpyB (by omega) eyA eyB
        obtain rfl := nI_j (m := k) haA haB (by omega) hmeA hmeB
        obtain rfl : plA = plB := Option.some.inj (hlaA.symm.trans hlaB)
        exact ⟨rfl, m, k, hv.take (by omega) m3 m1 herA ts tkM_s⟩
      · exfalso
        obtain rfl := nI_j (m := 40) hpxA hpxB (by omega) exA exB
        obtain rfl := nI_j (m := 30) hpyA hpyB (by omega) eyA eyB
        obtain rfl := nI_j (m := k) haA haB (by omega) hmeA hmeB
        obtain rfl : plA = plB := Option.some.inj (hlaA.symm.trans hlaB)
        exact hnoB hokA
    · refine ⟨⟨hv.mid.1, by (repeat (first | rw [eU_ne (by omega)] | rw [eU_c (by omega)])); exact hv.mid.2.1, hv.mid.2.2⟩, c_pressB hv hc hj su2 su1 m3 m1 (fun a9 h9 => by (repeat (first | rw [eU_ne (by omega)] | rw [eU_c (by omega)]))) l2 (fun h2B => ?_) (fun h2B h3B => ?_) (fun pxB pyB hpxB hpyB exB eyB hwB h3B h0B => ?_) (fun pxB pyB hpxB hpyB exB eyB hwB h3B aB plB haB hlaB herB hmeB hokB => ?_) (fun pxB pyB hpxB hpyB exB eyB hwB h3B aB plB haB hlaB herB hmeB hnoB => ?_)⟩
      · exact absurd ⟨by rw [exA, nI_toInt (by omega)]; omega, by rw [eyA, nI_toInt (by omega)]; omega, hwA⟩ h2B
      · exact absurd h3B h3A
      · exfalso
        obtain rfl := nI_j (m := 40) hpxA hpxB (by omega) exA exB
        obtain rfl := nI_j (m := 30) hpyA hpyB (by omega) eyA eyB
        exact wt_pos hlaA herA (h0B _ haA)
      · exfalso
        obtain rfl := nI_j (m := 40) hpxA hpxB (by omega) exA exB
        obtain rfl := nI_j (m := 30) hpyA hpyB (by omega) eyA eyB
        obtain rfl := nI_j (m := k) haA haB (by omega) hmeA hmeB
        obtain rfl : plA = plB := Option.some.inj (hlaA.symm.trans hlaB)
        exact hnoA hokB
      · obtain rfl := nI_j (m := 40) hpxA hpxB (by omega) exA exB
        obtain rfl := nI_j (m := 30) hpyA hpyB (by omega) eyA eyB
        obtain rfl := nI_j (m := k) haA haB (by omega) hmeA hmeB
        obtain rfl : plA = plB := Option.some.inj (hlaA.symm.trans hlaB)
        exact ⟨rfl, m, k, hv.pj (by omega) (show j < 4 by omega) (fun a9 h9 => by (repeat (first | rw [eU_ne (by omega)] | rw [eU_c (by omega)]))) (fun a9 p9 h6 h7 h8 h9 => by (repeat (first | rw [eU_ne (by omega)] | rw [eU_c (by omega)]))) (fun y9 h9 => by (repeat (first | rw [eU_ne (by omega)] | rw [eU_c (by omega)]))) (fun y9 h9 => by (repeat (first | rw [eU_ne (by omega)] | rw [eU_c (by omega)]))) (by (repeat (first | rw [eU_ne (by omega)] | rw [eU_c (by omega)]))) (by unfold IA2; (repeat (first | rw [eU_ne (by omega)] | rw [eU_at] | rw [eU_c (by omega)])); exact ⟨rfl, rfl, Or.inr ⟨aA, by omega, rfl⟩, rfl, ⟨_, herA, rfl⟩, rfl⟩) ((a3 j (by omega)).fr (by omega) (by (repeat (first | rw [eU_ne (by omega)] | rw [eU_c (by omega)]))) (by (repeat (first | rw [eU_ne (by omega)] | rw [eU_c (by omega)]))) (by (repeat (first | rw [eU_ne (by omega)] | rw [eU_c (by omega)]))) (fun e9 _ => by (repeat (first | rw [eU_ne (by omega)] | rw [eU_c (by omega)]))) (by (repeat (first | rw [eU_ne (by omega)] | rw [eU_c (by omega)]))) (fun i9 _ => by (repeat (first | rw [eU_ne (by omega)] | rw [eU_c (by omega)]))))⟩
  · exact c_pressNo 997 hst hg.1 hm4 hno ⟨hv.mid, c_pressNoM 997 hst hg.2.1 hm4 hno ⟨rfl, m, k, hv.up (by omega)⟩⟩

