section ARN
variable {y : MethodName} {cc : ByteArray} {nL : Nat} {ret : Option FieldType} {d K N : Nat} {Q : eQt} {kc ks pc : Nat} {L S : List Value} {n : Nat} {t : eT} {I : eI} {R : eR} {a j len : Nat} {i : Int32}
theorem wp_ild (hd : decode cc pc = .ok (.iaload, 1)) (ht : t a = (9, len)) (hj : i = nI j) (hlt : j < len) (k : wp y cc nL ret d K N Q kc ks (pc + 1) L (.int (I a j) :: S) n t I R) (hb : len < 2 ^ 31 := by first | decide | omega) : wp y cc nL ret d K N Q kc ks pc L (.int i :: .ref a :: S) n t I R := by
  subst hj
  have hc : (nI j).toNatClampNeg = j := nI_clamp (by omega)
  exact wp_iald hd (by rw [ht]) (by rw [ht]; exact vp_in_nI hlt hb) (by rw [hc]; exact k)
theorem wp_zld (hd : decode cc pc = .ok (.baload, 1)) (ht : t a = (10, len)) (hj : i = nI j) (hlt : j < len) (k : wp y cc nL ret d K N Q kc ks (pc + 1) L (.int (I a j) :: S) n t I R) (hb : len < 2 ^ 31 := by first | decide | omega) : wp y cc nL ret d K N Q kc ks pc L (.int i :: .ref a :: S) n t I R := by
  subst hj
  have hc : (nI j).toNatClampNeg = j := nI_clamp (by omega)
  exact wp_zald hd (by rw [ht]) (by rw [ht]; exact vp_in_nI hlt hb) (by rw [hc]; exact k)
theorem wp_fld (hd : decode cc pc = .ok (.iaload, 1)) (ha : a < 4) (ht : t a = (14, len)) (hj : i = nI j) (hlt : j < len) (k : wp y cc nL ret d K N Q kc ks (pc + 1) L (.int (I a j) :: S) n t I R) (hb : len < 2 ^ 31 := by first | decide | omega) : wp y cc nL ret d K N Q kc ks pc L (.int i :: .ref a :: S) n t I R := by
  subst hj
  have hc : (nI j).toNatClampNeg = j := nI_clamp (by omega)
  exact wp_fald hd ha (by rw [ht]; exact vp_in_nI hlt hb) (by rw [hc]; exact k)
theorem wp_ist {x : Int32} (hd : decode cc pc = .ok (.iastore, 1)) (ht : t a = (9, len)) (hj : i = nI j) (hlt : j < len) (k : wp y cc nL ret d K N Q kc ks (pc + 1) L (S) n t (eU I a j x) R) (hb : len < 2 ^ 31 := by first | decide | omega) : wp y cc nL ret d K N Q kc ks pc L (.int x :: .int i :: .ref a :: S) n t I R := by
  subst hj
  have hc : (nI j).toNatClampNeg = j := nI_clamp (by omega)
  exact wp_iast hd (by rw [ht]) (by rw [ht]; exact vp_in_nI hlt hb) (by rw [hc]; exact k)
theorem wp_zst {x : Int32} (hd : decode cc pc = .ok (.bastore, 1)) (ht : t a = (10, len)) (hj : i = nI j) (hlt : j < len) (hx : narrow .boolean (.int x) = .int x) (k : wp y cc nL ret d K N Q kc ks (pc + 1) L (S) n t (eU I a j x) R) (hb : len < 2 ^ 31 := by first | decide | omega) : wp y cc nL ret d K N Q kc ks pc L (.int x :: .int i :: .ref a :: S) n t I R := by
  subst hj
  have hc : (nI j).toNatClampNeg = j := nI_clamp (by omega)
  exact wp_zast hd (by rw [ht]) (by rw [ht]; exact vp_in_nI hlt hb) hx (by rw [hc]; exact k)
theorem wp_rld11 {a2 : Nat} (hd : decode cc pc = .ok (.aaload, 1)) (ht : t a = (11, len)) (hj : i = nI j) (hlt : j < len) (hr : R a j = some a2) (k : wp y cc nL ret d K N Q kc ks (pc + 1) L (.ref a2 :: S) n t I R) (hb : len < 2 ^ 31 := by first | decide | omega) : wp y cc nL ret d K N Q kc ks pc L (.int i :: .ref a :: S) n t I R := by
  subst hj
  have hc : (nI j).toNatClampNeg = j := nI_clamp (by omega)
  exact wp_aald11 hd (by rw [ht]) (by rw [ht]; exact vp_in_nI hlt hb) (by rw [hc]; exact hr) k
theorem wp_rld12 {a2 : Nat} (hd : decode cc pc = .ok (.aaload, 1)) (ht : t a = (12, len)) (hj : i = nI j) (hlt : j < len) (hr : R a j = some a2) (k : wp y cc nL ret d K N Q kc ks (pc + 1) L (.ref a2 :: S) n t I R) (hb : len < 2 ^ 31 := by first | decide | omega) : wp y cc nL ret d K N Q kc ks pc L (.int i :: .ref a :: S) n t I R := by
  subst hj
  have hc : (nI j).toNatClampNeg = j := nI_clamp (by omega)
  exact wp_aald12 hd (by rw [ht]) (by rw [ht]; exact vp_in_nI hlt hb) (by rw [hc]; exact hr) k
theorem wp_rld13 {a2 : Nat} (hd : decode cc pc = .ok (.aaload, 1)) (ht : t a = (13, len)) (hj : i = nI j) (hlt : j < len) (hr : R a j = some a2) (k : wp y cc nL ret d K N Q kc ks (pc + 1) L (.ref a2 :: S) n t I R) (hb : len < 2 ^ 31 := by first | decide | omega) : wp y cc nL ret d K N Q kc ks pc L (.int i :: .ref a :: S) n t I R := by
  subst hj
  have hc : (nI j).toNatClampNeg = j := nI_clamp (by omega)
  exact wp_aald13 hd (by rw [ht]) (by rw [ht]; exact vp_in_nI hlt hb) (by rw [hc]; exact hr) k
theorem wp_rld12N (hd : decode cc pc = .ok (.aaload, 1)) (ht : t a = (12, len)) (hj : i = nI j) (hlt : j < len) (hr : R a j = none) (k : wp y cc nL ret d K N Q kc ks (pc + 1) L (.null :: S) n t I R) (hb : len < 2 ^ 31 := by first | decide | omega) : wp y cc nL ret d K N Q kc ks pc L (.int i :: .ref a :: S) n t I R := by
  subst hj
  have hc : (nI j).toNatClampNeg = j := nI_clamp (by omega)
  exact wp_aald12N hd (by rw [ht]) (by rw [ht]; exact vp_in_nI hlt hb) (by rw [hc]; exact hr) k
theorem wp_rst11 {a2 : Nat} (hd : decode cc pc = .ok (.aastore, 1)) (ht : t a = (11, len)) (hj : i = nI j) (hlt : j < len) (h2 : (t a2).1 = 3) (k : wp y cc nL ret d K N Q kc ks (pc + 1) L (S) n t I (eU R a j (some a2))) (hb : len < 2 ^ 31 := by first | decide | omega) : wp y cc nL ret d K N Q kc ks pc L (.ref a2 :: .int i :: .ref a :: S) n t I R := by
  subst hj
  have hc : (nI j).toNatClampNeg = j := nI_clamp (by omega)
  exact wp_aast11 hd (by rw [ht]) (by rw [ht]; exact vp_in_nI hlt hb) h2 (by rw [hc]; exact k)
theorem wp_rst12 {a2 : Nat} (hd : decode cc pc = .ok (.aastore, 1)) (ht : t a = (12, len)) (hj : i = nI j) (hlt : j < len) (h2 : (t a2).1 = 6) (k : wp y cc nL ret d K N Q kc ks (pc + 1) L (S) n t I (eU R a j (some a2))) (hb : len < 2 ^ 31 := by first | decide | omega) : wp y cc nL ret d K N Q kc ks pc L (.ref a2 :: .int i :: .ref a :: S) n t I R := by
  subst hj
  have hc : (nI j).toNatClampNeg = j := nI_clamp (by omega)
  exact wp_aast12 hd (by rw [ht]) (by rw [ht]; exact vp_in_nI hlt hb) h2 (by rw [hc]; exact k)
theorem wp_rst12N (hd : decode cc pc = .ok (.aastore, 1)) (ht : t a = (12, len)) (hj : i = nI j) (hlt : j < len) (k : wp y cc nL ret d K N Q kc ks (pc + 1) L (S) n t I (eU R a j none)) (hb : len < 2 ^ 31 := by first | decide | omega) : wp y cc nL ret d K N Q kc ks pc L (.null :: .int i :: .ref a :: S) n t I R := by
  subst hj
  have hc : (nI j).toNatClampNeg = j := nI_clamp (by omega)
  exact wp_aast12N hd (by rw [ht]) (by rw [ht]; exact vp_in_nI hlt hb) (by rw [hc]; exact k)
theorem wp_len (hd : decode cc pc = .ok (.arraylength, 1)) (ht : t a = (9, len)) (k : wp y cc nL ret d K N Q kc ks (pc + 1) L (.int (nI len) :: S) n t I R) : wp y cc nL ret d K N Q kc ks pc L (.ref a :: S) n t I R := wp_alen hd (by rw [ht]) (by rw [ht]; exact k)
theorem wp_topI {v v2 : Int32} (h : v = v2) (k : wp y cc nL ret d K N Q kc ks pc L (.int v2 :: S) n t I R) : wp y cc nL ret d K N Q kc ks pc L (.int v :: S) n t I R := by rw [h]; exact k
theorem wp_topL {v v2 : Int64} (h : v = v2) (k : wp y cc nL ret d K N Q kc ks pc L (.long v2 :: S) n t I R) : wp y cc nL ret d K N Q kc ks pc L (.long v :: S) n t I R := by rw [h]; exact k
end ARN
/-! numbers -/
theorem n_range {x : Int32} {m : Nat} (hm : m < 2 ^ 31) : (0 ≤ x ∧ x ≤ nI m - 1) ↔ ∃ j, j < m ∧ x = nI j := by
  constructor
  · intro ⟨h1, h2⟩
    have h1 := Int32.le_iff_toInt_le.mp h1
    have h2 := Int32.le_iff_toInt_le.mp h2
    have e : (nI m - 1).toInt = (m : Int) - 1 := by
      rcases Nat.eq_zero_or_pos m with h0 | h0
      · subst h0; decide
      · have : nI m - 1 = nI (m - 1) := by
          have := nI_pred (m - 1)
          rw [show m - 1 + 1 = m by omega] at this
          exact this
        rw [this, nI_toInt (by omega)]
        omega
    rw [e] at h2
    have e0 : (0 : Int32).toInt = 0 := rfl
    rw [e0] at h1
    refine ⟨x.toInt.toNat, by omega, ?_⟩
    apply Int32.toInt_inj.mp
    rw [nI_toInt (by omega)]
    omega
  · rintro ⟨j, hj, rfl⟩
    have e : nI m - 1 = nI (m - 1) := by
      have := nI_pred (m - 1)
      rw [show m - 1 + 1 = m by omega] at this
      exact this
    rw [e]
    exact ⟨nI_pos' (by omega), nI_le (by omega) (by omega)⟩
theorem n_rangeC {x M : Int32} {m : Nat} (hM : M = nI m) (hm : m < 2 ^ 31) : (0 ≤ x ∧ x ≤ M) ↔ ∃ j, j ≤ m ∧ x = nI j := by
  subst hM
  constructor
  · intro ⟨h1, h2⟩
    have h1 := Int32.le_iff_toInt_le.mp h1
    have h2 := Int32.le_iff_toInt_le.mp h2
    rw [nI_toInt hm] at h2
    have e0 : (0 : Int32).toInt = 0 := rfl
    rw [e0] at h1
    refine ⟨x.toInt.toNat, by omega, ?_⟩
    apply Int32.toInt_inj.mp
    rw [nI_toInt (by omega)]
    omega
  · rintro ⟨j, hj, rfl⟩
    exact ⟨nI_pos' (by omega), nI_le hj hm⟩

