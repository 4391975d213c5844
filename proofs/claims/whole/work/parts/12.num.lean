theorem nar_0 : narrow .boolean (.int 0) = .int 0 := rfl
theorem nar_1 : narrow .boolean (.int 1) = .int 1 := rfl
/-- a range of longs, asked of an int -/
theorem l_range {x : Int32} {lo hi : Int64} {a b : Int} (hl : lo.toInt = a) (hh : hi.toInt = b) : (lo ≤ x.toInt64 ∧ x.toInt64 ≤ hi) ↔ (a ≤ x.toInt ∧ x.toInt ≤ b) := by
  rw [Int64.le_iff_toInt_le, Int64.le_iff_toInt_le, hl, hh, Int32.toInt_toInt64]
theorem i_range {x lo hi : Int32} {a b : Int} (hl : lo.toInt = a) (hh : hi.toInt = b) : (lo ≤ x ∧ x ≤ hi) ↔ (a ≤ x.toInt ∧ x.toInt ≤ b) := by
  rw [Int32.le_iff_toInt_le, Int32.le_iff_toInt_le, hl, hh]
theorem nat_of {x : Int32} {m : Nat} (h0 : 0 ≤ x.toInt) (h1 : x.toInt < m) (hm : m ≤ 2 ^ 31) : ∃ j, j < m ∧ x = nI j := by
  refine ⟨x.toInt.toNat, by omega, ?_⟩
  apply Int32.toInt_inj.mp
  rw [nI_toInt (by omega)]
  omega
theorem nat_iff {x : Int32} {m : Nat} (hm : m ≤ 2 ^ 31) : (0 ≤ x.toInt ∧ x.toInt ≤ (m : Int) - 1) ↔ ∃ j, j < m ∧ x = nI j := by
  constructor
  · intro h
    exact nat_of h.1 (by omega) hm
  · rintro ⟨j, hj, rfl⟩
    rw [nI_toInt (by omega)]
    omega
theorem nI_subT {m : Nat} (hm : m < 2 ^ 31) : (nI m - 1).toInt = (m : Int) - 1 := by
  rcases Nat.eq_zero_or_pos m with h0 | h0
  · subst h0; decide
  · have : nI m - 1 = nI (m - 1) := by
      have := nI_pred (m - 1)
      rw [show m - 1 + 1 = m by omega] at this
      exact this
    rw [this, nI_toInt (by omega)]
    omega
theorem nI_subL {m : Nat} (hm : m < 2 ^ 31) : ((nI m).toInt64 - 1).toInt = (m : Int) - 1 := by
  rcases Nat.eq_zero_or_pos m with h0 | h0
  · subst h0; decide
  · have e : (nI m).toInt64 - 1 = lN (m - 1) := by
      rw [nI_l hm, ← lN_sub (show 1 ≤ m by omega)]
      rfl
    rw [e, lN_toInt (by omega)]
    omega
theorem nat_no {x : Int32} {m : Nat} (hm : m ≤ 2 ^ 31) (h : ¬ (0 ≤ x.toInt ∧ x.toInt ≤ (m : Int) - 1)) : ∀ j, j < m → x ≠ nI j := fun j hj e => h ((nat_iff hm).mpr ⟨j, hj, e⟩)
theorem nat_yes {x : Int32} {m : Nat} (hm : m ≤ 2 ^ 31) (h0 : 0 ≤ x.toInt) (h1 : x.toInt ≤ (m : Int) - 1) : ∃ j, j < m ∧ x = nI j := (nat_iff hm).mp ⟨h0, h1⟩
theorem i_lt {x y : Int32} : x < y ↔ x.toInt < y.toInt := Int32.lt_iff_toInt_lt
theorem i_le {x y : Int32} : x ≤ y ↔ x.toInt ≤ y.toInt := Int32.le_iff_toInt_le
theorem l_lt {x y : Int64} : x < y ↔ x.toInt < y.toInt := Int64.lt_iff_toInt_lt
theorem l_le {x y : Int64} : x ≤ y ↔ x.toInt ≤ y.toInt := Int64.le_iff_toInt_le
theorem i0 : (0 : Int32).toInt = 0 := rfl
theorem im1 : (-1 : Int32).toInt = -1 := by decide
