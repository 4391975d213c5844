/-! the text: what a reader has read -/
abbrev St : Type := Nat × Nat × (Nat → Nat) × (Nat → Nat) × (Nat → Nat → Nat)
def kM (c : Int32) : Int32 := if c = 112 then 0 else if c = 100 then 1 else if c = 120 then 2 else -1
def kN (c : Int32) : Nat := if c = 112 then 0 else if c = 100 then 1 else 2
def dM (c : Int32) : Int32 := if 48 ≤ c.toInt ∧ c.toInt ≤ 57 then 1 else 0
def dg (c : Int32) : Nat := (c.toInt - 48).toNat
def step (s : St) (c : Int32) : Option St := match s with
  | (w, m, K, V, F) =>
    if w = 0 ∧ ¬ kM c < 0 then some (1, m, eG K m (kN c), eG V m 0, F)
    else if (0 < w ∧ w < 4) ∧ (48 ≤ c.toInt ∧ c.toInt ≤ 57) then some (w + 1, m, K, eG V m (10 * V m + dg c), F)
    else if (1 < w ∧ w < 5) ∧ c = 62 then some (5, m, K, V, F)
    else if w = 5 ∧ (48 ≤ c.toInt ∧ c.toInt ≤ 57) ∧ dg c < m then some (4, m, K, V, eU F m (dg c) (F m (dg c) + 1))
    else if (1 < w ∧ w < 5) ∧ c = 59 ∧ m < 9 then some (0, m + 1, K, V, F)
    else none
def aft (cds : Nat → Int32) : Nat → Option St
  | 0 => some (0, 0, fun _ => 0, fun _ => 0, fun _ _ => 0)
  | x + 1 => match aft cds x with
    | none => none
    | some s => step s (cds x)
theorem aft_s {cds : Nat → Int32} {x : Nat} {s : St} (h : aft cds x = some s) : aft cds (x + 1) = step s (cds x) := by
  show (match aft cds x with | none => none | some s => step s (cds x)) = _
  rw [h]
section STP
variable {w m : Nat} {K V : Nat → Nat} {F : Nat → Nat → Nat} {c : Int32}
theorem st_letter (h : ¬ kM c < 0) : step (0, m, K, V, F) c = some (1, m, eG K m (kN c), eG V m 0, F) := if_pos ⟨rfl, h⟩
theorem st_digit (h1 : 0 < w) (h2 : w < 4) (hd : 48 ≤ c.toInt ∧ c.toInt ≤ 57) : step (w, m, K, V, F) c = some (w + 1, m, K, eG V m (10 * V m + dg c), F) := by
  unfold step
  simp only
  rw [if_neg (fun g => by omega), if_pos ⟨⟨h1, h2⟩, hd⟩]
theorem c62 : (62 : Int32).toInt = 62 := by decide
theorem c59 : (59 : Int32).toInt = 59 := by decide
theorem st_gt (h1 : 1 < w) (h2 : w < 5) (hc : c = 62) : step (w, m, K, V, F) c = some (5, m, K, V, F) := by
  unfold step
  simp only
  rw [if_neg (fun g => by omega), if_neg (fun g => by rw [hc, c62] at g; omega), if_pos ⟨⟨h1, h2⟩, hc⟩]
theorem st_ahead (hw : w = 5) (hd : 48 ≤ c.toInt ∧ c.toInt ≤ 57) (h : dg c < m) : step (w, m, K, V, F) c = some (4, m, K, V, eU F m (dg c) (F m (dg c) + 1)) := by
  unfold step
  simp only
  rw [if_neg (fun g => by omega), if_neg (fun g => by omega), if_neg (fun g => by omega), if_pos ⟨hw, hd, h⟩]
theorem st_semi (h1 : 1 < w) (h2 : w < 5) (hc : c = 59) (hm : m < 9) : step (w, m, K, V, F) c = some (0, m + 1, K, V, F) := by
  unfold step
  simp only
  rw [if_neg (fun g => by omega), if_neg (fun g => by rw [hc, c59] at g; omega), if_neg (fun g => absurd g.2 (by rw [hc]; decide)), if_neg (fun g => by omega), if_pos ⟨⟨h1, h2⟩, hc, hm⟩]
theorem st_none (h1 : ¬ (w = 0 ∧ ¬ kM c < 0)) (h2 : ¬ ((0 < w ∧ w < 4) ∧ (48 ≤ c.toInt ∧ c.toInt ≤ 57))) (h3 : ¬ ((1 < w ∧ w < 5) ∧ c = 62)) (h4 : ¬ (w = 5 ∧ (48 ≤ c.toInt ∧ c.toInt ≤ 57) ∧ dg c < m)) (h5 : ¬ ((1 < w ∧ w < 5) ∧ c = 59 ∧ m < 9)) : step (w, m, K, V, F) c = none := by
  unfold step
  simp only
  rw [if_neg h1, if_neg h2, if_neg h3, if_neg h4, if_neg h5]
end STP
theorem dg_of {c : Int32} (hd : 48 ≤ c.toInt ∧ c.toInt ≤ 57) : c = nI (48 + dg c) ∧ dg c ≤ 9 := by
  unfold dg
  refine ⟨?_, by omega⟩
  apply Int32.toInt_inj.mp
  rw [nI_toInt (by omega)]
  omega
theorem dig_val {c v : Int32} {q : Nat} (hd : 48 ≤ c.toInt ∧ c.toInt ≤ 57) (hv : v = nI q) : 10 * v + c - 48 = nI (10 * q + dg c) := by
  have h := dg_of hd
  have h9 : nI 10 * nI q + nI (48 + dg c) - nI 48 = nI (10 * q + dg c) := by rw [pk_mul, nI_add, pk_sub (by omega), show 10 * q + (48 + dg c) - 48 = 10 * q + dg c by omega]
  rw [← h.1] at h9
  rw [hv]
  exact h9
theorem kM_k {c : Int32} (h : ¬ kM c < 0) : kM c = nI (kN c) ∧ kN c ≤ 2 := by
  unfold kM kN at *
  by_cases h1 : c = 112
  · rw [if_pos h1, if_pos h1]; exact ⟨rfl, by decide⟩
  · by_cases h2 : c = 100
    · rw [if_neg h1, if_pos h2, if_neg h1, if_pos h2]; exact ⟨rfl, by decide⟩
    · by_cases h3 : c = 120
      · rw [if_neg h1, if_neg h2, if_pos h3, if_neg h1, if_neg h2]; exact ⟨rfl, by decide⟩
      · rw [if_neg h1, if_neg h2, if_neg h3] at h
        exact absurd (by decide) h
/-- the reference's reader -/
def RM (I : eI) (w m : Nat) (K V : Nat → Nat) (F : Nat → Nat → Nat) : Prop := I 94 5 = nI m ∧ m ≤ 9 ∧ w ≤ 5 ∧ (∀ x, (x < m ∨ (x = m ∧ w ≠ 0)) → I 98 x = nI (K x) ∧ I 99 x = nI (V x)) ∧ ∀ a b, a < 10 → b < 10 → I 100 (10 * a + b) = nI (F a b)
def FrM (I I2 : eI) : Prop := (∀ a, a ≠ 94 → a ≠ 98 → a ≠ 99 → a ≠ 100 → I2 a = I a) ∧ ∀ f, f ≠ 5 → I2 94 f = I 94 f
theorem FrM.rf (I : eI) : FrM I I := ⟨fun _ _ _ _ _ => rfl, fun _ _ => rfl⟩
theorem FrM.tr {I I2 I3 : eI} (h : FrM I I2) (h2 : FrM I2 I3) : FrM I I3 := ⟨fun a h3 h4 h5 h6 => (h2.1 a h3 h4 h5 h6).trans (h.1 a h3 h4 h5 h6), fun f hf => (h2.2 f hf).trans (h.2 f hf)⟩
theorem FrM.u {I I2 : eI} (h : FrM I I2) {a k : Nat} {v : Int32} (ha : a = 98 ∨ a = 99 ∨ a = 100 ∨ (a = 94 ∧ k = 5)) : FrM I (eU I2 a k v) := by
  refine ⟨fun x h3 h4 h5 h6 => ?_, fun f hf => ?_⟩
  · rw [eU_ne (by omega)]; exact h.1 x h3 h4 h5 h6
  · by_cases h9 : a = 94
    · subst h9; rw [eU_c (by omega)]; exact h.2 f hf
    · rw [eU_o (by omega)]; exact h.2 f hf
section RMS
variable {I : eI} {w m : Nat} {K V : Nat → Nat} {F : Nat → Nat → Nat} {c : Int32}
theorem RM.letter (h : RM I 0 m K V F) (hk : ¬ kM c < 0) : RM (eU (eU I 98 m (kM c)) 99 m 0) 1 m (eG K m (kN c)) (eG V m 0) F := by
  obtain ⟨h1, h2, h3, h4, h5⟩ := h
  refine ⟨h1, h2, by decide, fun x hx => ?_, h5⟩
  by_cases e : x = m
  · subst e
    rw [eU_o (show (98 : Nat) ≠ 99 by decide), eU_at, eU_at, eG_eq, eG_eq]
    exact ⟨(kM_k hk).1, rfl⟩
  · rw [eU_o (show (98 : Nat) ≠ 99 by decide), eU_c e, eU_c e, eU_o (show (99 : Nat) ≠ 98 by decide), eG_ne e, eG_ne e]
    exact h4 x (Or.inl (by omega))
theorem RM.digit (h : RM I w m K V F) (hw : 0 < w) (hw4 : w < 4) (v : Int32) (hv : v = nI (10 * V m + dg c)) : RM (eU I 99 m v) (w + 1) m K (eG V m (10 * V m + dg c)) F := by
  obtain ⟨h1, h2, h3, h4, h5⟩ := h
  refine ⟨h1, h2, by omega, fun x hx => ?_, h5⟩
  rw [eU_o (show (98 : Nat) ≠ 99 by decide)]
  refine ⟨(h4 x (by omega)).1, ?_⟩
  by_cases e : x = m
  · subst e
    rw [eU_at, eG_eq]
    exact hv
  · rw [eU_c e, eG_ne e]
    exact (h4 x (by omega)).2
theorem RM.to5 (h : RM I w m K V F) (hw : 1 < w) : RM I 5 m K V F := ⟨h.1, h.2.1, by decide, fun x hx => h.2.2.2.1 x (by omega), h.2.2.2.2⟩
theorem RM.ahead (h : RM I 5 m K V F) {e : Nat} (he : e < m) (v : Int32) (hv : v = nI (F m e + 1)) : RM (eU I 100 (10 * m + e) v) 4 m K V (eU F m e (F m e + 1)) := by
  obtain ⟨h1, h2, h3, h4, h5⟩ := h
  refine ⟨h1, h2, by decide, fun x hx => h4 x (by omega), fun a b ha hb => ?_⟩
  by_cases e1 : a = m ∧ b = e
  · obtain ⟨rfl, rfl⟩ := e1
    rw [eU_at, eU_at]
    exact hv
  · rw [eU_c (by omega)]
    have : eU F m e (F m e + 1) a b = F a b := if_neg e1
    rw [this]
    exact h5 a b ha hb
theorem RM.semi (h : RM I w m K V F) (hw : 1 < w) (hm : m < 9) : RM (eU I 94 5 (nI (m + 1))) 0 (m + 1) K V F := by
  obtain ⟨h1, h2, h3, h4, h5⟩ := h
  exact ⟨by rw [eU_at], by omega, by decide, fun x hx => h4 x (by omega), h5⟩
end RMS
theorem sg_dig (d : Nat) {n : Nat} {t : eT} {I : eI} {R : eR} {Q : eQt} {fr nn x : Nat} {w c : Int32} {x6 x7 : Value} (hx6 : sec x6 = false) (hq : wp yX8_read cX8_read 8 (some .int) (d + 1) 0 0 Q 0 0 62 [.ref 94, .int (nI fr), .int (nI nn), .int w, .int (nI x), .int c, .int (dM c), x7] [] n t I R) : wp yX8_read cX8_read 8 (some .int) (d + 1) 0 0 Q 0 0 48 [.ref 94, .int (nI fr), .int (nI nn), .int w, .int (nI x), .int c, x6, x7] [] n t I R := by
  refine wp_iload dX8_read_48 rfl ?_
  refine wp_i2l dX8_read_50 ?_
  refine wp_ldc2 (v := 48) dX8_read_51 mw_910 ?_
  refine wp_ldc2 (v := 57) dX8_read_54 mw_911 ?_
  refine wp_S3i dX8_read_57 mw_887 mw_888 mi_X8_in (Nat.le_of_ble_eq_true rfl) (Nat.le_refl _) (Nat.le_refl _) (c_in _ (a := 48) (b := 57) rfl rfl (fun ga57 gb57 => ?_) (fun gn57 => ?_)) 
  · skip
    refine wp_istore_8_6 dX8_read_60 (by first | rfl | assumption) ?_
    first | (rw [show dM c = 1 from if_pos ⟨ga57, gb57⟩] at hq; exact hq) | (rw [show dM c = 0 from if_neg gn57] at hq; exact hq)
  · skip
    refine wp_istore_8_6 dX8_read_60 (by first | rfl | assumption) ?_
    first | (rw [show dM c = 1 from if_pos ⟨ga57, gb57⟩] at hq; exact hq) | (rw [show dM c = 0 from if_neg gn57] at hq; exact hq)

theorem sg_kind (d : Nat) {n : Nat} {t : eT} {I : eI} {R : eR} {Q : eQt} {fr nn x : Nat} {w c : Int32} {x6 x7 : Value} (hx7 : sec x7 = false) (hq : wp yX8_read cX8_read 8 (some .int) (d + 1) 0 0 Q 0 0 98 [.ref 94, .int (nI fr), .int (nI nn), .int w, .int (nI x), .int c, x6, .int (kM c)] [] n t I R) : wp yX8_read cX8_read 8 (some .int) (d + 1) 0 0 Q 0 0 62 [.ref 94, .int (nI fr), .int (nI nn), .int w, .int (nI x), .int c, x6, x7] [] n t I R := by
  refine wp_iload dX8_read_62 rfl ?_
  refine wp_bipush (v := 112) dX8_read_64 (by decide) ?_
  refine wp_icmp_ne (tgt := 73) dX8_read_66 (by decide) (fun zq66 => ?_) (fun zq66 => ?_) 
  · refine wp_iload dX8_read_73 rfl ?_
    refine wp_bipush (v := 100) dX8_read_75 (by decide) ?_
    refine wp_icmp_ne (tgt := 84) dX8_read_77 (by decide) (fun zq77 => ?_) (fun zq77 => ?_) 
    · refine wp_iload dX8_read_84 rfl ?_
      refine wp_bipush (v := 120) dX8_read_86 (by decide) ?_
      refine wp_icmp_ne (tgt := 95) dX8_read_88 (by decide) (fun zq88 => ?_) (fun zq88 => ?_) 
      · refine wp_iconst (v := (-1)) dX8_read_95 (by decide) ?_
        refine wp_istore_8_7 dX8_read_96 (by first | rfl | assumption) ?_
        rw [show kM c = -1 from (if_neg zq66).trans ((if_neg zq77).trans (if_neg zq88))] at hq
        exact hq
      · refine wp_iconst (v := 2) dX8_read_91 (by decide) ?_
        refine wp_goto (tgt := 96) dX8_read_92 (by decide) ?_
        refine wp_istore_8_7 dX8_read_96 (by first | rfl | assumption) ?_
        rw [show kM c = 2 from (if_neg zq66).trans ((if_neg zq77).trans (if_pos zq88))] at hq
        exact hq
    · refine wp_iconst (v := 1) dX8_read_80 (by decide) ?_
      refine wp_goto (tgt := 96) dX8_read_81 (by decide) ?_
      refine wp_istore_8_7 dX8_read_96 (by first | rfl | assumption) ?_
      rw [show kM c = 1 from (if_neg zq66).trans (if_pos zq77)] at hq
      exact hq
  · refine wp_iconst (v := 0) dX8_read_69 (by decide) ?_
    refine wp_goto (tgt := 96) dX8_read_70 (by decide) ?_
    refine wp_istore_8_7 dX8_read_96 (by first | rfl | assumption) ?_
    rw [show kM c = 0 from if_pos zq66] at hq
    exact hq

theorem sg_r0 (d : Nat) {n : Nat} {t : eT} {I : eI} {R : eR} {Q : Int32 → Nat → eT → eI → eR → Prop} (hst : ST n t R) {fr nn x m : Nat} {K V : Nat → Nat} {F : Nat → Nat → Nat} {c : Int32} (hR : RM I 0 m K V F) (go : ∀ (I1 : eI) (w1 m1 : Nat) (K1 V1 : Nat → Nat) (F1 : Nat → Nat → Nat), step (0, m, K, V, F) c = some (w1, m1, K1, V1, F1) → RM I1 w1 m1 K1 V1 F1 → FrM I I1 → wp yX8_read cX8_read 8 (some .int) (d + 1) 0 0 (qI Q) 0 0 31 [.ref 94, .int (nI fr), .int (nI nn), .int (nI w1), .int (nI (x + 1)), .int c, .int (dM c), .int (kM c)] [] n t I1 R) (hno : step (0, m, K, V, F) c = none → Q (nI x) n t I R) : wp yX8_read cX8_read 8 (some .int) (d + 1) 0 0 (qI Q) 0 0 98 [.ref 94, .int (nI fr), .int (nI nn), .int (nI 0), .int (nI x), .int c, .int (dM c), .int (kM c)] [] n t I R := by
  refine wp_iload_n (i := 3) dX8_read_98 rfl rfl ?_
  refine wp_if_ne0 (tgt := 133) dX8_read_99 (by decide) ?_
  refine wp_iload dX8_read_102 rfl ?_
  refine wp_if_lt (tgt := 133) dX8_read_104 (by decide) (fun zq104 => ?_) (fun zq104 => ?_) 
  · refine wp_iload_n (i := 3) dX8_read_133 rfl rfl ?_
    refine wp_if_le (tgt := 180) dX8_read_134 (by decide) (fun zq134 => ?_) (fun zq134 => absurd zq134 (by decide)) 
    refine wp_iload_n (i := 3) dX8_read_180 rfl rfl ?_
    refine wp_iconst (v := 1) dX8_read_181 (by decide) ?_
    refine wp_icmp_le (tgt := 202) dX8_read_182 (by decide) (fun zq182 => ?_) (fun zq182 => absurd zq182 (by decide)) 
    refine wp_iload_n (i := 3) dX8_read_202 rfl rfl ?_
    refine wp_iconst (v := 5) dX8_read_203 (by decide) ?_
    refine wp_icmp_ne (tgt := 251) dX8_read_204 (by decide) (fun zq204 => ?_) (fun zq204 => absurd zq204 (by decide)) 
    refine wp_iload_n (i := 3) dX8_read_251 rfl rfl ?_
    refine wp_iconst (v := 1) dX8_read_252 (by decide) ?_
    refine wp_icmp_le (tgt := 292) dX8_read_253 (by decide) (fun zq253 => ?_) (fun zq253 => absurd zq253 (by decide)) 
    refine wp_iload dX8_read_292 rfl ?_
    exact wp_retI dX8_read_294 rfl (Nat.le_refl _) (Nat.le_refl _) (hno (st_none (fun g => g.2 zq104) (fun g => by omega) (fun g => by omega) (fun g => by omega) (fun g => by omega)))
  · refine wp_aload_n (i := 0) dX8_read_107 rfl rfl ?_
    refine wp_getR dX8_read_108 fl_X8_19 rfl (st_k hst rfl) (st_r hst rfl) ?_
    refine wp_aload_n (i := 0) dX8_read_111 rfl rfl ?_
    refine wp_getI dX8_read_112 fl_X8_146 rfl (st_k hst rfl) ?_
    refine wp_iload dX8_read_115 rfl ?_
    refine wp_ist (j := m) dX8_read_117 (st_t hst rfl) hR.1 (by have := hR.2.1; omega) ?_
    refine wp_aload_n (i := 0) dX8_read_118 rfl rfl ?_
    refine wp_getR dX8_read_119 fl_X8_22 rfl (st_k hst rfl) (st_r hst rfl) ?_
    refine wp_aload_n (i := 0) dX8_read_122 rfl rfl ?_
    refine wp_getI dX8_read_123 fl_X8_146 rfl (st_k hst rfl) ?_
    refine wp_iconst (v := 0) dX8_read_126 (by decide) ?_
    refine wp_ist (j := m) dX8_read_127 (st_t hst rfl) hR.1 (by have := hR.2.1; omega) ?_
    refine wp_iconst (v := 1) dX8_read_128 (by decide) ?_
    refine wp_istore_8_3 dX8_read_129 (by first | rfl | assumption) ?_
    refine wp_goto (tgt := 295) dX8_read_130 (by decide) ?_
    refine wp_iinc_8_4 (v := nI (x + 1)) dX8_read_295 (n_add rfl rfl) ?_
    refine wp_goto (tgt := 31) dX8_read_298 (by decide) ?_
    exact go _ _ _ _ _ _ (st_letter zq104) (hR.letter zq104) (((FrM.rf I).u (Or.inl rfl)).u (Or.inr (Or.inl rfl)))

theorem sg_r1 (d : Nat) {n : Nat} {t : eT} {I : eI} {R : eR} {Q : Int32 → Nat → eT → eI → eR → Prop} (hst : ST n t R) {fr nn x m : Nat} {K V : Nat → Nat} {F : Nat → Nat → Nat} {c : Int32} (hR : RM I 1 m K V F) (go : ∀ (I1 : eI) (w1 m1 : Nat) (K1 V1 : Nat → Nat) (F1 : Nat → Nat → Nat), step (1, m, K, V, F) c = some (w1, m1, K1, V1, F1) → RM I1 w1 m1 K1 V1 F1 → FrM I I1 → wp yX8_read cX8_read 8 (some .int) (d + 1) 0 0 (qI Q) 0 0 31 [.ref 94, .int (nI fr), .int (nI nn), .int (nI w1), .int (nI (x + 1)), .int c, .int (dM c), .int (kM c)] [] n t I1 R) (hno : step (1, m, K, V, F) c = none → Q (nI x) n t I R) : wp yX8_read cX8_read 8 (some .int) (d + 1) 0 0 (qI Q) 0 0 98 [.ref 94, .int (nI fr), .int (nI nn), .int (nI 1), .int (nI x), .int c, .int (dM c), .int (kM c)] [] n t I R := by
  refine wp_iload_n (i := 3) dX8_read_98 rfl rfl ?_
  refine wp_if_ne1 (tgt := 133) dX8_read_99 (by decide) ?_
  refine wp_iload_n (i := 3) dX8_read_133 rfl rfl ?_
  refine wp_if_le (tgt := 180) dX8_read_134 (by decide) (fun zq134 => absurd zq134 (by decide)) (fun zq134 => ?_) 
  refine wp_iload_n (i := 3) dX8_read_137 rfl rfl ?_
  refine wp_iconst (v := 4) dX8_read_138 (by decide) ?_
  refine wp_icmp_ge (tgt := 180) dX8_read_139 (by decide) (fun zq139 => absurd zq139 (by decide)) (fun zq139 => ?_) 
  refine wp_iload dX8_read_142 rfl ?_
  refine wp_if_eq (tgt := 180) dX8_read_144 (by decide) (fun zq144 => ?_) (fun zq144 => ?_) 
  · refine wp_iload_n (i := 3) dX8_read_180 rfl rfl ?_
    refine wp_iconst (v := 1) dX8_read_181 (by decide) ?_
    refine wp_icmp_le (tgt := 202) dX8_read_182 (by decide) (fun zq182 => ?_) (fun zq182 => absurd zq182 (by decide)) 
    refine wp_iload_n (i := 3) dX8_read_202 rfl rfl ?_
    refine wp_iconst (v := 5) dX8_read_203 (by decide) ?_
    refine wp_icmp_ne (tgt := 251) dX8_read_204 (by decide) (fun zq204 => ?_) (fun zq204 => absurd zq204 (by decide)) 
    refine wp_iload_n (i := 3) dX8_read_251 rfl rfl ?_
    refine wp_iconst (v := 1) dX8_read_252 (by decide) ?_
    refine wp_icmp_le (tgt := 292) dX8_read_253 (by decide) (fun zq253 => ?_) (fun zq253 => absurd zq253 (by decide)) 
    refine wp_iload dX8_read_292 rfl ?_
    exact wp_retI dX8_read_294 rfl (Nat.le_refl _) (Nat.le_refl _) (hno (st_none (fun g => by omega) (fun g => absurd (show dM c = 1 from if_pos g.2) (by rw [zq144]; decide)) (fun g => by omega) (fun g => by omega) (fun g => by omega)))
  · have hd : 48 ≤ c.toInt ∧ c.toInt ≤ 57 := by
      unfold dM at zq144
      split at zq144
      · assumption
      · exact absurd rfl zq144
    have hdg := dg_of hd
    refine wp_aload_n (i := 0) dX8_read_147 rfl rfl ?_
    refine wp_getR dX8_read_148 fl_X8_22 rfl (st_k hst rfl) (st_r hst rfl) ?_
    refine wp_aload_n (i := 0) dX8_read_151 rfl rfl ?_
    refine wp_getI dX8_read_152 fl_X8_146 rfl (st_k hst rfl) ?_
    refine wp_bipush (v := 10) dX8_read_155 (by decide) ?_
    refine wp_aload_n (i := 0) dX8_read_157 rfl rfl ?_
    refine wp_getR dX8_read_158 fl_X8_22 rfl (st_k hst rfl) (st_r hst rfl) ?_
    refine wp_aload_n (i := 0) dX8_read_161 rfl rfl ?_
    refine wp_getI dX8_read_162 fl_X8_146 rfl (st_k hst rfl) ?_
    refine wp_ild (j := m) dX8_read_165 (st_t hst rfl) hR.1 (by have := hR.2.1; omega) ?_
    refine wp_imul dX8_read_166 ?_
    refine wp_iload dX8_read_167 rfl ?_
    refine wp_iadd dX8_read_169 ?_
    refine wp_bipush (v := 48) dX8_read_170 (by decide) ?_
    refine wp_isub dX8_read_172 ?_
    refine wp_ist (j := m) dX8_read_173 (st_t hst rfl) hR.1 (by have := hR.2.1; omega) ?_
    refine wp_iinc_8_3 (v := 2) dX8_read_174 (by decide) ?_
    refine wp_goto (tgt := 295) dX8_read_177 (by decide) ?_
    refine wp_iinc_8_4 (v := nI (x + 1)) dX8_read_295 (n_add rfl rfl) ?_
    refine wp_goto (tgt := 31) dX8_read_298 (by decide) ?_
    exact go _ _ _ _ _ _ (st_digit (by decide) (by decide) hd) (hR.digit (by decide) (by decide) _ (dig_val hd (hR.2.2.2.1 m (Or.inr ⟨rfl, by decide⟩)).2)) ((FrM.rf I).u (Or.inr (Or.inl rfl)))

theorem sg_r2 (d : Nat) {n : Nat} {t : eT} {I : eI} {R : eR} {Q : Int32 → Nat → eT → eI → eR → Prop} (hst : ST n t R) {fr nn x m : Nat} {K V : Nat → Nat} {F : Nat → Nat → Nat} {c : Int32} (hR : RM I 2 m K V F) (go : ∀ (I1 : eI) (w1 m1 : Nat) (K1 V1 : Nat → Nat) (F1 : Nat → Nat → Nat), step (2, m, K, V, F) c = some (w1, m1, K1, V1, F1) → RM I1 w1 m1 K1 V1 F1 → FrM I I1 → wp yX8_read cX8_read 8 (some .int) (d + 1) 0 0 (qI Q) 0 0 31 [.ref 94, .int (nI fr), .int (nI nn), .int (nI w1), .int (nI (x + 1)), .int c, .int (dM c), .int (kM c)] [] n t I1 R) (hno : step (2, m, K, V, F) c = none → Q (nI x) n t I R) : wp yX8_read cX8_read 8 (some .int) (d + 1) 0 0 (qI Q) 0 0 98 [.ref 94, .int (nI fr), .int (nI nn), .int (nI 2), .int (nI x), .int c, .int (dM c), .int (kM c)] [] n t I R := by
  refine wp_iload_n (i := 3) dX8_read_98 rfl rfl ?_
  refine wp_if_ne (tgt := 133) dX8_read_99 (by decide) (fun zq99 => ?_) (fun zq99 => absurd zq99 (by decide)) 
  refine wp_iload_n (i := 3) dX8_read_133 rfl rfl ?_
  refine wp_if_le (tgt := 180) dX8_read_134 (by decide) (fun zq134 => absurd zq134 (by decide)) (fun zq134 => ?_) 
  refine wp_iload_n (i := 3) dX8_read_137 rfl rfl ?_
  refine wp_iconst (v := 4) dX8_read_138 (by decide) ?_
  refine wp_icmp_ge (tgt := 180) dX8_read_139 (by decide) (fun zq139 => absurd zq139 (by decide)) (fun zq139 => ?_) 
  refine wp_iload dX8_read_142 rfl ?_
  refine wp_if_eq (tgt := 180) dX8_read_144 (by decide) (fun zq144 => ?_) (fun zq144 => ?_) 
  · refine wp_iload_n (i := 3) dX8_read_180 rfl rfl ?_
    refine wp_iconst (v := 1) dX8_read_181 (by decide) ?_
    refine wp_icmp_le (tgt := 202) dX8_read_182 (by decide) (fun zq182 => absurd zq182 (by decide)) (fun zq182 => ?_) 
    refine wp_iload_n (i := 3) dX8_read_185 rfl rfl ?_
    refine wp_iconst (v := 5) dX8_read_186 (by decide) ?_
    refine wp_icmp_ge (tgt := 202) dX8_read_187 (by decide) (fun zq187 => absurd zq187 (by decide)) (fun zq187 => ?_) 
    refine wp_iload dX8_read_190 rfl ?_
    refine wp_bipush (v := 62) dX8_read_192 (by decide) ?_
    refine wp_icmp_ne (tgt := 202) dX8_read_194 (by decide) (fun zq194 => ?_) (fun zq194 => ?_) 
    · refine wp_iload_n (i := 3) dX8_read_202 rfl rfl ?_
      refine wp_iconst (v := 5) dX8_read_203 (by decide) ?_
      refine wp_icmp_ne (tgt := 251) dX8_read_204 (by decide) (fun zq204 => ?_) (fun zq204 => absurd zq204 (by decide)) 
      refine wp_iload_n (i := 3) dX8_read_251 rfl rfl ?_
      refine wp_iconst (v := 1) dX8_read_252 (by decide) ?_
      refine wp_icmp_le (tgt := 292) dX8_read_253 (by decide) (fun zq253 => absurd zq253 (by decide)) (fun zq253 => ?_) 
      refine wp_iload_n (i := 3) dX8_read_256 rfl rfl ?_
      refine wp_iconst (v := 5) dX8_read_257 (by decide) ?_
      refine wp_icmp_ge (tgt := 292) dX8_read_258 (by decide) (fun zq258 => absurd zq258 (by decide)) (fun zq258 => ?_) 
      refine wp_iload dX8_read_261 rfl ?_
      refine wp_bipush (v := 59) dX8_read_263 (by decide) ?_
      refine wp_icmp_ne (tgt := 292) dX8_read_265 (by decide) (fun zq265 => ?_) (fun zq265 => ?_) 
      · refine wp_iload dX8_read_292 rfl ?_
        exact wp_retI dX8_read_294 rfl (Nat.le_refl _) (Nat.le_refl _) (hno (st_none (fun g => by omega) (fun g => absurd (show dM c = 1 from if_pos g.2) (by rw [zq144]; decide)) (fun g => zq194 g.2) (fun g => by omega) (fun g => zq265 g.2.1)))
      · refine wp_aload_n (i := 0) dX8_read_268 rfl rfl ?_
        refine wp_getI dX8_read_269 fl_X8_146 rfl (st_k hst rfl) ?_
        refine wp_bipush (v := 9) dX8_read_272 (by decide) ?_
        refine wp_icmp_ge (tgt := 292) dX8_read_274 (by decide) (fun zq274 => ?_) (fun zq274 => ?_) 
        · refine wp_iload dX8_read_292 rfl ?_
          exact wp_retI dX8_read_294 rfl (Nat.le_refl _) (Nat.le_refl _) (hno (st_none (fun g => by omega) (fun g => absurd (show dM c = 1 from if_pos g.2) (by rw [zq144]; decide)) (fun g => zq194 g.2) (fun g => by omega) (fun g => absurd (show nI 9 ≤ I 94 5 from zq274) (by rw [hR.1]; exact nI_ge g.2.2 (by decide)))))
        · refine wp_aload_n (i := 0) dX8_read_277 rfl rfl ?_
          refine wp_dup dX8_read_278 rfl ?_
          refine wp_getI dX8_read_279 fl_X8_146 rfl (st_k hst rfl) ?_
          refine wp_iconst (v := 1) dX8_read_282 (by decide) ?_
          refine wp_iadd dX8_read_283 ?_
          refine wp_putI dX8_read_284 fl_X8_146 rfl (Or.inl rfl) (st_k hst rfl) ?_
          refine wp_iconst (v := 0) dX8_read_287 (by decide) ?_
          refine wp_istore_8_3 dX8_read_288 (by first | rfl | assumption) ?_
          refine wp_goto (tgt := 295) dX8_read_289 (by decide) ?_
          refine wp_iinc_8_4 (v := nI (x + 1)) dX8_read_295 (n_add rfl rfl) ?_
          refine wp_goto (tgt := 31) dX8_read_298 (by decide) ?_
          exact go _ _ _ _ _ _ (st_semi (by decide) (by decide) zq265 (Nat.lt_of_not_le (fun g => zq274 (by rw [hR.1]; exact nI_le g (by have := hR.2.1; omega))))) (by have h9 := hR.semi (by decide) (Nat.lt_of_not_le (fun g => zq274 (by rw [hR.1]; exact nI_le g (by have := hR.2.1; omega)))); rw [hR.1, nI_1]; exact h9) ((FrM.rf I).u (Or.inr (Or.inr (Or.inr ⟨rfl, rfl⟩))))
    · refine wp_iconst (v := 5) dX8_read_197 (by decide) ?_
      refine wp_istore_8_3 dX8_read_198 (by first | rfl | assumption) ?_
      refine wp_goto (tgt := 295) dX8_read_199 (by decide) ?_
      refine wp_iinc_8_4 (v := nI (x + 1)) dX8_read_295 (n_add rfl rfl) ?_
      refine wp_goto (tgt := 31) dX8_read_298 (by decide) ?_
      exact go _ _ _ _ _ _ (st_gt (by decide) (by decide) zq194) (hR.to5 (by decide)) (FrM.rf I)
  · have hd : 48 ≤ c.toInt ∧ c.toInt ≤ 57 := by
      unfold dM at zq144
      split at zq144
      · assumption
      · exact absurd rfl zq144
    have hdg := dg_of hd
    refine wp_aload_n (i := 0) dX8_read_147 rfl rfl ?_
    refine wp_getR dX8_read_148 fl_X8_22 rfl (st_k hst rfl) (st_r hst rfl) ?_
    refine wp_aload_n (i := 0) dX8_read_151 rfl rfl ?_
    refine wp_getI dX8_read_152 fl_X8_146 rfl (st_k hst rfl) ?_
    refine wp_bipush (v := 10) dX8_read_155 (by decide) ?_
    refine wp_aload_n (i := 0) dX8_read_157 rfl rfl ?_
    refine wp_getR dX8_read_158 fl_X8_22 rfl (st_k hst rfl) (st_r hst rfl) ?_
    refine wp_aload_n (i := 0) dX8_read_161 rfl rfl ?_
    refine wp_getI dX8_read_162 fl_X8_146 rfl (st_k hst rfl) ?_
    refine wp_ild (j := m) dX8_read_165 (st_t hst rfl) hR.1 (by have := hR.2.1; omega) ?_
    refine wp_imul dX8_read_166 ?_
    refine wp_iload dX8_read_167 rfl ?_
    refine wp_iadd dX8_read_169 ?_
    refine wp_bipush (v := 48) dX8_read_170 (by decide) ?_
    refine wp_isub dX8_read_172 ?_
    refine wp_ist (j := m) dX8_read_173 (st_t hst rfl) hR.1 (by have := hR.2.1; omega) ?_
    refine wp_iinc_8_3 (v := 3) dX8_read_174 (by decide) ?_
    refine wp_goto (tgt := 295) dX8_read_177 (by decide) ?_
    refine wp_iinc_8_4 (v := nI (x + 1)) dX8_read_295 (n_add rfl rfl) ?_
    refine wp_goto (tgt := 31) dX8_read_298 (by decide) ?_
    exact go _ _ _ _ _ _ (st_digit (by decide) (by decide) hd) (hR.digit (by decide) (by decide) _ (dig_val hd (hR.2.2.2.1 m (Or.inr ⟨rfl, by decide⟩)).2)) ((FrM.rf I).u (Or.inr (Or.inl rfl)))

theorem sg_r3 (d : Nat) {n : Nat} {t : eT} {I : eI} {R : eR} {Q : Int32 → Nat → eT → eI → eR → Prop} (hst : ST n t R) {fr nn x m : Nat} {K V : Nat → Nat} {F : Nat → Nat → Nat} {c : Int32} (hR : RM I 3 m K V F) (go : ∀ (I1 : eI) (w1 m1 : Nat) (K1 V1 : Nat → Nat) (F1 : Nat → Nat → Nat), step (3, m, K, V, F) c = some (w1, m1, K1, V1, F1) → RM I1 w1 m1 K1 V1 F1 → FrM I I1 → wp yX8_read cX8_read 8 (some .int) (d + 1) 0 0 (qI Q) 0 0 31 [.ref 94, .int (nI fr), .int (nI nn), .int (nI w1), .int (nI (x + 1)), .int c, .int (dM c), .int (kM c)] [] n t I1 R) (hno : step (3, m, K, V, F) c = none → Q (nI x) n t I R) : wp yX8_read cX8_read 8 (some .int) (d + 1) 0 0 (qI Q) 0 0 98 [.ref 94, .int (nI fr), .int (nI nn), .int (nI 3), .int (nI x), .int c, .int (dM c), .int (kM c)] [] n t I R := by
  refine wp_iload_n (i := 3) dX8_read_98 rfl rfl ?_
  refine wp_if_ne (tgt := 133) dX8_read_99 (by decide) (fun zq99 => ?_) (fun zq99 => absurd zq99 (by decide)) 
  refine wp_iload_n (i := 3) dX8_read_133 rfl rfl ?_
  refine wp_if_le (tgt := 180) dX8_read_134 (by decide) (fun zq134 => absurd zq134 (by decide)) (fun zq134 => ?_) 
  refine wp_iload_n (i := 3) dX8_read_137 rfl rfl ?_
  refine wp_iconst (v := 4) dX8_read_138 (by decide) ?_
  refine wp_icmp_ge (tgt := 180) dX8_read_139 (by decide) (fun zq139 => absurd zq139 (by decide)) (fun zq139 => ?_) 
  refine wp_iload dX8_read_142 rfl ?_
  refine wp_if_eq (tgt := 180) dX8_read_144 (by decide) (fun zq144 => ?_) (fun zq144 => ?_) 
  · refine wp_iload_n (i := 3) dX8_read_180 rfl rfl ?_
    refine wp_iconst (v := 1) dX8_read_181 (by decide) ?_
    refine wp_icmp_le (tgt := 202) dX8_read_182 (by decide) (fun zq182 => absurd zq182 (by decide)) (fun zq182 => ?_) 
    refine wp_iload_n (i := 3) dX8_read_185 rfl rfl ?_
    refine wp_iconst (v := 5) dX8_read_186 (by decide) ?_
    refine wp_icmp_ge (tgt := 202) dX8_read_187 (by decide) (fun zq187 => absurd zq187 (by decide)) (fun zq187 => ?_) 
    refine wp_iload dX8_read_190 rfl ?_
    refine wp_bipush (v := 62) dX8_read_192 (by decide) ?_
    refine wp_icmp_ne (tgt := 202) dX8_read_194 (by decide) (fun zq194 => ?_) (fun zq194 => ?_) 
    · refine wp_iload_n (i := 3) dX8_read_202 rfl rfl ?_
      refine wp_iconst (v := 5) dX8_read_203 (by decide) ?_
      refine wp_icmp_ne (tgt := 251) dX8_read_204 (by decide) (fun zq204 => ?_) (fun zq204 => absurd zq204 (by decide)) 
      refine wp_iload_n (i := 3) dX8_read_251 rfl rfl ?_
      refine wp_iconst (v := 1) dX8_read_252 (by decide) ?_
      refine wp_icmp_le (tgt := 292) dX8_read_253 (by decide) (fun zq253 => absurd zq253 (by decide)) (fun zq253 => ?_) 
      refine wp_iload_n (i := 3) dX8_read_256 rfl rfl ?_
      refine wp_iconst (v := 5) dX8_read_257 (by decide) ?_
      refine wp_icmp_ge (tgt := 292) dX8_read_258 (by decide) (fun zq258 => absurd zq258 (by decide)) (fun zq258 => ?_) 
      refine wp_iload dX8_read_261 rfl ?_
      refine wp_bipush (v := 59) dX8_read_263 (by decide) ?_
      refine wp_icmp_ne (tgt := 292) dX8_read_265 (by decide) (fun zq265 => ?_) (fun zq265 => ?_) 
      · refine wp_iload dX8_read_292 rfl ?_
        exact wp_retI dX8_read_294 rfl (Nat.le_refl _) (Nat.le_refl _) (hno (st_none (fun g => by omega) (fun g => absurd (show dM c = 1 from if_pos g.2) (by rw [zq144]; decide)) (fun g => zq194 g.2) (fun g => by omega) (fun g => zq265 g.2.1)))
      · refine wp_aload_n (i := 0) dX8_read_268 rfl rfl ?_
        refine wp_getI dX8_read_269 fl_X8_146 rfl (st_k hst rfl) ?_
        refine wp_bipush (v := 9) dX8_read_272 (by decide) ?_
        refine wp_icmp_ge (tgt := 292) dX8_read_274 (by decide) (fun zq274 => ?_) (fun zq274 => ?_) 
        · refine wp_iload dX8_read_292 rfl ?_
          exact wp_retI dX8_read_294 rfl (Nat.le_refl _) (Nat.le_refl _) (hno (st_none (fun g => by omega) (fun g => absurd (show dM c = 1 from if_pos g.2) (by rw [zq144]; decide)) (fun g => zq194 g.2) (fun g => by omega) (fun g => absurd (show nI 9 ≤ I 94 5 from zq274) (by rw [hR.1]; exact nI_ge g.2.2 (by decide)))))
        · refine wp_aload_n (i := 0) dX8_read_277 rfl rfl ?_
          refine wp_dup dX8_read_278 rfl ?_
          refine wp_getI dX8_read_279 fl_X8_146 rfl (st_k hst rfl) ?_
          refine wp_iconst (v := 1) dX8_read_282 (by decide) ?_
          refine wp_iadd dX8_read_283 ?_
          refine wp_putI dX8_read_284 fl_X8_146 rfl (Or.inl rfl) (st_k hst rfl) ?_
          refine wp_iconst (v := 0) dX8_read_287 (by decide) ?_
          refine wp_istore_8_3 dX8_read_288 (by first | rfl | assumption) ?_
          refine wp_goto (tgt := 295) dX8_read_289 (by decide) ?_
          refine wp_iinc_8_4 (v := nI (x + 1)) dX8_read_295 (n_add rfl rfl) ?_
          refine wp_goto (tgt := 31) dX8_read_298 (by decide) ?_
          exact go _ _ _ _ _ _ (st_semi (by decide) (by decide) zq265 (Nat.lt_of_not_le (fun g => zq274 (by rw [hR.1]; exact nI_le g (by have := hR.2.1; omega))))) (by have h9 := hR.semi (by decide) (Nat.lt_of_not_le (fun g => zq274 (by rw [hR.1]; exact nI_le g (by have := hR.2.1; omega)))); rw [hR.1, nI_1]; exact h9) ((FrM.rf I).u (Or.inr (Or.inr (Or.inr ⟨rfl, rfl⟩))))
    · refine wp_iconst (v := 5) dX8_read_197 (by decide) ?_
      refine wp_istore_8_3 dX8_read_198 (by first | rfl | assumption) ?_
      refine wp_goto (tgt := 295) dX8_read_199 (by decide) ?_
      refine wp_iinc_8_4 (v := nI (x + 1)) dX8_read_295 (n_add rfl rfl) ?_
      refine wp_goto (tgt := 31) dX8_read_298 (by decide) ?_
      exact go _ _ _ _ _ _ (st_gt (by decide) (by decide) zq194) (hR.to5 (by decide)) (FrM.rf I)
  · have hd : 48 ≤ c.toInt ∧ c.toInt ≤ 57 := by
      unfold dM at zq144
      split at zq144
      · assumption
      · exact absurd rfl zq144
    have hdg := dg_of hd
    refine wp_aload_n (i := 0) dX8_read_147 rfl rfl ?_
    refine wp_getR dX8_read_148 fl_X8_22 rfl (st_k hst rfl) (st_r hst rfl) ?_
    refine wp_aload_n (i := 0) dX8_read_151 rfl rfl ?_
    refine wp_getI dX8_read_152 fl_X8_146 rfl (st_k hst rfl) ?_
    refine wp_bipush (v := 10) dX8_read_155 (by decide) ?_
    refine wp_aload_n (i := 0) dX8_read_157 rfl rfl ?_
    refine wp_getR dX8_read_158 fl_X8_22 rfl (st_k hst rfl) (st_r hst rfl) ?_
    refine wp_aload_n (i := 0) dX8_read_161 rfl rfl ?_
    refine wp_getI dX8_read_162 fl_X8_146 rfl (st_k hst rfl) ?_
    refine wp_ild (j := m) dX8_read_165 (st_t hst rfl) hR.1 (by have := hR.2.1; omega) ?_
    refine wp_imul dX8_read_166 ?_
    refine wp_iload dX8_read_167 rfl ?_
    refine wp_iadd dX8_read_169 ?_
    refine wp_bipush (v := 48) dX8_read_170 (by decide) ?_
    refine wp_isub dX8_read_172 ?_
    refine wp_ist (j := m) dX8_read_173 (st_t hst rfl) hR.1 (by have := hR.2.1; omega) ?_
    refine wp_iinc_8_3 (v := 4) dX8_read_174 (by decide) ?_
    refine wp_goto (tgt := 295) dX8_read_177 (by decide) ?_
    refine wp_iinc_8_4 (v := nI (x + 1)) dX8_read_295 (n_add rfl rfl) ?_
    refine wp_goto (tgt := 31) dX8_read_298 (by decide) ?_
    exact go _ _ _ _ _ _ (st_digit (by decide) (by decide) hd) (hR.digit (by decide) (by decide) _ (dig_val hd (hR.2.2.2.1 m (Or.inr ⟨rfl, by decide⟩)).2)) ((FrM.rf I).u (Or.inr (Or.inl rfl)))

theorem sg_r4 (d : Nat) {n : Nat} {t : eT} {I : eI} {R : eR} {Q : Int32 → Nat → eT → eI → eR → Prop} (hst : ST n t R) {fr nn x m : Nat} {K V : Nat → Nat} {F : Nat → Nat → Nat} {c : Int32} (hR : RM I 4 m K V F) (go : ∀ (I1 : eI) (w1 m1 : Nat) (K1 V1 : Nat → Nat) (F1 : Nat → Nat → Nat), step (4, m, K, V, F) c = some (w1, m1, K1, V1, F1) → RM I1 w1 m1 K1 V1 F1 → FrM I I1 → wp yX8_read cX8_read 8 (some .int) (d + 1) 0 0 (qI Q) 0 0 31 [.ref 94, .int (nI fr), .int (nI nn), .int (nI w1), .int (nI (x + 1)), .int c, .int (dM c), .int (kM c)] [] n t I1 R) (hno : step (4, m, K, V, F) c = none → Q (nI x) n t I R) : wp yX8_read cX8_read 8 (some .int) (d + 1) 0 0 (qI Q) 0 0 98 [.ref 94, .int (nI fr), .int (nI nn), .int (nI 4), .int (nI x), .int c, .int (dM c), .int (kM c)] [] n t I R := by
  refine wp_iload_n (i := 3) dX8_read_98 rfl rfl ?_
  refine wp_if_ne (tgt := 133) dX8_read_99 (by decide) (fun zq99 => ?_) (fun zq99 => absurd zq99 (by decide)) 
  refine wp_iload_n (i := 3) dX8_read_133 rfl rfl ?_
  refine wp_if_le (tgt := 180) dX8_read_134 (by decide) (fun zq134 => absurd zq134 (by decide)) (fun zq134 => ?_) 
  refine wp_iload_n (i := 3) dX8_read_137 rfl rfl ?_
  refine wp_iconst (v := 4) dX8_read_138 (by decide) ?_
  refine wp_icmp_ge (tgt := 180) dX8_read_139 (by decide) (fun zq139 => ?_) (fun zq139 => absurd zq139 (by decide)) 
  refine wp_iload_n (i := 3) dX8_read_180 rfl rfl ?_
  refine wp_iconst (v := 1) dX8_read_181 (by decide) ?_
  refine wp_icmp_le (tgt := 202) dX8_read_182 (by decide) (fun zq182 => absurd zq182 (by decide)) (fun zq182 => ?_) 
  refine wp_iload_n (i := 3) dX8_read_185 rfl rfl ?_
  refine wp_iconst (v := 5) dX8_read_186 (by decide) ?_
  refine wp_icmp_ge (tgt := 202) dX8_read_187 (by decide) (fun zq187 => absurd zq187 (by decide)) (fun zq187 => ?_) 
  refine wp_iload dX8_read_190 rfl ?_
  refine wp_bipush (v := 62) dX8_read_192 (by decide) ?_
  refine wp_icmp_ne (tgt := 202) dX8_read_194 (by decide) (fun zq194 => ?_) (fun zq194 => ?_) 
  · refine wp_iload_n (i := 3) dX8_read_202 rfl rfl ?_
    refine wp_iconst (v := 5) dX8_read_203 (by decide) ?_
    refine wp_icmp_ne (tgt := 251) dX8_read_204 (by decide) (fun zq204 => ?_) (fun zq204 => absurd zq204 (by decide)) 
    refine wp_iload_n (i := 3) dX8_read_251 rfl rfl ?_
    refine wp_iconst (v := 1) dX8_read_252 (by decide) ?_
    refine wp_icmp_le (tgt := 292) dX8_read_253 (by decide) (fun zq253 => absurd zq253 (by decide)) (fun zq253 => ?_) 
    refine wp_iload_n (i := 3) dX8_read_256 rfl rfl ?_
    refine wp_iconst (v := 5) dX8_read_257 (by decide) ?_
    refine wp_icmp_ge (tgt := 292) dX8_read_258 (by decide) (fun zq258 => absurd zq258 (by decide)) (fun zq258 => ?_) 
    refine wp_iload dX8_read_261 rfl ?_
    refine wp_bipush (v := 59) dX8_read_263 (by decide) ?_
    refine wp_icmp_ne (tgt := 292) dX8_read_265 (by decide) (fun zq265 => ?_) (fun zq265 => ?_) 
    · refine wp_iload dX8_read_292 rfl ?_
      exact wp_retI dX8_read_294 rfl (Nat.le_refl _) (Nat.le_refl _) (hno (st_none (fun g => by omega) (fun g => by omega) (fun g => zq194 g.2) (fun g => by omega) (fun g => zq265 g.2.1)))
    · refine wp_aload_n (i := 0) dX8_read_268 rfl rfl ?_
      refine wp_getI dX8_read_269 fl_X8_146 rfl (st_k hst rfl) ?_
      refine wp_bipush (v := 9) dX8_read_272 (by decide) ?_
      refine wp_icmp_ge (tgt := 292) dX8_read_274 (by decide) (fun zq274 => ?_) (fun zq274 => ?_) 
      · refine wp_iload dX8_read_292 rfl ?_
        exact wp_retI dX8_read_294 rfl (Nat.le_refl _) (Nat.le_refl _) (hno (st_none (fun g => by omega) (fun g => by omega) (fun g => zq194 g.2) (fun g => by omega) (fun g => absurd (show nI 9 ≤ I 94 5 from zq274) (by rw [hR.1]; exact nI_ge g.2.2 (by decide)))))
      · refine wp_aload_n (i := 0) dX8_read_277 rfl rfl ?_
        refine wp_dup dX8_read_278 rfl ?_
        refine wp_getI dX8_read_279 fl_X8_146 rfl (st_k hst rfl) ?_
        refine wp_iconst (v := 1) dX8_read_282 (by decide) ?_
        refine wp_iadd dX8_read_283 ?_
        refine wp_putI dX8_read_284 fl_X8_146 rfl (Or.inl rfl) (st_k hst rfl) ?_
        refine wp_iconst (v := 0) dX8_read_287 (by decide) ?_
        refine wp_istore_8_3 dX8_read_288 (by first | rfl | assumption) ?_
        refine wp_goto (tgt := 295) dX8_read_289 (by decide) ?_
        refine wp_iinc_8_4 (v := nI (x + 1)) dX8_read_295 (n_add rfl rfl) ?_
        refine wp_goto (tgt := 31) dX8_read_298 (by decide) ?_
        exact go _ _ _ _ _ _ (st_semi (by decide) (by decide) zq265 (Nat.lt_of_not_le (fun g => zq274 (by rw [hR.1]; exact nI_le g (by have := hR.2.1; omega))))) (by have h9 := hR.semi (by decide) (Nat.lt_of_not_le (fun g => zq274 (by rw [hR.1]; exact nI_le g (by have := hR.2.1; omega)))); rw [hR.1, nI_1]; exact h9) ((FrM.rf I).u (Or.inr (Or.inr (Or.inr ⟨rfl, rfl⟩))))
  · refine wp_iconst (v := 5) dX8_read_197 (by decide) ?_
    refine wp_istore_8_3 dX8_read_198 (by first | rfl | assumption) ?_
    refine wp_goto (tgt := 295) dX8_read_199 (by decide) ?_
    refine wp_iinc_8_4 (v := nI (x + 1)) dX8_read_295 (n_add rfl rfl) ?_
    refine wp_goto (tgt := 31) dX8_read_298 (by decide) ?_
    exact go _ _ _ _ _ _ (st_gt (by decide) (by decide) zq194) (hR.to5 (by decide)) (FrM.rf I)

theorem sg_r5 (d : Nat) {n : Nat} {t : eT} {I : eI} {R : eR} {Q : Int32 → Nat → eT → eI → eR → Prop} (hst : ST n t R) {fr nn x m : Nat} {K V : Nat → Nat} {F : Nat → Nat → Nat} {c : Int32} (hR : RM I 5 m K V F) (go : ∀ (I1 : eI) (w1 m1 : Nat) (K1 V1 : Nat → Nat) (F1 : Nat → Nat → Nat), step (5, m, K, V, F) c = some (w1, m1, K1, V1, F1) → RM I1 w1 m1 K1 V1 F1 → FrM I I1 → wp yX8_read cX8_read 8 (some .int) (d + 1) 0 0 (qI Q) 0 0 31 [.ref 94, .int (nI fr), .int (nI nn), .int (nI w1), .int (nI (x + 1)), .int c, .int (dM c), .int (kM c)] [] n t I1 R) (hno : step (5, m, K, V, F) c = none → Q (nI x) n t I R) : wp yX8_read cX8_read 8 (some .int) (d + 1) 0 0 (qI Q) 0 0 98 [.ref 94, .int (nI fr), .int (nI nn), .int (nI 5), .int (nI x), .int c, .int (dM c), .int (kM c)] [] n t I R := by
  refine wp_iload_n (i := 3) dX8_read_98 rfl rfl ?_
  refine wp_if_ne (tgt := 133) dX8_read_99 (by decide) (fun zq99 => ?_) (fun zq99 => absurd zq99 (by decide)) 
  refine wp_iload_n (i := 3) dX8_read_133 rfl rfl ?_
  refine wp_if_le (tgt := 180) dX8_read_134 (by decide) (fun zq134 => absurd zq134 (by decide)) (fun zq134 => ?_) 
  refine wp_iload_n (i := 3) dX8_read_137 rfl rfl ?_
  refine wp_iconst (v := 4) dX8_read_138 (by decide) ?_
  refine wp_icmp_ge (tgt := 180) dX8_read_139 (by decide) (fun zq139 => ?_) (fun zq139 => absurd zq139 (by decide)) 
  refine wp_iload_n (i := 3) dX8_read_180 rfl rfl ?_
  refine wp_iconst (v := 1) dX8_read_181 (by decide) ?_
  refine wp_icmp_le (tgt := 202) dX8_read_182 (by decide) (fun zq182 => absurd zq182 (by decide)) (fun zq182 => ?_) 
  refine wp_iload_n (i := 3) dX8_read_185 rfl rfl ?_
  refine wp_iconst (v := 5) dX8_read_186 (by decide) ?_
  refine wp_icmp_ge (tgt := 202) dX8_read_187 (by decide) (fun zq187 => ?_) (fun zq187 => absurd zq187 (by decide)) 
  refine wp_iload_n (i := 3) dX8_read_202 rfl rfl ?_
  refine wp_iconst (v := 5) dX8_read_203 (by decide) ?_
  refine wp_icmp_ne (tgt := 251) dX8_read_204 (by decide) (fun zq204 => absurd zq204 (by decide)) (fun zq204 => ?_) 
  refine wp_iload dX8_read_207 rfl ?_
  refine wp_if_eq (tgt := 251) dX8_read_209 (by decide) (fun zq209 => ?_) (fun zq209 => ?_) 
  · refine wp_iload_n (i := 3) dX8_read_251 rfl rfl ?_
    refine wp_iconst (v := 1) dX8_read_252 (by decide) ?_
    refine wp_icmp_le (tgt := 292) dX8_read_253 (by decide) (fun zq253 => absurd zq253 (by decide)) (fun zq253 => ?_) 
    refine wp_iload_n (i := 3) dX8_read_256 rfl rfl ?_
    refine wp_iconst (v := 5) dX8_read_257 (by decide) ?_
    refine wp_icmp_ge (tgt := 292) dX8_read_258 (by decide) (fun zq258 => ?_) (fun zq258 => absurd zq258 (by decide)) 
    refine wp_iload dX8_read_292 rfl ?_
    exact wp_retI dX8_read_294 rfl (Nat.le_refl _) (Nat.le_refl _) (hno (st_none (fun g => by omega) (fun g => by omega) (fun g => by omega) (fun g => absurd (show dM c = 1 from if_pos g.2.1) (by rw [zq209]; decide)) (fun g => by omega)))
  · have hd : 48 ≤ c.toInt ∧ c.toInt ≤ 57 := by
      unfold dM at zq209
      split at zq209
      · assumption
      · exact absurd rfl zq209
    have hdg := dg_of hd
    have hds : c - 48 = nI (dg c) := by
      have h9 : nI (48 + dg c) - nI 48 = nI (dg c) := by rw [pk_sub (by omega), show 48 + dg c - 48 = dg c by omega]
      rw [← hdg.1] at h9
      exact h9
    refine wp_iload dX8_read_212 rfl ?_
    refine wp_bipush (v := 48) dX8_read_214 (by decide) ?_
    refine wp_isub dX8_read_216 ?_
    refine wp_aload_n (i := 0) dX8_read_217 rfl rfl ?_
    refine wp_getI dX8_read_218 fl_X8_146 rfl (st_k hst rfl) ?_
    refine wp_icmp_ge (tgt := 251) dX8_read_221 (by decide) (fun zq221 => ?_) (fun zq221 => ?_) 
    · refine wp_iload_n (i := 3) dX8_read_251 rfl rfl ?_
      refine wp_iconst (v := 1) dX8_read_252 (by decide) ?_
      refine wp_icmp_le (tgt := 292) dX8_read_253 (by decide) (fun zq253 => absurd zq253 (by decide)) (fun zq253 => ?_) 
      refine wp_iload_n (i := 3) dX8_read_256 rfl rfl ?_
      refine wp_iconst (v := 5) dX8_read_257 (by decide) ?_
      refine wp_icmp_ge (tgt := 292) dX8_read_258 (by decide) (fun zq258 => ?_) (fun zq258 => absurd zq258 (by decide)) 
      refine wp_iload dX8_read_292 rfl ?_
      exact wp_retI dX8_read_294 rfl (Nat.le_refl _) (Nat.le_refl _) (hno (st_none (fun g => by omega) (fun g => by omega) (fun g => by omega) (fun g => absurd (show I 94 5 ≤ c - 48 from zq221) (by rw [hR.1, hds]; exact nI_ge g.2.2 (by have := hR.2.1; omega))) (fun g => by omega)))
    · have hlt : dg c < m := Nat.lt_of_not_le (fun g => zq221 (by rw [hR.1, hds]; exact nI_le g (by omega)))
      have hix : 10 * I 94 5 + c - 48 = nI (10 * m + dg c) := by
        rw [hR.1]
        have h9 : nI 10 * nI m + nI (48 + dg c) - nI 48 = nI (10 * m + dg c) := by rw [pk_mul, nI_add, pk_sub (by omega), show 10 * m + (48 + dg c) - 48 = 10 * m + dg c by omega]
        rw [← hdg.1] at h9
        exact h9
      refine wp_aload_n (i := 0) dX8_read_224 rfl rfl ?_
      refine wp_getR dX8_read_225 fl_X8_25 rfl (st_k hst rfl) (st_r hst rfl) ?_
      refine wp_bipush (v := 10) dX8_read_228 (by decide) ?_
      refine wp_aload_n (i := 0) dX8_read_230 rfl rfl ?_
      refine wp_getI dX8_read_231 fl_X8_146 rfl (st_k hst rfl) ?_
      refine wp_imul dX8_read_234 ?_
      refine wp_iload dX8_read_235 rfl ?_
      refine wp_iadd dX8_read_237 ?_
      refine wp_bipush (v := 48) dX8_read_238 (by decide) ?_
      refine wp_isub dX8_read_240 ?_
      refine wp_dup2 dX8_read_241 rfl rfl ?_
      refine wp_ild (j := (10 * m + dg c)) dX8_read_242 (st_t hst rfl) hix (by have := hR.2.1; omega) ?_
      refine wp_iconst (v := 1) dX8_read_243 (by decide) ?_
      refine wp_iadd dX8_read_244 ?_
      refine wp_ist (j := (10 * m + dg c)) dX8_read_245 (st_t hst rfl) hix (by have := hR.2.1; omega) ?_
      refine wp_iconst (v := 4) dX8_read_246 (by decide) ?_
      refine wp_istore_8_3 dX8_read_247 (by first | rfl | assumption) ?_
      refine wp_goto (tgt := 295) dX8_read_248 (by decide) ?_
      refine wp_iinc_8_4 (v := nI (x + 1)) dX8_read_295 (n_add rfl rfl) ?_
      refine wp_goto (tgt := 31) dX8_read_298 (by decide) ?_
      exact go _ _ _ _ _ _ (st_ahead rfl hd hlt) (hR.ahead hlt _ (by rw [hR.2.2.2.2 m (dg c) (by have := hR.2.1; omega) (by omega)]; exact nI_1 _)) ((FrM.rf I).u (Or.inr (Or.inr (Or.inl rfl))))

theorem lp_rd (d : Nat) {n : Nat} {t : eT} {R : eR} {Q : Int32 → Nat → eT → eI → eR → Prop} (hst : ST n t R) {fr nn : Nat} (hb : fr + nn ≤ 240) {cds : Nat → Int32} : ∀ (r x : Nat) (I : eI) (w m : Nat) (K V : Nat → Nat) (F : Nat → Nat → Nat), x + r = nn → (∀ z, z < nn → I 126 (fr + z) = cds z) → aft cds x = some (w, m, K, V, F) → RM I w m K V F → ∀ (x5 x6 x7 : Value), sec x5 = false → sec x6 = false → sec x7 = false → (∀ z I2, z < nn → (∃ s, aft cds z = some s) → aft cds (z + 1) = none → FrM I I2 → Q (nI z) n t I2 R) → (∀ s I2, aft cds nn = some s → ¬ (1 < s.1 ∧ s.1 < 5) → FrM I I2 → Q (nI nn) n t I2 R) → (∀ w m K V F I2, aft cds nn = some (w, m, K, V, F) → (1 < w ∧ w < 5) → RM I2 w m K V F → FrM I I2 → Q (-1) n t (eU I2 94 5 (nI (m + 1))) R) → wp yX8_read cX8_read 8 (some .int) (d + 1) 0 0 (qI Q) 0 0 31 [.ref 94, .int (nI fr), .int (nI nn), .int (nI w), .int (nI x), x5, x6, x7] [] n t I R := by
  intro r
  induction r with
  | zero =>
    intro x I w m K V F hx hc ha hR x5 x6 x7 hx5 hx6 hx7 h1 h2 h3
    obtain rfl : x = nn := by omega
    refine wp_iload dX8_read_31 rfl ?_
    refine wp_iload_n (i := 2) dX8_read_33 rfl rfl ?_
    refine wp_icmp_ge (tgt := 301) dX8_read_34 (by decide) (fun zq34 => ?_) (fun zq34 => absurd (nI_le (Nat.le_refl _) (by omega)) zq34) 
    refine wp_aload_n (i := 0) dX8_read_301 rfl rfl ?_
    refine wp_dup dX8_read_302 rfl ?_
    refine wp_getI dX8_read_303 fl_X8_146 rfl (st_k hst rfl) ?_
    refine wp_iconst (v := 1) dX8_read_306 (by decide) ?_
    refine wp_iadd dX8_read_307 ?_
    refine wp_topI (v2 := nI (m + 1)) (n_add hR.1 rfl) ?_
    refine wp_putI dX8_read_308 fl_X8_146 rfl (Or.inl rfl) (st_k hst rfl) ?_
    refine wp_iload_n (i := 3) dX8_read_311 rfl rfl ?_
    refine wp_iconst (v := 1) dX8_read_312 (by decide) ?_
    refine wp_icmp_le (tgt := 325) dX8_read_313 (by decide) (fun zq313 => ?_) (fun zq313 => ?_) 
    · refine wp_iload_n (i := 2) dX8_read_325 rfl rfl ?_
      exact wp_retI dX8_read_326 rfl (Nat.le_refl _) (Nat.le_refl _) (h2 _ _ ha (fun g => absurd zq313 (nI_ge (a := 1) (b := w) g.1 (by have := hR.2.2.1; omega))) ((FrM.rf I).u (Or.inr (Or.inr (Or.inr ⟨rfl, rfl⟩)))))
    · refine wp_iload_n (i := 3) dX8_read_316 rfl rfl ?_
      refine wp_iconst (v := 5) dX8_read_317 (by decide) ?_
      refine wp_icmp_ge (tgt := 325) dX8_read_318 (by decide) (fun zq318 => ?_) (fun zq318 => ?_) 
      · refine wp_iload_n (i := 2) dX8_read_325 rfl rfl ?_
        exact wp_retI dX8_read_326 rfl (Nat.le_refl _) (Nat.le_refl _) (h2 _ _ ha (fun g => absurd zq318 (nI_ge (a := w) (b := 5) g.2 (by decide))) ((FrM.rf I).u (Or.inr (Or.inr (Or.inr ⟨rfl, rfl⟩)))))
      · refine wp_iconst (v := (-1)) dX8_read_321 (by decide) ?_
        refine wp_goto (tgt := 326) dX8_read_322 (by decide) ?_
        exact wp_retI dX8_read_326 rfl (Nat.le_refl _) (Nat.le_refl _) (h3 w m K V F I ha ⟨Nat.lt_of_not_le (fun g => zq313 (nI_le (a := w) (b := 1) g (by decide))), Nat.lt_of_not_le (fun g => zq318 (nI_le (a := 5) (b := w) g (by have := hR.2.2.1; omega)))⟩ hR (FrM.rf I))
  | succ r ih =>
    intro x I w m K V F hx hc ha hR x5 x6 x7 hx5 hx6 hx7 h1 h2 h3
    refine wp_iload dX8_read_31 rfl ?_
    refine wp_iload_n (i := 2) dX8_read_33 rfl rfl ?_
    refine wp_icmp_ge (tgt := 301) dX8_read_34 (by decide) (fun zq34 => absurd zq34 (nI_ge (show x < nn by omega) (by omega))) (fun zq34 => ?_) 
    refine wp_aload_n (i := 0) dX8_read_37 rfl rfl ?_
    refine wp_getR dX8_read_38 fl_X8_104 rfl (st_k hst rfl) (st_r hst rfl) ?_
    refine wp_iload_n (i := 1) dX8_read_41 rfl rfl ?_
    refine wp_iload dX8_read_42 rfl ?_
    refine wp_iadd dX8_read_44 ?_
    refine wp_ild (j := (fr + x)) dX8_read_45 (st_t hst rfl) (n_add rfl rfl) (by omega) ?_
    rw [hc x (by omega)]
    refine wp_istore_8_5 dX8_read_46 (by first | rfl | assumption) ?_
    refine sg_dig d (c := cds x) hx6 ?_
    refine sg_kind d (c := cds x) hx7 ?_
    have hw := hR.2.2.1
    rcases (show w = 0 ∨ w = 1 ∨ w = 2 ∨ w = 3 ∨ w = 4 ∨ w = 5 by omega) with rfl | rfl | rfl | rfl | rfl | rfl
    · exact sg_r0 d hst hR (fun I1 w1 m1 K1 V1 F1 hs hR1 hf => ih (x + 1) I1 w1 m1 K1 V1 F1 (by omega) (fun z hz => by rw [hf.1 126 (by decide) (by decide) (by decide) (by decide)]; exact hc z hz) ((aft_s ha).trans hs) hR1 _ _ _ rfl rfl rfl (fun z I2 hz hs0 hs1 hf2 => h1 z I2 hz hs0 hs1 (hf.tr hf2)) (fun s I2 hs0 hs1 hf2 => h2 s I2 hs0 hs1 (hf.tr hf2)) (fun w2 m2 K2 V2 F2 I2 hs0 hs1 hs2 hf2 => h3 w2 m2 K2 V2 F2 I2 hs0 hs1 hs2 (hf.tr hf2))) (fun hs => h1 x I (by omega) ⟨_, ha⟩ ((aft_s ha).trans hs) (FrM.rf I))
    · exact sg_r1 d hst hR (fun I1 w1 m1 K1 V1 F1 hs hR1 hf => ih (x + 1) I1 w1 m1 K1 V1 F1 (by omega) (fun z hz => by rw [hf.1 126 (by decide) (by decide) (by decide) (by decide)]; exact hc z hz) ((aft_s ha).trans hs) hR1 _ _ _ rfl rfl rfl (fun z I2 hz hs0 hs1 hf2 => h1 z I2 hz hs0 hs1 (hf.tr hf2)) (fun s I2 hs0 hs1 hf2 => h2 s I2 hs0 hs1 (hf.tr hf2)) (fun w2 m2 K2 V2 F2 I2 hs0 hs1 hs2 hf2 => h3 w2 m2 K2 V2 F2 I2 hs0 hs1 hs2 (hf.tr hf2))) (fun hs => h1 x I (by omega) ⟨_, ha⟩ ((aft_s ha).trans hs) (FrM.rf I))
    · exact sg_r2 d hst hR (fun I1 w1 m1 K1 V1 F1 hs hR1 hf => ih (x + 1) I1 w1 m1 K1 V1 F1 (by omega) (fun z hz => by rw [hf.1 126 (by decide) (by decide) (by decide) (by decide)]; exact hc z hz) ((aft_s ha).trans hs) hR1 _ _ _ rfl rfl rfl (fun z I2 hz hs0 hs1 hf2 => h1 z I2 hz hs0 hs1 (hf.tr hf2)) (fun s I2 hs0 hs1 hf2 => h2 s I2 hs0 hs1 (hf.tr hf2)) (fun w2 m2 K2 V2 F2 I2 hs0 hs1 hs2 hf2 => h3 w2 m2 K2 V2 F2 I2 hs0 hs1 hs2 (hf.tr hf2))) (fun hs => h1 x I (by omega) ⟨_, ha⟩ ((aft_s ha).trans hs) (FrM.rf I))
    · exact sg_r3 d hst hR (fun I1 w1 m1 K1 V1 F1 hs hR1 hf => ih (x + 1) I1 w1 m1 K1 V1 F1 (by omega) (fun z hz => by rw [hf.1 126 (by decide) (by decide) (by decide) (by decide)]; exact hc z hz) ((aft_s ha).trans hs) hR1 _ _ _ rfl rfl rfl (fun z I2 hz hs0 hs1 hf2 => h1 z I2 hz hs0 hs1 (hf.tr hf2)) (fun s I2 hs0 hs1 hf2 => h2 s I2 hs0 hs1 (hf.tr hf2)) (fun w2 m2 K2 V2 F2 I2 hs0 hs1 hs2 hf2 => h3 w2 m2 K2 V2 F2 I2 hs0 hs1 hs2 (hf.tr hf2))) (fun hs => h1 x I (by omega) ⟨_, ha⟩ ((aft_s ha).trans hs) (FrM.rf I))
    · exact sg_r4 d hst hR (fun I1 w1 m1 K1 V1 F1 hs hR1 hf => ih (x + 1) I1 w1 m1 K1 V1 F1 (by omega) (fun z hz => by rw [hf.1 126 (by decide) (by decide) (by decide) (by decide)]; exact hc z hz) ((aft_s ha).trans hs) hR1 _ _ _ rfl rfl rfl (fun z I2 hz hs0 hs1 hf2 => h1 z I2 hz hs0 hs1 (hf.tr hf2)) (fun s I2 hs0 hs1 hf2 => h2 s I2 hs0 hs1 (hf.tr hf2)) (fun w2 m2 K2 V2 F2 I2 hs0 hs1 hs2 hf2 => h3 w2 m2 K2 V2 F2 I2 hs0 hs1 hs2 (hf.tr hf2))) (fun hs => h1 x I (by omega) ⟨_, ha⟩ ((aft_s ha).trans hs) (FrM.rf I))
    · exact sg_r5 d hst hR (fun I1 w1 m1 K1 V1 F1 hs hR1 hf => ih (x + 1) I1 w1 m1 K1 V1 F1 (by omega) (fun z hz => by rw [hf.1 126 (by decide) (by decide) (by decide) (by decide)]; exact hc z hz) ((aft_s ha).trans hs) hR1 _ _ _ rfl rfl rfl (fun z I2 hz hs0 hs1 hf2 => h1 z I2 hz hs0 hs1 (hf.tr hf2)) (fun s I2 hs0 hs1 hf2 => h2 s I2 hs0 hs1 (hf.tr hf2)) (fun w2 m2 K2 V2 F2 I2 hs0 hs1 hs2 hf2 => h3 w2 m2 K2 V2 F2 I2 hs0 hs1 hs2 (hf.tr hf2))) (fun hs => h1 x I (by omega) ⟨_, ha⟩ ((aft_s ha).trans hs) (FrM.rf I))

theorem lp_r0 (d : Nat) {n : Nat} {t : eT} {R : eR} {Q : eQt} (hst : ST n t R) {fr nn : Int32} : ∀ (r k : Nat) (I : eI), k + r = 100 → wp yX8_read cX8_read 8 (some .int) d 0 0 Q 0 0 21 [.ref 94, .int fr, .int nn, .int (nI 100), vU, vU, vU, vU] [] n t (eG I 100 (fun z => if k ≤ z ∧ z < 100 then 0 else I 100 z)) R → wp yX8_read cX8_read 8 (some .int) d 0 0 Q 0 0 2 [.ref 94, .int fr, .int nn, .int (nI k), vU, vU, vU, vU] [] n t I R := by
  intro r
  induction r with
  | zero =>
    intro k I hk hq
    obtain rfl : k = 100 := by omega
    have e0 : (eG I 100 (fun z => if 100 ≤ z ∧ z < 100 then 0 else I 100 z)) = I := eG_id (fun y => if_neg (by omega))
    rw [e0] at hq
    refine wp_iload_n (i := 3) dX8_read_2 rfl rfl ?_
    refine wp_bipush (v := 100) dX8_read_3 (by decide) ?_
    refine wp_icmp_ge (tgt := 21) dX8_read_5 (by decide) (fun zq5 => ?_) (fun zq5 => absurd (nI_le (show 100 ≤ 100 by decide) (by decide)) zq5) 
    exact hq
  | succ r ih =>
    intro k I hk hq
    refine wp_iload_n (i := 3) dX8_read_2 rfl rfl ?_
    refine wp_bipush (v := 100) dX8_read_3 (by decide) ?_
    refine wp_icmp_ge (tgt := 21) dX8_read_5 (by decide) (fun zq5 => absurd zq5 (nI_ge (show k < 100 by omega) (by decide))) (fun zq5 => ?_) 
    refine wp_aload_n (i := 0) dX8_read_8 rfl rfl ?_
    refine wp_getR dX8_read_9 fl_X8_25 rfl (st_k hst rfl) (st_r hst rfl) ?_
    refine wp_iload_n (i := 3) dX8_read_12 rfl rfl ?_
    refine wp_iconst (v := 0) dX8_read_13 (by decide) ?_
    refine wp_ist (j := k) dX8_read_14 (st_t hst rfl) rfl (by omega) ?_
    refine wp_iinc_8_3 (v := nI (k + 1)) dX8_read_15 (n_add rfl rfl) ?_
    refine wp_goto (tgt := 2) dX8_read_18 (by decide) ?_
    refine ih (k + 1) _ (by omega) ?_
    have e9 : (eG (eU I 100 k 0) 100 (fun z => if k + 1 ≤ z ∧ z < 100 then 0 else (eU I 100 k 0) 100 z)) = (eG I 100 (fun z => if k ≤ z ∧ z < 100 then 0 else I 100 z)) := eG_st (fun y => by
      by_cases h1 : y = k
      · subst h1
        rw [if_neg (by omega), if_pos (by omega), eU_at]
      · by_cases h2 : k + 1 ≤ y ∧ y < 100
        · rw [if_pos h2, if_pos (by omega)]
        · rw [if_neg h2, if_neg (by omega), eU_c h1])
    rw [e9]
    exact hq

theorem c_read (d : Nat) {n : Nat} {t : eT} {I : eI} {R : eR} {Q : Int32 → Nat → eT → eI → eR → Prop} (hst : ST n t R) {fr nn : Nat} (hb : fr + nn ≤ 240) {cds : Nat → Int32} (hc : ∀ z, z < nn → I 126 (fr + z) = cds z) (h1 : ∀ z I2, z < nn → (∃ s, aft cds z = some s) → aft cds (z + 1) = none → FrM I I2 → Q (nI z) n t I2 R) (h2 : ∀ s I2, aft cds nn = some s → ¬ (1 < s.1 ∧ s.1 < 5) → FrM I I2 → Q (nI nn) n t I2 R) (h3 : ∀ w m K V F I2, aft cds nn = some (w, m, K, V, F) → (1 < w ∧ w < 5) → RM I2 w m K V F → FrM I I2 → Q (-1) n t (eU I2 94 5 (nI (m + 1))) R) : MC yX8_read cX8_read 8 (some .int) (d + 1) 0 0 [.ref 94, .int (nI fr), .int (nI nn)] n t I R (qI Q) := by
  refine mc_intro (L0 := [.ref 94, .int (nI fr), .int (nI nn), vU, vU, vU, vU, vU]) (by decide) rfl (Nat.le_of_ble_eq_true rfl) ?_
  refine wp_iconst (v := 0) dX8_read_0 (by decide) ?_
  refine wp_istore_8_3 dX8_read_1 rfl ?_
  refine lp_r0 _ hst 100 0 _ rfl ?_
  refine wp_aload_n (i := 0) dX8_read_21 rfl rfl ?_
  refine wp_iconst (v := 0) dX8_read_22 (by decide) ?_
  refine wp_putI dX8_read_23 fl_X8_146 rfl (Or.inl rfl) (st_k hst rfl) ?_
  refine wp_iconst (v := 0) dX8_read_26 (by decide) ?_
  refine wp_istore_8_3 dX8_read_27 rfl ?_
  refine wp_iconst (v := 0) dX8_read_28 (by decide) ?_
  refine wp_istore_8_4 dX8_read_29 rfl ?_
  have hf : FrM I (eU (eG I 100 (fun z => if 0 ≤ z ∧ z < 100 then 0 else I 100 z)) 94 5 0) := FrM.u ⟨fun a h3 h4 h5 h6 => eG_ne h6, fun f hf => rfl⟩ (Or.inr (Or.inr (Or.inr ⟨rfl, rfl⟩)))
  refine lp_rd d hst hb nn 0 (eU (eG I 100 (fun z => if 0 ≤ z ∧ z < 100 then 0 else I 100 z)) 94 5 0) 0 0 (fun _ => 0) (fun _ => 0) (fun _ _ => 0) (by omega) (by exact hc) rfl ⟨rfl, by decide, by decide, fun x hx => by omega, fun a b ha hb2 => ?_⟩ vU vU vU rfl rfl rfl (fun z I2 hz hs0 hs1 hf2 => h1 z I2 hz hs0 hs1 (hf.tr hf2)) (fun s I2 hs0 hs1 hf2 => h2 s I2 hs0 hs1 (hf.tr hf2)) (fun w2 m2 K2 V2 F2 I2 hs0 hs1 hs2 hf2 => h3 w2 m2 K2 V2 F2 I2 hs0 hs1 hs2 (hf.tr hf2))
  show (eG I 100 _ 100) _ = _
  rw [eG_eq]
  exact if_pos (by omega)

