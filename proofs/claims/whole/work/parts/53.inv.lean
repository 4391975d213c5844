/-! what holds between two calls -/
def occ (row : Nat → Int32) (b : Nat) (e : Int32) : Nat → Nat
  | 0 => 0
  | i + 1 => occ row b e i + (if row (b + i) = e then 1 else 0)
def IG (m : Nat) (I : eI) : Prop := I 4 3 = nI m ∧ I 94 9 = nI m ∧ I 52 0 = I 94 26 ∧ (∃ s, s ≤ 10 ∧ I 94 26 = nI s) ∧ I 52 1 = I 94 27 ∧ I 4 8 = I 94 42 ∧ I 4 9 = I 94 0
def IP (k : Nat) (I : eI) : Prop := I 5 0 = nI k ∧ I 94 1 = nI k ∧ (∀ x, x < k → I 6 x = I 95 x ∧ ∃ v, v ≤ 2 ∧ I 95 x = nI v) ∧ (∀ x, x < k → I 7 x = I 96 x ∧ ∃ v, v ≤ 999 ∧ I 96 x = nI v) ∧ ∀ a b, a < k → b < k → I (9 + a) b = I 97 (10 * a + b) ∧ ∃ v, v ≤ 99 ∧ I 97 (10 * a + b) = nI v
def IA1 (I : eI) (p : Nat) : Prop := (I (55 + 10 * p) 0 = I 101 p ∧ ∃ v, v ≤ 2 ∧ I 101 p = nI v) ∧ I (55 + 10 * p) 1 = I 102 p ∧ I (55 + 10 * p) 2 = I 103 p ∧ ∃ v, v ≤ 10 ∧ I 103 p = nI v
def IA2 (I : eI) (p : Nat) : Prop := I (54 + 10 * p) 3 = I 117 p ∧ I (54 + 10 * p) 4 = I 114 p ∧ (I 114 p = -9 ∨ ∃ x, x < 10 ∧ I 114 p = nI x) ∧ I (54 + 10 * p) 5 = I 116 p ∧ (∃ e, e < 3 ∧ I 116 p = nI e) ∧ I (54 + 10 * p) 6 = I 115 p
def IA3 (c : Nat) (I : eI) (p : Nat) : Prop := ∃ lc, lc ≤ 12 ∧ I (54 + 10 * p) 9 = nI lc ∧ I 119 p = nI lc ∧ (∀ i, i < lc → I (61 + 10 * p) i = I 120 (12 * p + i) ∧ ∃ e, e < 3 ∧ I 120 (12 * p + i) = nI e) ∧ ∀ e, e < 3 → I (60 + 10 * p) e = I 118 (3 * p + e) ∧ ∃ ce, ce ≤ c ∧ I 118 (3 * p + e) = nI ce ∧ occ (I 120) (12 * p) (nI e) lc ≤ ce
def IA4 (I : eI) (p : Nat) : Prop := ∃ tc, tc ≤ 10 ∧ I (54 + 10 * p) 11 = nI tc ∧ I 121 p = nI tc ∧ ∀ i, i < 10 → I (62 + 10 * p) i = I 122 (10 * p + i) ∧ -99 ≤ (I 122 (10 * p + i)).toInt ∧ (I 122 (10 * p + i)).toInt ≤ 99
def IA5 (I : eI) (p : Nat) : Prop := ∀ q e, q < 4 → e < 2 → (I (63 + 10 * p) (e * 4 + q) = -1 ∧ I 123 (8 * p + 2 * q + e) = -9) ∨ (I (63 + 10 * p) (e * 4 + q) = I 123 (8 * p + 2 * q + e) ∧ 0 ≤ (I 123 (8 * p + 2 * q + e)).toInt)
def selL (la : Nat → Option Nat) : Nat → Bool := fun a => (la a).isSome
def LR (I : eI) (u rp rh p k : Nat) : Prop := ∃ la : Nat → Option Nat, LayC I u la ∧ LayM I rp p la ∧ (∀ a, (la a).isSome = true → a < k) ∧ ci (selL la) 10 ≤ 5 ∧ ((I u 0 = 0 ∧ I rh p = 0 ∧ ∀ a, a < 10 → la a = none) ∨ (¬ I u 0 = 0 ∧ I rh p = 1 ∧ 1 ≤ ci (selL la) 10))
def IL (k : Nat) (I : eI) (R : eR) (p : Nat) : Prop := ∃ u v, ((u = 56 + 10 * p ∧ v = 58 + 10 * p) ∨ (u = 58 + 10 * p ∧ v = 56 + 10 * p)) ∧ R (54 + 10 * p) 1 = some u ∧ R (54 + 10 * p) 2 = some v ∧ LR I u 106 104 p k ∧ LR I v 107 105 p k ∧ (I 104 p = 0 → I 105 p = 0)
def IS1 (n : Nat) (t : eT) (I : eI) (R : eR) (s : Nat) : Prop := (R 53 s = none ∧ I 124 s = -1) ∨ ∃ a cc len, R 53 s = some a ∧ 150 ≤ a ∧ a < n ∧ (t a).1 = 6 ∧ R a 1 = some cc ∧ 150 ≤ cc ∧ cc < n ∧ t cc = (9, len) ∧ len ≤ 60 ∧ I 124 s = nI len ∧ I a 0 = I 125 s ∧ ∀ i, i < len → I cc i = I 126 (60 * s + i)
def IS (n : Nat) (t : eT) (I : eI) (R : eR) : Prop := (∀ s, s < 4 → IS1 n t I R s) ∧ (∀ s s2 a a2 cc cc2, s < 4 → s2 < 4 → s ≠ s2 → R 53 s = some a → R 53 s2 = some a2 → R a 1 = some cc → R a2 1 = some cc2 → a ≠ a2 ∧ cc ≠ cc2) ∧ SK I
def IVP (c m k n : Nat) (t : eT) (I : eI) (R : eR) (L : Nat) (xs : Nat → Int32) : Prop := m ≤ 4 ∧ k ≤ 10 ∧ ST n t R ∧ FZ t I L xs ∧ IG m I ∧ IP k I ∧ (∀ p, p < 4 → IA1 I p) ∧ (∀ p, p < 4 → IA2 I p) ∧ (∀ p, p < 4 → IA3 c I p) ∧ (∀ p, p < 4 → IA4 I p) ∧ (∀ p, p < 4 → IA5 I p) ∧ (∀ p, p < 4 → IL k I R p) ∧ IS n t I R
def Inv (c n : Nat) (t : eT) (I : eI) (R : eR) (L : Nat) (xs : Nat → Int32) : Prop := ∃ m k, IVP c m k n t I R L xs
section FRM
variable {I I2 : eI} {R R2 : eR} {n n2 : Nat} {t t2 : eT} {k p c c2 L : Nat} {xs : Nat → Int32}
theorem FZ.fr (h : FZ t I L xs) (ht : ∀ a, a < 4 → t2 a = t a) (hs : ∀ a, a < 4 → I2 a = I a) : FZ t2 I2 L xs := by
  unfold FZ at *
  rw [ht 0 (by decide), ht 1 (by decide), ht 2 (by decide), ht 3 (by decide), hs 0 (by decide), hs 1 (by decide), hs 2 (by decide), hs 3 (by decide)]
  exact h
theorem IP.fr (h : IP k I) (h1 : ∀ a, 5 ≤ a → a < 19 → I2 a = I a) (h2 : ∀ a, 95 ≤ a → a < 98 → I2 a = I a) (h3 : I2 94 1 = I 94 1) (hk : k ≤ 10) : IP k I2 := by
  unfold IP at *
  rw [h1 5 (by decide) (by decide), h1 6 (by decide) (by decide), h1 7 (by decide) (by decide), h2 95 (by decide) (by decide), h2 96 (by decide) (by decide), h2 97 (by decide) (by decide), h3]
  refine ⟨h.1, h.2.1, h.2.2.1, h.2.2.2.1, fun a b ha hb => ?_⟩
  rw [h1 (9 + a) (by omega) (by omega)]
  exact h.2.2.2.2 a b ha hb
theorem IA1.fr (h : IA1 I p) (e0 : I2 (55 + 10 * p) = I (55 + 10 * p)) (e1 : I2 101 p = I 101 p) (e2 : I2 102 p = I 102 p) (e3 : I2 103 p = I 103 p) : IA1 I2 p := by
  unfold IA1 at *
  rw [e0, e1, e2, e3]
  exact h
theorem IA2.fr (h : IA2 I p) (e0 : ∀ f, f < 7 → I2 (54 + 10 * p) f = I (54 + 10 * p) f) (e1 : ∀ a, 114 ≤ a → a < 118 → I2 a p = I a p) : IA2 I2 p := by
  unfold IA2 at *
  rw [e0 3 (by decide), e0 4 (by decide), e0 5 (by decide), e0 6 (by decide), e1 114 (by decide) (by decide), e1 115 (by decide) (by decide), e1 116 (by decide) (by decide), e1 117 (by decide) (by decide)]
  exact h
theorem occ_cg {r r2 : Nat → Int32} {b : Nat} {e : Int32} : ∀ i, (∀ x, x < i → r (b + x) = r2 (b + x)) → occ r b e i = occ r2 b e i
  | 0, _ => rfl
  | i + 1, h => by
    show occ r b e i + (if r (b + i) = e then 1 else 0) = occ r2 b e i + (if r2 (b + i) = e then 1 else 0)
    rw [occ_cg i (fun x hx => h x (by omega)), h i (by omega)]
theorem IA3.fr (h : IA3 c I p) (hc : c ≤ c2) (e0 : I2 (54 + 10 * p) 9 = I (54 + 10 * p) 9) (e1 : I2 (60 + 10 * p) = I (60 + 10 * p)) (e2 : I2 (61 + 10 * p) = I (61 + 10 * p)) (e3 : ∀ e, e < 3 → I2 118 (3 * p + e) = I 118 (3 * p + e)) (e4 : I2 119 p = I 119 p) (e5 : ∀ i, i < 12 → I2 120 (12 * p + i) = I 120 (12 * p + i)) : IA3 c2 I2 p := by
  obtain ⟨lc, h1, h2, h3, h4, h5⟩ := h
  refine ⟨lc, h1, by rw [e0]; exact h2, by rw [e4]; exact h3, fun i hi => ?_, fun e he => ?_⟩
  · rw [e2, e5 i (by omega)]; exact h4 i hi
  · obtain ⟨a1, ce, a2, a3, a4⟩ := h5 e he
    rw [e1, e3 e he]
    exact ⟨a1, ce, by omega, a3, by rw [occ_cg lc (fun x hx => e5 x (by omega))]; exact a4⟩
theorem IA4.fr (h : IA4 I p) (e0 : I2 (54 + 10 * p) 11 = I (54 + 10 * p) 11) (e1 : I2 (62 + 10 * p) = I (62 + 10 * p)) (e2 : I2 121 p = I 121 p) (e3 : ∀ i, i < 10 → I2 122 (10 * p + i) = I 122 (10 * p + i)) : IA4 I2 p := by
  obtain ⟨tc, h1, h2, h3, h4⟩ := h
  refine ⟨tc, h1, by rw [e0]; exact h2, by rw [e2]; exact h3, fun i hi => ?_⟩
  rw [e1, e3 i hi]
  exact h4 i hi
theorem IA5.fr (h : IA5 I p) (hp : p < 4) (e0 : I2 (63 + 10 * p) = I (63 + 10 * p)) (e1 : ∀ i, i < 8 → I2 123 (8 * p + i) = I 123 (8 * p + i)) : IA5 I2 p := by
  intro q e hq he
  rw [e0, show 8 * p + 2 * q + e = 8 * p + (2 * q + e) by omega, e1 (2 * q + e) (by omega), ← show 8 * p + 2 * q + e = 8 * p + (2 * q + e) by omega]
  exact h q e hq he
theorem LR.fr {u rp rh : Nat} (h : LR I u rp rh p k) (e0 : I2 u 0 = I u 0) (e1 : ∀ x, x < 10 → I2 (u + 1) x = I (u + 1) x) (e2 : ∀ x, x < 10 → I2 rp (10 * p + x) = I rp (10 * p + x)) (e3 : I2 rh p = I rh p) : LR I2 u rp rh p k := by
  obtain ⟨la, h1, h2, h3, h4, h5⟩ := h
  refine ⟨la, fun a ha => ?_, fun a ha => ?_, h3, h4, by rw [e0, e3]; exact h5⟩
  · rw [e0, e1 a ha]; exact h1 a ha
  · rw [e2 a ha]; exact h2 a ha
theorem IL.fr (h : IL k I R p) (e0 : ∀ a, (a = 56 + 10 * p ∨ a = 58 + 10 * p) → I2 a 0 = I a 0 ∧ ∀ x, x < 10 → I2 (a + 1) x = I (a + 1) x) (e1 : ∀ x, x < 10 → I2 106 (10 * p + x) = I 106 (10 * p + x) ∧ I2 107 (10 * p + x) = I 107 (10 * p + x)) (e2 : I2 104 p = I 104 p) (e3 : I2 105 p = I 105 p) (e4 : ∀ f, R2 (54 + 10 * p) f = R (54 + 10 * p) f) : IL k I2 R2 p := by
  obtain ⟨u, v, h1, h2, h3, h4, h5, h6⟩ := h
  refine ⟨u, v, h1, by rw [e4]; exact h2, by rw [e4]; exact h3, h4.fr (e0 u (by omega)).1 (e0 u (by omega)).2 (fun x hx => (e1 x hx).1) e2, h5.fr (e0 v (by omega)).1 (e0 v (by omega)).2 (fun x hx => (e1 x hx).2) e3, by rw [e2, e3]; exact h6⟩
theorem IS1.fr {s : Nat} (h : IS1 n t I R s) (hn : n ≤ n2) (ht : ∀ a, a < n → t2 a = t a) (hI : ∀ a, 150 ≤ a → a < n → I2 a = I a) (e1 : I2 124 s = I 124 s) (e2 : I2 125 s = I 125 s) (e3 : ∀ i, i < 60 → I2 126 (60 * s + i) = I 126 (60 * s + i)) (hR : R2 53 s = R 53 s) (hR2 : ∀ a, 150 ≤ a → a < n → R2 a 1 = R a 1) : IS1 n2 t2 I2 R2 s := by
  rcases h with ⟨h1, h2⟩ | ⟨a, cc, len, h1, h2, h3, h4, h5, h6, h7, h8, h9, h10, h11, h12⟩
  · exact Or.inl ⟨by rw [hR]; exact h1, by rw [e1]; exact h2⟩
  · refine Or.inr ⟨a, cc, len, by rw [hR]; exact h1, h2, by omega, by rw [ht a h3]; exact h4, by rw [hR2 a h2 h3]; exact h5, h6, by omega, by rw [ht cc h7]; exact h8, h9, by rw [e1]; exact h10, by rw [hI a h2 h3, e2]; exact h11, fun i hi => ?_⟩
    rw [hI cc h6 h7, e3 i (by omega)]
    exact h12 i hi
theorem IS.fr (h : IS n t I R) (hI : ∀ a, 132 ≤ a → I2 a = I a) (e : ∀ a, 124 ≤ a → a < 127 → I2 a = I a) (hR : ∀ a f, (a = 53 ∨ 150 ≤ a) → R2 a f = R a f) : IS n t I2 R2 := by
  refine ⟨fun s hs => (h.1 s hs).fr (Nat.le_refl _) (fun _ _ => rfl) (fun a ha _ => hI a (by omega)) (by rw [e 124 (by decide) (by decide)]) (by rw [e 125 (by decide) (by decide)]) (fun i _ => by rw [e 126 (by decide) (by decide)]) (hR 53 s (Or.inl rfl)) (fun a ha _ => hR a 1 (Or.inr ha)), fun s s2 a a2 cc cc2 h1 h2 h3 h4 h5 h6 h7 => ?_, h.2.2.fr (fun a h1 _ => hI a h1)⟩
  rw [hR 53 s (Or.inl rfl)] at h4
  rw [hR 53 s2 (Or.inl rfl)] at h5
  have b1 : 150 ≤ a := by
    rcases h.1 s h1 with ⟨q, -⟩ | ⟨b, cb, lb, q1, q2, -⟩
    · rw [q] at h4; cases h4
    · rw [q1] at h4; cases h4; exact q2
  have b2 : 150 ≤ a2 := by
    rcases h.1 s2 h2 with ⟨q, -⟩ | ⟨b, cb, lb, q1, q2, -⟩
    · rw [q] at h5; cases h5
    · rw [q1] at h5; cases h5; exact q2
  rw [hR a 1 (Or.inr b1)] at h6
  rw [hR a2 1 (Or.inr b2)] at h7
  exact h.2.1 s s2 a a2 cc cc2 h1 h2 h3 h4 h5 h6 h7
end FRM
/-- the invariant's data, where no cell of a person, a part, a sheet changes -/
theorem IVP.fr {c c2 m k n : Nat} {t : eT} {I I2 : eI} {R : eR} {L : Nat} {xs : Nat → Int32} (h : IVP c m k n t I R L xs) (hc : c ≤ c2) (hs : ∀ a, ¬ (a = 4 ∨ (18 < a ∧ a < 52) ∨ a = 94 ∨ (97 < a ∧ a < 101) ∨ (107 < a ∧ a < 114) ∨ (126 < a ∧ a < 132)) → I2 a = I a) (h1 : I2 94 1 = I 94 1) (hg : IG m I2) : IVP c2 m k n t I2 R L xs := by
  obtain ⟨a1, a2, a3, a4, a5, a6, a7, a8, a9, a10, a11, a12, a13⟩ := h
  refine ⟨a1, a2, a3, a4.fr (fun _ _ => rfl) (fun a ha => hs a (by omega)), hg, a6.fr (fun a b c => hs a (by omega)) (fun a b c => hs a (by omega)) h1 a2, fun p hp => (a7 p hp).fr (hs _ (by omega)) (by rw [hs 101 (by omega)]) (by rw [hs 102 (by omega)]) (by rw [hs 103 (by omega)]), fun p hp => (a8 p hp).fr (fun f _ => by rw [hs _ (by omega)]) (fun a b c => by rw [hs a (by omega)]), fun p hp => (a9 p hp).fr hc (by rw [hs _ (by omega)]) (hs _ (by omega)) (hs _ (by omega)) (fun e _ => by rw [hs 118 (by omega)]) (by rw [hs 119 (by omega)]) (fun i _ => by rw [hs 120 (by omega)]), fun p hp => (a10 p hp).fr (by rw [hs _ (by omega)]) (hs _ (by omega)) (by rw [hs 121 (by omega)]) (fun i _ => by rw [hs 122 (by omega)]), fun p hp => (a11 p hp).fr hp (hs _ (by omega)) (fun i _ => by rw [hs 123 (by omega)]), fun p hp => (a12 p hp).fr (fun a ha => ⟨by rw [hs a (by omega)], fun x _ => by rw [hs (a + 1) (by omega)]⟩) (fun x _ => ⟨by rw [hs 106 (by omega)], by rw [hs 107 (by omega)]⟩) (by rw [hs 104 (by omega)]) (by rw [hs 105 (by omega)]) (fun _ => rfl), a13.fr (fun a ha => hs a (by omega)) (fun a b c => hs a (by omega)) (fun _ _ _ => rfl)⟩
theorem IVP.up {c c2 m k n : Nat} {t : eT} {I : eI} {R : eR} {L : Nat} {xs : Nat → Int32} (h : IVP c m k n t I R L xs) (hc : c ≤ c2) : IVP c2 m k n t I R L xs := h.fr hc (fun _ _ => rfl) rfl h.2.2.2.2.1
/-- what holds between the class's answer and the reference's -/
def MID (t : eT) (I : eI) (L : Nat) (xs : Nat → Int32) : Prop := t 3 = (14, L) ∧ I 3 = xs ∧ (t 94).1 = 8
theorem IVP.mid {c m k n : Nat} {t : eT} {I : eI} {R : eR} {L : Nat} {xs : Nat → Int32} (h : IVP c m k n t I R L xs) : MID t I L xs := ⟨h.2.2.2.1.2.2.2.1, h.2.2.2.1.2.2.2.2.2.2.2.2.2.2.2.2, st_k h.2.2.1 rfl⟩
theorem no_j {m : Nat} {p : Int32} {j : Nat} (h : ∀ j, j < m → p ≠ nI j) (hj : j < m) (e : p = nI j) : False := h j hj e
