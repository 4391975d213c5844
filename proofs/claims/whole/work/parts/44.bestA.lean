/-! bits of a set -/
def bt (x : Int32) (k : Nat) : Bool := x.toBitVec.getLsbD k
theorem one_bit (x : BitVec 32) : (x &&& 1#32 = 1#32) ↔ x.getLsbD 0 = true := by
  rw [BitVec.and_one_eq_setWidth_ofBool_getLsbD]
  cases x.getLsbD 0 <;> decide
theorem sh_amt : ∀ k, k < 16 → ((nI k &&& 31).toBitVec.smod 32#32) = BitVec.ofNat 32 k := by decide +kernel
theorem bt_iff (x : Int32) {k : Nat} (hk : k < 16) : ((x >>> (nI k &&& 31)) &&& 1 = 1) ↔ bt x k = true := by
  rw [← Int32.toBitVec_inj, Int32.toBitVec_and, Int32.toBitVec_shiftRight, show (1 : Int32).toBitVec = 1#32 from rfl, one_bit]
  have e : ((nI k &&& 31).toBitVec.smod 32) = BitVec.ofNat 32 k := sh_amt k hk
  rw [e]
  unfold bt
  rw [BitVec.sshiftRight_eq', BitVec.getLsbD_sshiftRight, BitVec.toNat_ofNat, Nat.mod_eq_of_lt (by omega)]
  rw [if_pos (by omega)]
  simp
theorem bt_and (x y : Int32) (k : Nat) : bt (x &&& y) k = (bt x k && bt y k) := by
  unfold bt
  rw [Int32.toBitVec_and, BitVec.getLsbD_and]
theorem bt_or (x y : Int32) (k : Nat) : bt (x ||| y) k = (bt x k || bt y k) := by
  unfold bt
  rw [Int32.toBitVec_or, BitVec.getLsbD_or]
theorem bt_not (x : Int32) {k : Nat} (hk : k < 32) : bt (x ^^^ -1) k = !bt x k := by
  unfold bt
  rw [Int32.toBitVec_xor, show (-1 : Int32).toBitVec = BitVec.allOnes 32 from rfl, BitVec.getLsbD_xor, BitVec.getLsbD_allOnes]
  simp [hk]
theorem bt_shl : ∀ j, j < 12 → ∀ k, k < 12 → bt ((1 : Int32) <<< (nI j &&& 31)) k = decide (k = j) := by decide +kernel
theorem bt_0 (k : Nat) : bt 0 k = false := by
  unfold bt
  show (0#32).getLsbD k = false
  simp
theorem bt_at (x : Int32) {k : Nat} (hk : k < 16) : bitAt x k ↔ bt x k = true := bt_iff x hk
/-! the best laying: how far, how dear -/
def nd (x y : Nat) : Nat := if x ≤ y then y - x else x - y
def apN (a b : Nat) : Nat := Nat.max (nd (a % 4) (b % 4)) (nd (a / 4) (b / 4))
def wyN (a b : Nat) : Nat := nd (a % 4) (b % 4) + nd (a / 4) (b / 4)
theorem wy_c : ∀ a, a < 12 → ∀ b, b < 12 → wayI (nI a) (nI b) = nI (wyN a b) := by decide +kernel
theorem ap_c : ∀ a, a < 12 → ∀ b, b < 12 → maxI (absI (nI a % 4 - nI b % 4)) (absI (nI a / 4 - nI b / 4)) = nI (apN a b) := by decide +kernel
theorem wy_m : ∀ a, a < 12 → ∀ b, b < 12 → absI (nI a % 4 - nI b % 4) + absI (nI a / 4 - nI b / 4) = nI (wyN b a) := by decide +kernel
theorem ap_m : ∀ a, a < 12 → ∀ b, b < 12 → (if absI (nI a / 4 - nI b / 4) < absI (nI a % 4 - nI b % 4) then absI (nI a % 4 - nI b % 4) else absI (nI a / 4 - nI b / 4)) = nI (apN a b) := by decide +kernel
theorem ap_wy : ∀ a, a < 12 → ∀ b, b < 12 → apN a b ≤ wyN a b ∧ wyN a b ≤ 5 := by decide +kernel
abbrev BS : Type := Option (Nat × (Nat → Nat))
def inc (pull : Nat → Nat → Nat) (k : Nat) (pos : Nat → Nat) (pl : Nat) : Nat → Nat
  | 0 => 0
  | j + 1 => inc pull k pos pl j + pull k j * wyN (pos j) pl
def prc (pull : Nat → Nat → Nat) (pos : Nat → Nat) : Nat → Nat
  | 0 => 0
  | k + 1 => prc pull pos k + inc pull k pos (pos k) k
def okx (rb : Nat → Bool) (w : Nat) (pos : Nat → Nat) (pl : Nat) : Nat → Bool
  | 0 => rb pl
  | x + 1 => okx rb w pos pl x && decide (w < apN (pos x) pl)
def bsU (b : BS) (p : Nat) (pos : Nat → Nat) : BS := match b with
  | none => some (p, pos)
  | some q => if p < q.1 then some (p, pos) else some q
def vlp (f : Nat → BS → BS) (g : Nat → Bool) : Nat → BS → BS
  | 0, b => b
  | m + 1, b => vlp f g m (if g (11 - m) = true then f (11 - m) b else b)
def vis (pull : Nat → Nat → Nat) (rb : Nat → Bool) (w : Nat) : Nat → Nat → (Nat → Nat) → BS → BS
  | 0, k, pos, b => bsU b (prc pull pos k) pos
  | r + 1, k, pos, b => vlp (fun pl b2 => vis pull rb w r (k + 1) (eG pos k pl) b2) (fun pl => okx rb w pos pl k) 12 b
def bpr : BS → Nat
  | none => 2147483647
  | some q => q.1
def psm (pull : Nat → Nat → Nat) (k : Nat) : Nat → Nat
  | 0 => 0
  | j + 1 => psm pull k j + pull k j
def lrr (pull : Nat → Nat → Nat) (w : Nat) : Nat → Nat → Nat
  | 0, _ => 0
  | r + 1, k => lrr pull w r (k + 1) + psm pull k k * (w + 1)
def vcs (pull : Nat → Nat → Nat) (w : Nat) : Nat → Nat → Nat → (Nat → Bool) → (Nat → Nat) → BS → BS
  | 0, k, paid, _, pos, b => if bpr b ≤ paid + lrr pull w 0 k then b else some (paid, pos)
  | r + 1, k, paid, fr, pos, b => if bpr b ≤ paid + lrr pull w (r + 1) k then b else vlp (fun pl b2 => vcs pull w r (k + 1) (paid + inc pull k pos pl k) (fun q => fr q && !decide (apN pl q ≤ w)) (eG pos k pl) b2) fr 12 b
theorem inc_cg {pull : Nat → Nat → Nat} {k : Nat} {p1 p2 : Nat → Nat} {pl : Nat} : ∀ m, (∀ x, x < m → p1 x = p2 x) → inc pull k p1 pl m = inc pull k p2 pl m
  | 0, _ => rfl
  | m + 1, h => by
    show inc pull k p1 pl m + pull k m * wyN (p1 m) pl = inc pull k p2 pl m + pull k m * wyN (p2 m) pl
    rw [inc_cg m (fun x hx => h x (by omega)), h m (by omega)]
theorem prc_cg {pull : Nat → Nat → Nat} {p1 p2 : Nat → Nat} : ∀ k, (∀ x, x < k → p1 x = p2 x) → prc pull p1 k = prc pull p2 k
  | 0, _ => rfl
  | k + 1, h => by
    show prc pull p1 k + inc pull k p1 (p1 k) k = prc pull p2 k + inc pull k p2 (p2 k) k
    rw [prc_cg k (fun x hx => h x (by omega)), h k (by omega), inc_cg k (fun x hx => h x (by omega))]
theorem okx_cg {rb : Nat → Bool} {w : Nat} {p1 p2 : Nat → Nat} {pl : Nat} : ∀ k, (∀ x, x < k → p1 x = p2 x) → okx rb w p1 pl k = okx rb w p2 pl k
  | 0, _ => rfl
  | k + 1, h => by
    show (okx rb w p1 pl k && decide (w < apN (p1 k) pl)) = (okx rb w p2 pl k && decide (w < apN (p2 k) pl))
    rw [okx_cg k (fun x hx => h x (by omega)), h k (by omega)]
theorem prc_e (pull : Nat → Nat → Nat) (pos : Nat → Nat) (k pl : Nat) : prc pull (eG pos k pl) (k + 1) = prc pull pos k + inc pull k pos pl k := by
  show prc pull (eG pos k pl) k + inc pull k (eG pos k pl) (eG pos k pl k) k = _
  rw [eG_eq, prc_cg k (fun x hx => eG_ne (by omega)), inc_cg k (fun x hx => eG_ne (by omega))]
theorem okx_e {rb : Nat → Bool} {w : Nat} {pos : Nat → Nat} {k pl q : Nat} : okx rb w (eG pos k pl) q (k + 1) = (okx rb w pos q k && decide (w < apN pl q)) := by
  show (okx rb w (eG pos k pl) q k && decide (w < apN (eG pos k pl k) q)) = _
  rw [eG_eq, okx_cg k (fun x hx => eG_ne (by omega))]
theorem okx_lt {rb : Nat → Bool} {w : Nat} {pos : Nat → Nat} {pl : Nat} : ∀ k, okx rb w pos pl k = true → ∀ x, x < k → w < apN (pos x) pl
  | 0, _, x, hx => absurd hx (Nat.not_lt_zero x)
  | k + 1, h, x, hx => by
    have h2 : (okx rb w pos pl k && decide (w < apN (pos k) pl)) = true := h
    rw [Bool.and_eq_true, decide_eq_true_iff] at h2
    rcases Nat.lt_or_ge x k with g | g
    · exact okx_lt k h2.1 x g
    · obtain rfl : x = k := by omega
      exact h2.2
theorem inc_ge {pull : Nat → Nat → Nat} {k w pl : Nat} {pos : Nat → Nat} (hpl : pl < 12) : ∀ m, (∀ x, x < m → pos x < 12 ∧ w < apN (pos x) pl) → psm pull k m * (w + 1) ≤ inc pull k pos pl m
  | 0, _ => by show 0 * (w + 1) ≤ 0; omega
  | m + 1, h => by
    have ih := inc_ge (pull := pull) (k := k) hpl m (fun x hx => h x (by omega))
    have hm := h m (by omega)
    have h1 := (ap_wy (pos m) hm.1 pl hpl).1
    have h2 : pull k m * (w + 1) ≤ pull k m * wyN (pos m) pl := Nat.mul_le_mul_left _ (by omega)
    show (psm pull k m + pull k m) * (w + 1) ≤ inc pull k pos pl m + pull k m * wyN (pos m) pl
    rw [Nat.add_mul]
    omega
theorem vlp_cg {f f2 : Nat → BS → BS} {g g2 : Nat → Bool} : ∀ m b, m ≤ 12 → (∀ pl, pl < 12 → g pl = g2 pl) → (∀ pl b, pl < 12 → g pl = true → f pl b = f2 pl b) → vlp f g m b = vlp f2 g2 m b
  | 0, b, _, _, _ => rfl
  | m + 1, b, hm, hg, hf => by
    show vlp f g m (if g (11 - m) = true then f (11 - m) b else b) = vlp f2 g2 m (if g2 (11 - m) = true then f2 (11 - m) b else b)
    rw [← hg (11 - m) (by omega)]
    by_cases h : g (11 - m) = true
    · rw [if_pos h, if_pos h, hf (11 - m) b (by omega) h]
      exact vlp_cg m _ (by omega) hg hf
    · rw [if_neg h, if_neg h]
      exact vlp_cg m _ (by omega) hg hf
theorem vlp_id {f : Nat → BS → BS} {g : Nat → Bool} {b : BS} : ∀ m, m ≤ 12 → (∀ pl, pl < 12 → g pl = true → f pl b = b) → vlp f g m b = b
  | 0, _, _ => rfl
  | m + 1, hm, hf => by
    show vlp f g m (if g (11 - m) = true then f (11 - m) b else b) = b
    by_cases h : g (11 - m) = true
    · rw [if_pos h, hf (11 - m) (by omega) h]
      exact vlp_id m (by omega) hf
    · rw [if_neg h]
      exact vlp_id m (by omega) hf
/-- what is dear enough already finds nothing -/
theorem vis_prune {pull : Nat → Nat → Nat} {rb : Nat → Bool} {w : Nat} : ∀ (r k : Nat) (pos : Nat → Nat) (q : Nat × (Nat → Nat)), (∀ x, x < k → pos x < 12) → q.1 ≤ prc pull pos k + lrr pull w r k → vis pull rb w r k pos (some q) = some q
  | 0, k, pos, q, _, h => by
    show (if prc pull pos k < q.1 then some (prc pull pos k, pos) else some q) = some q
    have h2 : lrr pull w 0 k = 0 := rfl
    rw [if_neg (by omega)]
  | r + 1, k, pos, q, hp, h => by
    show vlp _ _ 12 (some q) = some q
    refine vlp_id 12 (Nat.le_refl _) (fun pl hpl hg => ?_)
    refine vis_prune r (k + 1) (eG pos k pl) q (fun x hx => ?_) ?_
    · by_cases e : x = k
      · subst e; rw [eG_eq]; exact hpl
      · rw [eG_ne e]; exact hp x (by omega)
    · rw [prc_e]
      have h1 := inc_ge (pull := pull) (k := k) (w := w) (pos := pos) hpl k (fun x hx => ⟨hp x hx, okx_lt k hg x hx⟩)
      have h2 : lrr pull w (r + 1) k = lrr pull w r (k + 1) + psm pull k k * (w + 1) := rfl
      omega
theorem inc_b {pull : Nat → Nat → Nat} {k pl : Nat} {pos : Nat → Nat} (hpl : pl < 12) (hu : ∀ a b, pull a b ≤ 198) : ∀ m, (∀ x, x < m → pos x < 12) → inc pull k pos pl m ≤ 990 * m
  | 0, _ => Nat.le_refl _
  | m + 1, h => by
    have ih := inc_b (k := k) hpl hu m (fun x hx => h x (by omega))
    have h1 : pull k m * wyN (pos m) pl ≤ 198 * 5 := Nat.mul_le_mul (hu k m) (ap_wy (pos m) (h m (by omega)) pl hpl).2
    show inc pull k pos pl m + pull k m * wyN (pos m) pl ≤ 990 * (m + 1)
    omega
theorem prc_b {pull : Nat → Nat → Nat} {pos : Nat → Nat} (hu : ∀ a b, pull a b ≤ 198) : ∀ k, k ≤ 5 → (∀ x, x < k → pos x < 12) → prc pull pos k ≤ 4950 * k
  | 0, _, _ => Nat.le_refl _
  | k + 1, hk, h => by
    have ih := prc_b hu k (by omega) (fun x hx => h x (by omega))
    have h1 := inc_b (k := k) (h k (by omega)) hu k (fun x hx => h x (by omega))
    show prc pull pos k + inc pull k pos (pos k) k ≤ 4950 * (k + 1)
    omega
theorem psm_b {pull : Nat → Nat → Nat} {k : Nat} (hu : ∀ a b, pull a b ≤ 198) : ∀ m, psm pull k m ≤ 198 * m
  | 0 => Nat.le_refl _
  | m + 1 => by
    have ih := psm_b (k := k) hu m
    have h1 := hu k m
    show psm pull k m + pull k m ≤ 198 * (m + 1)
    omega
theorem lrr_b {pull : Nat → Nat → Nat} {w : Nat} (hu : ∀ a b, pull a b ≤ 198) (hw : w ≤ 2) : ∀ r k, k + r ≤ 5 → lrr pull w r k ≤ 2970 * r
  | 0, _, _ => Nat.le_refl _
  | r + 1, k, h => by
    have ih := lrr_b hu hw r (k + 1) (by omega)
    have h1 := psm_b (k := k) hu k
    have h2 : psm pull k k * (w + 1) ≤ 990 * 3 := Nat.mul_le_mul (by omega) (by omega)
    show lrr pull w r (k + 1) + psm pull k k * (w + 1) ≤ 2970 * (r + 1)
    omega
/-- the class's way and the reference's find the same -/
theorem vcs_vis {pull : Nat → Nat → Nat} {rb : Nat → Bool} {w : Nat} (hu : ∀ a b, pull a b ≤ 198) (hw : w ≤ 2) : ∀ (r k paid : Nat) (fr : Nat → Bool) (pos : Nat → Nat) (b : BS), k + r ≤ 5 → (∀ x, x < k → pos x < 12) → paid = prc pull pos k → (∀ q, q < 12 → fr q = okx rb w pos q k) → vcs pull w r k paid fr pos b = vis pull rb w r k pos b
  | 0, k, paid, fr, pos, b, hk, hp, hd, hf => by
    show (if bpr b ≤ paid + lrr pull w 0 k then b else some (paid, pos)) = bsU b (prc pull pos k) pos
    have h0 : lrr pull w 0 k = 0 := rfl
    rw [← hd, h0, Nat.add_zero]
    have hb := prc_b (pos := pos) hu k (by omega) hp
    cases b with
    | none => rw [if_neg (by show ¬ 2147483647 ≤ paid; omega)]; rfl
    | some q =>
      show (if q.1 ≤ paid then some q else some (paid, pos)) = if paid < q.1 then some (paid, pos) else some q
      by_cases g : paid < q.1
      · rw [if_pos g, if_neg (by omega)]
      · rw [if_neg g, if_pos (by omega)]
  | r + 1, k, paid, fr, pos, b, hk, hp, hd, hf => by
    show (if bpr b ≤ paid + lrr pull w (r + 1) k then b else vlp _ fr 12 b) = _
    have hb := prc_b (pos := pos) hu k (by omega) hp
    have hl := lrr_b hu hw (r + 1) k hk
    by_cases g : bpr b ≤ paid + lrr pull w (r + 1) k
    · rw [if_pos g]
      cases b with
      | none =>
        have : (2147483647 : Nat) ≤ paid + lrr pull w (r + 1) k := g
        omega
      | some q =>
        rw [vis_prune (r + 1) k pos q hp (by rw [← hd]; exact g)]
    · rw [if_neg g]
      show vlp _ fr 12 b = vlp _ (fun pl => okx rb w pos pl k) 12 b
      refine vlp_cg 12 b (Nat.le_refl _) hf (fun pl b2 hpl hg => ?_)
      refine vcs_vis hu hw r (k + 1) _ _ (eG pos k pl) b2 (by omega) (fun x hx => ?_) (by rw [prc_e, hd]) (fun q hq => ?_)
      · by_cases e : x = k
        · subst e; rw [eG_eq]; exact hpl
        · rw [eG_ne e]; exact hp x (by omega)
      · show (fr q && !decide (apN pl q ≤ w)) = _
        rw [okx_e, hf q hq]
        congr 1
        by_cases g2 : apN pl q ≤ w
        · rw [decide_eq_true g2, decide_eq_false (by omega)]; rfl
        · rw [decide_eq_false g2, decide_eq_true (by omega)]; rfl
