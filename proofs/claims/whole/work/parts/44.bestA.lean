/-! bits of a set -/
def bt (x : Int32) (k : Nat) : Bool := x.toBitVec.getLsbD k
theorem one_bit (x : BitVec 32) : (x &&& 1#32 = 1#32) ↔ x.getLsbD 0 = true := by
  rw [BitVec.and_one_eq_setWidth_ofBool_getLsbD]
  cases x.getLsbD 0 <;> decide
theorem sh_amt : ∀ k, k < 16 → ((nI k &&& 31).toBitVec.smod 32#32) = BitVec.ofNat 32 k := by decide +kernel
theorem bt_iff (x : Int32) {k : Nat} (hk : k < 16) : ((x >>> (nI k &&& 31)) &&& 1 = 1) ↔ bt x k = true := by
  rw [← Int32.toBitVec_inj, Int32.toBitVec_and, Int32.toBitVec_shiftRight, show (1 : Int32).toBitVec = 1#32 from rfl, one_bit]
  have e : ((nI k &&& 31).toBitVec.smod 32) = BitVec.ofNat 32 k := sh_amt k hk
  rw [e]
  unfold bt
  rw [BitVec.sshiftRight_eq', BitVec.getLsbD_sshiftRight, BitVec.toNat_ofNat, Nat.mod_eq_of_lt (by omega)]
  rw [if_pos (by omega)]
  simp
theorem bt_and (x y : Int32) (k : Nat) : bt (x &&& y) k = (bt x k && bt y k) := by
  unfold bt
  rw [Int32.toBitVec_and, BitVec.getLsbD_and]
theorem bt_or (x y : Int32) (k : Nat) : bt (x ||| y) k = (bt x k || bt y k) := by
  unfold bt
  rw [Int32.toBitVec_or, BitVec.getLsbD_or]
theorem bt_not (x : Int32) {k : Nat} (hk : k < 32) : bt (x ^^^ -1) k = !bt x k := by
  unfold bt
  rw [Int32.toBitVec_xor, show (-1 : Int32).toBitVec = BitVec.allOnes 32 from rfl, BitVec.getLsbD_xor, BitVec.getLsbD_allOnes]
  simp [hk]
theorem bt_shl : ∀ j, j < 12 → ∀ k, k < 12 → bt ((1 : Int32) <<< (nI j &&& 31)) k = decide (k = j) := by decide +kernel
theorem bt_0 (k : Nat) : bt 0 k = false := by
  unfold bt
  show (0#32).getLsbD k = false
  simp
theorem bt_at (x : Int32) {k : Nat} (hk : k < 16) : bitAt x k ↔ bt x k = true := bt_iff x hk
/-! the best laying: how far, how dear -/
def nd (x y : Nat) : Nat := if x ≤ y then y - x else x - y
def apN (a b : Nat) : Nat := Nat.max (nd (a % 4) (b % 4)) (nd (a / 4) (b / 4))
def wyN (a b : Nat) : Nat := nd (a % 4) (b % 4) + nd (a / 4) (b / 4)
theorem wy_c : ∀ a, a < 12 → ∀ b, b < 12 → wayI (nI a) (nI b) = nI (wyN a b) := by decide +kernel
theorem ap_c : ∀ a, a < 12 → ∀ b, b < 12 → maxI (absI (nI a % 4 - nI b % 4)) (absI (nI a / 4 - nI b / 4)) = nI (apN a b) := by decide +kernel
theorem wy_m : ∀ a, a < 12 → ∀ b, b < 12 → absI (nI a % 4 - nI b % 4) + absI (nI a / 4 - nI b / 4) = nI (wyN b a) := by decide +kernel
theorem ap_m : ∀ a, a < 12 → ∀ b, b < 12 → (if absI (nI a / 4 - nI b / 4) < absI (nI a % 4 - nI b % 4) then absI (nI a % 4 - nI b % 4) else absI (nI a / 4 - nI b / 4)) = nI (apN a b) := by decide +kernel
theorem ap_wy : ∀ a, a < 12 → ∀ b, b < 12 → apN a b ≤ wyN a b ∧ wyN a b ≤ 5 := by decide +kernel
abbrev BS : Type := Option (Nat × (Nat → Nat))
def inc (pull : Nat → Nat → Nat) (k : Nat) (pos : Nat → Nat) (pl : Nat) : Nat → Nat
  | 0 => 0
  | j + 1 => inc pull k pos pl j + pull k j * wyN (pos j) pl
def prc (pull : Nat → Nat → Nat) (pos : Nat → Nat) : Nat → Nat
  | 0 => 0
  | k + 1 => prc pull pos k + inc pull k pos (pos k) k
def okx (rb : Nat → Bool) (w : Nat) (pos : Nat → Nat) (pl : Nat) : Nat → Bool
  | 0 => rb pl
  | x + 1 => okx rb w pos pl x && decide (w < apN (pos x) pl)
def bsU (b : BS) (p : Nat) (pos : Nat → Nat) : BS := match b with
  | none => some (p, pos)
  | some q => if p < q.1 then some (p, pos) else some q
def vlp (f : Nat → BS → BS) (g : Nat → Bool) : Nat → BS → BS
  | 0, b => b
  | m + 1, b => vlp f g m (if g (11 - m) = true then f (11 - m) b else b)
def vis (pull : Nat → Nat → Nat) (rb : Nat → Bool) (w : Nat) : Nat → Nat → (Nat → Nat) → BS → BS
  | 0, k, pos, b => bsU b (prc pull pos k) pos
  | r + 1, k, pos, b => vlp (fun pl b2 => vis pull rb w r (k + 1) (eG pos k pl) b2) (fun pl => okx rb w pos pl k) 12 b
def bpr : BS → Nat
  | none => 1048576
  | some q => q.1
def smN (f : Nat → Nat) : Nat → Nat → Nat
  | 0, _ => 0
  | r + 1, k => f k + smN f r (k + 1)
def lamN (pull : Nat → Nat → Nat) (w : Nat) : Nat → Nat → Nat
  | 0, _ => 0
  | r + 1, k => lamN pull w r (k + 1) + smN (pull k) r (k + 1) * (w + 1)
def lduN (pull : Nat → Nat → Nat) (pos : Nat → Nat) (K later : Nat) (fr : Nat → Bool) : Nat → Nat
  | 0 => 1048576
  | q + 1 => if fr q = true then Nat.min (lduN pull pos K later fr q) (inc pull later pos q K) else lduN pull pos K later fr q
def lrsN (pull : Nat → Nat → Nat) (w r K : Nat) (pos : Nat → Nat) (fr : Nat → Bool) : Nat := lamN pull w r K + smN (fun l => lduN pull pos K l fr 12) r K
def frN (fr : Nat → Bool) (w pl : Nat) : Nat → Bool := fun q => fr q && !decide (apN pl q ≤ w)
def vstN (pull : Nat → Nat → Nat) (w r k paid : Nat) (fr : Nat → Bool) (pos : Nat → Nat) (go : Nat → (Nat → Bool) → (Nat → Nat) → BS → BS) (pl : Nat) (b : BS) : BS :=
  if paid + inc pull k pos pl k + lrsN pull w r (k + 1) (eG pos k pl) (frN fr w pl) < bpr b then go (paid + inc pull k pos pl k) (frN fr w pl) (eG pos k pl) b else b
def vcs (pull : Nat → Nat → Nat) (w : Nat) : Nat → Nat → Nat → (Nat → Bool) → (Nat → Nat) → BS → BS
  | 0, _, paid, _, pos, _ => some (paid, pos)
  | r + 1, k, paid, fr, pos, b => vlp (vstN pull w r k paid fr pos (fun p f ps b2 => vcs pull w r (k + 1) p f ps b2)) fr 12 b
theorem inc_cg {pull : Nat → Nat → Nat} {k : Nat} {p1 p2 : Nat → Nat} {pl : Nat} : ∀ m, (∀ x, x < m → p1 x = p2 x) → inc pull k p1 pl m = inc pull k p2 pl m
  | 0, _ => rfl
  | m + 1, h => by
    show inc pull k p1 pl m + pull k m * wyN (p1 m) pl = inc pull k p2 pl m + pull k m * wyN (p2 m) pl
    rw [inc_cg m (fun x hx => h x (by omega)), h m (by omega)]
theorem prc_cg {pull : Nat → Nat → Nat} {p1 p2 : Nat → Nat} : ∀ k, (∀ x, x < k → p1 x = p2 x) → prc pull p1 k = prc pull p2 k
  | 0, _ => rfl
  | k + 1, h => by
    show prc pull p1 k + inc pull k p1 (p1 k) k = prc pull p2 k + inc pull k p2 (p2 k) k
    rw [prc_cg k (fun x hx => h x (by omega)), h k (by omega), inc_cg k (fun x hx => h x (by omega))]
theorem okx_cg {rb : Nat → Bool} {w : Nat} {p1 p2 : Nat → Nat} {pl : Nat} : ∀ k, (∀ x, x < k → p1 x = p2 x) → okx rb w p1 pl k = okx rb w p2 pl k
  | 0, _ => rfl
  | k + 1, h => by
    show (okx rb w p1 pl k && decide (w < apN (p1 k) pl)) = (okx rb w p2 pl k && decide (w < apN (p2 k) pl))
    rw [okx_cg k (fun x hx => h x (by omega)), h k (by omega)]
theorem prc_e (pull : Nat → Nat → Nat) (pos : Nat → Nat) (k pl : Nat) : prc pull (eG pos k pl) (k + 1) = prc pull pos k + inc pull k pos pl k := by
  show prc pull (eG pos k pl) k + inc pull k (eG pos k pl) (eG pos k pl k) k = _
  rw [eG_eq, prc_cg k (fun x hx => eG_ne (by omega)), inc_cg k (fun x hx => eG_ne (by omega))]
theorem okx_e {rb : Nat → Bool} {w : Nat} {pos : Nat → Nat} {k pl q : Nat} : okx rb w (eG pos k pl) q (k + 1) = (okx rb w pos q k && decide (w < apN pl q)) := by
  show (okx rb w (eG pos k pl) q k && decide (w < apN (eG pos k pl k) q)) = _
  rw [eG_eq, okx_cg k (fun x hx => eG_ne (by omega))]
theorem okx_lt {rb : Nat → Bool} {w : Nat} {pos : Nat → Nat} {pl : Nat} : ∀ k, okx rb w pos pl k = true → ∀ x, x < k → w < apN (pos x) pl
  | 0, _, x, hx => absurd hx (Nat.not_lt_zero x)
  | k + 1, h, x, hx => by
    have h2 : (okx rb w pos pl k && decide (w < apN (pos k) pl)) = true := h
    rw [Bool.and_eq_true, decide_eq_true_iff] at h2
    rcases Nat.lt_or_ge x k with g | g
    · exact okx_lt k h2.1 x g
    · obtain rfl : x = k := by omega
      exact h2.2
theorem okx_dn {rb : Nat → Bool} {w : Nat} {pos : Nat → Nat} {pl k : Nat} : ∀ m, okx rb w pos pl (k + m) = true → okx rb w pos pl k = true
  | 0, h => h
  | m + 1, h => by
    have h2 : (okx rb w pos pl (k + m) && decide (w < apN (pos (k + m)) pl)) = true := h
    rw [Bool.and_eq_true] at h2
    exact okx_dn m h2.1
theorem vlp_cg {f f2 : Nat → BS → BS} {g g2 : Nat → Bool} : ∀ m b, m ≤ 12 → (∀ pl, pl < 12 → g pl = g2 pl) → (∀ pl b, pl < 12 → g pl = true → f pl b = f2 pl b) → vlp f g m b = vlp f2 g2 m b
  | 0, b, _, _, _ => rfl
  | m + 1, b, hm, hg, hf => by
    show vlp f g m (if g (11 - m) = true then f (11 - m) b else b) = vlp f2 g2 m (if g2 (11 - m) = true then f2 (11 - m) b else b)
    rw [← hg (11 - m) (by omega)]
    by_cases h : g (11 - m) = true
    · rw [if_pos h, if_pos h, hf (11 - m) b (by omega) h]
      exact vlp_cg m _ (by omega) hg hf
    · rw [if_neg h, if_neg h]
      exact vlp_cg m _ (by omega) hg hf
theorem vlp_id {f : Nat → BS → BS} {g : Nat → Bool} {b : BS} : ∀ m, m ≤ 12 → (∀ pl, pl < 12 → g pl = true → f pl b = b) → vlp f g m b = b
  | 0, _, _ => rfl
  | m + 1, hm, hf => by
    show vlp f g m (if g (11 - m) = true then f (11 - m) b else b) = b
    by_cases h : g (11 - m) = true
    · rw [if_pos h, hf (11 - m) (by omega) h]
      exact vlp_id m (by omega) hf
    · rw [if_neg h]
      exact vlp_id m (by omega) hf
/-- where no laying that is left costs less, nothing is found -/
theorem vis_id {pull : Nat → Nat → Nat} {rb : Nat → Bool} {w : Nat} : ∀ (r k : Nat) (pos : Nat → Nat) (b : BS), (∀ ps : Nat → Nat, (∀ x, x < k → ps x = pos x) → (∀ x, k ≤ x → x < k + r → ps x < 12 ∧ okx rb w ps (ps x) x = true) → ∃ q, b = some q ∧ q.1 ≤ prc pull ps (k + r)) → vis pull rb w r k pos b = b
  | 0, k, pos, b, h => by
    obtain ⟨q, e, hq⟩ := h pos (fun _ _ => rfl) (fun x h1 h2 => by omega)
    subst e
    show (if prc pull pos k < q.1 then some (prc pull pos k, pos) else some q) = some q
    have hq2 : q.1 ≤ prc pull pos k := hq
    rw [if_neg (by omega)]
  | r + 1, k, pos, b, h => by
    show vlp _ _ 12 b = b
    refine vlp_id 12 (Nat.le_refl _) (fun pl hpl hg => ?_)
    refine vis_id r (k + 1) (eG pos k pl) b (fun ps ha hv => ?_)
    have hag : ∀ x, x < k → ps x = pos x := fun x hx => by rw [ha x (by omega), eG_ne (by omega)]
    have h9 := h ps hag (fun x h1 h2 => by
      by_cases e : x = k
      · subst e
        rw [ha x (by omega), eG_eq, okx_cg x hag]
        exact ⟨hpl, hg⟩
      · exact hv x (by omega) (by omega))
    rw [show k + (r + 1) = k + 1 + r by omega] at h9
    exact h9
theorem inc_b {pull : Nat → Nat → Nat} {k pl : Nat} {pos : Nat → Nat} (hpl : pl < 12) (hu : ∀ a b, pull a b ≤ 198) : ∀ m, (∀ x, x < m → pos x < 12) → inc pull k pos pl m ≤ 990 * m
  | 0, _ => Nat.le_refl _
  | m + 1, h => by
    have ih := inc_b (k := k) hpl hu m (fun x hx => h x (by omega))
    have h1 : pull k m * wyN (pos m) pl ≤ 198 * 5 := Nat.mul_le_mul (hu k m) (ap_wy (pos m) (h m (by omega)) pl hpl).2
    show inc pull k pos pl m + pull k m * wyN (pos m) pl ≤ 990 * (m + 1)
    omega
theorem prc_b {pull : Nat → Nat → Nat} {pos : Nat → Nat} (hu : ∀ a b, pull a b ≤ 198) : ∀ k, k ≤ 5 → (∀ x, x < k → pos x < 12) → prc pull pos k ≤ 4950 * k
  | 0, _, _ => Nat.le_refl _
  | k + 1, hk, h => by
    have ih := prc_b hu k (by omega) (fun x hx => h x (by omega))
    have h1 := inc_b (k := k) (h k (by omega)) hu k (fun x hx => h x (by omega))
    show prc pull pos k + inc pull k pos (pos k) k ≤ 4950 * (k + 1)
    omega
theorem sm_le {f g : Nat → Nat} : ∀ r k, (∀ x, k ≤ x → x < k + r → f x ≤ g x) → smN f r k ≤ smN g r k
  | 0, _, _ => Nat.le_refl _
  | r + 1, k, h => by
    have ih := sm_le r (k + 1) (fun x h1 h2 => h x (by omega) (by omega))
    have h1 := h k (Nat.le_refl _) (by omega)
    show f k + smN f r (k + 1) ≤ g k + smN g r (k + 1)
    omega
theorem sm_add {f g : Nat → Nat} : ∀ r k, smN (fun x => f x + g x) r k = smN f r k + smN g r k
  | 0, _ => rfl
  | r + 1, k => by
    have ih := sm_add (f := f) (g := g) r (k + 1)
    show f k + g k + smN (fun x => f x + g x) r (k + 1) = f k + smN f r (k + 1) + (g k + smN g r (k + 1))
    omega
theorem sm_mul {f : Nat → Nat} {c : Nat} : ∀ r k, smN (fun x => f x * c) r k = smN f r k * c
  | 0, _ => (Nat.zero_mul c).symm
  | r + 1, k => by
    have ih := sm_mul (f := f) (c := c) r (k + 1)
    show f k * c + smN (fun x => f x * c) r (k + 1) = (f k + smN f r (k + 1)) * c
    rw [ih, Nat.add_mul]
theorem sm_b {f : Nat → Nat} {c : Nat} (h : ∀ x, f x ≤ c) : ∀ r k, smN f r k ≤ c * r
  | 0, _ => Nat.le_refl _
  | r + 1, k => by
    have ih := sm_b h r (k + 1)
    have h1 := h k
    show f k + smN f r (k + 1) ≤ c * (r + 1)
    rw [Nat.mul_succ]
    omega
theorem lam_b {pull : Nat → Nat → Nat} {w : Nat} (hu : ∀ a b, pull a b ≤ 198) (hw : w ≤ 2) : ∀ r k, k + r ≤ 5 → lamN pull w r k ≤ 2970 * r
  | 0, _, _ => Nat.le_refl _
  | r + 1, k, h => by
    have ih := lam_b hu hw r (k + 1) (by omega)
    have h1 := sm_b (hu k) r (k + 1)
    have h2 : smN (pull k) r (k + 1) * (w + 1) ≤ 990 * 3 := Nat.mul_le_mul (by omega) (by omega)
    show lamN pull w r (k + 1) + smN (pull k) r (k + 1) * (w + 1) ≤ 2970 * (r + 1)
    omega
theorem ldu_m {pull : Nat → Nat → Nat} {pos : Nat → Nat} {K later : Nat} {fr : Nat → Bool} : ∀ m, lduN pull pos K later fr m ≤ 1048576
  | 0 => Nat.le_refl _
  | m + 1 => by
    have ih := ldu_m (pull := pull) (pos := pos) (K := K) (later := later) (fr := fr) m
    show (if fr m = true then Nat.min (lduN pull pos K later fr m) (inc pull later pos m K) else lduN pull pos K later fr m) ≤ _
    by_cases g : fr m = true
    · rw [if_pos g]; exact Nat.le_trans (Nat.min_le_left _ _) ih
    · rw [if_neg g]; exact ih
theorem ldu_le {pull : Nat → Nat → Nat} {pos : Nat → Nat} {K later : Nat} {fr : Nat → Bool} {q : Nat} (hf : fr q = true) : ∀ m, q < m → lduN pull pos K later fr m ≤ inc pull later pos q K
  | 0, h => absurd h (Nat.not_lt_zero q)
  | m + 1, h => by
    show (if fr m = true then Nat.min (lduN pull pos K later fr m) (inc pull later pos m K) else lduN pull pos K later fr m) ≤ _
    by_cases e : q = m
    · subst e
      rw [if_pos hf]
      exact Nat.min_le_right _ _
    · have ih := ldu_le (pull := pull) (pos := pos) (K := K) (later := later) hf m (by omega)
      by_cases g : fr m = true
      · rw [if_pos g]; exact Nat.le_trans (Nat.min_le_left _ _) ih
      · rw [if_neg g]; exact ih
theorem lrs_b {pull : Nat → Nat → Nat} {w r K : Nat} {pos : Nat → Nat} {fr : Nat → Bool} (hu : ∀ a b, pull a b ≤ 198) (hw : w ≤ 2) (h : K + r ≤ 5) : lrsN pull w r K pos fr ≤ 1051546 * r := by
  have h1 := lam_b hu hw r K h
  have h2 := sm_b (f := fun l => lduN pull pos K l fr 12) (fun l => ldu_m 12) r K
  show lamN pull w r K + smN (fun l => lduN pull pos K l fr 12) r K ≤ _
  omega
/-- what the rest costs at the least -/
theorem prc_lb {pull : Nat → Nat → Nat} {w : Nat} {pos : Nat → Nat} (hsy : ∀ a b, pull a b = pull b a) : ∀ r K, (∀ x, x < K + r → pos x < 12) → (∀ x, K ≤ x → x < K + r → ∀ y, y < x → w < apN (pos y) (pos x)) → prc pull pos K + (lamN pull w r K + smN (fun l => inc pull l pos (pos l) K) r K) ≤ prc pull pos (K + r)
  | 0, K, _, _ => Nat.le_refl _
  | r + 1, K, h12, hap => by
    have ih := prc_lb hsy r (K + 1) (fun x hx => h12 x (by omega)) (fun x h1 h2 y hy => hap x (by omega) (by omega) y hy)
    rw [show K + 1 + r = K + (r + 1) by omega] at ih
    have e1 : prc pull pos (K + 1) = prc pull pos K + inc pull K pos (pos K) K := rfl
    have e2 : smN (fun l => inc pull l pos (pos l) K + pull K l * (w + 1)) r (K + 1) ≤ smN (fun l => inc pull l pos (pos l) (K + 1)) r (K + 1) := sm_le r (K + 1) (fun x h1 h2 => by
      show inc pull x pos (pos x) K + pull K x * (w + 1) ≤ inc pull x pos (pos x) K + pull x K * wyN (pos K) (pos x)
      have h3 := hap x (by omega) (by omega) K (by omega)
      have h4 := (ap_wy (pos K) (h12 K (by omega)) (pos x) (h12 x (by omega))).1
      have h5 : pull K x * (w + 1) ≤ pull K x * wyN (pos K) (pos x) := Nat.mul_le_mul_left _ (by omega)
      rw [hsy x K]
      omega)
    rw [sm_add, sm_mul] at e2
    have e3 : lamN pull w (r + 1) K = lamN pull w r (K + 1) + smN (pull K) r (K + 1) * (w + 1) := rfl
    have e4 : smN (fun l => inc pull l pos (pos l) K) (r + 1) K = inc pull K pos (pos K) K + smN (fun l => inc pull l pos (pos l) K) r (K + 1) := rfl
    rw [e3, e4]
    rw [e1] at ih
    omega
/-- the class's way and the reference's find the same -/
theorem vcs_vis {pull : Nat → Nat → Nat} {rb : Nat → Bool} {w : Nat} (hu : ∀ a b, pull a b ≤ 198) (hsy : ∀ a b, pull a b = pull b a) : ∀ (r k paid : Nat) (fr : Nat → Bool) (pos : Nat → Nat) (b : BS), k + r ≤ 5 → (∀ x, x < k → pos x < 12) → paid = prc pull pos k → (∀ q, q < 12 → fr q = okx rb w pos q k) → (r = 0 → paid < bpr b) → vcs pull w r k paid fr pos b = vis pull rb w r k pos b
  | 0, k, paid, fr, pos, b, hk, hp, hd, hf, hz => by
    show some (paid, pos) = bsU b (prc pull pos k) pos
    have h0 := hz rfl
    rw [← hd]
    cases b with
    | none => rfl
    | some q =>
      show some (paid, pos) = if paid < q.1 then some (paid, pos) else some q
      rw [if_pos (show paid < q.1 from h0)]
  | r + 1, k, paid, fr, pos, b, hk, hp, hd, hf, _ => by
    show vlp _ fr 12 b = vlp _ (fun pl => okx rb w pos pl k) 12 b
    refine vlp_cg 12 b (Nat.le_refl _) hf (fun pl b2 hpl hg => ?_)
    have hp2 : ∀ x, x < k + 1 → eG pos k pl x < 12 := fun x hx => by
      by_cases e : x = k
      · subst e; rw [eG_eq]; exact hpl
      · rw [eG_ne e]; exact hp x (by omega)
    have hd2 : paid + inc pull k pos pl k = prc pull (eG pos k pl) (k + 1) := by rw [prc_e, hd]
    have hf2 : ∀ q, q < 12 → frN fr w pl q = okx rb w (eG pos k pl) q (k + 1) := fun q hq => by
      show (fr q && !decide (apN pl q ≤ w)) = _
      rw [okx_e, hf q hq]
      congr 1
      by_cases g2 : apN pl q ≤ w
      · rw [decide_eq_true g2, decide_eq_false (by omega)]; rfl
      · rw [decide_eq_false g2, decide_eq_true (by omega)]; rfl
    show (if paid + inc pull k pos pl k + lrsN pull w r (k + 1) (eG pos k pl) (frN fr w pl) < bpr b2 then vcs pull w r (k + 1) (paid + inc pull k pos pl k) (frN fr w pl) (eG pos k pl) b2 else b2) = vis pull rb w r (k + 1) (eG pos k pl) b2
    by_cases g : paid + inc pull k pos pl k + lrsN pull w r (k + 1) (eG pos k pl) (frN fr w pl) < bpr b2
    · rw [if_pos g]
      exact vcs_vis hu hsy r (k + 1) _ _ (eG pos k pl) b2 (by omega) hp2 hd2 hf2 (fun _ => Nat.lt_of_le_of_lt (Nat.le_add_right _ _) g)
    · rw [if_neg g]
      refine (vis_id r (k + 1) (eG pos k pl) b2 (fun ps ha hv => ?_)).symm
      have h12 : ∀ x, x < k + 1 + r → ps x < 12 := fun x hx => by
        rcases Nat.lt_or_ge x (k + 1) with h1 | h1
        · rw [ha x h1]; exact hp2 x h1
        · exact (hv x h1 hx).1
      have lb := prc_lb (pull := pull) (w := w) (pos := ps) hsy r (k + 1) h12 (fun x h1 h2 y hy => okx_lt x (hv x h1 h2).2 y hy)
      have hpp : prc pull ps (k + 1) = prc pull (eG pos k pl) (k + 1) := prc_cg (k + 1) ha
      have hle : smN (fun l => lduN pull (eG pos k pl) (k + 1) l (frN fr w pl) 12) r (k + 1) ≤ smN (fun l => inc pull l ps (ps l) (k + 1)) r (k + 1) := sm_le r (k + 1) (fun x h1 h2 => by
        have hvx := hv x h1 h2
        have hok : okx rb w ps (ps x) (k + 1) = true := okx_dn (x - (k + 1)) (by rw [show k + 1 + (x - (k + 1)) = x by omega]; exact hvx.2)
        rw [okx_cg (k + 1) ha, ← hf2 (ps x) hvx.1] at hok
        show lduN pull (eG pos k pl) (k + 1) x (frN fr w pl) 12 ≤ inc pull x ps (ps x) (k + 1)
        rw [inc_cg (k + 1) ha]
        exact ldu_le hok 12 hvx.1)
      have hb := prc_b (pos := ps) hu (k + 1 + r) (by omega) h12
      have hl : lrsN pull w r (k + 1) (eG pos k pl) (frN fr w pl) = lamN pull w r (k + 1) + smN (fun l => lduN pull (eG pos k pl) (k + 1) l (frN fr w pl) 12) r (k + 1) := rfl
      cases b2 with
      | none =>
        have g3 : ¬ paid + inc pull k pos pl k + lrsN pull w r (k + 1) (eG pos k pl) (frN fr w pl) < 1048576 := g
        omega
      | some q =>
        have g3 : ¬ paid + inc pull k pos pl k + lrsN pull w r (k + 1) (eG pos k pl) (frN fr w pl) < q.1 := g
        exact ⟨q, rfl, by omega⟩
