/-! ways of menus: how many nodes, their weights, the menus that they lie in -/
abbrev WS : Type := Nat × (Nat → Nat) × (Nat → Option Nat)
def lst (W : Nat → Nat) (M : Nat → Option Nat) : Nat → Option Nat
  | 0 => none
  | k + 1 => match lst W M k with
    | none => if (M k).isNone = true then some k else none
    | some b => if (M k).isNone = true ∧ W k < W b then some k else some b
def jl (s : WS) : Nat → (Nat → Option Nat) × Nat
  | 0 => (s.2.2, 0)
  | i + 1 => match lst s.2.1 (jl s i).1 s.1 with
    | none => jl s i
    | some b => (eG (jl s i).1 b (some s.1), (jl s i).2 + s.2.1 b)
def joinA (h : Nat) (s : WS) : WS := (s.1 + 1, eG s.2.1 s.1 (jl s h).2, eG (jl s h).1 s.1 none)
def jit (h : Nat) : Nat → WS → WS
  | 0, s => s
  | q + 1, s => jit h q (joinA h s)
def dpt (M : Nat → Option Nat) : Nat → Nat → Nat
  | 0, _ => 0
  | f + 1, x => match M x with
    | none => 0
    | some p => 1 + dpt M f p
def osg (f : Nat → Nat) (M : Nat → Option Nat) : Nat → Nat
  | 0 => 0
  | k + 1 => osg f M k + (if (M k).isNone = true then f k else 0)
def opn (s : WS) : Nat := osg (fun _ => 1) s.2.2 s.1
def OKW (s : WS) : Prop := (∀ k p, k < s.1 → s.2.2 k = some p → k < p ∧ p < s.1) ∧ osg s.2.1 s.2.2 s.1 ≤ 9990 ∧ ∀ k, k < s.1 → s.2.1 k ≤ 9990
section LST
variable {W : Nat → Nat} {M : Nat → Option Nat} {k b p : Nat}
theorem lst_c (h : M k = some p) : lst W M (k + 1) = lst W M k := by
  show (match lst W M k with | none => if (M k).isNone = true then some k else none | some b => if (M k).isNone = true ∧ W k < W b then some k else some b) = _
  rw [h]
  cases lst W M k with
  | none => rfl
  | some b => exact if_neg (fun g => by cases g.1)
theorem lst_f (h : M k = none) (h2 : lst W M k = none) : lst W M (k + 1) = some k := by
  show (match lst W M k with | none => if (M k).isNone = true then some k else none | some b => if (M k).isNone = true ∧ W k < W b then some k else some b) = _
  rw [h2, h]
  rfl
theorem lst_l (h : M k = none) (h2 : lst W M k = some b) (h3 : W k < W b) : lst W M (k + 1) = some k := by
  show (match lst W M k with | none => if (M k).isNone = true then some k else none | some b => if (M k).isNone = true ∧ W k < W b then some k else some b) = _
  rw [h2, h]
  exact if_pos ⟨rfl, h3⟩
theorem lst_k (h2 : lst W M k = some b) (h3 : ¬ W k < W b) : lst W M (k + 1) = some b := by
  show (match lst W M k with | none => if (M k).isNone = true then some k else none | some b => if (M k).isNone = true ∧ W k < W b then some k else some b) = _
  rw [h2]
  exact if_neg (fun g => h3 g.2)
end LST
theorem lst_s {W : Nat → Nat} {M : Nat → Option Nat} : ∀ {k b : Nat}, lst W M k = some b → b < k ∧ M b = none
  | 0, b, h => by cases h
  | k + 1, b, h => by
    cases hM : M k with
    | some p =>
      rw [lst_c hM] at h
      have := lst_s h
      exact ⟨by omega, this.2⟩
    | none =>
      cases hl : lst W M k with
      | none =>
        rw [lst_f hM hl] at h
        cases h
        exact ⟨by omega, hM⟩
      | some c =>
        by_cases g : W k < W c
        · rw [lst_l hM hl g] at h
          cases h
          exact ⟨by omega, hM⟩
        · rw [lst_k hl g] at h
          cases h
          have := lst_s hl
          exact ⟨by omega, this.2⟩
theorem lst_n {W : Nat → Nat} {M : Nat → Option Nat} : ∀ {k : Nat}, lst W M k = none → ∀ f, osg f M k = 0
  | 0, _, _ => rfl
  | k + 1, h, f => by
    cases hM : M k with
    | some p =>
      rw [lst_c hM] at h
      show osg f M k + (if (M k).isNone = true then f k else 0) = 0
      rw [lst_n h f, hM]
      rfl
    | none =>
      cases hl : lst W M k with
      | none => rw [lst_f hM hl] at h; cases h
      | some c =>
        by_cases g : W k < W c
        · rw [lst_l hM hl g] at h; cases h
        · rw [lst_k hl g] at h; cases h
theorem osg_out {f : Nat → Nat} {M : Nat → Option Nat} {b : Nat} {v : Option Nat} : ∀ {k : Nat}, k ≤ b → osg f (eG M b v) k = osg f M k
  | 0, _ => rfl
  | k + 1, h => by
    show osg f (eG M b v) k + (if (eG M b v k).isNone = true then f k else 0) = osg f M k + _
    rw [osg_out (by omega), eG_ne (show k ≠ b by omega)]
theorem osg_set {f : Nat → Nat} {M : Nat → Option Nat} {b p : Nat} (hb : M b = none) : ∀ {k : Nat}, b < k → osg f (eG M b (some p)) k + f b = osg f M k
  | 0, h => by omega
  | k + 1, h => by
    show osg f (eG M b (some p)) k + (if (eG M b (some p) k).isNone = true then f k else 0) + f b = osg f M k + (if (M k).isNone = true then f k else 0)
    by_cases e : k = b
    · subst e
      rw [osg_out (Nat.le_refl k), eG_eq, hb]
      show osg f M k + 0 + f k = osg f M k + f k
      omega
    · rw [eG_ne e]
      have := osg_set (f := f) (M := M) (b := b) (p := p) hb (k := k) (by omega)
      omega
theorem osg_ge {f : Nat → Nat} {M : Nat → Option Nat} {b : Nat} (hb : M b = none) : ∀ {k : Nat}, b < k → f b ≤ osg f M k
  | 0, h => by omega
  | k + 1, h => by
    show f b ≤ osg f M k + (if (M k).isNone = true then f k else 0)
    by_cases e : k = b
    · subst e
      rw [hb]
      show f k ≤ osg f M k + f k
      omega
    · have := osg_ge (f := f) hb (k := k) (by omega)
      omega
theorem osg_cg {f g : Nat → Nat} {M : Nat → Option Nat} : ∀ {k : Nat}, (∀ x, x < k → f x = g x) → osg f M k = osg g M k
  | 0, _ => rfl
  | k + 1, h => by
    show osg f M k + (if (M k).isNone = true then f k else 0) = osg g M k + (if (M k).isNone = true then g k else 0)
    rw [osg_cg (fun x hx => h x (by omega)), h k (by omega)]
theorem osg_mono {f g : Nat → Nat} {M : Nat → Option Nat} : ∀ {k : Nat}, (∀ x, x < k → f x ≤ g x) → osg f M k ≤ osg g M k
  | 0, _ => Nat.le_refl _
  | k + 1, h => by
    have h1 := osg_mono (f := f) (g := g) (M := M) (k := k) (fun x hx => h x (by omega))
    have h2 := h k (by omega)
    show osg f M k + (if (M k).isNone = true then f k else 0) ≤ osg g M k + (if (M k).isNone = true then g k else 0)
    split <;> omega
theorem osg_all (f : Nat → Nat) : ∀ k, osg f (fun _ => none) k = osg f (fun _ => none) k := fun _ => rfl
theorem osg_one : ∀ k, osg (fun _ => 1) (fun _ => none) k = k
  | 0 => rfl
  | k + 1 => by
    show osg (fun _ => 1) (fun _ => none) k + 1 = k + 1
    rw [osg_one k]
/-- what a joining does, step by step -/
theorem jl_i {s : WS} : ∀ i, i ≤ opn s → osg (fun _ => 1) (jl s i).1 s.1 + i = opn s ∧ osg s.2.1 (jl s i).1 s.1 + (jl s i).2 = osg s.2.1 s.2.2 s.1 ∧ (∀ k p, k < s.1 → (jl s i).1 k = some p → s.2.2 k = some p ∨ p = s.1)
  | 0, _ => ⟨rfl, rfl, fun k p _ h => Or.inl h⟩
  | i + 1, h => by
    obtain ⟨h1, h2, h3⟩ := jl_i (s := s) i (by omega)
    cases hl : lst s.2.1 (jl s i).1 s.1 with
    | none =>
      have := lst_n hl (fun _ => 1)
      omega
    | some b =>
      have hb := lst_s hl
      have e : jl s (i + 1) = (eG (jl s i).1 b (some s.1), (jl s i).2 + s.2.1 b) := by
        show (match lst s.2.1 (jl s i).1 s.1 with | none => jl s i | some b => (eG (jl s i).1 b (some s.1), (jl s i).2 + s.2.1 b)) = _
        rw [hl]
      rw [e]
      have a1 := osg_set (f := fun _ => 1) (p := s.1) hb.2 hb.1
      have a2 := osg_set (f := s.2.1) (p := s.1) hb.2 hb.1
      refine ⟨?_, ?_, fun k p hk hp => ?_⟩
      · show osg (fun _ => 1) (eG (jl s i).1 b (some s.1)) s.1 + (i + 1) = opn s
        omega
      · show osg s.2.1 (eG (jl s i).1 b (some s.1)) s.1 + ((jl s i).2 + s.2.1 b) = _
        omega
      · by_cases e2 : k = b
        · subst e2
          have hp2 : eG (jl s i).1 k (some s.1) k = some p := hp
          rw [eG_eq] at hp2
          exact Or.inr (Option.some.inj hp2).symm
        · have hp2 : eG (jl s i).1 b (some s.1) k = some p := hp
          rw [eG_ne e2] at hp2
          exact h3 k p hk hp2
theorem jl_some {s : WS} {i : Nat} (h : i < opn s) : ∃ b, lst s.2.1 (jl s i).1 s.1 = some b := by
  cases hl : lst s.2.1 (jl s i).1 s.1 with
  | some b => exact ⟨b, rfl⟩
  | none =>
    have h1 := (jl_i (s := s) i (by omega)).1
    have h2 := lst_n hl (fun _ => 1)
    omega
theorem joinA_ok {s : WS} {h : Nat} (hs : OKW s) (hh : h ≤ opn s) : OKW (joinA h s) ∧ opn (joinA h s) + h = opn s + 1 := by
  obtain ⟨h1, h2, h3⟩ := jl_i (s := s) h hh
  have e1 : osg (eG s.2.1 s.1 (jl s h).2) (eG (jl s h).1 s.1 none) (s.1 + 1) = osg s.2.1 s.2.2 s.1 := by
    show osg _ _ s.1 + (if (eG (jl s h).1 s.1 none s.1).isNone = true then eG s.2.1 s.1 (jl s h).2 s.1 else 0) = _
    rw [osg_out (Nat.le_refl _), eG_eq, eG_eq, osg_cg (g := s.2.1) (fun x hx => eG_ne (by omega))]
    show osg s.2.1 (jl s h).1 s.1 + (jl s h).2 = _
    exact h2
  refine ⟨⟨fun k p hk hp => ?_, ?_, fun k hk => ?_⟩, ?_⟩
  · have hk2 : k < s.1 + 1 := hk
    have hp2 : eG (jl s h).1 s.1 none k = some p := hp
    show k < p ∧ p < s.1 + 1
    by_cases e : k = s.1
    · subst e; rw [eG_eq] at hp2; cases hp2
    · rw [eG_ne e] at hp2
      rcases h3 k p (by omega) hp2 with g | g
      · have := hs.1 k p (by omega) g
        omega
      · omega
  · show osg (eG s.2.1 s.1 (jl s h).2) (eG (jl s h).1 s.1 none) (s.1 + 1) ≤ 9990
    rw [e1]
    exact hs.2.1
  · have hk2 : k < s.1 + 1 := hk
    show eG s.2.1 s.1 (jl s h).2 k ≤ 9990
    by_cases e : k = s.1
    · subst e; rw [eG_eq]; have := hs.2.1; omega
    · rw [eG_ne e]; exact hs.2.2 k (by omega)
  · show osg (fun _ => 1) (eG (jl s h).1 s.1 none) (s.1 + 1) + h = _
    show osg _ _ s.1 + (if (eG (jl s h).1 s.1 none s.1).isNone = true then 1 else 0) + h = _
    rw [osg_out (Nat.le_refl _), eG_eq]
    show osg (fun _ => 1) (jl s h).1 s.1 + 1 + h = _
    omega
theorem jit_ok {h : Nat} (hh : 2 ≤ h) : ∀ (q : Nat) (s : WS), OKW s → opn s = 1 + q * (h - 1) → OKW (jit h q s) ∧ (jit h q s).1 = s.1 + q
  | 0, s, hs, _ => ⟨hs, rfl⟩
  | q + 1, s, hs, ho => by
    have e : (q + 1) * (h - 1) = q * (h - 1) + (h - 1) := Nat.succ_mul q (h - 1)
    have hle : h ≤ opn s := by
      have : 0 ≤ q * (h - 1) := Nat.zero_le _
      omega
    have a := joinA_ok hs hle
    have b := jit_ok hh q (joinA h s) a.1 (by omega)
    refine ⟨b.1, ?_⟩
    show (jit h q (joinA h s)).1 = _
    rw [b.2]
    show s.1 + 1 + q = s.1 + (q + 1)
    omega
/-- how many are chosen ahead of one -/
def ci (sel : Nat → Bool) : Nat → Nat
  | 0 => 0
  | x + 1 => ci sel x + (if sel x = true then 1 else 0)
def wi (sel : Nat → Bool) (wv : Nat → Nat) : Nat → Nat → Nat
  | 0 => fun _ => 0
  | x + 1 => if sel x = true then eG (wi sel wv x) (ci sel x) (wv x) else wi sel wv x
theorem ci_le (sel : Nat → Bool) : ∀ x, ci sel x ≤ x
  | 0 => Nat.le_refl 0
  | x + 1 => by
    have := ci_le sel x
    show ci sel x + (if sel x = true then 1 else 0) ≤ x + 1
    split <;> omega
theorem ci_mono (sel : Nat → Bool) {a : Nat} : ∀ {b : Nat}, a ≤ b → ci sel a ≤ ci sel b
  | 0, h => by
    have : a = 0 := by omega
    subst this
    exact Nat.le_refl _
  | b + 1, h => by
    rcases Nat.lt_or_ge a (b + 1) with g | g
    · have := ci_mono sel (a := a) (b := b) (by omega)
      show ci sel a ≤ ci sel b + _
      omega
    · have : a = b + 1 := by omega
      subst this
      exact Nat.le_refl _
theorem ci_t {sel : Nat → Bool} {x : Nat} (h : sel x = true) : ci sel (x + 1) = ci sel x + 1 := by
  show ci sel x + (if sel x = true then 1 else 0) = _
  rw [if_pos h]
theorem ci_f {sel : Nat → Bool} {x : Nat} (h : ¬ sel x = true) : ci sel (x + 1) = ci sel x := by
  show ci sel x + (if sel x = true then 1 else 0) = _
  rw [if_neg h, Nat.add_zero]
theorem wi_t {sel : Nat → Bool} {wv : Nat → Nat} {x : Nat} (h : sel x = true) : wi sel wv (x + 1) = eG (wi sel wv x) (ci sel x) (wv x) := if_pos h
theorem wi_f {sel : Nat → Bool} {wv : Nat → Nat} {x : Nat} (h : ¬ sel x = true) : wi sel wv (x + 1) = wi sel wv x := if_neg h
theorem ci_end {sel : Nat → Bool} {k : Nat} (h : ∀ x, k ≤ x → ¬ sel x = true) : ∀ r, ci sel (k + r) = ci sel k
  | 0 => rfl
  | r + 1 => by
    show ci sel (k + r + 1) = _
    rw [ci_f (h _ (by omega)), ci_end h r]
theorem wi_end {sel : Nat → Bool} {wv : Nat → Nat} {k : Nat} (h : ∀ x, k ≤ x → ¬ sel x = true) : ∀ r, wi sel wv (k + r) = wi sel wv k
  | 0 => rfl
  | r + 1 => by
    show wi sel wv (k + r + 1) = _
    rw [wi_f (h _ (by omega)), wi_end h r]
theorem wi_b {sel : Nat → Bool} {wv : Nat → Nat} : ∀ x, (∀ y, y < x → wv y ≤ 999) → ∀ i, wi sel wv x i ≤ 999
  | 0, _, i => Nat.zero_le _
  | x + 1, h, i => by
    have ih := wi_b (sel := sel) (wv := wv) x (fun y hy => h y (by omega)) i
    by_cases g : sel x = true
    · rw [wi_t g]
      by_cases e : i = ci sel x
      · subst e; rw [eG_eq]; exact h x (by omega)
      · rw [eG_ne e]; exact ih
    · rw [wi_f g]; exact ih
theorem osg_b {f : Nat → Nat} {M : Nat → Option Nat} {B : Nat} : ∀ k, (∀ i, f i ≤ B) → osg f M k ≤ B * k
  | 0, _ => Nat.zero_le _
  | k + 1, h => by
    have h1 := osg_b (f := f) (M := M) k h
    have h2 := h k
    have e : B * (k + 1) = B * k + B := Nat.mul_succ B k
    show osg f M k + (if (M k).isNone = true then f k else 0) ≤ B * (k + 1)
    split <;> omega
def s0A (sel : Nat → Bool) (wv : Nat → Nat) (k : Nat) : WS := (ci sel k, wi sel wv k, fun _ => none)
theorem s0_ok {sel : Nat → Bool} {wv : Nat → Nat} {k : Nat} (hk : k ≤ 10) (hw : ∀ y, y < k → wv y ≤ 999) : OKW (s0A sel wv k) ∧ opn (s0A sel wv k) = ci sel k := by
  refine ⟨⟨fun x p _ h => (by have h2 : (none : Option Nat) = some p := h; cases h2), ?_, fun x _ => ?_⟩, osg_one _⟩
  · have h1 := osg_b (f := wi sel wv k) (M := fun _ => none) (B := 999) (ci sel k) (wi_b k hw)
    have h2 := ci_le sel k
    have h3 : 999 * ci sel k ≤ 999 * 10 := Nat.mul_le_mul_left _ (by omega)
    show osg (wi sel wv k) (fun _ => none) (ci sel k) ≤ 9990
    omega
  · exact Nat.le_trans (wi_b k hw x) (by decide)
/-- the first joining, and how many follow -/
def fst1 (N h : Nat) : Nat := if N < 2 then 1 else 2 + (N - 2) % (h - 1)
def rst (N h : Nat) : Nat := (N - fst1 N h) / (h - 1)
theorem fst_ok {N h : Nat} (hN : 1 ≤ N) (hh : 2 ≤ h) : 1 ≤ fst1 N h ∧ fst1 N h ≤ N ∧ N + 1 - fst1 N h = 1 + rst N h * (h - 1) := by
  unfold rst
  by_cases g : N < 2
  · have e : fst1 N h = 1 := if_pos g
    obtain rfl : N = 1 := by omega
    rw [e]
    simp
  · have e : fst1 N h = 2 + (N - 2) % (h - 1) := if_neg g
    have h1 := Nat.mod_le (N - 2) (h - 1)
    have h2 := Nat.div_add_mod (N - 2) (h - 1)
    have h3 : N - (2 + (N - 2) % (h - 1)) = (h - 1) * ((N - 2) / (h - 1)) := by omega
    rw [e, h3, Nat.mul_div_cancel_left _ (by omega), Nat.mul_comm]
    refine ⟨by omega, by omega, ?_⟩
    omega
theorem rst_b {N h : Nat} (hN : 1 ≤ N) (hN2 : N ≤ 10) (hh : 2 ≤ h) : rst N h ≤ 9 ∧ (2 ≤ N → rst N h ≤ 8) := by
  unfold rst
  have h1 : (N - fst1 N h) / (h - 1) ≤ N - fst1 N h := Nat.div_le_self _ _
  have h2 := (fst_ok hN hh).1
  refine ⟨by omega, fun g => ?_⟩
  have e : fst1 N h = 2 + (N - 2) % (h - 1) := if_neg (by omega)
  omega
def bld (sel : Nat → Bool) (wv : Nat → Nat) (k h : Nat) : WS := jit h (rst (ci sel k) h) (joinA (fst1 (ci sel k) h) (s0A sel wv k))
theorem bld_ok {sel : Nat → Bool} {wv : Nat → Nat} {k h : Nat} (hk : k ≤ 10) (hw : ∀ y, y < k → wv y ≤ 999) (hN : 1 ≤ ci sel k) (hh : 2 ≤ h) : OKW (bld sel wv k h) ∧ (bld sel wv k h).1 = ci sel k + 1 + rst (ci sel k) h ∧ (bld sel wv k h).1 ≤ 20 := by
  have a := s0_ok (sel := sel) (wv := wv) hk hw
  have f := fst_ok hN hh
  have b := joinA_ok (h := fst1 (ci sel k) h) a.1 (by rw [a.2]; exact f.2.1)
  have c := jit_ok hh (rst (ci sel k) h) (joinA (fst1 (ci sel k) h) (s0A sel wv k)) b.1 (by omega)
  have hc := ci_le sel k
  have r := rst_b hN (show ci sel k ≤ 10 by omega) hh
  have e : (bld sel wv k h).1 = ci sel k + 1 + rst (ci sel k) h := c.2
  refine ⟨c.1, e, ?_⟩
  rw [e]
  omega
