/-! The engine. A state of the system is told by four pure things: how many cells there are (n), their kinds and lengths (t), the ints that they hold (I), the references that they hold (R). Addresses are places in the order of making; 0 .. 3 are arrays that were there before (three tables, the script), which nobody writes. 'wp' says of a method's code at a program counter, with pure locals and stack, that it comes to an end with Q. -/
abbrev eT : Type := Nat → Nat × Nat
abbrev eI : Type := Nat → Nat → Int32
abbrev eR : Type := Nat → Nat → Option Nat
abbrev eQt : Type := Option Value → Nat → eT → eI → eR → Prop
abbrev eF : Type := Nat → Nat × (Nat → Int32)
abbrev vU : Value := .float 0
abbrev vM : Value := .float 1
def cv (ad : Nat → Nat) (v : Value) : Value := match v with
  | .ref i => .ref (ad i)
  | .int x => .int x
  | .long x => .long x
  | .float x => .float x
  | .double x => .double x
  | .null => .null
  | .retAddr x => .retAddr x
theorem cv_cat (ad : Nat → Nat) (v : Value) : (cv ad v).category = v.category := by cases v <;> rfl
def eN (c : Nat) : Nat := match c with
  | 0 => 2
  | 1 => 4
  | 2 => 4
  | 3 => 13
  | 4 => 3
  | 5 => 11
  | 6 => 2
  | 7 => 10
  | _ => 43
def eTy (c : Nat) : Nat → FieldType := match c with
  | 0 => tyX0
  | 1 => tyX1
  | 2 => tyX2
  | 3 => tyX3
  | 4 => tyX4
  | 5 => tyX5
  | 6 => tyX6
  | 7 => tyX7
  | _ => tyX8
def eCl (c : Nat) : vw_C := match c with
  | 0 => (RX0, TX0, 2)
  | 1 => (RX1, TX1, 4)
  | 2 => (RX2, TX2, 4)
  | 3 => (RX3, TX3, 13)
  | 4 => (RX4, TX4, 3)
  | 5 => (RX5, TX5, 11)
  | 6 => (RX6, TX6, 2)
  | 7 => (RX7, TX7, 10)
  | _ => (RX8, TX8, 43)
def eint (c k : Nat) : Bool := decide (eTy c k = .int)
theorem e_cases9 {P : Nat → Prop} (h0 : P 0) (h1 : P 1) (h2 : P 2) (h3 : P 3) (h4 : P 4) (h5 : P 5) (h6 : P 6) (h7 : P 7) (h8 : P 8) : ∀ c, c < 9 → P c := by
  intro c hc
  rcases (show c = 0 ∨ c = 1 ∨ c = 2 ∨ c = 3 ∨ c = 4 ∨ c = 5 ∨ c = 6 ∨ c = 7 ∨ c = 8 by omega) with rfl | rfl | rfl | rfl | rfl | rfl | rfl | rfl | rfl <;> assumption
theorem eCl_at : ∀ c, c < 9 → vwCl[c]? = some ((eCl c).1, (eCl c).2.1, (eCl c).2.2) := e_cases9 rfl rfl rfl rfl rfl rfl rfl rfl rfl
theorem eCl_n : ∀ c, c < 9 → (eCl c).2.2 = eN c := e_cases9 rfl rfl rfl rfl rfl rfl rfl rfl rfl
theorem eCl_in : ∀ c, c < 9 → ∀ w ∈ u_ws (eCl c).1 (eCl c).2.1 (eCl c).2.2, w ∈ lw_w := e_cases9 inX0 inX1 inX2 inX3 inX4 inX5 inX6 inX7 inX8
theorem eCl_ty : ∀ c, c < 9 → ∀ k, k < (eCl c).2.2 → parseFieldDescriptor ((eCl c).2.1 k).2.2.1 = some (eTy c k) := e_cases9 tyX0_ok tyX1_ok tyX2_ok tyX3_ok tyX4_ok tyX5_ok tyX6_ok tyX7_ok tyX8_ok
theorem eCl_nm : ∀ c, c < 9 → ∀ a, a < (eCl c).2.2 → ∀ b, b < (eCl c).2.2 → a ≠ b → ((eCl c).2.1 a).2.1 ≠ ((eCl c).2.1 b).2.1 := e_cases9 nmX0 nmX1 nmX2 nmX3 nmX4 nmX5 nmX6 nmX7 nmX8
/-- one field -/
def fV (ad : Nat → Nat) (I : eI) (R : eR) (a c k : Nat) : Value := if eint c k = true then .int (I a k) else va_rf ((R a k).map ad)
def eFs (ad : Nat → Nat) (I : eI) (R : eR) (a c : Nat) : List Value := (List.range (eN c)).map (fV ad I R a c)
/-- one cell -/
def eC (cy : Nat → ClassId) (ad : Nat → Nat) (t : eT) (I : eI) (R : eR) (a : Nat) : va_E :=
  if (t a).1 < 9 then .inr ((t a).1, eFs ad I R a (t a).1)
  else if (t a).1 < 11 then .inl (cy (t a).1, (t a).2, .inl (I a))
  else .inl (cy (t a).1, (t a).2, .inr (.inr (.inr (.inr (fun j => (R a j).map ad)))))
def eW (cy : Nat → ClassId) (ad : Nat → Nat) (n : Nat) (t : eT) (I : eI) (R : eR) : va_W := (List.range (n - 4)).map (fun i => (ad (i + 4), eC cy ad t I R (i + 4)))
def adr (b : Nat) (z : Nat → Nat) (i : Nat) : Nat := if i < 4 then z i else b + (z i - 4)
theorem adr_hi {b : Nat} {z : Nat → Nat} {i : Nat} (h : 4 ≤ i) (hz : z i = i) : adr b z i = b + (i - 4) := by
  unfold adr
  rw [if_neg (by omega), hz]
theorem adr_lo {b : Nat} {z : Nat → Nat} {i : Nat} (h : i < 4) : adr b z i = z i := if_pos h
theorem eW_len (cy : Nat → ClassId) (ad : Nat → Nat) (n : Nat) (t : eT) (I : eI) (R : eR) : (eW cy ad n t I R).length = n - 4 := by simp [eW]
theorem eW_get {cy : Nat → ClassId} {ad : Nat → Nat} {n : Nat} {t : eT} {I : eI} {R : eR} {a : Nat} (h : 4 ≤ a) (h2 : a < n) : (eW cy ad n t I R)[a - 4]? = some (ad a, eC cy ad t I R a) := by
  unfold eW
  rw [List.getElem?_map, List.getElem?_range (by omega)]
  show some (ad (a - 4 + 4), eC cy ad t I R (a - 4 + 4)) = _
  rw [show a - 4 + 4 = a by omega]
theorem eW_in {cy : Nat → ClassId} {ad : Nat → Nat} {n : Nat} {t : eT} {I : eI} {R : eR} {k : Nat} {q : Nat × va_E} (h : (eW cy ad n t I R)[k]? = some q) : k + 4 < n ∧ q = (ad (k + 4), eC cy ad t I R (k + 4)) := by
  unfold eW at h
  rw [List.getElem?_map] at h
  by_cases hk : k < n - 4
  · rw [List.getElem?_range hk] at h
    exact ⟨by omega, (Option.some.inj h).symm⟩
  · rw [List.getElem?_eq_none (by rw [List.length_range]; omega)] at h
    cases h
theorem eW_set {cy : Nat → ClassId} {ad : Nat → Nat} {n : Nat} {t : eT} {I I2 : eI} {R R2 : eR} {a : Nat} {e : va_E} (h : 4 ≤ a) (he : eC cy ad t I2 R2 a = e) (ho : ∀ x, x ≠ a → eC cy ad t I2 R2 x = eC cy ad t I R x) : (eW cy ad n t I R).set (a - 4) (ad a, e) = eW cy ad n t I2 R2 := by
  apply List.ext_getElem?
  intro k
  rw [List.getElem?_set]
  by_cases hk : a - 4 = k
  · subst hk
    rw [if_pos rfl, eW_len]
    by_cases hn : a - 4 < n - 4
    · rw [if_pos hn, eW_get h (by omega), he]
    · rw [if_neg hn, List.getElem?_eq_none (by rw [eW_len]; omega)]
  · rw [if_neg hk]
    unfold eW
    rw [List.getElem?_map, List.getElem?_map]
    by_cases hn : k < n - 4
    · rw [List.getElem?_range hn]
      show some (_, _) = some (_, _)
      rw [ho (k + 4) (by omega)]
    · rw [List.getElem?_eq_none (by rw [List.length_range]; omega)]
      rfl
theorem eW_push {cy : Nat → ClassId} {ad : Nat → Nat} {n : Nat} {t t2 : eT} {I I2 : eI} {R R2 : eR} {e : va_E} (h : 4 ≤ n) (he : eC cy ad t2 I2 R2 n = e) (ho : ∀ x, x < n → eC cy ad t2 I2 R2 x = eC cy ad t I R x) : (eW cy ad n t I R) ++ [(ad n, e)] = eW cy ad (n + 1) t2 I2 R2 := by
  unfold eW
  rw [show n + 1 - 4 = n - 4 + 1 by omega, List.range_succ, List.map_append]
  congr 1
  · apply List.map_congr_left
    intro i hi
    rw [ho (i + 4) (by have := List.mem_range.mp hi; omega)]
  · show _ = [(ad (n - 4 + 4), eC cy ad t2 I2 R2 (n - 4 + 4))]
    rw [show n - 4 + 4 = n by omega, he]
/-- f with v at (a, k) -/
def eU {α : Type} (f : Nat → Nat → α) (a k : Nat) (v : α) : Nat → Nat → α := fun x y => if x = a ∧ y = k then v else f x y
/-- f with the row g at a -/
def eG {α : Type} (f : Nat → α) (a : Nat) (g : α) : Nat → α := fun x => if x = a then g else f x
theorem eU_ne {α : Type} {f : Nat → Nat → α} {a k : Nat} {v : α} {x : Nat} (h : x ≠ a) : eU f a k v x = f x := by funext y; simp [eU, h]
theorem eU_row {α : Type} (f : Nat → Nat → α) (a k : Nat) (v : α) : eU f a k v a = fun y => if y = k then v else f a y := by funext y; simp [eU]
theorem eG_eq {α : Type} (f : Nat → α) (a : Nat) (g : α) : eG f a g a = g := by simp [eG]
theorem eG_ne {α : Type} {f : Nat → α} {a : Nat} {g : α} {x : Nat} (h : x ≠ a) : eG f a g x = f x := by simp [eG, h]
theorem eC_obj {cy : Nat → ClassId} {ad : Nat → Nat} {t : eT} {I : eI} {R : eR} {a c : Nat} (h : (t a).1 = c) (hc : c < 9) : eC cy ad t I R a = .inr (c, eFs ad I R a c) := by unfold eC; rw [h, if_pos hc]
theorem eC_ia {cy : Nat → ClassId} {ad : Nat → Nat} {t : eT} {I : eI} {R : eR} {a c : Nat} (h : (t a).1 = c) (hc : 9 ≤ c) (hd : c < 11) : eC cy ad t I R a = .inl (cy c, (t a).2, .inl (I a)) := by unfold eC; rw [h, if_neg (by omega), if_pos hd]
theorem eC_ra {cy : Nat → ClassId} {ad : Nat → Nat} {t : eT} {I : eI} {R : eR} {a c : Nat} (h : (t a).1 = c) (hc : 11 ≤ c) : eC cy ad t I R a = .inl (cy c, (t a).2, .inr (.inr (.inr (.inr (fun j => (R a j).map ad))))) := by unfold eC; rw [h, if_neg (by omega), if_neg (by omega)]
theorem eC_congr {cy : Nat → ClassId} {ad : Nat → Nat} {t t2 : eT} {I I2 : eI} {R R2 : eR} {a : Nat} (h1 : t2 a = t a) (h2 : I2 a = I a) (h3 : R2 a = R a) : eC cy ad t2 I2 R2 a = eC cy ad t I R a := by
  unfold eC eFs
  have h4 : fV ad I2 R2 a = fV ad I R a := by funext c k; unfold fV; rw [h2, h3]
  rw [h1, h2, h3, h4]
theorem eFs_get {ad : Nat → Nat} {I : eI} {R : eR} {a c k : Nat} (h : k < eN c) : (eFs ad I R a c)[k]? = some (fV ad I R a c k) := by
  unfold eFs
  rw [List.getElem?_map, List.getElem?_range h]
  rfl
theorem eFs_len {ad : Nat → Nat} {I : eI} {R : eR} {a c : Nat} : (eFs ad I R a c).length = eN c := by simp [eFs]
theorem eFs_set {ad : Nat → Nat} {I I2 : eI} {R R2 : eR} {a c k : Nat} {v : Value} (hv : fV ad I2 R2 a c k = v) (ho : ∀ j, j ≠ k → fV ad I2 R2 a c j = fV ad I R a c j) : (eFs ad I R a c).set k v = eFs ad I2 R2 a c := by
  apply List.ext_getElem?
  intro j
  rw [List.getElem?_set]
  by_cases hj : k = j
  · subst hj
    rw [if_pos rfl, eFs_len]
    by_cases hn : k < eN c
    · rw [if_pos hn, eFs_get hn, hv]
    · rw [if_neg hn, List.getElem?_eq_none (by rw [eFs_len]; omega)]
  · rw [if_neg hj]
    by_cases hn : j < eN c
    · rw [eFs_get hn, eFs_get hn, ho j (fun q => hj q.symm)]
    · rw [List.getElem?_eq_none (by rw [eFs_len]; omega), List.getElem?_eq_none (by rw [eFs_len]; omega)]
/-- the array kinds -/
def eTL (cy : Nat → ClassId) : List (ClassId × FieldType) := [(cy 9, .int), (cy 10, .boolean), (cy 11, .object RX3), (cy 12, .object RX6), (cy 13, .array .int)]
/-- the world -/
def eWd (D : va_G) (cy : Nat → ClassId) (b : Nat) (z : Nat → Nat) (F : eF) (A : Nat → Prop) (n : Nat) (t : eT) (I : eI) (R : eR) (H : Heap) (s : State) : Prop :=
  va_K D vwCl (eTL cy) s ∧ va_P D vwCl (eW cy (adr b z) n t I R) H ∧ va_D A (eW cy (adr b z) n t I R) ∧ H.size = adr b z n ∧ 4 ≤ n ∧ (∀ j, j < 4 → t j = (14, (F j).1) ∧ I j = (F j).2) ∧ ∀ a, n ≤ a → (t a).1 = 15 ∧ z a = a
/-- what was there before -/
def eFz (z : Nat → Nat) (F : eF) (A : Nat → Prop) (s : State) : Prop :=
  (∀ j, j < 4 → va_T .int (z j) (F j).1 (fun k => .int ((F j).2 k)) A s s.heap) ∧ va_Z RX7 "LEAST_ABLE" "[I" (.ref (z 0)) A s s.heap ∧ va_Z RX7 "MOST_ABLE" "[I" (.ref (z 1)) A s s.heap ∧ va_Z RX7 "MOST_RULED" "[I" (.ref (z 2)) A s s.heap
/-- locals -/
def kn (v : Value) : Bool := match v with
  | .float _ => false
  | .double _ => false
  | _ => true
def sec (v : Value) : Bool := match v with
  | .float x => x == 1
  | _ => false
def nth (L : List Value) (i : Nat) : Option Value := match L, i with
  | [], _ => none
  | a :: _, 0 => some a
  | _ :: l, i + 1 => nth l i
theorem nth_eq (L : List Value) (i : Nat) : nth L i = L[i]? := by
  induction L generalizing i with
  | nil => rfl
  | cons a l ih =>
    cases i with
    | zero => rfl
    | succ i => show nth l i = _; rw [ih]; rfl
def eL (ad : Nat → Nat) (ls : Array Slot) (nL : Nat) (L : List Value) : Prop := ls.size = nL ∧ lv_wf ls ∧ L.length = nL ∧ (∀ (i : Nat) (v : Value), L[i]? = some v → kn v = true → ls[i]? = some (.val (cv ad v))) ∧ ∀ (i : Nat) (x : Int64), L[i]? = some (.long x) → L[i + 1]? = some vM
def eAs (ad : Nat → Nat) (L : List Value) : List (Nat × Value) := (List.range L.length).filterMap (fun i => match L[i]? with
  | some v => if kn v = true then some (i, cv ad v) else none
  | none => none)
theorem eAs_mem {ad : Nat → Nat} {L : List Value} {q : Nat × Value} (h : q ∈ eAs ad L) : ∃ v, L[q.1]? = some v ∧ kn v = true ∧ q.2 = cv ad v := by
  unfold eAs at h
  obtain ⟨i, -, hi⟩ := List.mem_filterMap.mp h
  cases hv : L[i]? with
  | none => rw [hv] at hi; cases hi
  | some v =>
    rw [hv] at hi
    by_cases hk : kn v = true
    · simp only [hk, if_true] at hi
      cases hi
      exact ⟨v, hv, hk, rfl⟩
    · simp only [hk] at hi
      cases hi
theorem eAs_of {ad : Nat → Nat} {L : List Value} {i : Nat} {v : Value} (h : L[i]? = some v) (hk : kn v = true) : (i, cv ad v) ∈ eAs ad L := by
  unfold eAs
  refine List.mem_filterMap.mpr ⟨i, List.mem_range.mpr (List.getElem?_eq_some_iff.mp h).1, ?_⟩
  rw [h]
  simp only [hk, if_true]
theorem eL.has {ad : Nat → Nat} {ls : Array Slot} {nL : Nat} {L : List Value} (h : eL ad ls nL L) : lv_has ls nL (eAs ad L) := ⟨h.1, h.2.1, fun q hq => by
  obtain ⟨v, h1, h2, h3⟩ := eAs_mem hq
  rw [h3]
  exact h.2.2.2.1 q.1 v h1 h2⟩
theorem eL.at {ad : Nat → Nat} {ls : Array Slot} {nL : Nat} {L : List Value} (h : eL ad ls nL L) {i : Nat} {v : Value} (hi : nth L i = some v) (hk : kn v = true) : ls[i]? = some (.val (cv ad v)) := h.2.2.2.1 i v (by rw [← nth_eq]; exact hi) hk
theorem eL.store1 {ad : Nat → Nat} {ls ls2 : Array Slot} {nL : Nat} {L : List Value} (h : eL ad ls nL L) {i : Nat} {v w old : Value} (hw : w = cv ad v) (hv : kn v = true) (hc : v.category = 1) (hi : nth L i = some old) (hs : sec old = false) (h2 : lv_has ls2 nL ((i, w) :: (eAs ad L).filter (fun q => !(q.1 == i) && !(q.1 + 1 == i && q.2.category == 2)))) : eL ad ls2 nL (L.set i v) := by
  rw [nth_eq] at hi
  have hlt : i < L.length := (List.getElem?_eq_some_iff.mp hi).1
  have hnl : ∀ x, v ≠ .long x := fun x q => by rw [q] at hc; cases hc
  refine ⟨h2.1, h2.2.1, by rw [List.length_set]; exact h.2.2.1, fun j u hj hk => ?_, fun j x hj => ?_⟩
  · rw [List.getElem?_set] at hj
    by_cases e : i = j
    · subst e
      rw [if_pos rfl, if_pos hlt] at hj
      cases hj
      have := h2.2.2 (i, w) List.mem_cons_self
      rw [hw] at this
      exact this
    · rw [if_neg e] at hj
      refine h2.2.2 (j, cv ad u) (List.mem_cons_of_mem _ (List.mem_filter.mpr ⟨eAs_of hj hk, ?_⟩))
      have e1 : (j == i) = false := by simp; omega
      have e2 : (j + 1 == i && (cv ad u).category == 2) = false := by
        by_cases e3 : j + 1 = i
        · subst e3
          by_cases e4 : (cv ad u).category = 2
          · exfalso
            cases u with
            | long x =>
              have := h.2.2.2.2 j x hj
              rw [hi] at this
              cases this
              cases hs
            | double x => cases hk
            | _ => rw [cv_cat] at e4; cases e4
          · simp [e4]
        · simp [e3]
      show (!(j == i) && !(j + 1 == i && (cv ad u).category == 2)) = true
      rw [e1, e2]
      rfl
  · rw [List.getElem?_set] at hj
    by_cases e : i = j
    · subst e
      rw [if_pos rfl, if_pos hlt] at hj
      cases hj
      exact absurd rfl (hnl x)
    · rw [if_neg e] at hj
      have h9 := h.2.2.2.2 j x hj
      rw [List.getElem?_set]
      by_cases e5 : i = j + 1
      · exfalso
        rw [← e5, hi] at h9
        cases h9
        cases hs
      · rw [if_neg e5]
        exact h9
theorem eL.store2 {ad : Nat → Nat} {ls ls2 : Array Slot} {nL : Nat} {L : List Value} (h : eL ad ls nL L) {i : Nat} {x : Int64} {old : Value} (hi : nth L i = some old) (hs : sec old = false) (h1 : i + 1 < nL) (h2 : lv_has ls2 nL ((i, .long x) :: (eAs ad L).filter (fun q => !(q.1 == i) && (!(q.1 == i + 1) && !(q.1 + 1 == i && q.2.category == 2))))) : eL ad ls2 nL ((L.set i (.long x)).set (i + 1) vM) := by
  rw [nth_eq] at hi
  have hll : L.length = nL := h.2.2.1
  refine ⟨h2.1, h2.2.1, by rw [List.length_set, List.length_set]; exact h.2.2.1, fun j u hj hk => ?_, fun j y hj => ?_⟩
  · rw [List.getElem?_set] at hj
    by_cases e0 : i + 1 = j
    · rw [if_pos e0, if_pos (by rw [List.length_set]; omega)] at hj
      cases hj
      cases hk
    rw [if_neg e0, List.getElem?_set] at hj
    by_cases e : i = j
    · subst e
      rw [if_pos rfl, if_pos (by omega)] at hj
      cases hj
      exact h2.2.2 (i, .long x) List.mem_cons_self
    · rw [if_neg e] at hj
      refine h2.2.2 (j, cv ad u) (List.mem_cons_of_mem _ (List.mem_filter.mpr ⟨eAs_of hj hk, ?_⟩))
      have e1 : (j == i) = false := by simp; omega
      have e1b : (j == i + 1) = false := by simp; omega
      have e2 : (j + 1 == i && (cv ad u).category == 2) = false := by
        by_cases e3 : j + 1 = i
        · subst e3
          by_cases e4 : (cv ad u).category = 2
          · exfalso
            cases u with
            | long x =>
              have := h.2.2.2.2 j x hj
              rw [hi] at this
              cases this
              cases hs
            | double x => cases hk
            | _ => rw [cv_cat] at e4; cases e4
          · simp [e4]
        · simp [e3]
      show (!(j == i) && (!(j == i + 1) && !(j + 1 == i && (cv ad u).category == 2))) = true
      rw [e1, e1b, e2]
      rfl
  · rw [List.getElem?_set] at hj
    by_cases e0 : i + 1 = j
    · rw [if_pos e0, if_pos (by rw [List.length_set]; omega)] at hj
      cases hj
    rw [if_neg e0, List.getElem?_set] at hj
    rw [List.getElem?_set]
    by_cases e : i = j
    · subst e
      rw [if_pos rfl, if_pos (by rw [List.length_set]; omega)]
    · rw [if_neg e] at hj
      have h9 := h.2.2.2.2 j y hj
      by_cases e5 : i + 1 = j + 1
      · omega
      rw [if_neg e5, List.getElem?_set]
      by_cases e6 : i = j + 1
      · exfalso
        rw [← e6, hi] at h9
        cases h9
        cases hs
      · rw [if_neg e6]
        exact h9
