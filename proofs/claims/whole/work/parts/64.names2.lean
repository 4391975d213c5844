/-! the state told by other names of the places: s gives the place of a name, u the name of a place -/
def rnZ (s : Nat → Nat) (z : Nat → Nat) : Nat → Nat := fun i => z (s i)
def rnT (s : Nat → Nat) (t : eT) : eT := fun a => t (s a)
def rnI (s : Nat → Nat) (I : eI) : eI := fun a => I (s a)
def rnR (s u : Nat → Nat) (R : eR) : eR := fun a k => (R (s a) k).map u
section RN
variable {s u : Nat → Nat} {b : Nat} {z : Nat → Nat} {m n : Nat}
theorem rn_fix (h2 : ∀ x, u (s x) = x) {a : Nat} (h : s (s a) = s a) : s a = a := by
  have e := congrArg u h
  rw [h2, h2] at e
  exact e
theorem rn_4 (h2 : ∀ x, u (s x) = x) (hlo : ∀ x, x < 4 → s x = x) {a : Nat} (h : 4 ≤ a) : 4 ≤ s a := by
  rcases Nat.lt_or_ge (s a) 4 with g | g
  · have e := rn_fix h2 (hlo (s a) g)
    omega
  · exact g
theorem rn_n (h2 : ∀ x, u (s x) = x) (hhi : ∀ x, m ≤ x → s x = x) (hm : m ≤ n) {a : Nat} (h : a < n) : s a < n := by
  rcases Nat.lt_or_ge (s a) n with g | g
  · exact g
  · have e := rn_fix h2 (hhi (s a) (by omega))
    omega
theorem adr_rn (h2 : ∀ x, u (s x) = x) (hlo : ∀ x, x < 4 → s x = x) (a : Nat) : adr b (rnZ s z) a = adr b z (s a) := by
  unfold adr
  by_cases g : a < 4
  · rw [if_pos g, if_pos (by rw [hlo a g]; exact g)]
    rfl
  · have := rn_4 h2 hlo (show 4 ≤ a by omega)
    rw [if_neg g, if_neg (by omega)]
    rfl
theorem map_rn (h1 : ∀ x, s (u x) = x) (h2 : ∀ x, u (s x) = x) (hlo : ∀ x, x < 4 → s x = x) (o : Option Nat) : (o.map u).map (adr b (rnZ s z)) = o.map (adr b z) := by
  cases o with
  | none => rfl
  | some x =>
    show some (adr b (rnZ s z) (u x)) = some (adr b z x)
    rw [adr_rn h2 hlo, h1]
theorem eC_rn {cy : Nat → ClassId} {t : eT} {I : eI} {R : eR} (h1 : ∀ x, s (u x) = x) (h2 : ∀ x, u (s x) = x) (hlo : ∀ x, x < 4 → s x = x) (a : Nat) : eC cy (adr b (rnZ s z)) (rnT s t) (rnI s I) (rnR s u R) a = eC cy (adr b z) t I R (s a) := by
  have e1 : eFs (adr b (rnZ s z)) (rnI s I) (rnR s u R) a = eFs (adr b z) I R (s a) := by
    funext c
    unfold eFs
    congr 1
    funext k
    unfold fV
    show (if eint c k = true then Value.int (I (s a) k) else va_rf (((R (s a) k).map u).map (adr b (rnZ s z)))) = _
    rw [map_rn h1 h2 hlo]
  have e2 : (fun j => (rnR s u R a j).map (adr b (rnZ s z))) = fun j => (R (s a) j).map (adr b z) := funext (fun j => map_rn h1 h2 hlo _)
  unfold eC
  rw [e1, e2]
  rfl
theorem eWd.rn {D : va_G} {cy : Nat → ClassId} {F : eF} {A : Nat → Prop} {t : eT} {I : eI} {R : eR} {H : Heap} {st : State} (h : eWd D cy b z F A n t I R H st) (h1 : ∀ x, s (u x) = x) (h2 : ∀ x, u (s x) = x) (hlo : ∀ x, x < 4 → s x = x) (hhi : ∀ x, m ≤ x → s x = x) (hm : m ≤ n) : eWd D cy b (rnZ s z) F A n (rnT s t) (rnI s I) (rnR s u R) H st := by
  obtain ⟨g1, g2, g3, g4, g5, g6, g7⟩ := h
  have key : ∀ (k : Nat) (q : Nat × va_E), (eW cy (adr b (rnZ s z)) n (rnT s t) (rnI s I) (rnR s u R))[k]? = some q → (eW cy (adr b z) n t I R)[s (k + 4) - 4]? = some q ∧ k + 4 < n := fun k q hq => by
    obtain ⟨hk, e⟩ := eW_in hq
    subst e
    rw [adr_rn h2 hlo, eC_rn h1 h2 hlo]
    exact ⟨eW_get (rn_4 h2 hlo (by omega)) (rn_n h2 hhi hm hk), hk⟩
  refine ⟨g1, fun k q hq => g2 _ q (key k q hq).1, ⟨fun i j p q hp hq e => ?_, fun k q hq => g3.2 _ q (key k q hq).1⟩, ?_, g5, fun j hj => ?_, fun a ha => ?_⟩
  · have e9 := g3.1 _ _ p q (key i p hp).1 (key j q hq).1 e
    have i4 := rn_4 h2 hlo (show 4 ≤ i + 4 by omega)
    have j4 := rn_4 h2 hlo (show 4 ≤ j + 4 by omega)
    have e8 : s (i + 4) = s (j + 4) := by omega
    have e7 := congrArg u e8
    rw [h2, h2] at e7
    omega
  · rw [adr_rn h2 hlo, hhi n hm]
    exact g4
  · show t (s j) = _ ∧ I (s j) = _
    rw [hlo j hj]
    exact g6 j hj
  · show (t (s a)).1 = 15 ∧ z (s a) = a
    rw [hhi a (by omega)]
    exact g7 a ha
theorem kn_cv (v : Value) : kn (cv s v) = kn v := by cases v <;> rfl
theorem cv_rn (h2 : ∀ x, u (s x) = x) (hlo : ∀ x, x < 4 → s x = x) (v : Value) : cv (adr b (rnZ s z)) v = cv (adr b z) (cv s v) := by
  cases v with
  | ref i =>
    show Value.ref (adr b (rnZ s z) i) = Value.ref (adr b z (s i))
    rw [adr_rn h2 hlo]
  | _ => rfl
theorem cv_vM {v : Value} (h : cv s v = vM) : v = vM := by
  cases v with
  | float x => exact h
  | _ => cases h
theorem eL.rn {ls : Array Slot} {nL : Nat} {L : List Value} (h : eL (adr b z) ls nL (L.map (cv s))) (h2 : ∀ x, u (s x) = x) (hlo : ∀ x, x < 4 → s x = x) : eL (adr b (rnZ s z)) ls nL L := by
  refine ⟨h.1, h.2.1, by rw [← h.2.2.1, List.length_map], fun i v hi hk => ?_, fun i x hi => ?_⟩
  · rw [cv_rn h2 hlo]
    exact h.2.2.2.1 i (cv s v) (by rw [List.getElem?_map, hi]; rfl) (by rw [kn_cv]; exact hk)
  · have e := h.2.2.2.2 i x (by rw [List.getElem?_map, hi]; rfl)
    rw [List.getElem?_map] at e
    cases hv : L[i + 1]? with
    | none => rw [hv] at e; cases e
    | some v =>
      rw [hv] at e
      rw [cv_vM (Option.some.inj e)]
theorem wp_rn {y : MethodName} {cc : ByteArray} {nL : Nat} {ret : Option FieldType} {d K N : Nat} {kc ks pc : Nat} {L L2 : List Value} {t : eT} {I : eI} {R : eR} (h1 : ∀ x, s (u x) = x) (h2 : ∀ x, u (s x) = x) (hlo : ∀ x, x < 4 → s x = x) (hlu : ∀ x, x < 4 → u x = x) (hhi : ∀ x, n ≤ x → s x = x) (hhu : ∀ x, n ≤ x → u x = x) (hL : L2.map (cv s) = L) (k : wp y cc nL ret d K N (qI (fun r n2 _ _ _ => r = 1 ∧ n ≤ n2)) kc ks pc L2 [] n (rnT s t) (rnI s I) (rnR s u R)) : wp y cc nL ret d K N (qI (fun r _ _ _ _ => r = 1)) kc ks pc L [] n t I R := by
  intro p l e Rm st mi args below meth c D cy b z F A H locs ls C hA hF hW hS hl
  have hz : ∀ j, j < 4 → rnZ s z j = z j := fun j hj => by
    show z (s j) = z j
    rw [hlo j hj]
  subst hL
  have h9 := k p l e Rm st mi args below meth c D cy b (rnZ s z) F A H locs ls C hA ⟨fun j hj => by rw [hz j hj]; exact hF.1 j hj, by rw [hz 0 (by decide)]; exact hF.2.1, by rw [hz 1 (by decide)]; exact hF.2.2.1, by rw [hz 2 (by decide)]; exact hF.2.2.2⟩ (hW.rn h1 h2 hlo hhi (Nat.le_refl _)) hS (hl.rn h2 hlo)
  intro T hT X
  obtain ⟨v, k1, o, k2, k3, ⟨⟨rv, n2, t2, I2, R2, e1, ⟨r, e2, e3, e4⟩, hW2⟩, hF2⟩, hrest⟩ := h9 T hT X
  subst e2
  have hW3 := hW2.rn (s := u) (u := s) h2 h1 hlu hhu e4
  have ez : rnZ u (rnZ s z) = z := by
    funext i
    show z (s (u i)) = z i
    rw [h1]
  rw [ez] at hW3
  exact ⟨v, k1, o, k2, k3, ⟨⟨some (.int r), n2, _, _, _, e1, ⟨r, rfl, e3⟩, hW3⟩, hF2⟩, hrest⟩
end RN
def sgm (a : Nat) : Nat := if a < 48 then a else if a < 128 then a + 22 else if a < 132 then a - 79 else if a = 132 then 48 else if a < 145 then a - 79 else if a < 148 then a - 78 else if a = 148 then 53 else if a = 149 then 66 else a
def tau (x : Nat) : Nat := if x < 48 then x else if x = 48 then 132 else if x < 53 then x + 79 else if x = 53 then 148 else if x < 66 then x + 79 else if x = 66 then 149 else if x < 70 then x + 78 else if x < 150 then x - 22 else x
theorem sg_hi {a : Nat} (h : 150 ≤ a) : sgm a = a := by
  unfold sgm
  rw [if_neg (by omega), if_neg (by omega), if_neg (by omega), if_neg (by omega), if_neg (by omega), if_neg (by omega), if_neg (by omega), if_neg (by omega)]
theorem tu_hi {a : Nat} (h : 150 ≤ a) : tau a = a := by
  unfold tau
  rw [if_neg (by omega), if_neg (by omega), if_neg (by omega), if_neg (by omega), if_neg (by omega), if_neg (by omega), if_neg (by omega), if_neg (by omega)]
theorem sg_lo {a : Nat} (h : a < 4) : sgm a = a := if_pos (by omega)
theorem tu_lo {a : Nat} (h : a < 4) : tau a = a := if_pos (by omega)
theorem sg_b : ∀ a, a < 150 → sgm a < 150 ∧ tau a < 150 ∧ sgm (tau a) = a ∧ tau (sgm a) = a := by decide +kernel
theorem sg_tu (a : Nat) : sgm (tau a) = a := by
  rcases Nat.lt_or_ge a 150 with h | h
  · exact (sg_b a h).2.2.1
  · rw [tu_hi h, sg_hi h]
theorem tu_sg (a : Nat) : tau (sgm a) = a := by
  rcases Nat.lt_or_ge a 150 with h | h
  · exact (sg_b a h).2.2.2
  · rw [sg_hi h, tu_hi h]
theorem sg_4 : ∀ a, 4 ≤ a → 4 ≤ sgm a := fun _ h => rn_4 tu_sg (fun _ g => sg_lo g) h
