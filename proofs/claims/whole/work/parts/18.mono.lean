theorem MC.mono {y : MethodName} {cc : ByteArray} {nL : Nat} {ret : Option FieldType} {d K N : Nat} {vals : List Value} {n : Nat} {t : eT} {I : eI} {R : eR} {Q Q2 : eQt} (h : MC y cc nL ret d K N vals n t I R Q) (hq : ∀ rv n t I R, Q rv n t I R → Q2 rv n t I R) : MC y cc nL ret d K N vals n t I R Q2 := by
  intro l D cy b z F p e h1 h2 h3 s m args below h4 h5 h6 h7
  obtain ⟨k, o, a1, a2, a3, ⟨⟨rv, n2, t2, I2, R2, e1, e2, e3⟩, a5⟩, a6⟩ := h l D cy b z F p e h1 h2 h3 s m args below h4 h5 h6 h7
  exact ⟨k, o, a1, a2, a3, ⟨⟨rv, n2, t2, I2, R2, e1, hq _ _ _ _ _ e2, e3⟩, a5⟩, a6⟩
theorem MC.monoI {y : MethodName} {cc : ByteArray} {nL : Nat} {ret : Option FieldType} {d K N : Nat} {vals : List Value} {n : Nat} {t : eT} {I : eI} {R : eR} {Q Q2 : Int32 → Nat → eT → eI → eR → Prop} (h : MC y cc nL ret d K N vals n t I R (qI Q)) (hq : ∀ r n t I R, Q r n t I R → Q2 r n t I R) : MC y cc nL ret d K N vals n t I R (qI Q2) :=
  h.mono (fun rv n t I R ⟨r, e, g⟩ => ⟨r, e, hq r n t I R g⟩)
theorem MC.monoL {y : MethodName} {cc : ByteArray} {nL : Nat} {ret : Option FieldType} {d K N : Nat} {vals : List Value} {n : Nat} {t : eT} {I : eI} {R : eR} {Q Q2 : Int64 → Nat → eT → eI → eR → Prop} (h : MC y cc nL ret d K N vals n t I R (qL Q)) (hq : ∀ r n t I R, Q r n t I R → Q2 r n t I R) : MC y cc nL ret d K N vals n t I R (qL Q2) :=
  h.mono (fun rv n t I R ⟨r, e, g⟩ => ⟨r, e, hq r n t I R g⟩)
/-- the reference's static tables, and what they hold -/
def FZ (t : eT) (I : eI) (L : Nat) (xs : Nat → Int32) : Prop := t 0 = (14, 3) ∧ t 1 = (14, 3) ∧ t 2 = (14, 2) ∧ t 3 = (14, L) ∧ I 0 0 = 0 ∧ I 0 1 = 0 ∧ I 0 2 = 1 ∧ I 1 0 = 2 ∧ I 1 1 = 4095 ∧ I 1 2 = 10 ∧ I 2 0 = 10 ∧ I 2 1 = 99 ∧ I 3 = xs
def f_tab (L : Nat) (xs : Nat → Int32) : eF := fun j => match j with
  | 0 => (3, fun k => match k with | 2 => 1 | _ => 0)
  | 1 => (3, fun k => match k with | 0 => 2 | 1 => 4095 | _ => 10)
  | 2 => (2, fun k => match k with | 0 => 10 | _ => 99)
  | _ => (L, xs)
def t_0 (L : Nat) : eT := fun a => match a with
  | 0 => (14, 3)
  | 1 => (14, 3)
  | 2 => (14, 2)
  | 3 => (14, L)
  | _ => (15, 0)
def I_0 (L : Nat) (xs : Nat → Int32) : eI := fun a => (f_tab L xs a).2
