/-- what a method's body may count on -/
def eCx (y : MethodName) (cc : ByteArray) (nL : Nat) (ret : Option FieldType) (d K N : Nat) (p : Program) (Rm : Room) (s : State) (m : MethodId) (args : Array Value) (meth : Method) (c : Code) : Prop :=
  p.tables.exec = Jvm.exec ∧ c.code = cc ∧ meth.sig.returnType = ret ∧ c.maxLocals = nL ∧ s.vm.findClass y.cls = some m.cls ∧ (∀ w ∈ lw_w, w.before args s = true) ∧ meth.locks = false ∧ (y.name = "<init>" → meth.name = "<init>") ∧ d ≤ Rm.frames ∧ 64 * d ≤ Rm.locals ∧ K ≤ Rm.cells ∧ N ≤ Rm.slots
/-- how a method ends -/
def eQ (D : va_G) (cy : Nat → ClassId) (b : Nat) (z : Nat → Nat) (F : eF) (A : Nat → Prop) (Q : eQt) : Array Value → State → Outcome → State → Prop := fun _ st oc u =>
  (∃ (rv : Option Value) (n : Nat) (t : eT) (I : eI) (R : eR), oc = .returned (rv.map (cv (adr b z))) ∧ Q rv n t I R ∧ eWd D cy b z F A n t I R u.heap u) ∧ va_F A st u
def wp (y : MethodName) (cc : ByteArray) (nL : Nat) (ret : Option FieldType) (d K N : Nat) (Q : eQt) (kc ks pc : Nat) (L S : List Value) (n : Nat) (t : eT) (I : eI) (R : eR) : Prop :=
  ∀ (p : Program) (l : Launch) (e : Env) (Rm : Room) (s : State) (m : MethodId) (args : Array Value) (below : List Frame) (meth : Method) (c : Code) (D : va_G) (cy : Nat → ClassId) (b : Nat) (z : Nat → Nat) (F : eF) (A : Nat → Prop) (H : Heap) (locs : List Loc) (ls : Array Slot),
    eCx y cc nL ret d K N p Rm s m args meth c → (∀ q : Nat, s.heap.size ≤ q → A q) → eFz z F A s → eWd D cy b z F A n t I R H s → va_S A s.heap H locs → eL (adr b z) ls nL L →
    W p l e Rm s m args below meth c H locs kc ks (MQ below (eQ D cy b z F A Q) args s K N A) (F0 m pc ls (S.map (cv (adr b z))))
theorem eWd.moved {D : va_G} {cy : Nat → ClassId} {b : Nat} {z : Nat → Nat} {F : eF} {A : Nat → Prop} {n : Nat} {t : eT} {I : eI} {R : eR} {H : Heap} {s u : State} (h : eWd D cy b z F A n t I R H s) (hv : s.vm.Alike u.vm) (hu : u.heap = H) : eWd D cy b z F A n t I R u.heap u := by
  rw [hu]
  exact ⟨va_K.moved hv h.1, h.2⟩
theorem eWd.bnd {D : va_G} {cy : Nat → ClassId} {b : Nat} {z : Nat → Nat} {F : eF} {A : Nat → Prop} {n : Nat} {t : eT} {I : eI} {R : eR} {H : Heap} {s : State} (h : eWd D cy b z F A n t I R H s) {a c : Nat} (ht : (t a).1 = c) (hc : c < 14) : 4 ≤ a ∧ a < n := by
  obtain ⟨-, -, -, -, -, h6, h7⟩ := h
  constructor
  · rcases Nat.lt_or_ge a 4 with q | q
    · have := (h6 a q).1
      rw [this] at ht
      have : (14 : Nat) = c := ht
      omega
    · exact q
  · rcases Nat.lt_or_ge a n with q | q
    · exact q
    · have := (h7 a q).1
      omega
theorem eW_mem {D : va_G} {cy : Nat → ClassId} {b : Nat} {z : Nat → Nat} {F : eF} {A : Nat → Prop} {n : Nat} {t : eT} {I : eI} {R : eR} {H : Heap} {s : State} (h : eWd D cy b z F A n t I R H s) {a c : Nat} {e : va_E} (ht : (t a).1 = c) (hc : c < 14) (he : eC cy (adr b z) t I R a = e) : (eW cy (adr b z) n t I R)[a - 4]? = some (adr b z a, e) := by
  have q := h.bnd ht hc
  rw [← he]
  exact eW_get q.1 q.2
/-- the world behind a store -/
theorem eWd.put {D : va_G} {cy : Nat → ClassId} {b : Nat} {z : Nat → Nat} {F : eF} {A : Nat → Prop} {n : Nat} {t : eT} {I I2 : eI} {R R2 : eR} {H H1 : Heap} {s : State} (h : eWd D cy b z F A n t I R H s) {a c : Nat} {e : va_E} (ht : (t a).1 = c) (hc : c < 14) (he : eC cy (adr b z) t I2 R2 a = e) (hI : ∀ x, x ≠ a → I2 x = I x) (hR : ∀ x, x ≠ a → R2 x = R x)
    (hP : va_P D vwCl ((eW cy (adr b z) n t I R).set (a - 4) (adr b z a, e)) H1) (hD : va_D A ((eW cy (adr b z) n t I R).set (a - 4) (adr b z a, e))) (hz : H1.size = H.size) : eWd D cy b z F A n t I2 R2 H1 s := by
  have q := h.bnd ht hc
  have e1 := eW_set (n := n) (I := I) (R := R) q.1 he (fun x hx => eC_congr rfl (hI x hx) (hR x hx))
  rw [e1] at hP hD
  obtain ⟨h1, h2, h3, h4, h5, h6, h7⟩ := h
  exact ⟨h1, hP, hD, by rw [hz]; exact h4, h5, fun j hj => ⟨(h6 j hj).1, by rw [hI j (by omega)]; exact (h6 j hj).2⟩, h7⟩
section WPR
variable {y : MethodName} {cc : ByteArray} {nL : Nat} {ret : Option FieldType} {d K N : Nat} {Q : eQt} {kc ks pc : Nat} {L S : List Value} {n : Nat} {t : eT} {I : eI} {R : eR}
theorem wp_iconst {i : Int} {v : Int32} (hd : decode cc pc = .ok (.iconst i, 1)) (hv : Int32.ofInt i = v) (k : wp y cc nL ret d K N Q kc ks (pc + 1) L (.int v :: S) n t I R) : wp y cc nL ret d K N Q kc ks pc L (S) n t I R := by
  intro p l e Rm s m args below meth c D cy b z F A H locs ls C hA hF hW hS hl
  exact lv_iconst C.1 C.2.1 hd hv (k p l e Rm s m args below meth c D cy b z F A H locs ls C hA hF hW hS hl)
theorem wp_bipush {i : Int} {v : Int32} (hd : decode cc pc = .ok (.bipush i, 2)) (hv : (Int8.ofInt i).toInt32 = v) (k : wp y cc nL ret d K N Q kc ks (pc + 2) L (.int v :: S) n t I R) : wp y cc nL ret d K N Q kc ks pc L (S) n t I R := by
  intro p l e Rm s m args below meth c D cy b z F A H locs ls C hA hF hW hS hl
  exact lv_bipush C.1 C.2.1 hd hv (k p l e Rm s m args below meth c D cy b z F A H locs ls C hA hF hW hS hl)
theorem wp_sipush {i : Int} {v : Int32} (hd : decode cc pc = .ok (.sipush i, 3)) (hv : (Int16.ofInt i).toInt32 = v) (k : wp y cc nL ret d K N Q kc ks (pc + 3) L (.int v :: S) n t I R) : wp y cc nL ret d K N Q kc ks pc L (S) n t I R := by
  intro p l e Rm s m args below meth c D cy b z F A H locs ls C hA hF hW hS hl
  exact lv_sipush C.1 C.2.1 hd hv (k p l e Rm s m args below meth c D cy b z F A H locs ls C hA hF hW hS hl)
theorem wp_lconst {i : Fin 2} {v : Int64} (hd : decode cc pc = .ok (.lconst i, 1)) (hv : Int64.ofNat (i : Nat) = v) (k : wp y cc nL ret d K N Q kc ks (pc + 1) L (.long v :: S) n t I R) : wp y cc nL ret d K N Q kc ks pc L (S) n t I R := by
  intro p l e Rm s m args below meth c D cy b z F A H locs ls C hA hF hW hS hl
  exact lv_lconst C.1 C.2.1 hd hv (k p l e Rm s m args below meth c D cy b z F A H locs ls C hA hF hW hS hl)
theorem wp_ldc {idx : Nat} {v : Int32} (hd : decode cc pc = .ok (.ldc idx, 2)) (hc : Cond.constant y.cls idx v ∈ lw_w) (k : wp y cc nL ret d K N Q kc ks (pc + 2) L (.int v :: S) n t I R) : wp y cc nL ret d K N Q kc ks pc L (S) n t I R := by
  intro p l e Rm s m args below meth c D cy b z F A H locs ls C hA hF hW hS hl
  exact lv_ldc C.1 C.2.1 C.2.2.2.2.1 (C.2.2.2.2.2.1 _ hc) hd (k p l e Rm s m args below meth c D cy b z F A H locs ls C hA hF hW hS hl)
theorem wp_ldc_w {idx : Nat} {v : Int32} (hd : decode cc pc = .ok (.ldc_w idx, 3)) (hc : Cond.constant y.cls idx v ∈ lw_w) (k : wp y cc nL ret d K N Q kc ks (pc + 3) L (.int v :: S) n t I R) : wp y cc nL ret d K N Q kc ks pc L (S) n t I R := by
  intro p l e Rm s m args below meth c D cy b z F A H locs ls C hA hF hW hS hl
  exact lv_ldcw C.1 C.2.1 C.2.2.2.2.1 (C.2.2.2.2.2.1 _ hc) hd (k p l e Rm s m args below meth c D cy b z F A H locs ls C hA hF hW hS hl)
theorem wp_ldc2 {idx : Nat} {v : Int64} (hd : decode cc pc = .ok (.ldc2_w idx, 3)) (hc : Cond.constantLong y.cls idx v ∈ lw_w) (k : wp y cc nL ret d K N Q kc ks (pc + 3) L (.long v :: S) n t I R) : wp y cc nL ret d K N Q kc ks pc L (S) n t I R := by
  intro p l e Rm s m args below meth c D cy b z F A H locs ls C hA hF hW hS hl
  exact lv_ldc2 C.1 C.2.1 C.2.2.2.2.1 (C.2.2.2.2.2.1 _ hc) hd (k p l e Rm s m args below meth c D cy b z F A H locs ls C hA hF hW hS hl)
theorem wp_null  (hd : decode cc pc = .ok (.aconst_null, 1))  (k : wp y cc nL ret d K N Q kc ks (pc + 1) L (.null :: S) n t I R) : wp y cc nL ret d K N Q kc ks pc L (S) n t I R := by
  intro p l e Rm s m args below meth c D cy b z F A H locs ls C hA hF hW hS hl
  exact lv_null C.1 C.2.1 hd (k p l e Rm s m args below meth c D cy b z F A H locs ls C hA hF hW hS hl)
theorem wp_iload_n {j : Fin 4} {i : Nat} {x : Int32} (hd : decode cc pc = .ok (.iload_n j, 1)) (hi : j.val = i) (hl0 : nth L i = some (.int x)) (k : wp y cc nL ret d K N Q kc ks (pc + 1) L (.int x :: S) n t I R) : wp y cc nL ret d K N Q kc ks pc L (S) n t I R := by
  intro p l e Rm s m args below meth c D cy b z F A H locs ls C hA hF hW hS hl
  exact lv_iload_n C.1 C.2.1 hd hi (hl.at hl0 rfl) (k p l e Rm s m args below meth c D cy b z F A H locs ls C hA hF hW hS hl)
theorem wp_iload {i : Nat} {x : Int32} (hd : decode cc pc = .ok (.iload i, 2)) (hl0 : nth L i = some (.int x)) (k : wp y cc nL ret d K N Q kc ks (pc + 2) L (.int x :: S) n t I R) : wp y cc nL ret d K N Q kc ks pc L (S) n t I R := by
  intro p l e Rm s m args below meth c D cy b z F A H locs ls C hA hF hW hS hl
  exact lv_iload C.1 C.2.1 hd (hl.at hl0 rfl) (k p l e Rm s m args below meth c D cy b z F A H locs ls C hA hF hW hS hl)
theorem wp_lload_n {j : Fin 4} {i : Nat} {x : Int64} (hd : decode cc pc = .ok (.lload_n j, 1)) (hi : j.val = i) (hl0 : nth L i = some (.long x)) (k : wp y cc nL ret d K N Q kc ks (pc + 1) L (.long x :: S) n t I R) : wp y cc nL ret d K N Q kc ks pc L (S) n t I R := by
  intro p l e Rm s m args below meth c D cy b z F A H locs ls C hA hF hW hS hl
  exact lv_lload_n C.1 C.2.1 hd hi (hl.at hl0 rfl) (k p l e Rm s m args below meth c D cy b z F A H locs ls C hA hF hW hS hl)
theorem wp_lload {i : Nat} {x : Int64} (hd : decode cc pc = .ok (.lload i, 2)) (hl0 : nth L i = some (.long x)) (k : wp y cc nL ret d K N Q kc ks (pc + 2) L (.long x :: S) n t I R) : wp y cc nL ret d K N Q kc ks pc L (S) n t I R := by
  intro p l e Rm s m args below meth c D cy b z F A H locs ls C hA hF hW hS hl
  exact lv_lload C.1 C.2.1 hd (hl.at hl0 rfl) (k p l e Rm s m args below meth c D cy b z F A H locs ls C hA hF hW hS hl)
theorem wp_aload_n {j : Fin 4} {i : Nat} {x : Nat} (hd : decode cc pc = .ok (.aload_n j, 1)) (hi : j.val = i) (hl0 : nth L i = some (.ref x)) (k : wp y cc nL ret d K N Q kc ks (pc + 1) L (.ref x :: S) n t I R) : wp y cc nL ret d K N Q kc ks pc L (S) n t I R := by
  intro p l e Rm s m args below meth c D cy b z F A H locs ls C hA hF hW hS hl
  exact lv_aload_n C.1 C.2.1 hd hi (hl.at hl0 rfl) (k p l e Rm s m args below meth c D cy b z F A H locs ls C hA hF hW hS hl)
theorem wp_aload {i : Nat} {x : Nat} (hd : decode cc pc = .ok (.aload i, 2)) (hl0 : nth L i = some (.ref x)) (k : wp y cc nL ret d K N Q kc ks (pc + 2) L (.ref x :: S) n t I R) : wp y cc nL ret d K N Q kc ks pc L (S) n t I R := by
  intro p l e Rm s m args below meth c D cy b z F A H locs ls C hA hF hW hS hl
  exact lv_aload C.1 C.2.1 hd (hl.at hl0 rfl) (k p l e Rm s m args below meth c D cy b z F A H locs ls C hA hF hW hS hl)
theorem wp_aload_nN {j : Fin 4} {i : Nat} (hd : decode cc pc = .ok (.aload_n j, 1)) (hi : j.val = i) (hl0 : nth L i = some .null) (k : wp y cc nL ret d K N Q kc ks (pc + 1) L (.null :: S) n t I R) : wp y cc nL ret d K N Q kc ks pc L (S) n t I R := by
  intro p l e Rm s m args below meth c D cy b z F A H locs ls C hA hF hW hS hl
  exact lv_aload_nN C.1 C.2.1 hd hi (hl.at hl0 rfl) (k p l e Rm s m args below meth c D cy b z F A H locs ls C hA hF hW hS hl)
theorem wp_aloadN {i : Nat} (hd : decode cc pc = .ok (.aload i, 2)) (hl0 : nth L i = some .null) (k : wp y cc nL ret d K N Q kc ks (pc + 2) L (.null :: S) n t I R) : wp y cc nL ret d K N Q kc ks pc L (S) n t I R := by
  intro p l e Rm s m args below meth c D cy b z F A H locs ls C hA hF hW hS hl
  exact lv_aloadN C.1 C.2.1 hd (hl.at hl0 rfl) (k p l e Rm s m args below meth c D cy b z F A H locs ls C hA hF hW hS hl)
theorem wp_istore_n {j : Fin 4} {i : Nat} {x : Int32} {old : Value} (hd : decode cc pc = .ok (.istore_n j, 1)) (hi : j.val = i) (ho : nth L i = some old) (hs : sec old = false) (k : wp y cc nL ret d K N Q kc ks (pc + 1) (L.set i (.int x)) (S) n t I R) : wp y cc nL ret d K N Q kc ks pc L (.int x :: S) n t I R := by
  intro p l e Rm s m args below meth c D cy b z F A H locs ls C hA hF hW hS hl
  exact lv_istore_n C.1 C.2.1 hd hi hl.has (by rw [← hl.2.2.1]; exact (List.getElem?_eq_some_iff.mp (by rw [← nth_eq]; exact ho)).1) rfl (fun ls2 h2 => k p l e Rm s m args below meth c D cy b z F A H locs ls2 C hA hF hW hS (hl.store1 rfl rfl rfl ho hs h2))
theorem wp_istore {i : Nat} {x : Int32} {old : Value} (hd : decode cc pc = .ok (.istore i, 2))  (ho : nth L i = some old) (hs : sec old = false) (k : wp y cc nL ret d K N Q kc ks (pc + 2) (L.set i (.int x)) (S) n t I R) : wp y cc nL ret d K N Q kc ks pc L (.int x :: S) n t I R := by
  intro p l e Rm s m args below meth c D cy b z F A H locs ls C hA hF hW hS hl
  exact lv_istore C.1 C.2.1 hd hl.has (by rw [← hl.2.2.1]; exact (List.getElem?_eq_some_iff.mp (by rw [← nth_eq]; exact ho)).1) rfl (fun ls2 h2 => k p l e Rm s m args below meth c D cy b z F A H locs ls2 C hA hF hW hS (hl.store1 rfl rfl rfl ho hs h2))
theorem wp_astore_n {j : Fin 4} {i : Nat} {x : Nat} {old : Value} (hd : decode cc pc = .ok (.astore_n j, 1)) (hi : j.val = i) (ho : nth L i = some old) (hs : sec old = false) (k : wp y cc nL ret d K N Q kc ks (pc + 1) (L.set i (.ref x)) (S) n t I R) : wp y cc nL ret d K N Q kc ks pc L (.ref x :: S) n t I R := by
  intro p l e Rm s m args below meth c D cy b z F A H locs ls C hA hF hW hS hl
  exact lv_astore_n C.1 C.2.1 hd hi hl.has (by rw [← hl.2.2.1]; exact (List.getElem?_eq_some_iff.mp (by rw [← nth_eq]; exact ho)).1) rfl (fun ls2 h2 => k p l e Rm s m args below meth c D cy b z F A H locs ls2 C hA hF hW hS (hl.store1 rfl rfl rfl ho hs h2))
theorem wp_astore {i : Nat} {x : Nat} {old : Value} (hd : decode cc pc = .ok (.astore i, 2))  (ho : nth L i = some old) (hs : sec old = false) (k : wp y cc nL ret d K N Q kc ks (pc + 2) (L.set i (.ref x)) (S) n t I R) : wp y cc nL ret d K N Q kc ks pc L (.ref x :: S) n t I R := by
  intro p l e Rm s m args below meth c D cy b z F A H locs ls C hA hF hW hS hl
  exact lv_astore C.1 C.2.1 hd hl.has (by rw [← hl.2.2.1]; exact (List.getElem?_eq_some_iff.mp (by rw [← nth_eq]; exact ho)).1) rfl (fun ls2 h2 => k p l e Rm s m args below meth c D cy b z F A H locs ls2 C hA hF hW hS (hl.store1 rfl rfl rfl ho hs h2))
theorem wp_astore_nN {j : Fin 4} {i : Nat} {old : Value} (hd : decode cc pc = .ok (.astore_n j, 1)) (hi : j.val = i) (ho : nth L i = some old) (hs : sec old = false) (k : wp y cc nL ret d K N Q kc ks (pc + 1) (L.set i .null) (S) n t I R) : wp y cc nL ret d K N Q kc ks pc L (.null :: S) n t I R := by
  intro p l e Rm s m args below meth c D cy b z F A H locs ls C hA hF hW hS hl
  exact lv_astore_nN C.1 C.2.1 hd hi hl.has (by rw [← hl.2.2.1]; exact (List.getElem?_eq_some_iff.mp (by rw [← nth_eq]; exact ho)).1) rfl (fun ls2 h2 => k p l e Rm s m args below meth c D cy b z F A H locs ls2 C hA hF hW hS (hl.store1 rfl rfl rfl ho hs h2))
theorem wp_astoreN {i : Nat} {old : Value} (hd : decode cc pc = .ok (.astore i, 2))  (ho : nth L i = some old) (hs : sec old = false) (k : wp y cc nL ret d K N Q kc ks (pc + 2) (L.set i .null) (S) n t I R) : wp y cc nL ret d K N Q kc ks pc L (.null :: S) n t I R := by
  intro p l e Rm s m args below meth c D cy b z F A H locs ls C hA hF hW hS hl
  exact lv_astoreN C.1 C.2.1 hd hl.has (by rw [← hl.2.2.1]; exact (List.getElem?_eq_some_iff.mp (by rw [← nth_eq]; exact ho)).1) rfl (fun ls2 h2 => k p l e Rm s m args below meth c D cy b z F A H locs ls2 C hA hF hW hS (hl.store1 rfl rfl rfl ho hs h2))
theorem wp_lstore_n {j : Fin 4} {i : Nat} {x : Int64} {old : Value} (hd : decode cc pc = .ok (.lstore_n j, 1)) (hi : j.val = i) (ho : nth L i = some old) (hs : sec old = false) (h1 : i + 1 < nL) (k : wp y cc nL ret d K N Q kc ks (pc + 1) ((L.set i (.long x)).set (i + 1) vM) (S) n t I R) : wp y cc nL ret d K N Q kc ks pc L (.long x :: S) n t I R := by
  intro p l e Rm s m args below meth c D cy b z F A H locs ls C hA hF hW hS hl
  exact lv_lstore_n C.1 C.2.1 hd hi hl.has h1 rfl (fun ls2 h2 => k p l e Rm s m args below meth c D cy b z F A H locs ls2 C hA hF hW hS (hl.store2 ho hs h1 h2))
theorem wp_lstore {i : Nat} {x : Int64} {old : Value} (hd : decode cc pc = .ok (.lstore i, 2))  (ho : nth L i = some old) (hs : sec old = false) (h1 : i + 1 < nL) (k : wp y cc nL ret d K N Q kc ks (pc + 2) ((L.set i (.long x)).set (i + 1) vM) (S) n t I R) : wp y cc nL ret d K N Q kc ks pc L (.long x :: S) n t I R := by
  intro p l e Rm s m args below meth c D cy b z F A H locs ls C hA hF hW hS hl
  exact lv_lstore C.1 C.2.1 hd hl.has h1 rfl (fun ls2 h2 => k p l e Rm s m args below meth c D cy b z F A H locs ls2 C hA hF hW hS (hl.store2 ho hs h1 h2))
theorem wp_iinc {i : Nat} {j : Int} {x v : Int32} (hd : decode cc pc = .ok (.iinc i j, 3)) (ho : nth L i = some (.int x)) (hv : x + Int32.ofInt j = v) (k : wp y cc nL ret d K N Q kc ks (pc + 3) (L.set i (.int v)) (S) n t I R) : wp y cc nL ret d K N Q kc ks pc L (S) n t I R := by
  intro p l e Rm s m args below meth c D cy b z F A H locs ls C hA hF hW hS hl
  have hm : (i, Value.int x) ∈ eAs (adr b z) L := eAs_of (v := .int x) (by rw [← nth_eq]; exact ho) rfl
  obtain ⟨q, hq⟩ := List.getElem?_of_mem hm
  exact lv_iinc C.1 C.2.1 hd hl.has hq hv (by rw [← hl.2.2.1]; exact (List.getElem?_eq_some_iff.mp (by rw [← nth_eq]; exact ho)).1) rfl (fun ls2 h2 => k p l e Rm s m args below meth c D cy b z F A H locs ls2 C hA hF hW hS (hl.store1 (v := .int v) rfl rfl rfl ho rfl h2))
theorem wp_iadd {x1 x2 : Int32} (hd : decode cc pc = .ok (.iadd, 1))  (k : wp y cc nL ret d K N Q kc ks (pc + 1) L (.int (x1 + x2) :: S) n t I R) : wp y cc nL ret d K N Q kc ks pc L (.int x2 :: .int x1 :: S) n t I R := by
  intro p l e Rm s m args below meth c D cy b z F A H locs ls C hA hF hW hS hl
  exact lv_iadd C.1 C.2.1 hd (k p l e Rm s m args below meth c D cy b z F A H locs ls C hA hF hW hS hl)
theorem wp_isub {x1 x2 : Int32} (hd : decode cc pc = .ok (.isub, 1))  (k : wp y cc nL ret d K N Q kc ks (pc + 1) L (.int (x1 - x2) :: S) n t I R) : wp y cc nL ret d K N Q kc ks pc L (.int x2 :: .int x1 :: S) n t I R := by
  intro p l e Rm s m args below meth c D cy b z F A H locs ls C hA hF hW hS hl
  exact lv_isub C.1 C.2.1 hd (k p l e Rm s m args below meth c D cy b z F A H locs ls C hA hF hW hS hl)
theorem wp_imul {x1 x2 : Int32} (hd : decode cc pc = .ok (.imul, 1))  (k : wp y cc nL ret d K N Q kc ks (pc + 1) L (.int (x1 * x2) :: S) n t I R) : wp y cc nL ret d K N Q kc ks pc L (.int x2 :: .int x1 :: S) n t I R := by
  intro p l e Rm s m args below meth c D cy b z F A H locs ls C hA hF hW hS hl
  exact lv_imul C.1 C.2.1 hd (k p l e Rm s m args below meth c D cy b z F A H locs ls C hA hF hW hS hl)
theorem wp_iand {x1 x2 : Int32} (hd : decode cc pc = .ok (.iand, 1))  (k : wp y cc nL ret d K N Q kc ks (pc + 1) L (.int (x1 &&& x2) :: S) n t I R) : wp y cc nL ret d K N Q kc ks pc L (.int x2 :: .int x1 :: S) n t I R := by
  intro p l e Rm s m args below meth c D cy b z F A H locs ls C hA hF hW hS hl
  exact lv_iand C.1 C.2.1 hd (k p l e Rm s m args below meth c D cy b z F A H locs ls C hA hF hW hS hl)
theorem wp_ior {x1 x2 : Int32} (hd : decode cc pc = .ok (.ior, 1))  (k : wp y cc nL ret d K N Q kc ks (pc + 1) L (.int (x1 ||| x2) :: S) n t I R) : wp y cc nL ret d K N Q kc ks pc L (.int x2 :: .int x1 :: S) n t I R := by
  intro p l e Rm s m args below meth c D cy b z F A H locs ls C hA hF hW hS hl
  exact lv_ior C.1 C.2.1 hd (k p l e Rm s m args below meth c D cy b z F A H locs ls C hA hF hW hS hl)
theorem wp_ixor {x1 x2 : Int32} (hd : decode cc pc = .ok (.ixor, 1))  (k : wp y cc nL ret d K N Q kc ks (pc + 1) L (.int (x1 ^^^ x2) :: S) n t I R) : wp y cc nL ret d K N Q kc ks pc L (.int x2 :: .int x1 :: S) n t I R := by
  intro p l e Rm s m args below meth c D cy b z F A H locs ls C hA hF hW hS hl
  exact lv_ixor C.1 C.2.1 hd (k p l e Rm s m args below meth c D cy b z F A H locs ls C hA hF hW hS hl)
theorem wp_ishl {x1 x2 : Int32} (hd : decode cc pc = .ok (.ishl, 1))  (k : wp y cc nL ret d K N Q kc ks (pc + 1) L (.int (x1 <<< (x2 &&& 31)) :: S) n t I R) : wp y cc nL ret d K N Q kc ks pc L (.int x2 :: .int x1 :: S) n t I R := by
  intro p l e Rm s m args below meth c D cy b z F A H locs ls C hA hF hW hS hl
  exact lv_ishl C.1 C.2.1 hd (k p l e Rm s m args below meth c D cy b z F A H locs ls C hA hF hW hS hl)
theorem wp_ishr {x1 x2 : Int32} (hd : decode cc pc = .ok (.ishr, 1))  (k : wp y cc nL ret d K N Q kc ks (pc + 1) L (.int (x1 >>> (x2 &&& 31)) :: S) n t I R) : wp y cc nL ret d K N Q kc ks pc L (.int x2 :: .int x1 :: S) n t I R := by
  intro p l e Rm s m args below meth c D cy b z F A H locs ls C hA hF hW hS hl
  exact lv_ishr C.1 C.2.1 hd (k p l e Rm s m args below meth c D cy b z F A H locs ls C hA hF hW hS hl)
theorem wp_idiv {x1 x2 : Int32} (hd : decode cc pc = .ok (.idiv, 1)) (h0 : ¬ x2 = 0) (k : wp y cc nL ret d K N Q kc ks (pc + 1) L (.int (x1 / x2) :: S) n t I R) : wp y cc nL ret d K N Q kc ks pc L (.int x2 :: .int x1 :: S) n t I R := by
  intro p l e Rm s m args below meth c D cy b z F A H locs ls C hA hF hW hS hl
  exact lv_idiv C.1 C.2.1 hd h0 (k p l e Rm s m args below meth c D cy b z F A H locs ls C hA hF hW hS hl)
theorem wp_irem {x1 x2 : Int32} (hd : decode cc pc = .ok (.irem, 1)) (h0 : ¬ x2 = 0) (k : wp y cc nL ret d K N Q kc ks (pc + 1) L (.int (x1 % x2) :: S) n t I R) : wp y cc nL ret d K N Q kc ks pc L (.int x2 :: .int x1 :: S) n t I R := by
  intro p l e Rm s m args below meth c D cy b z F A H locs ls C hA hF hW hS hl
  exact lv_irem C.1 C.2.1 hd h0 (by rw [irem_eq_mod]; exact k p l e Rm s m args below meth c D cy b z F A H locs ls C hA hF hW hS hl)
theorem wp_iushr {x1 x2 : Int32} (hd : decode cc pc = .ok (.iushr, 1))  (k : wp y cc nL ret d K N Q kc ks (pc + 1) L (.int ((x1.toUInt32 >>> (x2.toUInt32 &&& Int32.toUInt32 31)).toInt32) :: S) n t I R) : wp y cc nL ret d K N Q kc ks pc L (.int x2 :: .int x1 :: S) n t I R := by
  intro p l e Rm s m args below meth c D cy b z F A H locs ls C hA hF hW hS hl
  exact lv_iushr C.1 C.2.1 hd rfl (k p l e Rm s m args below meth c D cy b z F A H locs ls C hA hF hW hS hl)
theorem wp_ineg {x : Int32} (hd : decode cc pc = .ok (.ineg, 1))  (k : wp y cc nL ret d K N Q kc ks (pc + 1) L (.int (-x) :: S) n t I R) : wp y cc nL ret d K N Q kc ks pc L (.int x :: S) n t I R := by
  intro p l e Rm s m args below meth c D cy b z F A H locs ls C hA hF hW hS hl
  exact lv_ineg C.1 C.2.1 hd (k p l e Rm s m args below meth c D cy b z F A H locs ls C hA hF hW hS hl)
theorem wp_ladd {x1 x2 : Int64} (hd : decode cc pc = .ok (.ladd, 1))  (k : wp y cc nL ret d K N Q kc ks (pc + 1) L (.long (x1 + x2) :: S) n t I R) : wp y cc nL ret d K N Q kc ks pc L (.long x2 :: .long x1 :: S) n t I R := by
  intro p l e Rm s m args below meth c D cy b z F A H locs ls C hA hF hW hS hl
  exact lv_ladd C.1 C.2.1 hd (k p l e Rm s m args below meth c D cy b z F A H locs ls C hA hF hW hS hl)
theorem wp_lsub {x1 x2 : Int64} (hd : decode cc pc = .ok (.lsub, 1))  (k : wp y cc nL ret d K N Q kc ks (pc + 1) L (.long (x1 - x2) :: S) n t I R) : wp y cc nL ret d K N Q kc ks pc L (.long x2 :: .long x1 :: S) n t I R := by
  intro p l e Rm s m args below meth c D cy b z F A H locs ls C hA hF hW hS hl
  exact lv_lsub C.1 C.2.1 hd (k p l e Rm s m args below meth c D cy b z F A H locs ls C hA hF hW hS hl)
theorem wp_lmul {x1 x2 : Int64} (hd : decode cc pc = .ok (.lmul, 1))  (k : wp y cc nL ret d K N Q kc ks (pc + 1) L (.long (x1 * x2) :: S) n t I R) : wp y cc nL ret d K N Q kc ks pc L (.long x2 :: .long x1 :: S) n t I R := by
  intro p l e Rm s m args below meth c D cy b z F A H locs ls C hA hF hW hS hl
  exact lv_lmul C.1 C.2.1 hd (k p l e Rm s m args below meth c D cy b z F A H locs ls C hA hF hW hS hl)
theorem wp_ldiv {x1 x2 : Int64} (hd : decode cc pc = .ok (.ldiv, 1)) (h0 : ¬ x2 = 0) (k : wp y cc nL ret d K N Q kc ks (pc + 1) L (.long (x1 / x2) :: S) n t I R) : wp y cc nL ret d K N Q kc ks pc L (.long x2 :: .long x1 :: S) n t I R := by
  intro p l e Rm s m args below meth c D cy b z F A H locs ls C hA hF hW hS hl
  exact lv_ldiv C.1 C.2.1 hd h0 (k p l e Rm s m args below meth c D cy b z F A H locs ls C hA hF hW hS hl)
theorem wp_lrem {x1 x2 : Int64} (hd : decode cc pc = .ok (.lrem, 1)) (h0 : ¬ x2 = 0) (k : wp y cc nL ret d K N Q kc ks (pc + 1) L (.long (x1 - x1 / x2 * x2) :: S) n t I R) : wp y cc nL ret d K N Q kc ks pc L (.long x2 :: .long x1 :: S) n t I R := by
  intro p l e Rm s m args below meth c D cy b z F A H locs ls C hA hF hW hS hl
  exact lv_lrem C.1 C.2.1 hd h0 (k p l e Rm s m args below meth c D cy b z F A H locs ls C hA hF hW hS hl)
theorem wp_lshl {x1 : Int64} {x2 : Int32} (hd : decode cc pc = .ok (.lshl, 1))  (k : wp y cc nL ret d K N Q kc ks (pc + 1) L (.long (x1 <<< (x2.toInt64 &&& 63)) :: S) n t I R) : wp y cc nL ret d K N Q kc ks pc L (.int x2 :: .long x1 :: S) n t I R := by
  intro p l e Rm s m args below meth c D cy b z F A H locs ls C hA hF hW hS hl
  exact lv_lshl C.1 C.2.1 hd rfl (k p l e Rm s m args below meth c D cy b z F A H locs ls C hA hF hW hS hl)
theorem wp_i2l {x : Int32} (hd : decode cc pc = .ok (.i2l, 1))  (k : wp y cc nL ret d K N Q kc ks (pc + 1) L (.long x.toInt64 :: S) n t I R) : wp y cc nL ret d K N Q kc ks pc L (.int x :: S) n t I R := by
  intro p l e Rm s m args below meth c D cy b z F A H locs ls C hA hF hW hS hl
  exact lv_i2l C.1 C.2.1 hd rfl (k p l e Rm s m args below meth c D cy b z F A H locs ls C hA hF hW hS hl)
theorem wp_i2b {x : Int32} (hd : decode cc pc = .ok (.i2b, 1))  (k : wp y cc nL ret d K N Q kc ks (pc + 1) L (.int x.toInt8.toInt32 :: S) n t I R) : wp y cc nL ret d K N Q kc ks pc L (.int x :: S) n t I R := by
  intro p l e Rm s m args below meth c D cy b z F A H locs ls C hA hF hW hS hl
  exact lv_i2b C.1 C.2.1 hd rfl (k p l e Rm s m args below meth c D cy b z F A H locs ls C hA hF hW hS hl)
theorem wp_i2s {x : Int32} (hd : decode cc pc = .ok (.i2s, 1))  (k : wp y cc nL ret d K N Q kc ks (pc + 1) L (.int x.toInt16.toInt32 :: S) n t I R) : wp y cc nL ret d K N Q kc ks pc L (.int x :: S) n t I R := by
  intro p l e Rm s m args below meth c D cy b z F A H locs ls C hA hF hW hS hl
  exact lv_i2s C.1 C.2.1 hd rfl (k p l e Rm s m args below meth c D cy b z F A H locs ls C hA hF hW hS hl)
theorem wp_lcmp {x1 x2 : Int64} (hd : decode cc pc = .ok (.lcmp, 1))  (k : wp y cc nL ret d K N Q kc ks (pc + 1) L (.int (lg_cmp x1 x2) :: S) n t I R) : wp y cc nL ret d K N Q kc ks pc L (.long x2 :: .long x1 :: S) n t I R := by
  intro p l e Rm s m args below meth c D cy b z F A H locs ls C hA hF hW hS hl
  exact W.lcmp C.1 C.2.1 hd (k p l e Rm s m args below meth c D cy b z F A H locs ls C hA hF hW hS hl)
theorem wp_dup {v : Value} (hd : decode cc pc = .ok (.dup, 1)) (hv : v.category = 1) (k : wp y cc nL ret d K N Q kc ks (pc + 1) L (v :: v :: S) n t I R) : wp y cc nL ret d K N Q kc ks pc L (v :: S) n t I R := by
  intro p l e Rm s m args below meth c D cy b z F A H locs ls C hA hF hW hS hl
  exact lv_dup C.1 C.2.1 hd (by rw [cv_cat]; exact hv) (k p l e Rm s m args below meth c D cy b z F A H locs ls C hA hF hW hS hl)
theorem wp_dup2 {v u : Value} (hd : decode cc pc = .ok (.dup2, 1)) (hv : v.category = 1) (hu : u.category = 1) (k : wp y cc nL ret d K N Q kc ks (pc + 1) L (v :: u :: v :: u :: S) n t I R) : wp y cc nL ret d K N Q kc ks pc L (v :: u :: S) n t I R := by
  intro p l e Rm s m args below meth c D cy b z F A H locs ls C hA hF hW hS hl
  exact lv_dup2_11 C.1 C.2.1 hd (by rw [cv_cat]; exact hv) (by rw [cv_cat]; exact hu) (k p l e Rm s m args below meth c D cy b z F A H locs ls C hA hF hW hS hl)
theorem wp_if_eq {x : Int32} {off : Int} {tgt : Nat} (hd : decode cc pc = .ok (.ifCond .eq off, 3)) (ht : (pc : Int) + off = (tgt : Int)) (kt : x = 0 → wp y cc nL ret d K N Q kc ks tgt L (S) n t I R) (kf : ¬ x = 0 → wp y cc nL ret d K N Q kc ks (pc + 3) L (S) n t I R) : wp y cc nL ret d K N Q kc ks pc L (.int x :: S) n t I R := by
  intro p l e Rm s m args below meth c D cy b z F A H locs ls C hA hF hW hS hl
  exact lv_if_eq C.1 C.2.1 hd ht (fun q => kt q p l e Rm s m args below meth c D cy b z F A H locs ls C hA hF hW hS hl) (fun q => kf q p l e Rm s m args below meth c D cy b z F A H locs ls C hA hF hW hS hl)
theorem wp_icmp_eq {x1 x2 : Int32} {off : Int} {tgt : Nat} (hd : decode cc pc = .ok (.if_icmp .eq off, 3)) (ht : (pc : Int) + off = (tgt : Int)) (kt : x1 = x2 → wp y cc nL ret d K N Q kc ks tgt L (S) n t I R) (kf : ¬ x1 = x2 → wp y cc nL ret d K N Q kc ks (pc + 3) L (S) n t I R) : wp y cc nL ret d K N Q kc ks pc L (.int x2 :: .int x1 :: S) n t I R := by
  intro p l e Rm s m args below meth c D cy b z F A H locs ls C hA hF hW hS hl
  exact lv_icmp_eq C.1 C.2.1 hd ht (fun q => kt q p l e Rm s m args below meth c D cy b z F A H locs ls C hA hF hW hS hl) (fun q => kf q p l e Rm s m args below meth c D cy b z F A H locs ls C hA hF hW hS hl)
theorem wp_if_ne {x : Int32} {off : Int} {tgt : Nat} (hd : decode cc pc = .ok (.ifCond .ne off, 3)) (ht : (pc : Int) + off = (tgt : Int)) (kt : ¬ x = 0 → wp y cc nL ret d K N Q kc ks tgt L (S) n t I R) (kf : x = 0 → wp y cc nL ret d K N Q kc ks (pc + 3) L (S) n t I R) : wp y cc nL ret d K N Q kc ks pc L (.int x :: S) n t I R := by
  intro p l e Rm s m args below meth c D cy b z F A H locs ls C hA hF hW hS hl
  exact lv_if_ne C.1 C.2.1 hd ht (fun q => kt q p l e Rm s m args below meth c D cy b z F A H locs ls C hA hF hW hS hl) (fun q => kf q p l e Rm s m args below meth c D cy b z F A H locs ls C hA hF hW hS hl)
theorem wp_icmp_ne {x1 x2 : Int32} {off : Int} {tgt : Nat} (hd : decode cc pc = .ok (.if_icmp .ne off, 3)) (ht : (pc : Int) + off = (tgt : Int)) (kt : ¬ x1 = x2 → wp y cc nL ret d K N Q kc ks tgt L (S) n t I R) (kf : x1 = x2 → wp y cc nL ret d K N Q kc ks (pc + 3) L (S) n t I R) : wp y cc nL ret d K N Q kc ks pc L (.int x2 :: .int x1 :: S) n t I R := by
  intro p l e Rm s m args below meth c D cy b z F A H locs ls C hA hF hW hS hl
  exact lv_icmp_ne C.1 C.2.1 hd ht (fun q => kt q p l e Rm s m args below meth c D cy b z F A H locs ls C hA hF hW hS hl) (fun q => kf q p l e Rm s m args below meth c D cy b z F A H locs ls C hA hF hW hS hl)
theorem wp_if_lt {x : Int32} {off : Int} {tgt : Nat} (hd : decode cc pc = .ok (.ifCond .lt off, 3)) (ht : (pc : Int) + off = (tgt : Int)) (kt : x < 0 → wp y cc nL ret d K N Q kc ks tgt L (S) n t I R) (kf : ¬ x < 0 → wp y cc nL ret d K N Q kc ks (pc + 3) L (S) n t I R) : wp y cc nL ret d K N Q kc ks pc L (.int x :: S) n t I R := by
  intro p l e Rm s m args below meth c D cy b z F A H locs ls C hA hF hW hS hl
  exact lv_if_lt C.1 C.2.1 hd ht (fun q => kt q p l e Rm s m args below meth c D cy b z F A H locs ls C hA hF hW hS hl) (fun q => kf q p l e Rm s m args below meth c D cy b z F A H locs ls C hA hF hW hS hl)
theorem wp_icmp_lt {x1 x2 : Int32} {off : Int} {tgt : Nat} (hd : decode cc pc = .ok (.if_icmp .lt off, 3)) (ht : (pc : Int) + off = (tgt : Int)) (kt : x1 < x2 → wp y cc nL ret d K N Q kc ks tgt L (S) n t I R) (kf : ¬ x1 < x2 → wp y cc nL ret d K N Q kc ks (pc + 3) L (S) n t I R) : wp y cc nL ret d K N Q kc ks pc L (.int x2 :: .int x1 :: S) n t I R := by
  intro p l e Rm s m args below meth c D cy b z F A H locs ls C hA hF hW hS hl
  exact lv_icmp_lt C.1 C.2.1 hd ht (fun q => kt q p l e Rm s m args below meth c D cy b z F A H locs ls C hA hF hW hS hl) (fun q => kf q p l e Rm s m args below meth c D cy b z F A H locs ls C hA hF hW hS hl)
theorem wp_if_ge {x : Int32} {off : Int} {tgt : Nat} (hd : decode cc pc = .ok (.ifCond .ge off, 3)) (ht : (pc : Int) + off = (tgt : Int)) (kt : 0 ≤ x → wp y cc nL ret d K N Q kc ks tgt L (S) n t I R) (kf : ¬ 0 ≤ x → wp y cc nL ret d K N Q kc ks (pc + 3) L (S) n t I R) : wp y cc nL ret d K N Q kc ks pc L (.int x :: S) n t I R := by
  intro p l e Rm s m args below meth c D cy b z F A H locs ls C hA hF hW hS hl
  exact lv_if_ge C.1 C.2.1 hd ht (fun q => kt q p l e Rm s m args below meth c D cy b z F A H locs ls C hA hF hW hS hl) (fun q => kf q p l e Rm s m args below meth c D cy b z F A H locs ls C hA hF hW hS hl)
theorem wp_icmp_ge {x1 x2 : Int32} {off : Int} {tgt : Nat} (hd : decode cc pc = .ok (.if_icmp .ge off, 3)) (ht : (pc : Int) + off = (tgt : Int)) (kt : x2 ≤ x1 → wp y cc nL ret d K N Q kc ks tgt L (S) n t I R) (kf : ¬ x2 ≤ x1 → wp y cc nL ret d K N Q kc ks (pc + 3) L (S) n t I R) : wp y cc nL ret d K N Q kc ks pc L (.int x2 :: .int x1 :: S) n t I R := by
  intro p l e Rm s m args below meth c D cy b z F A H locs ls C hA hF hW hS hl
  exact lv_icmp_ge C.1 C.2.1 hd ht (fun q => kt q p l e Rm s m args below meth c D cy b z F A H locs ls C hA hF hW hS hl) (fun q => kf q p l e Rm s m args below meth c D cy b z F A H locs ls C hA hF hW hS hl)
theorem wp_if_gt {x : Int32} {off : Int} {tgt : Nat} (hd : decode cc pc = .ok (.ifCond .gt off, 3)) (ht : (pc : Int) + off = (tgt : Int)) (kt : 0 < x → wp y cc nL ret d K N Q kc ks tgt L (S) n t I R) (kf : ¬ 0 < x → wp y cc nL ret d K N Q kc ks (pc + 3) L (S) n t I R) : wp y cc nL ret d K N Q kc ks pc L (.int x :: S) n t I R := by
  intro p l e Rm s m args below meth c D cy b z F A H locs ls C hA hF hW hS hl
  exact lv_if_gt C.1 C.2.1 hd ht (fun q => kt q p l e Rm s m args below meth c D cy b z F A H locs ls C hA hF hW hS hl) (fun q => kf q p l e Rm s m args below meth c D cy b z F A H locs ls C hA hF hW hS hl)
theorem wp_icmp_gt {x1 x2 : Int32} {off : Int} {tgt : Nat} (hd : decode cc pc = .ok (.if_icmp .gt off, 3)) (ht : (pc : Int) + off = (tgt : Int)) (kt : x2 < x1 → wp y cc nL ret d K N Q kc ks tgt L (S) n t I R) (kf : ¬ x2 < x1 → wp y cc nL ret d K N Q kc ks (pc + 3) L (S) n t I R) : wp y cc nL ret d K N Q kc ks pc L (.int x2 :: .int x1 :: S) n t I R := by
  intro p l e Rm s m args below meth c D cy b z F A H locs ls C hA hF hW hS hl
  exact lv_icmp_gt C.1 C.2.1 hd ht (fun q => kt q p l e Rm s m args below meth c D cy b z F A H locs ls C hA hF hW hS hl) (fun q => kf q p l e Rm s m args below meth c D cy b z F A H locs ls C hA hF hW hS hl)
theorem wp_if_le {x : Int32} {off : Int} {tgt : Nat} (hd : decode cc pc = .ok (.ifCond .le off, 3)) (ht : (pc : Int) + off = (tgt : Int)) (kt : x ≤ 0 → wp y cc nL ret d K N Q kc ks tgt L (S) n t I R) (kf : ¬ x ≤ 0 → wp y cc nL ret d K N Q kc ks (pc + 3) L (S) n t I R) : wp y cc nL ret d K N Q kc ks pc L (.int x :: S) n t I R := by
  intro p l e Rm s m args below meth c D cy b z F A H locs ls C hA hF hW hS hl
  exact lv_if_le C.1 C.2.1 hd ht (fun q => kt q p l e Rm s m args below meth c D cy b z F A H locs ls C hA hF hW hS hl) (fun q => kf q p l e Rm s m args below meth c D cy b z F A H locs ls C hA hF hW hS hl)
theorem wp_icmp_le {x1 x2 : Int32} {off : Int} {tgt : Nat} (hd : decode cc pc = .ok (.if_icmp .le off, 3)) (ht : (pc : Int) + off = (tgt : Int)) (kt : x1 ≤ x2 → wp y cc nL ret d K N Q kc ks tgt L (S) n t I R) (kf : ¬ x1 ≤ x2 → wp y cc nL ret d K N Q kc ks (pc + 3) L (S) n t I R) : wp y cc nL ret d K N Q kc ks pc L (.int x2 :: .int x1 :: S) n t I R := by
  intro p l e Rm s m args below meth c D cy b z F A H locs ls C hA hF hW hS hl
  exact lv_icmp_le C.1 C.2.1 hd ht (fun q => kt q p l e Rm s m args below meth c D cy b z F A H locs ls C hA hF hW hS hl) (fun q => kf q p l e Rm s m args below meth c D cy b z F A H locs ls C hA hF hW hS hl)
theorem wp_goto {off : Int} {tgt : Nat} (hd : decode cc pc = .ok (.goto off, 3)) (ht : (pc : Int) + off = (tgt : Int)) (k : wp y cc nL ret d K N Q kc ks tgt L (S) n t I R) : wp y cc nL ret d K N Q kc ks pc L (S) n t I R := by
  intro p l e Rm s m args below meth c D cy b z F A H locs ls C hA hF hW hS hl
  exact lv_goto C.1 C.2.1 hd ht (k p l e Rm s m args below meth c D cy b z F A H locs ls C hA hF hW hS hl)
theorem wp_ifnonnull {x : Nat} {off : Int} {tgt : Nat} (hd : decode cc pc = .ok (.ifnonnull off, 3)) (ht : (pc : Int) + off = (tgt : Int)) (k : wp y cc nL ret d K N Q kc ks tgt L (S) n t I R) : wp y cc nL ret d K N Q kc ks pc L (.ref x :: S) n t I R := by
  intro p l e Rm s m args below meth c D cy b z F A H locs ls C hA hF hW hS hl
  exact lv_ifnonnull C.1 C.2.1 hd ht (k p l e Rm s m args below meth c D cy b z F A H locs ls C hA hF hW hS hl)
theorem wp_ifnonnullN {off : Int} (hd : decode cc pc = .ok (.ifnonnull off, 3)) (k : wp y cc nL ret d K N Q kc ks (pc + 3) L (S) n t I R) : wp y cc nL ret d K N Q kc ks pc L (.null :: S) n t I R := by
  intro p l e Rm s m args below meth c D cy b z F A H locs ls C hA hF hW hS hl
  exact lv_ifnonnullN C.1 C.2.1 hd (k p l e Rm s m args below meth c D cy b z F A H locs ls C hA hF hW hS hl)
theorem wp_ifnull {x : Nat} {off : Int} (hd : decode cc pc = .ok (.ifnull off, 3)) (k : wp y cc nL ret d K N Q kc ks (pc + 3) L (S) n t I R) : wp y cc nL ret d K N Q kc ks pc L (.ref x :: S) n t I R := by
  intro p l e Rm s m args below meth c D cy b z F A H locs ls C hA hF hW hS hl
  exact lv_ifnull C.1 C.2.1 hd (k p l e Rm s m args below meth c D cy b z F A H locs ls C hA hF hW hS hl)
theorem wp_ifnullN {off : Int} {tgt : Nat} (hd : decode cc pc = .ok (.ifnull off, 3)) (ht : (pc : Int) + off = (tgt : Int)) (k : wp y cc nL ret d K N Q kc ks tgt L (S) n t I R) : wp y cc nL ret d K N Q kc ks pc L (.null :: S) n t I R := by
  intro p l e Rm s m args below meth c D cy b z F A H locs ls C hA hF hW hS hl
  exact lv_ifnullN C.1 C.2.1 hd ht (k p l e Rm s m args below meth c D cy b z F A H locs ls C hA hF hW hS hl)
theorem wp_lookup {dflt : Int} {ps : Array (Int × Int)} {len : Nat} {x : Int32} {off : Int} {tgt : Nat} (hd : decode cc pc = .ok (.lookupswitch dflt ps, len)) (hp : (ps.toList.zip (ps.toList.drop 1)).all (fun (a, next) => a.1 < next.1) = true) (ho : Op.lookupswitch.offset ps.toList dflt x.toInt = off) (ht : (pc : Int) + off = (tgt : Int)) (k : wp y cc nL ret d K N Q kc ks tgt L (S) n t I R) : wp y cc nL ret d K N Q kc ks pc L (.int x :: S) n t I R := by
  intro p l e Rm s m args below meth c D cy b z F A H locs ls C hA hF hW hS hl
  exact lv_lookup C.1 C.2.1 hd hp ho ht (k p l e Rm s m args below meth c D cy b z F A H locs ls C hA hF hW hS hl)
theorem wp_tableOut {dflt lo hi : Int} {offs : Array Int} {len : Nat} {x : Int32} {tgt : Nat} (hd : decode cc pc = .ok (.tableswitch dflt lo hi offs, len)) (h : x.toInt < lo ∨ hi < x.toInt) (ht : (pc : Int) + dflt = (tgt : Int)) (k : wp y cc nL ret d K N Q kc ks tgt L (S) n t I R) : wp y cc nL ret d K N Q kc ks pc L (.int x :: S) n t I R := by
  intro p l e Rm s m args below meth c D cy b z F A H locs ls C hA hF hW hS hl
  exact lv_tableOut C.1 C.2.1 hd h ht (k p l e Rm s m args below meth c D cy b z F A H locs ls C hA hF hW hS hl)
theorem wp_tableIn {dflt lo hi : Int} {offs : Array Int} {len : Nat} {x : Int32} {off : Int} {tgt : Nat} (hd : decode cc pc = .ok (.tableswitch dflt lo hi offs, len)) (h1 : ¬ x.toInt < lo) (h2 : ¬ hi < x.toInt) (ho : offs[(x.toInt - lo).toNat]? = some off) (ht : (pc : Int) + off = (tgt : Int)) (k : wp y cc nL ret d K N Q kc ks tgt L (S) n t I R) : wp y cc nL ret d K N Q kc ks pc L (.int x :: S) n t I R := by
  intro p l e Rm s m args below meth c D cy b z F A H locs ls C hA hF hW hS hl
  exact lv_tableIn C.1 C.2.1 hd h1 h2 ho ht (k p l e Rm s m args below meth c D cy b z F A H locs ls C hA hF hW hS hl)
theorem wp_ireturn {v : Int32} (hd : decode cc pc = .ok (.ireturn, 1)) (hr : ret = some .int) (hk : kc ≤ K) (hk2 : ks ≤ N) (hq : Q (some (.int v)) n t I R) : wp y cc nL ret d K N Q kc ks pc L ([.int v]) n t I R := by
  intro p l e Rm s m args below meth c D cy b z F A H locs ls C hA hF hW hS hl
  exact W.widen hk hk2 (W.iret C.1 C.2.1 (by rw [C.2.2.1, hr]) (fun u hu hV => ⟨⟨some (.int v), n, t, I, R, rfl, hq, hW.moved hV.alike hu⟩, hS.F hu⟩) hS.2.2 hd C.2.2.2.2.2.2.1)
theorem wp_zreturn {v : Int32} (hd : decode cc pc = .ok (.ireturn, 1)) (hr : ret = some .boolean) (hn : narrow .boolean (.int v) = .int v) (hk : kc ≤ K) (hk2 : ks ≤ N) (hq : Q (some (.int v)) n t I R) : wp y cc nL ret d K N Q kc ks pc L ([.int v]) n t I R := by
  intro p l e Rm s m args below meth c D cy b z F A H locs ls C hA hF hW hS hl
  exact W.widen hk hk2 (W.zret C.1 C.2.1 (by rw [C.2.2.1, hr]) hn (fun u hu hV => ⟨⟨some (.int v), n, t, I, R, rfl, hq, hW.moved hV.alike hu⟩, hS.F hu⟩) hS.2.2 hd C.2.2.2.2.2.2.1)
theorem wp_lreturn {v : Int64} (hd : decode cc pc = .ok (.lreturn, 1)) (hr : ret = some .long) (hk : kc ≤ K) (hk2 : ks ≤ N) (hq : Q (some (.long v)) n t I R) : wp y cc nL ret d K N Q kc ks pc L ([.long v]) n t I R := by
  intro p l e Rm s m args below meth c D cy b z F A H locs ls C hA hF hW hS hl
  exact W.widen hk hk2 (W.lret C.1 C.2.1 (by rw [C.2.2.1, hr]) (fun u hu hV => ⟨⟨some (.long v), n, t, I, R, rfl, hq, hW.moved hV.alike hu⟩, hS.F hu⟩) hS.2.2 hd C.2.2.2.2.2.2.1)
theorem wp_vreturn (hd : decode cc pc = .ok (.return_, 1)) (hr : ret = none) (hk : kc ≤ K) (hk2 : ks ≤ N) (hq : Q none n t I R) : wp y cc nL ret d K N Q kc ks pc L ([]) n t I R := by
  intro p l e Rm s m args below meth c D cy b z F A H locs ls C hA hF hW hS hl
  exact W.widen hk hk2 (W.vret C.1 C.2.1 (by rw [C.2.2.1, hr]) (fun u hu hV => ⟨⟨none, n, t, I, R, rfl, hq, hW.moved hV.alike hu⟩, hS.F hu⟩) hS.2.2 hd C.2.2.2.2.2.2.1)
end WPR
