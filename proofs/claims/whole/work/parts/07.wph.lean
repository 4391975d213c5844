theorem oi_1 : Cond.instanceMethod objectInit ∈ lw_w := mw_20
theorem oi_2 : Cond.code objectInit ⟨#[0xb1]⟩ 1 none ∈ lw_w := mw_21
theorem ac_1 : Cond.native arraycopyName ∈ lw_w := mw_338
theorem ac_2 : Cond.static arraycopyName ∈ lw_w := mw_337
theorem ac_3 : Cond.initialized "java/lang/System" ∈ lw_w := mw_11
theorem ar_in {i : Int32} {N : Nat} (h : vp_in i N) (cA : ClassId) (f : Nat → Value) : ¬ (i < 0 ∨ (arrV cA N f).slots.size ≤ i.toNatClampNeg) := by rw [arrV_size]; exact h
theorem i32_nn (z : Int32) (hz : ¬ z < 0) : z.toInt = (z.toNatClampNeg : Int) := by
  have hz0 : (0 : Int) ≤ z.toInt := by
    have := Int32.not_lt.mp hz
    simpa using Int32.le_iff_toInt_le.mp this
  show z.toInt = ((z.toInt.toNat : Nat) : Int)
  omega
section WPG
variable {y : MethodName} {cc : ByteArray} {nL : Nat} {ret : Option FieldType} {d K N : Nat} {Q : eQt} {kc ks pc : Nat} {L S : List Value} {n : Nat} {t : eT} {I : eI} {R : eR}
theorem wp_getI {idx q f a : Nat} (hd : decode cc pc = .ok (.getfield idx, 3)) (hf : eFl y.cls idx q f) (hi : eint q f = true) (ht : (t a).1 = q) (k : wp y cc nL ret d K N Q kc ks (pc + 3) L (.int (I a f) :: S) n t I R) : wp y cc nL ret d K N Q kc ks pc L (.ref a :: S) n t I R := by
  intro p l e Rm s m args below meth c D cy b z F A H locs ls C hA hF hW hS hl
  refine ew_get C.1 C.2.1 C.2.2.2.2.2.1 C.2.2.2.2.1 hW hf ht hd ?_
  unfold fV
  rw [if_pos hi]
  exact k p l e Rm s m args below meth c D cy b z F A H locs ls C hA hF hW hS hl
theorem wp_getR {idx q f a a2 : Nat} (hd : decode cc pc = .ok (.getfield idx, 3)) (hf : eFl y.cls idx q f) (hi : eref q f = true) (ht : (t a).1 = q) (hr : R a f = some a2) (k : wp y cc nL ret d K N Q kc ks (pc + 3) L (.ref a2 :: S) n t I R) : wp y cc nL ret d K N Q kc ks pc L (.ref a :: S) n t I R := by
  intro p l e Rm s m args below meth c D cy b z F A H locs ls C hA hF hW hS hl
  refine ew_get C.1 C.2.1 C.2.2.2.2.2.1 C.2.2.2.2.1 hW hf ht hd ?_
  unfold fV
  rw [eref_ne hi, hr]
  exact k p l e Rm s m args below meth c D cy b z F A H locs ls C hA hF hW hS hl
theorem wp_putI {idx q f a : Nat} {v : Int32} (hd : decode cc pc = .ok (.putfield idx, 3)) (hf : eFl y.cls idx q f) (hi : eint q f = true) (hfin : ((eCl q).2.1 f).2.2.2 = false ∨ (((eCl q).2.1 f).2.2.2 = true ∧ y.name = "<init>" ∧ ((eCl q).2.1 f).1 = y.cls)) (ht : (t a).1 = q) (k : wp y cc nL ret d K N Q kc ks (pc + 3) L (S) n t (eU I a f v) R) : wp y cc nL ret d K N Q kc ks pc L (.int v :: .ref a :: S) n t I R := by
  intro p l e Rm s m args below meth c D cy b z F A H locs ls C hA hF hW hS hl
  refine ew_put (v := .int v) (I2 := eU I a f v) (R2 := R) C.1 C.2.1 C.2.2.2.2.2.1 C.2.2.2.2.1 hW hS hf ht (hfin.imp_right (fun g => ⟨g.1, C.2.2.2.2.2.2.2.1 g.2.1, g.2.2⟩)) (by rw [eint_ty hi]; rfl) (by rw [eint_ty hi]; rfl) (by unfold fV; rw [if_pos hi]; simp [eU]) (fun j hj => by unfold fV; simp [eU, hj]) (fun x hx => eU_ne hx) (fun _ _ => rfl) hd (fun H1 locs1 hW hS => k p l e Rm s m args below meth c D cy b z F A H1 locs1 ls C hA hF hW hS hl)
theorem wp_putR {idx q f a a2 : Nat} (hd : decode cc pc = .ok (.putfield idx, 3)) (hf : eFl y.cls idx q f) (hi : eref q f = true) (hfin : ((eCl q).2.1 f).2.2.2 = false ∨ (((eCl q).2.1 f).2.2.2 = true ∧ y.name = "<init>" ∧ ((eCl q).2.1 f).1 = y.cls)) (ht : (t a).1 = q) (k : wp y cc nL ret d K N Q kc ks (pc + 3) L (S) n t I (eU R a f (some a2))) : wp y cc nL ret d K N Q kc ks pc L (.ref a2 :: .ref a :: S) n t I R := by
  intro p l e Rm s m args below meth c D cy b z F A H locs ls C hA hF hW hS hl
  refine ew_put (v := .ref (adr b z a2)) (I2 := I) (R2 := eU R a f (some a2)) C.1 C.2.1 C.2.2.2.2.2.1 C.2.2.2.2.1 hW hS hf ht (hfin.imp_right (fun g => ⟨g.1, C.2.2.2.2.2.2.2.1 g.2.1, g.2.2⟩)) (eref_fit hi _).1 (eref_fit hi _).2 (by unfold fV; rw [eref_ne hi]; simp [eU, va_rf]) (fun j hj => by unfold fV; simp [eU, hj]) (fun _ _ => rfl) (fun x hx => eU_ne hx) hd (fun H1 locs1 hW hS => k p l e Rm s m args below meth c D cy b z F A H1 locs1 ls C hA hF hW hS hl)
theorem wp_iald {a : Nat} {i : Int32} (hd : decode cc pc = .ok (.iaload, 1)) (ht : (t a).1 = 9) (hin : vp_in i (t a).2) (k : wp y cc nL ret d K N Q kc ks (pc + 1) L (.int (I a i.toNatClampNeg) :: S) n t I R) : wp y cc nL ret d K N Q kc ks pc L (.int i :: .ref a :: S) n t I R := by
  intro p l e Rm s m args below meth c D cy b z F A H locs ls C hA hF hW hS hl
  exact va_iald C.1 C.2.1 hW.1 hW.2.1 (a - 4) 0 (eW_mem hW ht (by omega) (eC_ia ht (by omega) (by omega))) rfl hin hd (k p l e Rm s m args below meth c D cy b z F A H locs ls C hA hF hW hS hl)
theorem wp_zald {a : Nat} {i : Int32} (hd : decode cc pc = .ok (.baload, 1)) (ht : (t a).1 = 10) (hin : vp_in i (t a).2) (k : wp y cc nL ret d K N Q kc ks (pc + 1) L (.int (I a i.toNatClampNeg) :: S) n t I R) : wp y cc nL ret d K N Q kc ks pc L (.int i :: .ref a :: S) n t I R := by
  intro p l e Rm s m args below meth c D cy b z F A H locs ls C hA hF hW hS hl
  exact va_zald C.1 C.2.1 hW.1 hW.2.1 (a - 4) 1 (eW_mem hW ht (by omega) (eC_ia ht (by omega) (by omega))) rfl hin hd (k p l e Rm s m args below meth c D cy b z F A H locs ls C hA hF hW hS hl)
theorem wp_fald {a : Nat} {i : Int32} (hd : decode cc pc = .ok (.iaload, 1)) (ha : a < 4) (hin : vp_in i (t a).2) (k : wp y cc nL ret d K N Q kc ks (pc + 1) L (.int (I a i.toNatClampNeg) :: S) n t I R) : wp y cc nL ret d K N Q kc ks pc L (.int i :: .ref a :: S) n t I R := by
  intro p l e Rm s m args below meth c D cy b z F A H locs ls C hA hF hW hS hl
  obtain ⟨h1, h2⟩ := hW.2.2.2.2.2.1 a ha
  have ee : cv (adr b z) (.ref a) = .ref (z a) := by show Value.ref (adr b z a) = _; rw [adr_lo ha]
  show W p l e Rm s m args below meth c H locs kc ks _ (F0 m pc ls (.int i :: cv (adr b z) (.ref a) :: S.map (cv (adr b z))))
  rw [ee]
  refine va_ti (v := .int (I a i.toNatClampNeg)) C.1 C.2.1 (hF.1 a ha) hS (by rw [h1] at hin; exact hin) (by show Value.int _ = _; rw [h2]) hd (k p l e Rm s m args below meth c D cy b z F A H locs ls C hA hF hW hS hl)
theorem wp_alen {a : Nat} (hd : decode cc pc = .ok (.arraylength, 1)) (ht : (t a).1 = 9) (k : wp y cc nL ret d K N Q kc ks (pc + 1) L (.int (Int32.ofNat (t a).2) :: S) n t I R) : wp y cc nL ret d K N Q kc ks pc L (.ref a :: S) n t I R := by
  intro p l e Rm s m args below meth c D cy b z F A H locs ls C hA hF hW hS hl
  exact va_alen C.1 C.2.1 hW.1 hW.2.1 (a - 4) 0 (eW_mem hW ht (by omega) (eC_ia ht (by omega) (by omega))) rfl rfl hd (k p l e Rm s m args below meth c D cy b z F A H locs ls C hA hF hW hS hl)
theorem wp_flen {a : Nat} (hd : decode cc pc = .ok (.arraylength, 1)) (ha : a < 4) (k : wp y cc nL ret d K N Q kc ks (pc + 1) L (.int (Int32.ofNat (t a).2) :: S) n t I R) : wp y cc nL ret d K N Q kc ks pc L (.ref a :: S) n t I R := by
  intro p l e Rm s m args below meth c D cy b z F A H locs ls C hA hF hW hS hl
  obtain ⟨h1, h2⟩ := hW.2.2.2.2.2.1 a ha
  have ee : cv (adr b z) (.ref a) = .ref (z a) := by show Value.ref (adr b z a) = _; rw [adr_lo ha]
  show W p l e Rm s m args below meth c H locs kc ks _ (F0 m pc ls (cv (adr b z) (.ref a) :: S.map (cv (adr b z))))
  rw [ee]
  exact va_tlen C.1 C.2.1 (hF.1 a ha) hS (by rw [h1]) hd (k p l e Rm s m args below meth c D cy b z F A H locs ls C hA hF hW hS hl)
theorem wp_iast {a : Nat} {i x : Int32} (hd : decode cc pc = .ok (.iastore, 1)) (ht : (t a).1 = 9) (hin : vp_in i (t a).2) (k : wp y cc nL ret d K N Q kc ks (pc + 1) L (S) n t (eU I a i.toNatClampNeg x) R) : wp y cc nL ret d K N Q kc ks pc L (.int x :: .int i :: .ref a :: S) n t I R := by
  intro p l e Rm s m args below meth c D cy b z F A H locs ls C hA hF hW hS hl
  have he := eW_mem hW ht (by omega) (eC_ia ht (by omega) (by omega))
  refine W.iast C.1 C.2.1 (hW.2.1 _ _ he) ((hW.1.2 0 _ rfl).1 (t a).2 (fun j => .int (I a j))) (fun q => by cases q) (ar_in hin _ _) rfl rfl hd fun H1 e1 e2 e3 => ?_
  obtain ⟨hW, hS⟩ := ew_ast hW hS ht (by omega) (by omega) e1 e2 e3
  exact k p l e Rm s m args below meth c D cy b z F A H1 _ ls C hA hF hW hS hl
theorem wp_zast {a : Nat} {i x : Int32} (hd : decode cc pc = .ok (.bastore, 1)) (ht : (t a).1 = 10) (hin : vp_in i (t a).2) (hx : narrow .boolean (.int x) = .int x) (k : wp y cc nL ret d K N Q kc ks (pc + 1) L (S) n t (eU I a i.toNatClampNeg x) R) : wp y cc nL ret d K N Q kc ks pc L (.int x :: .int i :: .ref a :: S) n t I R := by
  intro p l e Rm s m args below meth c D cy b z F A H locs ls C hA hF hW hS hl
  have he := eW_mem hW ht (by omega) (eC_ia ht (by omega) (by omega))
  refine W.zast C.1 C.2.1 (hW.2.1 _ _ he) ((hW.1.2 1 _ rfl).1 (t a).2 (fun j => .int (I a j))) (fun q => by cases q) (ar_in hin _ _) rfl rfl hd fun H1 e1 e2 e3 => ?_
  rw [hx] at e1
  obtain ⟨hW, hS⟩ := ew_ast hW hS ht (by omega) (by omega) e1 e2 e3
  exact k p l e Rm s m args below meth c D cy b z F A H1 _ ls C hA hF hW hS hl
theorem wp_aald11 {a a2 : Nat} {i : Int32} (hd : decode cc pc = .ok (.aaload, 1)) (ht : (t a).1 = 11) (hin : vp_in i (t a).2) (hr : R a i.toNatClampNeg = some a2) (k : wp y cc nL ret d K N Q kc ks (pc + 1) L (.ref a2 :: S) n t I R) : wp y cc nL ret d K N Q kc ks pc L (.int i :: .ref a :: S) n t I R := by
  intro p l e Rm s m args below meth c D cy b z F A H locs ls C hA hF hW hS hl
  refine va_aldq C.1 C.2.1 hW.1 hW.2.1 (a - 4) 2 (eW_mem hW ht (by omega) (eC_ra ht (by omega))) rfl hin hd ?_
  rw [hr]
  exact k p l e Rm s m args below meth c D cy b z F A H locs ls C hA hF hW hS hl
theorem wp_aald11N {a : Nat} {i : Int32} (hd : decode cc pc = .ok (.aaload, 1)) (ht : (t a).1 = 11) (hin : vp_in i (t a).2) (hr : R a i.toNatClampNeg = none) (k : wp y cc nL ret d K N Q kc ks (pc + 1) L (.null :: S) n t I R) : wp y cc nL ret d K N Q kc ks pc L (.int i :: .ref a :: S) n t I R := by
  intro p l e Rm s m args below meth c D cy b z F A H locs ls C hA hF hW hS hl
  refine va_aldq C.1 C.2.1 hW.1 hW.2.1 (a - 4) 2 (eW_mem hW ht (by omega) (eC_ra ht (by omega))) rfl hin hd ?_
  rw [hr]
  exact k p l e Rm s m args below meth c D cy b z F A H locs ls C hA hF hW hS hl
theorem wp_aald12 {a a2 : Nat} {i : Int32} (hd : decode cc pc = .ok (.aaload, 1)) (ht : (t a).1 = 12) (hin : vp_in i (t a).2) (hr : R a i.toNatClampNeg = some a2) (k : wp y cc nL ret d K N Q kc ks (pc + 1) L (.ref a2 :: S) n t I R) : wp y cc nL ret d K N Q kc ks pc L (.int i :: .ref a :: S) n t I R := by
  intro p l e Rm s m args below meth c D cy b z F A H locs ls C hA hF hW hS hl
  refine va_aldq C.1 C.2.1 hW.1 hW.2.1 (a - 4) 3 (eW_mem hW ht (by omega) (eC_ra ht (by omega))) rfl hin hd ?_
  rw [hr]
  exact k p l e Rm s m args below meth c D cy b z F A H locs ls C hA hF hW hS hl
theorem wp_aald12N {a : Nat} {i : Int32} (hd : decode cc pc = .ok (.aaload, 1)) (ht : (t a).1 = 12) (hin : vp_in i (t a).2) (hr : R a i.toNatClampNeg = none) (k : wp y cc nL ret d K N Q kc ks (pc + 1) L (.null :: S) n t I R) : wp y cc nL ret d K N Q kc ks pc L (.int i :: .ref a :: S) n t I R := by
  intro p l e Rm s m args below meth c D cy b z F A H locs ls C hA hF hW hS hl
  refine va_aldq C.1 C.2.1 hW.1 hW.2.1 (a - 4) 3 (eW_mem hW ht (by omega) (eC_ra ht (by omega))) rfl hin hd ?_
  rw [hr]
  exact k p l e Rm s m args below meth c D cy b z F A H locs ls C hA hF hW hS hl
theorem wp_aald13 {a a2 : Nat} {i : Int32} (hd : decode cc pc = .ok (.aaload, 1)) (ht : (t a).1 = 13) (hin : vp_in i (t a).2) (hr : R a i.toNatClampNeg = some a2) (k : wp y cc nL ret d K N Q kc ks (pc + 1) L (.ref a2 :: S) n t I R) : wp y cc nL ret d K N Q kc ks pc L (.int i :: .ref a :: S) n t I R := by
  intro p l e Rm s m args below meth c D cy b z F A H locs ls C hA hF hW hS hl
  have he := eW_mem hW ht (by omega) (eC_ra ht (by omega))
  have hlt : i.toNatClampNeg < (t a).2 := Nat.not_le.mp fun q => hin (Or.inr q)
  exact W.aald (v := .ref (adr b z a2)) (ty := .array .int) C.1 C.2.1 (hW.2.1 _ _ he) ((hW.1.2 4 _ rfl).1 (t a).2 (fun j => va_rf ((R a j).map (adr b z)))) rfl (fun q => by cases q) (ar_in hin _ _) (by show (arrV _ _ _).slots[_]? = _; rw [arrV_read _ _ hlt]; show some (va_rf ((R a i.toNatClampNeg).map (adr b z))) = _; rw [hr]; rfl) rfl rfl hd (k p l e Rm s m args below meth c D cy b z F A H locs ls C hA hF hW hS hl)
theorem wp_aast11 {a a2 : Nat} {i : Int32} (hd : decode cc pc = .ok (.aastore, 1)) (ht : (t a).1 = 11) (hin : vp_in i (t a).2) (h2 : (t a2).1 = 3) (k : wp y cc nL ret d K N Q kc ks (pc + 1) L (S) n t I (eU R a i.toNatClampNeg (some a2))) : wp y cc nL ret d K N Q kc ks pc L (.ref a2 :: .int i :: .ref a :: S) n t I R := by
  intro p l e Rm s m args below meth c D cy b z F A H locs ls C hA hF hW hS hl
  have he := eW_mem hW ht (by omega) (eC_ra ht (by omega))
  have he2 := eW_mem hW h2 (by omega) (eC_obj h2 (by omega))
  have hlt : i.toNatClampNeg < (t a).2 := Nat.not_le.mp fun q => hin (Or.inr q)
  have h0 : ¬ i < 0 := fun q => hin (Or.inl q)
  obtain ⟨r', hr', cellV, g1, g2, g3, -⟩ := hW.2.1 _ _ he2
  have hcls := (hW.1.1 3 _ rfl).2
  obtain ⟨kA, comp, k1, k2, k3, -⟩ := (hW.1.2 2 _ rfl).2
  have hcomp : comp = D.1 3 := Option.some.inj (k3.symm.trans hcls.1)
  subst hcomp
  obtain ⟨kC, hkC, -⟩ := hcls.2
  refine W.aast C.1 C.2.1 (hW.2.1 _ _ he) (fun q h => by cases h) (fun h => by cases h) k1 k2 rfl hkC ⟨h0, by show _ < (arrV _ _ _).slots.size; rw [arrV_size]; exact hlt⟩ g1 (fun q h => by rw [g3] at h; cases h) (by rw [g2]; exact hkC) (by rw [g2]; exact va_assign hcls) rfl rfl hd fun H1 e1 e2 e3 => ?_
  obtain ⟨hW, hS⟩ := ew_astR (x := some a2) hW hS ht (by omega) (by omega) e1 e2 e3
  exact k p l e Rm s m args below meth c D cy b z F A H1 _ ls C hA hF hW hS hl
theorem wp_aast12 {a a2 : Nat} {i : Int32} (hd : decode cc pc = .ok (.aastore, 1)) (ht : (t a).1 = 12) (hin : vp_in i (t a).2) (h2 : (t a2).1 = 6) (k : wp y cc nL ret d K N Q kc ks (pc + 1) L (S) n t I (eU R a i.toNatClampNeg (some a2))) : wp y cc nL ret d K N Q kc ks pc L (.ref a2 :: .int i :: .ref a :: S) n t I R := by
  intro p l e Rm s m args below meth c D cy b z F A H locs ls C hA hF hW hS hl
  have he := eW_mem hW ht (by omega) (eC_ra ht (by omega))
  have he2 := eW_mem hW h2 (by omega) (eC_obj h2 (by omega))
  have hlt : i.toNatClampNeg < (t a).2 := Nat.not_le.mp fun q => hin (Or.inr q)
  have h0 : ¬ i < 0 := fun q => hin (Or.inl q)
  obtain ⟨r', hr', cellV, g1, g2, g3, -⟩ := hW.2.1 _ _ he2
  have hcls := (hW.1.1 6 _ rfl).2
  obtain ⟨kA, comp, k1, k2, k3, -⟩ := (hW.1.2 3 _ rfl).2
  have hcomp : comp = D.1 6 := Option.some.inj (k3.symm.trans hcls.1)
  subst hcomp
  obtain ⟨kC, hkC, -⟩ := hcls.2
  refine W.aast C.1 C.2.1 (hW.2.1 _ _ he) (fun q h => by cases h) (fun h => by cases h) k1 k2 rfl hkC ⟨h0, by show _ < (arrV _ _ _).slots.size; rw [arrV_size]; exact hlt⟩ g1 (fun q h => by rw [g3] at h; cases h) (by rw [g2]; exact hkC) (by rw [g2]; exact va_assign hcls) rfl rfl hd fun H1 e1 e2 e3 => ?_
  obtain ⟨hW, hS⟩ := ew_astR (x := some a2) hW hS ht (by omega) (by omega) e1 e2 e3
  exact k p l e Rm s m args below meth c D cy b z F A H1 _ ls C hA hF hW hS hl
theorem wp_aast12N {a : Nat} {i : Int32} (hd : decode cc pc = .ok (.aastore, 1)) (ht : (t a).1 = 12) (hin : vp_in i (t a).2) (k : wp y cc nL ret d K N Q kc ks (pc + 1) L (S) n t I (eU R a i.toNatClampNeg none)) : wp y cc nL ret d K N Q kc ks pc L (.null :: .int i :: .ref a :: S) n t I R := by
  intro p l e Rm s m args below meth c D cy b z F A H locs ls C hA hF hW hS hl
  have he := eW_mem hW ht (by omega) (eC_ra ht (by omega))
  refine va_WaastN (C := RX6) C.1 C.2.1 (hW.2.1 _ _ he) ((hW.1.2 3 _ rfl).1 (t a).2 (fun j => va_rf ((R a j).map (adr b z)))) (fun h => by cases h) (ar_in hin _ _) rfl rfl hd fun H1 e1 e2 e3 => ?_
  obtain ⟨hW, hS⟩ := ew_astR (x := none) hW hS ht (by omega) (by omega) e1 e2 e3
  exact k p l e Rm s m args below meth c D cy b z F A H1 _ ls C hA hF hW hS hl
theorem wp_gets0 {idx : Nat} (hd : decode cc pc = .ok (.getstatic idx, 3)) (hf : Cond.fieldLink y.cls idx RX7 "LEAST_ABLE" "[I" ∈ lw_w) (k : wp y cc nL ret d K N Q kc ks (pc + 3) L (.ref 0 :: S) n t I R) : wp y cc nL ret d K N Q kc ks pc L (S) n t I R := by
  intro p l e Rm s m args below meth c D cy b z F A H locs ls C hA hF hW hS hl
  exact va_gets C.1 C.2.1 hF.2.1 hS C.2.2.2.2.1 (C.2.2.2.2.2.1 _ hf) (fun _ h => h) hd (k p l e Rm s m args below meth c D cy b z F A H locs ls C hA hF hW hS hl)
theorem wp_gets1 {idx : Nat} (hd : decode cc pc = .ok (.getstatic idx, 3)) (hf : Cond.fieldLink y.cls idx RX7 "MOST_ABLE" "[I" ∈ lw_w) (k : wp y cc nL ret d K N Q kc ks (pc + 3) L (.ref 1 :: S) n t I R) : wp y cc nL ret d K N Q kc ks pc L (S) n t I R := by
  intro p l e Rm s m args below meth c D cy b z F A H locs ls C hA hF hW hS hl
  exact va_gets C.1 C.2.1 hF.2.2.1 hS C.2.2.2.2.1 (C.2.2.2.2.2.1 _ hf) (fun _ h => h) hd (k p l e Rm s m args below meth c D cy b z F A H locs ls C hA hF hW hS hl)
theorem wp_gets2 {idx : Nat} (hd : decode cc pc = .ok (.getstatic idx, 3)) (hf : Cond.fieldLink y.cls idx RX7 "MOST_RULED" "[I" ∈ lw_w) (k : wp y cc nL ret d K N Q kc ks (pc + 3) L (.ref 2 :: S) n t I R) : wp y cc nL ret d K N Q kc ks pc L (S) n t I R := by
  intro p l e Rm s m args below meth c D cy b z F A H locs ls C hA hF hW hS hl
  exact va_gets C.1 C.2.1 hF.2.2.2 hS C.2.2.2.2.1 (C.2.2.2.2.2.1 _ hf) (fun _ h => h) hd (k p l e Rm s m args below meth c D cy b z F A H locs ls C hA hF hW hS hl)
theorem wp_gets1N {idx : Nat} {host : String} (hd : decode cc pc = .ok (.getstatic idx, 3)) (hf : Cond.fieldLinkNest y.cls idx RX7 "MOST_ABLE" "[I" host ∈ lw_w) (k : wp y cc nL ret d K N Q kc ks (pc + 3) L (.ref 1 :: S) n t I R) : wp y cc nL ret d K N Q kc ks pc L (S) n t I R := by
  intro p l e Rm s m args below meth c D cy b z F A H locs ls C hA hF hW hS hl
  exact va_getsN C.1 C.2.1 hF.2.2.1 hS C.2.2.2.2.1 (C.2.2.2.2.2.1 _ hf) (fun _ h => h) hd (k p l e Rm s m args below meth c D cy b z F A H locs ls C hA hF hW hS hl)
theorem wp_new {idx q : Nat} (hd : decode cc pc = .ok (.new idx, 3)) (hq : q < 9) (h1 : Cond.classLink y.cls idx (eCl q).1 ∈ lw_w) (h2 : Cond.instantiable (eCl q).1 (eCl q).2.2 ∈ lw_w) (h3 : Cond.initialized (eCl q).1 ∈ lw_w) (hk : kc + 1 ≤ K) (hk2 : ks + (eCl q).2.2 ≤ N) (hdv : ∀ j, j < (eCl q).2.2 → defaultValue (eTy q j) = if eint q j = true then .int 0 else .null) (k : wp y cc nL ret d K N Q (kc + 1) (ks + (eCl q).2.2) (pc + 3) L (.ref n :: S) (n + 1) (eG t n (q, 0)) (eG I n (fun _ => 0)) (eG R n (fun _ => none))) : wp y cc nL ret d K N Q kc ks pc L (S) n t I R := by
  intro p l e Rm s m args below meth c D cy b z F A H locs ls C hA hF hW hS hl
  have hc := eCl_at q hq
  have hKn := hW.1.1 q _ hc
  have hsz := hW.2.2.2.1
  refine W.newcK C.1 C.2.1 C.2.2.2.2.1 (C.2.2.2.2.2.1 _ h1) (C.2.2.2.2.2.1 _ h2) (C.2.2.2.2.2.1 _ h3) rfl hd (Nat.le_trans hk C.2.2.2.2.2.2.2.2.2.2.1) (Nat.le_trans hk2 C.2.2.2.2.2.2.2.2.2.2.2) hKn.2.1 rfl fun H1 kC hkC e1 e2 e3 => ?_
  obtain ⟨hW, hS⟩ := ew_new (tg := q) (ln := 0) (gi := fun _ => 0) (gr := fun _ => none) hW hS hA (by omega) (eC_obj (by rw [eG_eq]) hq) ⟨_, hc, (u_born (eTy q) C.2.2.2.2.2.1 (eCl_in q hq) hKn hkC e1 (eCl_ty q hq)).to (fun j hj => by
    have hj2 : j < eN q := by rw [← eCl_n q hq]; exact hj
    rw [hdv j hj]
    unfold vp_V
    rw [List.getD_eq_getElem?_getD, eFs_get hj2]
    show _ = fV (adr b z) (eG I n (fun _ => 0)) (eG R n (fun _ => none)) n q j
    unfold fV
    rw [eG_eq, eG_eq]
    rfl)⟩ e2 e3
  rw [hsz]
  exact k p l e Rm s m args below meth c D cy b z F A H1 _ ls C hA hF hW hS hl
theorem wp_newI {i : Int32} {M : Nat} (hd : decode cc pc = .ok (.newarray .int, 2)) (hw : Cond.arrayClass .int ∈ lw_w) (hi : ¬ i < 0) (hM : i.toNatClampNeg = M) (hM2 : M ≤ 1000000) (hk : kc + 1 ≤ K) (hk2 : ks + M ≤ N) (k : wp y cc nL ret d K N Q (kc + 1) (ks + M) (pc + 2) L (.ref n :: S) (n + 1) (eG t n (9, M)) (eG I n (fun _ => 0)) (eG R n (fun _ => none))) : wp y cc nL ret d K N Q kc ks pc L (.int i :: S) n t I R := by
  intro p l e Rm s m args below meth c D cy b z F A H locs ls C hA hF hW hS hl
  have hsz := hW.2.2.2.1
  refine va_newaK (atype := .int) C.1 C.2.1 (C.2.2.2.2.2.1 _ hw) rfl hd rfl hi hM (Nat.le_trans (Nat.mul_le_mul hM2 (show componentBytes .int ≤ 4 by decide)) (by decide)) (Nat.le_trans hk C.2.2.2.2.2.2.2.2.2.2.1) (Nat.le_trans hk2 C.2.2.2.2.2.2.2.2.2.2.2) rfl fun H1 cA e1 e2 e3 hAr hNm => ?_
  have hcA : cA = cy 9 := by
    have := (hW.1.2 0 _ rfl).2
    exact Option.some.inj (hNm.symm.trans this)
  subst hcA
  obtain ⟨hW, hS⟩ := ew_new (tg := 9) (ln := M) (gi := fun _ => 0) (gr := fun _ => none) hW hS hA (by omega) (eC_ia (by rw [eG_eq]) (by omega) (by omega)) (show H1[H.size]? = some (vp_cell _ _) by
    rw [eG_eq, eG_eq]
    exact e1) e2 e3
  show W p l e Rm s m args below meth c H1 locs (kc + 1) (ks + M) _ (F0 m (pc + 2) ls (.ref H.size :: S.map (cv (adr b z))))
  rw [hsz]
  exact k p l e Rm s m args below meth c D cy b z F A H1 _ ls C hA hF hW hS hl
theorem wp_newZ {i : Int32} {M : Nat} (hd : decode cc pc = .ok (.newarray .boolean, 2)) (hw : Cond.arrayClass .boolean ∈ lw_w) (hi : ¬ i < 0) (hM : i.toNatClampNeg = M) (hM2 : M ≤ 1000000) (hk : kc + 1 ≤ K) (hk2 : ks + M ≤ N) (k : wp y cc nL ret d K N Q (kc + 1) (ks + M) (pc + 2) L (.ref n :: S) (n + 1) (eG t n (10, M)) (eG I n (fun _ => 0)) (eG R n (fun _ => none))) : wp y cc nL ret d K N Q kc ks pc L (.int i :: S) n t I R := by
  intro p l e Rm s m args below meth c D cy b z F A H locs ls C hA hF hW hS hl
  have hsz := hW.2.2.2.1
  refine va_newaK (atype := .boolean) C.1 C.2.1 (C.2.2.2.2.2.1 _ hw) rfl hd rfl hi hM (Nat.le_trans (Nat.mul_le_mul hM2 (show componentBytes .boolean ≤ 4 by decide)) (by decide)) (Nat.le_trans hk C.2.2.2.2.2.2.2.2.2.2.1) (Nat.le_trans hk2 C.2.2.2.2.2.2.2.2.2.2.2) rfl fun H1 cA e1 e2 e3 hAr hNm => ?_
  have hcA : cA = cy 10 := by
    have := (hW.1.2 1 _ rfl).2
    exact Option.some.inj (hNm.symm.trans this)
  subst hcA
  obtain ⟨hW, hS⟩ := ew_new (tg := 10) (ln := M) (gi := fun _ => 0) (gr := fun _ => none) hW hS hA (by omega) (eC_ia (by rw [eG_eq]) (by omega) (by omega)) (show H1[H.size]? = some (vp_cell _ _) by
    rw [eG_eq, eG_eq]
    exact e1) e2 e3
  show W p l e Rm s m args below meth c H1 locs (kc + 1) (ks + M) _ (F0 m (pc + 2) ls (.ref H.size :: S.map (cv (adr b z))))
  rw [hsz]
  exact k p l e Rm s m args below meth c D cy b z F A H1 _ ls C hA hF hW hS hl
theorem wp_anew11 {idx : Nat} {i : Int32} {M : Nat} (hd : decode cc pc = .ok (.anewarray idx, 3)) (hl1 : Cond.classLink y.cls idx RX3 ∈ lw_w) (hw : Cond.arrayOver (.object RX3) ∈ lw_w) (hi : ¬ i < 0) (hM : i.toNatClampNeg = M) (hM2 : M ≤ 1000000) (hk : kc + 1 ≤ K) (hk2 : ks + M ≤ N) (k : wp y cc nL ret d K N Q (kc + 1) (ks + M) (pc + 3) L (.ref n :: S) (n + 1) (eG t n (11, M)) (eG I n (fun _ => 0)) (eG R n (fun _ => none))) : wp y cc nL ret d K N Q kc ks pc L (.int i :: S) n t I R := by
  intro p l e Rm s m args below meth c D cy b z F A H locs ls C hA hF hW hS hl
  have hsz := hW.2.2.2.1
  subst hM
  refine W.anew C.1 C.2.1 C.2.2.2.2.1 (C.2.2.2.2.2.1 _ hl1) (C.2.2.2.2.2.1 _ hw) rfl hd rfl hi (by omega) (Nat.le_trans hk C.2.2.2.2.2.2.2.2.2.2.1) (Nat.le_trans hk2 C.2.2.2.2.2.2.2.2.2.2.2) fun cA kA comp f1 f2 f3 f4 => ?_
  have hcA : cA = cy 11 := by
    obtain ⟨_, _, _, _, _, h9⟩ := (hW.1.2 2 _ rfl).2
    exact Option.some.inj (f1.symm.trans h9)
  subst hcA
  generalize hH1 : H.push ({ cls := cy 11, slots := Array.replicate i.toNatClampNeg .null, vm := .none } : Cell) = H1
  have e2 : H1.size = H.size + 1 := by rw [← hH1, Array.size_push]
  have e1 : H1[H.size]? = some (arrV (cy 11) i.toNatClampNeg (fun _ => .null)) := by rw [← hH1, Array.getElem?_push_size, ← arrV_new]
  have e3 : ∀ q : Nat, q < H.size → H1[q]? = H[q]? := fun q hq => by rw [← hH1, Array.getElem?_push, if_neg (Nat.ne_of_lt hq)]
  obtain ⟨hW, hS⟩ := ew_new (tg := 11) (ln := i.toNatClampNeg) (gi := fun _ => 0) (gr := fun _ => none) hW hS hA (by omega) (eC_ra (by rw [eG_eq]) (by omega)) (show H1[H.size]? = some (vp_cell _ _) by
    rw [eG_eq, eG_eq]
    exact e1) e2 e3
  show W p l e Rm s m args below meth c H1 locs (kc + 1) (ks + i.toNatClampNeg) _ (F0 m (pc + 3) ls (.ref H.size :: S.map (cv (adr b z))))
  rw [hsz]
  exact k p l e Rm s m args below meth c D cy b z F A H1 _ ls C hA hF hW hS hl
theorem wp_anew12 {idx : Nat} {i : Int32} {M : Nat} (hd : decode cc pc = .ok (.anewarray idx, 3)) (hl1 : Cond.classLink y.cls idx RX6 ∈ lw_w) (hw : Cond.arrayOver (.object RX6) ∈ lw_w) (hi : ¬ i < 0) (hM : i.toNatClampNeg = M) (hM2 : M ≤ 1000000) (hk : kc + 1 ≤ K) (hk2 : ks + M ≤ N) (k : wp y cc nL ret d K N Q (kc + 1) (ks + M) (pc + 3) L (.ref n :: S) (n + 1) (eG t n (12, M)) (eG I n (fun _ => 0)) (eG R n (fun _ => none))) : wp y cc nL ret d K N Q kc ks pc L (.int i :: S) n t I R := by
  intro p l e Rm s m args below meth c D cy b z F A H locs ls C hA hF hW hS hl
  have hsz := hW.2.2.2.1
  subst hM
  refine W.anew C.1 C.2.1 C.2.2.2.2.1 (C.2.2.2.2.2.1 _ hl1) (C.2.2.2.2.2.1 _ hw) rfl hd rfl hi (by omega) (Nat.le_trans hk C.2.2.2.2.2.2.2.2.2.2.1) (Nat.le_trans hk2 C.2.2.2.2.2.2.2.2.2.2.2) fun cA kA comp f1 f2 f3 f4 => ?_
  have hcA : cA = cy 12 := by
    obtain ⟨_, _, _, _, _, h9⟩ := (hW.1.2 3 _ rfl).2
    exact Option.some.inj (f1.symm.trans h9)
  subst hcA
  generalize hH1 : H.push ({ cls := cy 12, slots := Array.replicate i.toNatClampNeg .null, vm := .none } : Cell) = H1
  have e2 : H1.size = H.size + 1 := by rw [← hH1, Array.size_push]
  have e1 : H1[H.size]? = some (arrV (cy 12) i.toNatClampNeg (fun _ => .null)) := by rw [← hH1, Array.getElem?_push_size, ← arrV_new]
  have e3 : ∀ q : Nat, q < H.size → H1[q]? = H[q]? := fun q hq => by rw [← hH1, Array.getElem?_push, if_neg (Nat.ne_of_lt hq)]
  obtain ⟨hW, hS⟩ := ew_new (tg := 12) (ln := i.toNatClampNeg) (gi := fun _ => 0) (gr := fun _ => none) hW hS hA (by omega) (eC_ra (by rw [eG_eq]) (by omega)) (show H1[H.size]? = some (vp_cell _ _) by
    rw [eG_eq, eG_eq]
    exact e1) e2 e3
  show W p l e Rm s m args below meth c H1 locs (kc + 1) (ks + i.toNatClampNeg) _ (F0 m (pc + 3) ls (.ref H.size :: S.map (cv (adr b z))))
  rw [hsz]
  exact k p l e Rm s m args below meth c D cy b z F A H1 _ ls C hA hF hW hS hl
theorem wp_objInit {idx a : Nat} (hd : decode cc pc = .ok (.invokespecial idx, 3)) (h1 : Cond.methodLink y.cls idx objectInit ∈ lw_w) (hs : (S.map Value.category).sum ≤ 8) (k : wp y cc nL ret (d + 1) K N Q kc ks (pc + 3) L (S) n t I R) : wp y cc nL ret (d + 1) K N Q kc ks pc L (.ref a :: S) n t I R := by
  intro p l e Rm s m args below meth c D cy b z F A H locs ls C hA hF hW hS hl
  refine W.objInit C.1 C.2.1 C.2.2.2.2.1 (C.2.2.2.2.2.1 _ h1) (C.2.2.2.2.2.1 _ oi_1) (C.2.2.2.2.2.1 _ oi_2) rfl (by rw [C.2.2.2.1]; exact hl.1) rfl hd (Nat.le_trans (by omega) C.2.2.2.2.2.2.2.2.1) (Nat.le_trans ?_ C.2.2.2.2.2.2.2.2.2.1) (k p l e Rm s m args below meth c D cy b z F A H locs ls C hA hF hW hS hl)
  have e : ((S.map (cv (adr b z))).map fun v => v.category).sum = (S.map Value.category).sum := by rw [List.map_map]; congr 1; apply List.map_congr_left; intro v _; exact cv_cat _ v
  show 2 * 0 + _ + 12 ≤ _
  rw [e]
  omega
theorem wp_copy {idx a0 a : Nat} {sp dp ln : Int32} (hd : decode cc pc = .ok (.invokestatic idx, 3)) (hw : Cond.methodLink y.cls idx arraycopyName ∈ lw_w) (ht0 : (t a0).1 = 9) (ht : (t a).1 = 9) (h1 : ¬ sp < 0) (h2 : ¬ dp < 0) (h3 : ¬ ln < 0) (h4 : sp.toNatClampNeg + ln.toNatClampNeg ≤ (t a0).2) (h5 : dp.toNatClampNeg + ln.toNatClampNeg ≤ (t a).2) (hs : (S.map Value.category).sum ≤ 8) (k : wp y cc nL ret (d + 1) K N Q kc ks (pc + 3) L (S) n t (eG I a (va_cpy (I a0) (I a) sp.toNatClampNeg dp.toNatClampNeg ln.toNatClampNeg)) R) : wp y cc nL ret (d + 1) K N Q kc ks pc L (.int ln :: .int dp :: .ref a :: .int sp :: .ref a0 :: S) n t I R := by
  intro p l e Rm s m args below meth c D cy b z F A H locs ls C hA hF hW hS hl
  have he0 := eW_mem hW ht0 (by omega) (eC_ia ht0 (by omega) (by omega))
  have he := eW_mem hW ht (by omega) (eC_ia ht (by omega) (by omega))
  have hts := C.2.2.2.2.2.1
  intro T hT X
  have hc0 : H[adr b z a0]? = some (vp_cell (cy 9) ((t a0).2, .inl (I a0))) := hW.2.1 _ _ he0
  have hc1 : H[adr b z a]? = some (vp_cell (cy 9) ((t a).2, .inl (I a))) := hW.2.1 _ _ he
  obtain ⟨-, k0, hk0, cm0, hkk0⟩ := (hW.1.2 0 _ rfl).1 (t a0).2 (fun j => .int (I a0 j))
  obtain ⟨-, k1, hk1, cm1, hkk1⟩ := (hW.1.2 0 _ rfl).1 (t a).2 (fun j => .int (I a j))
  have ecat : ((S.map (cv (adr b z))).map fun v => v.category).sum = (S.map Value.category).sum := by rw [List.map_map]; congr 1; apply List.map_congr_left; intro v _; exact cv_cat _ v
  obtain ⟨vm', X', step⟩ := X.arraycopy C.1 C.2.2.2.2.1 (hts _ hw) (hts _ ac_1) (hts _ ac_2) (hts _ ac_3) (src := adr b z a0) (dst := adr b z a) (cs := vp_cell (cy 9) ((t a0).2, .inl (I a0))) (cd := vp_cell (cy 9) ((t a).2, .inl (I a))) (srcPos := sp) (destPos := dp) (n := ln) (by rw [hT]; exact hc0) (by rw [hT]; exact hc1)
    (fun _ h => by cases h) (fun _ h => by cases h) (fun h => by cases h) (fun h => by cases h) hk0 hk1 hkk0 hkk1 (by rfl) h1 h2 h3
    (by rw [i32_nn sp h1, i32_nn ln h3]; show ¬ _ > ((arrV (cy 9) (t a0).2 (fun j => .int (I a0 j))).slots.size : Int); rw [arrV_size]; omega)
    (by rw [i32_nn dp h2, i32_nn ln h3]; show ¬ _ > ((arrV (cy 9) (t a).2 (fun j => .int (I a j))).slots.size : Int); rw [arrV_size]; omega)
    (fun vm₁ _ i hi => by
      have e : (vp_cell (cy 9) ((t a0).2, .inl (I a0))).slots.getD (sp.toNatClampNeg + i) .null = .int (I a0 (sp.toNatClampNeg + i)) := by
        show (arrV (cy 9) (t a0).2 (fun j => .int (I a0 j))).slots.getD _ _ = _
        rw [Array.getD_eq_getD_getElem?, arrV_read _ _ (by omega)]
        rfl
      refine ⟨?_, ?_⟩
      · rw [e]
        rfl
      · rw [e]
        exact trivial)
    (g := F0 m pc ls (.int ln :: .int dp :: .ref (adr b z a) :: .int sp :: .ref (adr b z a0) :: S.map (cv (adr b z)))) rfl (by rw [C.2.2.2.1]; exact hl.1) (rest := S.map (cv (adr b z))) rfl (by rw [C.2.1]; exact hd) (Nat.le_trans (by omega) C.2.2.2.2.2.2.2.2.1)
    (Nat.le_trans (by show 2 * 0 + _ + _ ≤ 64 * (d + 1); rw [ecat]; have : nativeFrameWords "java/lang/System" "arraycopy" 5 + 11 ≤ 56 := by decide
                      omega) C.2.2.2.2.2.2.2.2.2.1)
  have e1 : copied (vp_cell (cy 9) ((t a0).2, .inl (I a0))) (vp_cell (cy 9) ((t a).2, .inl (I a))) sp dp ln = vp_cell (cy 9) ((t a).2, .inl (va_cpy (I a0) (I a) sp.toNatClampNeg dp.toNatClampNeg ln.toNatClampNeg)) := va_copied (fun z => .int z) (cy 9) (cy 9) (I a0) (I a) h4
  rw [e1] at X' step
  have hlt : adr b z a < H.size := (Array.getElem?_eq_some_iff.mp hc1).1
  have hheap : ((T.setVm vm').setCell (adr b z a) (vp_cell (cy 9) ((t a).2, .inl (va_cpy (I a0) (I a) sp.toNatClampNeg dp.toNatClampNeg ln.toNatClampNeg)))).heap = H.setIfInBounds (adr b z a) (vp_cell (cy 9) ((t a).2, .inl (va_cpy (I a0) (I a) sp.toNatClampNeg dp.toNatClampNeg ln.toNatClampNeg))) := by rw [← hT]; rfl
  have oq : ∀ q : Nat, q ≠ adr b z a → (H.setIfInBounds (adr b z a) (vp_cell (cy 9) ((t a).2, .inl (va_cpy (I a0) (I a) sp.toNatClampNeg dp.toNatClampNeg ln.toNatClampNeg))))[q]? = H[q]? := fun q hq => by simp [Array.getElem?_setIfInBounds, Ne.symm hq]
  have hP2 := hW.2.1.set hW.2.2.1 he (e := .inl (cy 9, (t a).2, .inl (eG I a (va_cpy (I a0) (I a) sp.toNatClampNeg dp.toNatClampNeg ln.toNatClampNeg) a))) (show (H.setIfInBounds (adr b z a) _)[adr b z a]? = some _ by rw [eG_eq]; simp [Array.getElem?_setIfInBounds, hlt]) oq
  have hW2 := hW.put ht (by omega) (eC_ia ht (by omega) (by omega)) (fun x hx => eG_ne hx) (fun _ _ => rfl) hP2 (hW.2.2.1.set he) (by simp)
  obtain ⟨u, a1, b1⟩ := k p l e Rm s m args below meth c D cy b z F A _ _ ls C hA hF hW2 ⟨by simp; exact hS.1, fun q g1 g2 => by
      rw [oq q (fun e => g2 (by rw [e]; exact hW.2.2.1.2 _ _ he))]
      exact hS.2.1 q g1 g2, fun q hq => by
      rcases List.mem_append.mp hq with h | h
      · exact hS.2.2 q h
      · obtain ⟨z, -, hz⟩ := List.mem_map.mp h
        rw [← hz]
        exact hW.2.2.1.2 _ _ he⟩ hl _ hheap X'
  exact ⟨u, step u a1, b1⟩
end WPG
