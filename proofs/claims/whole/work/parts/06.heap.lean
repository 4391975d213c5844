/-- own's constant idx names field f of kind q -/
def eFl (own : String) (idx q f : Nat) : Prop := q < 9 ∧ f < eN q ∧ Cond.fieldLink own idx ((eCl q).2.1 f).1 ((eCl q).2.1 f).2.1 ((eCl q).2.1 f).2.2.1 ∈ lw_w
/-- field f of kind q holds references -/
def eref (q f : Nat) : Bool := match eTy q f with
  | .array _ => true
  | .object _ => true
  | _ => false
theorem eref_ne {q f : Nat} (h : eref q f = true) : eint q f = false := by
  unfold eref at h
  unfold eint
  cases he : eTy q f <;> rw [he] at h <;> first | (cases h; done) | (simp)
theorem eref_fit {q f : Nat} (h : eref q f = true) (a : Nat) : narrow (eTy q f) (.ref a) = .ref a ∧ fits (eTy q f) (.ref a) = true := by
  unfold eref at h
  cases he : eTy q f <;> rw [he] at h <;> first | (cases h; done) | exact ⟨rfl, rfl⟩
theorem eint_ty {q f : Nat} (h : eint q f = true) : eTy q f = .int := of_decide_eq_true h
section WPH
variable {p : Program} {l : Launch} {e : Env} {Rm : Room} {s : State} {m : MethodId} {args : Array Value} {below : List Frame} {meth : Method} {c : Code} {H : Heap} {locs : List Loc} {cells slots : Nat} {QQ : State → Prop}
variable {D : va_G} {cy : Nat → ClassId} {b : Nat} {z : Nat → Nat} {F : eF} {A : Nat → Prop} {n : Nat} {t : eT} {I I2 : eI} {R R2 : eR} {cc : ByteArray} {pc : Nat} {ls : Array Slot} {rest : List Value} {own : String}
theorem ew_get (hx : p.tables.exec = Jvm.exec) (hb : c.code = cc) (hts : ∀ w ∈ lw_w, w.before args s = true) (hown : s.vm.findClass own = some m.cls) (hW : eWd D cy b z F A n t I R H s) {idx q f a : Nat} (hf : eFl own idx q f) (ht : (t a).1 = q) (hd : decode cc pc = .ok (.getfield idx, 3))
    (k : W p l e Rm s m args below meth c H locs cells slots QQ (F0 m (pc + 3) ls (fV (adr b z) I R a q f :: rest))) : W p l e Rm s m args below meth c H locs cells slots QQ (F0 m pc ls (.ref (adr b z a) :: rest)) := by
  obtain ⟨hq, hfk, hm⟩ := hf
  have he := eW_mem hW ht (by omega) (eC_obj ht hq)
  exact va_get (D := D) hx hb hts (eCl_in q hq) hown hW.1 hW.2.1 (a - 4) he (eCl_at q hq) f (by rw [eCl_n q hq]; exact hfk) (hts _ hm) (fun _ h => h) (eFs_get hfk) hd k
theorem ew_put (hx : p.tables.exec = Jvm.exec) (hb : c.code = cc) (hts : ∀ w ∈ lw_w, w.before args s = true) (hown : s.vm.findClass own = some m.cls) (hW : eWd D cy b z F A n t I R H s) (hS : va_S A s.heap H locs) {idx q f a : Nat} {v : Value} (hf : eFl own idx q f) (ht : (t a).1 = q)
    (hfin : ((eCl q).2.1 f).2.2.2 = false ∨ (((eCl q).2.1 f).2.2.2 = true ∧ meth.name = "<init>" ∧ ((eCl q).2.1 f).1 = own)) (hn : narrow (eTy q f) v = v) (hfit : fits (eTy q f) v = true) (hnew : fV (adr b z) I2 R2 a q f = v) (hold : ∀ j, j ≠ f → fV (adr b z) I2 R2 a q j = fV (adr b z) I R a q j) (hI : ∀ x, x ≠ a → I2 x = I x) (hR : ∀ x, x ≠ a → R2 x = R x) (hd : decode cc pc = .ok (.putfield idx, 3))
    (k : ∀ (H1 : Heap) (locs1 : List Loc), eWd D cy b z F A n t I2 R2 H1 s → va_S A s.heap H1 locs1 → W p l e Rm s m args below meth c H1 locs1 cells slots QQ (F0 m (pc + 3) ls rest)) : W p l e Rm s m args below meth c H locs cells slots QQ (F0 m pc ls (v :: .ref (adr b z a) :: rest)) := by
  obtain ⟨hq, hfk, hm⟩ := hf
  have he := eW_mem hW ht (by omega) (eC_obj ht hq)
  have hc := eCl_at q hq
  have hk : f < (eCl q).2.2 := by rw [eCl_n q hq]; exact hfk
  have hin := eCl_in q hq
  have hty := eCl_ty q hq
  have hap := va_apart (own := own) (D := D) hts hin (eTy q) hty (eCl_nm q hq) hW.1 hc
  obtain ⟨r, h1, cell, q1, q2, q3, q4⟩ := hW.2.1 (a - 4) _ he
  have hr : r = ((eCl q).1, (eCl q).2.1, (eCl q).2.2) := Option.some.inj (h1.symm.trans hc)
  subst hr
  obtain ⟨hSl, hfc, kC, hkC, hkind⟩ := hW.1.1 q _ hc
  obtain ⟨cf, kf, fi, fd, hfi, hsl⟩ := hSl f hk
  have hlay := hts _ (hin _ (u_in_lay hk))
  have hst := (u_facts hfc hkC (u_lays hts hin hk) hfi).1
  have fin : ∀ (H1 : Heap) (i : Nat), H1[adr b z a]? = some (cell.setSlot (D.2 q f) v) → H1.size = H.size → (∀ x : Nat, x ≠ adr b z a → H1[x]? = H[x]?) → eWd D cy b z F A n t I2 R2 H1 s ∧ va_S A s.heap H1 (locs ++ [⟨adr b z a, i⟩]) := by
    intro H1 i e1 e2 e3
    have hset : (eFs (adr b z) I R a q).set f v = eFs (adr b z) I2 R2 a q := eFs_set hnew hold
    have hP2 := hW.2.1.set hW.2.2.1 he (e := .inr (q, (eFs (adr b z) I R a q).set f v)) (H1 := H1) ⟨_, hc, t_OB.to (V := updV (vp_V (eFs (adr b z) I R a q)) f v) ⟨_, e1, q2, q3, t_set q4 hap hk v⟩ (fun j _ => vp_updV_set (by rw [eFs_len]; exact hfk) v j)⟩ e3
    have hD2 := hW.2.2.1.set (e := .inr (q, (eFs (adr b z) I R a q).set f v)) he
    rw [hset] at hP2 hD2
    exact ⟨hW.put ht (by omega) (eC_obj ht hq) hI hR hP2 hD2 e2, hS.put e2 e3 (hW.2.2.1.2 _ _ he)⟩
  unfold u_lay at hlay
  rcases hfin with hfin | ⟨hfin, hinit, hdecl⟩
  · rw [if_neg (by rw [hfin]; decide)] at hlay
    have h6 := u_store hfc hkC hkind hlay hfi (hty f hk) hn hfit
    refine W.putK hx hb (f := fd) ⟨hown, hts _ hm, ⟨_, _, _, hfi⟩, hst⟩ (by rw [q2]; exact h6) q1 q3 (by rw [hsl]; exact k2_hasslot (q4 f hk)) rfl rfl hd fun H1 e1 e2 e3 => ?_
    rw [hsl] at e1 ⊢
    obtain ⟨g1, g2⟩ := fin H1 (D.2 q f) e1 e2 e3
    exact k H1 _ g1 g2
  · rw [if_pos hfin] at hlay
    have hcf : m.cls = cf := by
      obtain ⟨_, _, c', _, _, _, -, -, hf', -, -, -, hown2, -⟩ := Cond.laysFinal_spec hlay
      have e1 : c' = cf := by have := hfi.symm.trans hf'; simp at this; exact this.1.symm
      rw [hdecl] at hown2
      rw [← e1]
      exact Option.some.inj (hown.symm.trans hown2)
    have h6 := u_fits hfc hkC hkind (Or.inr hlay) hfi (hty f hk) hn hfit
    refine W.putFinK hx hb hown (hts _ hm) hfi hst hcf hinit (by rw [q2]; exact h6) q1 q3 (by rw [hsl]; exact k2_hasslot (q4 f hk)) rfl rfl hd fun H1 e1 e2 e3 => ?_
    rw [hsl] at e1 ⊢
    obtain ⟨g1, g2⟩ := fin H1 (D.2 q f) e1 e2 e3
    exact k H1 _ g1 g2
/-- a store into an array of ints or booleans -/
theorem ew_ast (hW : eWd D cy b z F A n t I R H s) (hS : va_S A s.heap H locs) {a q i : Nat} {x : Int32} (ht : (t a).1 = q) (hq : 9 ≤ q) (hq2 : q < 11) {H1 : Heap} (e1 : H1[adr b z a]? = some ((vp_cell (cy q) ((t a).2, .inl (I a))).setSlot i (.int x))) (e2 : H1.size = H.size) (e3 : ∀ y : Nat, y ≠ adr b z a → H1[y]? = H[y]?) : eWd D cy b z F A n t (eU I a i x) R H1 s ∧ va_S A s.heap H1 (locs ++ [⟨adr b z a, i⟩]) := by
  have he := eW_mem hW ht (by omega) (eC_ia ht hq hq2)
  have hr : (fun y => if y = i then x else I a y) = eU I a i x a := (eU_row I a i x).symm
  have hP2 := hW.2.1.set hW.2.2.1 he (e := .inl (cy q, (t a).2, .inl (eU I a i x a))) (H1 := H1) (show H1[adr b z a]? = some (vp_cell _ _) by
    rw [e1, vp_cell_i, vp_cell_i, arrV_store]
    congr 2
    funext y
    rw [← hr]
    by_cases hy : y = i
    · subst hy
      simp [updV]
    · simp [updV, hy]) e3
  exact ⟨hW.put ht (by omega) (eC_ia ht hq hq2) (fun y hy => eU_ne hy) (fun _ _ => rfl) hP2 (hW.2.2.1.set he) e2, hS.put e2 e3 (hW.2.2.1.2 _ _ he)⟩
theorem ew_astR (hW : eWd D cy b z F A n t I R H s) (hS : va_S A s.heap H locs) {a q i : Nat} {x : Option Nat} (ht : (t a).1 = q) (hq : 11 ≤ q) (hq2 : q < 14) {H1 : Heap} (e1 : H1[adr b z a]? = some ((vp_cell (cy q) ((t a).2, .inr (.inr (.inr (.inr (fun j => (R a j).map (adr b z))))))).setSlot i (va_rf (x.map (adr b z))))) (e2 : H1.size = H.size) (e3 : ∀ y : Nat, y ≠ adr b z a → H1[y]? = H[y]?) : eWd D cy b z F A n t I (eU R a i x) H1 s ∧ va_S A s.heap H1 (locs ++ [⟨adr b z a, i⟩]) := by
  have he := eW_mem hW ht hq2 (eC_ra ht hq)
  have hr : (fun y => if y = i then x else R a y) = eU R a i x a := (eU_row R a i x).symm
  have hP2 := hW.2.1.set hW.2.2.1 he (e := .inl (cy q, (t a).2, .inr (.inr (.inr (.inr (fun j => (eU R a i x a j).map (adr b z))))))) (H1 := H1) (show H1[adr b z a]? = some (vp_cell _ _) by
    rw [e1, vp_cell_q, vp_cell_q, arrV_store]
    congr 2
    funext y
    rw [← hr]
    by_cases hy : y = i
    · subst hy
      simp [updV]
    · simp [updV, hy]) e3
  exact ⟨hW.put ht hq2 (eC_ra ht hq) (fun _ _ => rfl) (fun y hy => eU_ne hy) hP2 (hW.2.2.1.set he) e2, hS.put e2 e3 (hW.2.2.1.2 _ _ he)⟩
/-- a new cell -/
theorem ew_new (hW : eWd D cy b z F A n t I R H s) (hS : va_S A s.heap H locs) (hA : ∀ q : Nat, s.heap.size ≤ q → A q) {tg ln : Nat} {gi : Nat → Int32} {gr : Nat → Option Nat} {ev : va_E} {H1 : Heap} (htg : tg < 14) (hev : eC cy (adr b z) (eG t n (tg, ln)) (eG I n gi) (eG R n gr) n = ev) (e1 : va_at D vwCl (H.size, ev) H1) (e2 : H1.size = H.size + 1) (e3 : ∀ y : Nat, y < H.size → H1[y]? = H[y]?) : eWd D cy b z F A (n + 1) (eG t n (tg, ln)) (eG I n gi) (eG R n gr) H1 s ∧ va_S A s.heap H1 locs := by
  obtain ⟨h1, h2, h3, h4, h5, h6, h7⟩ := hW
  have hk : ∀ (k : Nat) (x : Nat × va_E), (eW cy (adr b z) n t I R)[k]? = some x → H1[x.1]? = H[x.1]? := fun k x hx => e3 x.1 ((h2 k x hx).lt)
  have hne : ∀ x, x < n → x ≠ n := fun x hx => by omega
  have hpush := eW_push (cy := cy) (ad := adr b z) (t := t) (I := I) (R := R) h5 hev (fun x hx => eC_congr (eG_ne (hne x hx)) (eG_ne (hne x hx)) (eG_ne (hne x hx)))
  have hsz : adr b z (n + 1) = H.size + 1 := by rw [h4, adr_hi h5 (h7 n (Nat.le_refl _)).2, adr_hi (by omega) (h7 (n + 1) (by omega)).2]; omega
  have hP2 : va_P D vwCl (eW cy (adr b z) n t I R ++ [(H.size, ev)]) H1 := (h2.kept hk).app (fun k x hx => by
    have hz : k < 1 := (List.getElem?_eq_some_iff.mp hx).1
    rw [show k = 0 by omega] at hx
    cases hx
    exact e1)
  have hD2 : va_D A (eW cy (adr b z) n t I R ++ [(H.size, ev)]) := h3.push h2 rfl (hA _ hS.1)
  rw [h4, hpush] at hP2 hD2
  refine ⟨⟨h1, hP2, hD2, by rw [hsz, e2], by omega, fun j hj => ?_, fun a ha => ?_⟩, by rw [e2]; exact Nat.le_succ_of_le hS.1, fun x g1 g2 => (e3 x (Nat.lt_of_lt_of_le g1 hS.1)).trans (hS.2.1 x g1 g2), hS.2.2⟩
  · rw [eG_ne (by omega), eG_ne (by omega)]
    exact h6 j hj
  · rw [eG_ne (by omega)]
    exact h7 a (by omega)
end WPH
