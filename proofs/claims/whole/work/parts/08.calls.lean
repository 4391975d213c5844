theorem lw_warm {w : Cond} (hm : w ∈ lw_w) {args a2 : Array Value} {s U : State} (hW : s.WarmedH U.vm) (h : w.before args s = true) : w.before a2 U = true := by
  have h1 := (List.mem_filter.mp hm).2
  unfold okW at h1
  rw [Bool.or_eq_true] at h1
  rcases h1 with h1 | h1
  · exact word_at hW (good_of_word h1) h
  · cases w with
    | methodLinkNest a i x hh => exact va_Nw.use rfl (va_Nw.warmM hW (va_Nw.of rfl h))
    | fieldLinkNest a i b n d hh => exact va_Nw.use rfl (va_Nw.warmF hW (va_Nw.of rfl h))
    | arrayOver ty =>
      have h2 := Cond.arrayOver_setVmC (args := args) hW.alike ty
      rw [h] at h2
      exact h2
    | _ => cases h1
def MC (y : MethodName) (cc : ByteArray) (nL : Nat) (ret : Option FieldType) (d K N : Nat) (vals : List Value) (n : Nat) (t : eT) (I : eI) (R : eR) (Q : eQt) : Prop :=
  ∀ (l : Launch) (D : va_G) (cy : Nat → ClassId) (b : Nat) (z : Nat → Nat) (F : eF), Met l y (.code y cc nL ret :: lw_w) { frames := d, cells := K, slots := N, locals := 64 * d } (va_Pc (vals.map (cv (adr b z))) (fun U => eWd D cy b z F (fun _ => True) n t I R U.heap U ∧ eFz z F (va_A (eW cy (adr b z) n t I R) (adr b z n)) U)) (eQ D cy b z F (va_A (eW cy (adr b z) n t I R) (adr b z n)) Q) K N (va_A (eW cy (adr b z) n t I R) (adr b z n))
def qI (Q : Int32 → Nat → eT → eI → eR → Prop) : eQt := fun rv n t I R => ∃ r, rv = some (.int r) ∧ Q r n t I R
def qL (Q : Int64 → Nat → eT → eI → eR → Prop) : eQt := fun rv n t I R => ∃ r, rv = some (.long r) ∧ Q r n t I R
def qV (Q : Nat → eT → eI → eR → Prop) : eQt := fun rv n t I R => rv = none ∧ Q n t I R
def mkL (vs : List Value) (k : Nat) : List Value := match vs with
  | [] => List.replicate k vU
  | v :: vs => if v.category = 2 then v :: vM :: mkL vs (k - 2) else v :: mkL vs (k - 1)
theorem mkL_len (vs : List Value) : ∀ k, (vs.map Value.category).sum ≤ k → (mkL vs k).length = k := by
  induction vs with
  | nil => intro k _; simp [mkL]
  | cons v vs ih =>
    intro k h
    rw [List.map_cons, List.sum_cons] at h
    unfold mkL
    rcases lv_cat v with hc | hc
    · rw [if_neg (by omega), List.length_cons, ih (k - 1) (by omega)]
      omega
    · rw [if_pos hc, List.length_cons, List.length_cons, ih (k - 2) (by omega)]
      omega
theorem mkL_arg (ad : Nat → Nat) (vs : List Value) : ∀ (k j i : Nat) (v : Value), (mkL vs k)[i]? = some v → kn v = true → (j + i, cv ad v) ∈ lv_args j (vs.map (cv ad)) := by
  induction vs with
  | nil =>
    intro k j i v h hk
    unfold mkL at h
    rw [List.getElem?_replicate] at h
    split at h
    · cases h; cases hk
    · cases h
  | cons u vs ih =>
    intro k j i v h hk
    unfold mkL at h
    rw [List.map_cons]
    unfold lv_args
    rw [cv_cat]
    by_cases hc : u.category = 2
    · rw [if_pos hc] at h ⊢
      match i, h with
      | 0, h => cases h; exact List.mem_cons_self
      | 1, h => cases h; cases hk
      | i + 2, h =>
        have := ih _ (j + 2) i v h hk
        rw [show j + (i + 2) = j + 2 + i by omega]
        exact List.mem_cons_of_mem _ this
    · rw [if_neg hc] at h ⊢
      match i, h with
      | 0, h => cases h; exact List.mem_cons_self
      | i + 1, h =>
        have := ih _ (j + 1) i v h hk
        rw [show j + (i + 1) = j + 1 + i by omega]
        exact List.mem_cons_of_mem _ this
theorem mkL_long (vs : List Value) : ∀ (k i : Nat) (x : Int64), (mkL vs k)[i]? = some (.long x) → (mkL vs k)[i + 1]? = some vM := by
  induction vs with
  | nil =>
    intro k i x h
    unfold mkL at h
    rw [List.getElem?_replicate] at h
    split at h <;> cases h
  | cons u vs ih =>
    intro k i x h
    unfold mkL at h ⊢
    by_cases hc : u.category = 2
    · rw [if_pos hc] at h ⊢
      match i, h with
      | 0, h => rfl
      | 1, h => cases h
      | i + 2, h => exact ih _ i x h
    · rw [if_neg hc] at h ⊢
      match i, h with
      | 0, h => cases h; exact absurd rfl hc
      | i + 1, h => exact ih _ i x h
theorem lg_len (vs : List Value) : (lg_sl vs).length = (vs.map Value.category).sum := by
  induction vs with
  | nil => rfl
  | cons v vs ih =>
    unfold lg_sl at ih ⊢
    rw [List.flatMap_cons, List.length_append, ih, List.map_cons, List.sum_cons]
    rcases lv_cat v with hc | hc
    · rw [if_neg (by omega), hc]; rfl
    · rw [if_pos hc, hc]; rfl
theorem cat_cv (ad : Nat → Nat) (S : List Value) : ((S.map (cv ad)).map Value.category) = S.map Value.category := by
  rw [List.map_map]
  apply List.map_congr_left
  intro v _
  exact cv_cat ad v
theorem eFz.to {z : Nat → Nat} {F : eF} {A B : Nat → Prop} {s u : State} {H : Heap} (h : eFz z F A s) (hv : s.vm.Alike u.vm) (hu : u.heap = H) (hk : ∀ a : Nat, a < s.heap.size → ¬ A a → H[a]? = s.heap[a]?) (hAB : ∀ q, B q → A q) : eFz z F B u := by
  obtain ⟨h1, h2, h3, h4⟩ := h
  unfold eFz
  rw [hu]
  exact ⟨fun j hj => (((h1 j hj).kept hk).moved hv).narrow hAB, ((h2.kept hk).moved hv).narrow hAB, ((h3.kept hk).moved hv).narrow hAB, ((h4.kept hk).moved hv).narrow hAB⟩
section MCI
variable {y : MethodName} {cc : ByteArray} {nL : Nat} {ret : Option FieldType} {d K N : Nat} {Q : eQt} {kc ks pc : Nat} {L S : List Value} {n : Nat} {t : eT} {I : eI} {R : eR}
theorem mc_intro {vals L0 : List Value} (hy : plainName y.cls = true) (hL : mkL vals nL = L0) (hn : (vals.map Value.category).sum ≤ nL) (k : wp y cc nL ret d K N Q 0 0 0 L0 [] n t I R) : MC y cc nL ret d K N vals n t I R Q := by
  intro l D cy b z F
  refine Met.ofW (cc := cc) (maxL := nL) (ret := ret) hy rfl ?_
  intro p e s m args below meth c s₁ B hml hv
  obtain ⟨rfl, hW, hF⟩ := hv
  have hts := atoms_spec (ws := .code y cc nL ret :: lw_w) B.pre
  have hsz := hW.2.2.2.1
  have hl := lv_entry (vals.map (cv (adr b z))) (n := nL) (by rw [lg_len, cat_cv]; exact hn)
  rw [lg_entry_eq]
  refine k p l e _ s m _ below meth c D cy b z F _ s.heap [] _ ⟨B.exec, B.bytes, B.returns, hml, findClass_of_methodNamed B.named, fun w h => hts w (List.mem_cons_of_mem _ h), B.notSynchronized, fun h => (name_of_methodNamed B.named B.method).1.trans h, Nat.le_refl _, Nat.le_refl _, Nat.le_refl _, Nat.le_refl _⟩ (fun q h => Or.inr (by rw [← hsz]; exact h)) hF ⟨hW.1, hW.2.1, hW.2.2.1.self, hW.2.2.2⟩ va_S.rf ⟨hl.1, hl.2.1, by rw [← hL]; exact mkL_len vals nL hn, fun i v h hk => ?_, fun i x h => ?_⟩
  · rw [← hL] at h
    have := hl.2.2 _ (mkL_arg (adr b z) vals nL 0 i v h hk)
    rw [Nat.zero_add] at this
    exact this
  · rw [← hL] at h ⊢
    exact mkL_long vals nL i x h
end MCI
/-- what a callee brings: its code is among the words, it is no large one, its descriptor has ar parameters -/
def eMi (y : MethodName) (cc : ByteArray) (nL : Nat) (ret : Option FieldType) (ar : Nat) : Prop := Cond.code y cc nL ret ∈ lw_w ∧ Cond.initialized y.cls ∈ lw_w ∧ nL ≤ 45 ∧ y.cls ≠ "java/lang/invoke/MethodHandle" ∧ y.cls ≠ "java/lang/invoke/VarHandle" ∧ (parseMethodDescriptor y.desc).map (fun d => d.parameters.length) = some ar
theorem eMi.good {y : MethodName} {cc : ByteArray} {nL : Nat} {ret : Option FieldType} {ar : Nat} (h : eMi y cc nL ret ar) {args : Array Value} {s : State} (hts : ∀ w ∈ lw_w, w.before args s = true) : ∀ w ∈ (.code y cc nL ret :: lw_w : List Cond), ∀ (a2 : Array Value) (U : State), s.WarmedH U.vm → w.before a2 U = true := by
  intro w hw a2 U hW
  have hm : w ∈ lw_w := by
    rcases List.mem_cons.mp hw with e | e
    · rw [e]; exact h.1
    · exact e
  exact lw_warm hm hW (hts w hm)
theorem eMi.par {y : MethodName} {cc : ByteArray} {nL : Nat} {ret : Option FieldType} {ar : Nat} (h : eMi y cc nL ret ar) : ∀ sig, parseMethodDescriptor y.desc = some sig → ar = sig.parameters.length := by
  intro sig hs
  have h2 := h.2.2.2.2.2
  rw [hs] at h2
  exact (Option.some.inj h2).symm
theorem e_callB {Rm : Room} {s : State} {args : Array Value} {own : String} {idx : Nat} {y : MethodName} {cc : ByteArray} {nL : Nat} {ret : Option FieldType} {ar d K N : Nat} (hts : ∀ w ∈ lw_w, w.before args s = true) (hi : eMi y cc nL ret ar) (hl : Cond.methodLink own idx y ∈ lw_w) (h1 : d + 1 ≤ Rm.frames) (h2 : 64 * (d + 1) ≤ Rm.locals) : CallB Rm s args own idx y cc nL ret (.code y cc nL ret :: lw_w) { frames := d, cells := K, slots := N, locals := 64 * d } K N ar :=
  ⟨rfl, rfl, h1, Nat.le_trans (by show 8 + (nL + 11) + 64 * d ≤ 64 * (d + 1); have := hi.2.2.1; omega) h2, hi.good hts, List.mem_cons_self, hts _ hi.1, hts _ hi.2.1, ⟨hi.2.2.2.1, hi.2.2.2.2.1⟩, hi.par, hts _ hl⟩
theorem e_callN {Rm : Room} {s : State} {args : Array Value} {own host : String} {idx : Nat} {y : MethodName} {cc : ByteArray} {nL : Nat} {ret : Option FieldType} {ar d K N : Nat} (hts : ∀ w ∈ lw_w, w.before args s = true) (hi : eMi y cc nL ret ar) (hl : Cond.methodLinkNest own idx y host ∈ lw_w) (h1 : d + 1 ≤ Rm.frames) (h2 : 64 * (d + 1) ≤ Rm.locals) : va_CN Rm s args own idx y host cc nL ret (.code y cc nL ret :: lw_w) { frames := d, cells := K, slots := N, locals := 64 * d } K N ar :=
  ⟨⟨rfl, rfl, h1, Nat.le_trans (by show 8 + (nL + 11) + 64 * d ≤ 64 * (d + 1); have := hi.2.2.1; omega) h2, hi.good hts, List.mem_cons_self⟩, hts _ hi.1, hts _ hi.2.1, ⟨hi.2.2.2.1, hi.2.2.2.2.1⟩, hi.par, hts _ hl⟩
section CAL
variable {p : Program} {l : Launch} {e : Env} {Rm : Room} {s : State} {m : MethodId} {args : Array Value} {below : List Frame} {meth : Method} {c : Code} {H : Heap} {locs : List Loc} {kc ks : Nat} {QQ : State → Prop}
variable {D : va_G} {cy : Nat → ClassId} {b : Nat} {z : Nat → Nat} {F : eF} {A : Nat → Prop} {n : Nat} {t : eT} {I : eI} {R : eR} {pc : Nat} {ls : Array Slot} {S : List Value}
theorem ew_sub (hW : eWd D cy b z F A n t I R H s) (hS : va_S A s.heap H locs) (hA : ∀ q : Nat, s.heap.size ≤ q → A q) : ∀ q : Nat, va_A (eW cy (adr b z) n t I R) (adr b z n) q → A q := by
  intro q h
  rcases h with ⟨k, e, h⟩ | h
  · exact hW.2.2.1.2 _ _ h
  · exact hA q (Nat.le_trans hS.1 (by rw [hW.2.2.2.1]; exact h))
theorem ew_back {K2 N2 : Nat} {Q2 : eQt} {st0 : List Value} {a : Array Value} (hW : eWd D cy b z F A n t I R H s) (hS : va_S A s.heap H locs) (hA : ∀ q : Nat, s.heap.size ≤ q → A q)
    (hr : va_Run p l e Rm s m args below meth c H locs kc ks K2 N2 (F0 m pc ls st0) (S.map (cv (adr b z))) (eQ D cy b z F (va_A (eW cy (adr b z) n t I R) (adr b z n)) Q2 a) (va_A (eW cy (adr b z) n t I R) (adr b z n)))
    (k : ∀ (rv : Option Value) (n2 : Nat) (t2 : eT) (I2 : eI) (R2 : eR), Q2 rv n2 t2 I2 R2 → ∀ (H1 : Heap) (locs1 : List Loc), eWd D cy b z F A n2 t2 I2 R2 H1 s → va_S A s.heap H1 locs1 → W p l e Rm s m args below meth c H1 locs1 (kc + K2) (ks + N2) QQ (F0 m (pc + 3) ls ((rv.toList ++ S).map (cv (adr b z))))) : W p l e Rm s m args below meth c H locs kc ks QQ (F0 m pc ls st0) := by
  intro T hT X
  obtain ⟨v, st₀, u, T', Lc, h0, X', hL, e1, e2, ⟨⟨rv, n2, t2, I2, R2, hv, hq, hW1⟩, hz, hk⟩, st⟩ := hr T hT X
  cases hv
  rw [h0] at hz hk
  have hA1 := ew_sub hW hS hA
  have hal : s.vm.Alike u.vm := by rw [← e2]; exact X'.warmed.alike
  have hW2 : eWd D cy b z F A n2 t2 I2 R2 T'.heap s := by
    rw [e1]
    exact ⟨va_K.moved hal.symm hW1.1, hW1.2.1, hW1.2.2.1.weaken (fun k q _ h => hA1 q.1 h), hW1.2.2.2⟩
  have hst : (Option.map (cv (adr b z)) rv).toList ++ S.map (cv (adr b z)) = (rv.toList ++ S).map (cv (adr b z)) := by cases rv <;> rfl
  rw [hst] at st
  obtain ⟨t2, a1, b1⟩ := k rv n2 t2 I2 R2 hq T'.heap (locs ++ Lc) hW2 ⟨Nat.le_trans hS.1 (by rw [e1]; exact hz), fun q h1 h2 => by
      rw [e1, hk q (Nat.lt_of_lt_of_le h1 hS.1) (fun z => h2 (hA1 q z))]
      exact hS.2.1 q h1 h2, fun q hq => by
      rcases List.mem_append.mp hq with h | h
      · exact hS.2.2 q h
      · exact hA1 _ (hL q h)⟩ T' rfl X'
  exact ⟨t2, st t2 a1, b1⟩
theorem ew_pre {As : List Value} (hW : eWd D cy b z F A n t I R H s) (hS : va_S A s.heap H locs) (hA : ∀ q : Nat, s.heap.size ≤ q → A q) (hF : eFz z F A s) : PreS s H (va_Pc (As.map (cv (adr b z))) (fun U => eWd D cy b z F (fun _ => True) n t I R U.heap U ∧ eFz z F (va_A (eW cy (adr b z) n t I R) (adr b z n)) U)) (As.map (cv (adr b z))) := by
  refine ⟨fun a U g mk q => ?_, fun U hU hV => ?_⟩
  · obtain ⟨q0, q1, q2⟩ := q
    exact ⟨q0, q1.moved (u := U.calling g mk a) (Vm.Alike.refl U.vm) rfl, q2.to (u := U.calling g mk a) (Vm.Alike.refl U.vm) rfl (fun _ _ _ => rfl) (fun _ h => h)⟩
  · refine ⟨rfl, ?_, hF.to hV.alike hU hS.2.1 (ew_sub hW hS hA)⟩
    have := hW.moved hV.alike hU
    exact ⟨this.1, this.2.1, this.2.2.1.weaken (fun _ _ _ _ => trivial), this.2.2.2⟩
end CAL
section WPC
variable {y y2 : MethodName} {cc cc2 : ByteArray} {nL nL2 : Nat} {ret ret2 : Option FieldType} {d K N K2 N2 : Nat} {Q Q2 : eQt} {kc ks pc : Nat} {L S : List Value} {n : Nat} {t : eT} {I : eI} {R : eR} {idx ar : Nat} {As : List Value}
theorem wp_callV {q a : Nat} (hd : decode cc pc = .ok (.invokevirtual idx, 3)) (hl1 : Cond.methodLink y.cls idx y2 ∈ lw_w) (hv1 : Cond.instanceMethod y2 ∈ lw_w) (hv2 : Cond.selects y2.cls y2 y2 ∈ lw_w) (hi : eMi y2 cc2 nL2 ret2 ar) (hn : As.length = ar) (hs : (S.map Value.category).sum ≤ 8) (hk : kc + K2 ≤ K) (hk2 : ks + N2 ≤ N) (ht : (t a).1 = q) (hq : q < 9) (hq2 : (eCl q).1 = y2.cls) (hM : MC y2 cc2 nL2 ret2 d K2 N2 (.ref a :: As) n t I R Q2) (k : ∀ (rv : Option Value) (n2 : Nat) (t2 : eT) (I2 : eI) (R2 : eR), Q2 rv n2 t2 I2 R2 → wp y cc nL ret (d + 1) K N Q (kc + K2) (ks + N2) (pc + 3) L (rv.toList ++ S) n2 t2 I2 R2) : wp y cc nL ret (d + 1) K N Q kc ks pc L (As.reverse ++ .ref a :: S) n t I R := by
  intro p l e Rm s m args below meth c D cy b z F A H locs ls C hA hF hW hS hl
  have he := eW_mem hW ht (by omega) (eC_obj ht hq)
  have hp := ew_pre (As := .ref a :: As) hW hS hA hF
  have hrec := va_recv hW.1 hW.2.1 (eCl_at q hq) he
  rw [hq2] at hrec
  have cw := e_callB (d := d) (K := K2) (N := N2) C.2.2.2.2.2.1 hi hl1 C.2.2.2.2.2.2.2.2.1 C.2.2.2.2.2.2.2.2.2.1
  refine ew_back (S := S) hW hS hA (va_runV (As := As.map (cv (adr b z))) (b := adr b z a) ⟨C.1, C.2.1, C.2.2.2.1, C.2.2.2.2.1, C.2.2.2.2.2.1⟩ (hM l D cy b z F) ⟨cw, C.2.2.2.2.2.1 _ hv1, C.2.2.2.2.2.1 _ hv2⟩ ⟨hp.1, hrec, hp.2⟩ rfl (by rw [List.length_map]; exact hn) hl.1 ?_ (lv_room (by rw [cat_cv]; exact hs)) hd ⟨Nat.le_trans hk C.2.2.2.2.2.2.2.2.2.2.1, Nat.le_trans hk2 C.2.2.2.2.2.2.2.2.2.2.2⟩) (fun rv n2 t2 I2 R2 hq H1 locs1 hW2 hS2 => k rv n2 t2 I2 R2 hq p l e Rm s m args below meth c D cy b z F A H1 locs1 ls C hA hF hW2 hS2 hl)
  show (As.reverse ++ .ref a :: S).map (cv (adr b z)) = _
  rw [List.map_append, List.map_reverse]
  rfl
theorem wp_callS (hd : decode cc pc = .ok (.invokestatic idx, 3)) (hl1 : Cond.methodLink y.cls idx y2 ∈ lw_w) (hv1 : Cond.static y2 ∈ lw_w) (hi : eMi y2 cc2 nL2 ret2 ar) (hn : As.length = ar) (hs : (S.map Value.category).sum ≤ 8) (hk : kc + K2 ≤ K) (hk2 : ks + N2 ≤ N) (hM : MC y2 cc2 nL2 ret2 d K2 N2 As n t I R Q2) (k : ∀ (rv : Option Value) (n2 : Nat) (t2 : eT) (I2 : eI) (R2 : eR), Q2 rv n2 t2 I2 R2 → wp y cc nL ret (d + 1) K N Q (kc + K2) (ks + N2) (pc + 3) L (rv.toList ++ S) n2 t2 I2 R2) : wp y cc nL ret (d + 1) K N Q kc ks pc L (As.reverse ++ S) n t I R := by
  intro p l e Rm s m args below meth c D cy b z F A H locs ls C hA hF hW hS hl
  have hp := ew_pre (As := As) hW hS hA hF
  have cw := e_callB (d := d) (K := K2) (N := N2) C.2.2.2.2.2.1 hi hl1 C.2.2.2.2.2.2.2.2.1 C.2.2.2.2.2.2.2.2.2.1
  refine ew_back (S := S) hW hS hA (va_runS (As := As.map (cv (adr b z))) ⟨C.1, C.2.1, C.2.2.2.1, C.2.2.2.2.1, C.2.2.2.2.2.1⟩ (hM l D cy b z F) ⟨cw, C.2.2.2.2.2.1 _ hv1⟩ hp rfl (by rw [List.length_map]; exact hn) hl.1 ?_ (lv_room (by rw [cat_cv]; exact hs)) hd ⟨Nat.le_trans hk C.2.2.2.2.2.2.2.2.2.2.1, Nat.le_trans hk2 C.2.2.2.2.2.2.2.2.2.2.2⟩) (fun rv n2 t2 I2 R2 hq H1 locs1 hW2 hS2 => k rv n2 t2 I2 R2 hq p l e Rm s m args below meth c D cy b z F A H1 locs1 ls C hA hF hW2 hS2 hl)
  show (As.reverse ++ S).map (cv (adr b z)) = _
  rw [List.map_append, List.map_reverse]
theorem wp_callSN {host : String} (hd : decode cc pc = .ok (.invokestatic idx, 3)) (hl1 : Cond.methodLinkNest y.cls idx y2 host ∈ lw_w) (hv1 : Cond.static y2 ∈ lw_w) (hi : eMi y2 cc2 nL2 ret2 ar) (hn : As.length = ar) (hs : (S.map Value.category).sum ≤ 8) (hk : kc + K2 ≤ K) (hk2 : ks + N2 ≤ N) (hM : MC y2 cc2 nL2 ret2 d K2 N2 As n t I R Q2) (k : ∀ (rv : Option Value) (n2 : Nat) (t2 : eT) (I2 : eI) (R2 : eR), Q2 rv n2 t2 I2 R2 → wp y cc nL ret (d + 1) K N Q (kc + K2) (ks + N2) (pc + 3) L (rv.toList ++ S) n2 t2 I2 R2) : wp y cc nL ret (d + 1) K N Q kc ks pc L (As.reverse ++ S) n t I R := by
  intro p l e Rm s m args below meth c D cy b z F A H locs ls C hA hF hW hS hl
  have hp := ew_pre (As := As) hW hS hA hF
  have cw := e_callN (d := d) (K := K2) (N := N2) C.2.2.2.2.2.1 hi hl1 C.2.2.2.2.2.2.2.2.1 C.2.2.2.2.2.2.2.2.2.1
  refine ew_back (S := S) hW hS hA (va_runSN (As := As.map (cv (adr b z))) ⟨C.1, C.2.1, C.2.2.2.1, C.2.2.2.2.1, C.2.2.2.2.2.1⟩ (hM l D cy b z F) ⟨cw, C.2.2.2.2.2.1 _ hv1, trivial⟩ hp rfl (by rw [List.length_map]; exact hn) hl.1 ?_ (lv_room (by rw [cat_cv]; exact hs)) hd ⟨Nat.le_trans hk C.2.2.2.2.2.2.2.2.2.2.1, Nat.le_trans hk2 C.2.2.2.2.2.2.2.2.2.2.2⟩) (fun rv n2 t2 I2 R2 hq H1 locs1 hW2 hS2 => k rv n2 t2 I2 R2 hq p l e Rm s m args below meth c D cy b z F A H1 locs1 ls C hA hF hW2 hS2 hl)
  show (As.reverse ++ S).map (cv (adr b z)) = _
  rw [List.map_append, List.map_reverse]
theorem wp_callI {a : Nat} (hd : decode cc pc = .ok (.invokespecial idx, 3)) (hl1 : Cond.methodLink y.cls idx y2 ∈ lw_w) (hv1 : Cond.instanceMethod y2 ∈ lw_w) (hnm : y2.name = "<init>") (hr2 : ret2 = none) (hi : eMi y2 cc2 nL2 ret2 ar) (hn : As.length = ar) (hs : (S.map Value.category).sum ≤ 8) (hk : kc + K2 ≤ K) (hk2 : ks + N2 ≤ N) (hM : MC y2 cc2 nL2 ret2 d K2 N2 (.ref a :: As) n t I R Q2) (k : ∀ (rv : Option Value) (n2 : Nat) (t2 : eT) (I2 : eI) (R2 : eR), Q2 rv n2 t2 I2 R2 → wp y cc nL ret (d + 1) K N Q (kc + K2) (ks + N2) (pc + 3) L (rv.toList ++ S) n2 t2 I2 R2) : wp y cc nL ret (d + 1) K N Q kc ks pc L (As.reverse ++ .ref a :: S) n t I R := by
  subst hr2
  intro p l e Rm s m args below meth c D cy b z F A H locs ls C hA hF hW hS hl
  have hp := ew_pre (As := .ref a :: As) hW hS hA hF
  have cw := e_callB (d := d) (K := K2) (N := N2) C.2.2.2.2.2.1 hi hl1 C.2.2.2.2.2.2.2.2.1 C.2.2.2.2.2.2.2.2.2.1
  refine ew_back (S := S) hW hS hA (va_runI (As := As.map (cv (adr b z))) (b := adr b z a) ⟨C.1, C.2.1, C.2.2.2.1, C.2.2.2.2.1, C.2.2.2.2.2.1⟩ (hM l D cy b z F) ⟨cw, hnm, C.2.2.2.2.2.1 _ hv1⟩ hp rfl (by rw [List.length_map]; exact hn) hl.1 ?_ (lv_room (by rw [cat_cv]; exact hs)) hd ⟨Nat.le_trans hk C.2.2.2.2.2.2.2.2.2.2.1, Nat.le_trans hk2 C.2.2.2.2.2.2.2.2.2.2.2⟩) (fun rv n2 t2 I2 R2 hq H1 locs1 hW2 hS2 => k rv n2 t2 I2 R2 hq p l e Rm s m args below meth c D cy b z F A H1 locs1 ls C hA hF hW2 hS2 hl)
  show (As.reverse ++ .ref a :: S).map (cv (adr b z)) = _
  rw [List.map_append, List.map_reverse]
  rfl
theorem wp_callIN {a : Nat} {host : String} (hd : decode cc pc = .ok (.invokespecial idx, 3)) (hl1 : Cond.methodLinkNest y.cls idx y2 host ∈ lw_w) (hv1 : Cond.instanceMethod y2 ∈ lw_w) (hnm : y2.name = "<init>") (hr2 : ret2 = none) (hi : eMi y2 cc2 nL2 ret2 ar) (hn : As.length = ar) (hs : (S.map Value.category).sum ≤ 8) (hk : kc + K2 ≤ K) (hk2 : ks + N2 ≤ N) (hM : MC y2 cc2 nL2 ret2 d K2 N2 (.ref a :: As) n t I R Q2) (k : ∀ (rv : Option Value) (n2 : Nat) (t2 : eT) (I2 : eI) (R2 : eR), Q2 rv n2 t2 I2 R2 → wp y cc nL ret (d + 1) K N Q (kc + K2) (ks + N2) (pc + 3) L (rv.toList ++ S) n2 t2 I2 R2) : wp y cc nL ret (d + 1) K N Q kc ks pc L (As.reverse ++ .ref a :: S) n t I R := by
  subst hr2
  intro p l e Rm s m args below meth c D cy b z F A H locs ls C hA hF hW hS hl
  have hp := ew_pre (As := .ref a :: As) hW hS hA hF
  have cw := e_callN (d := d) (K := K2) (N := N2) C.2.2.2.2.2.1 hi hl1 C.2.2.2.2.2.2.2.2.1 C.2.2.2.2.2.2.2.2.2.1
  refine ew_back (S := S) hW hS hA (va_runIN (As := As.map (cv (adr b z))) (b := adr b z a) ⟨C.1, C.2.1, C.2.2.2.1, C.2.2.2.2.1, C.2.2.2.2.2.1⟩ (hM l D cy b z F) ⟨cw, hnm, C.2.2.2.2.2.1 _ hv1⟩ hp rfl (by rw [List.length_map]; exact hn) hl.1 ?_ (lv_room (by rw [cat_cv]; exact hs)) hd ⟨Nat.le_trans hk C.2.2.2.2.2.2.2.2.2.2.1, Nat.le_trans hk2 C.2.2.2.2.2.2.2.2.2.2.2⟩) (fun rv n2 t2 I2 R2 hq H1 locs1 hW2 hS2 => k rv n2 t2 I2 R2 hq p l e Rm s m args below meth c D cy b z F A H1 locs1 ls C hA hF hW2 hS2 hl)
  show (As.reverse ++ .ref a :: S).map (cv (adr b z)) = _
  rw [List.map_append, List.map_reverse]
  rfl
end WPC
