/-! an array of arrays of ints, made at once: the outer one with its places filled, then its rows -/
def mv (h i : Nat) : Nat → Value := fun x => if x < i then .ref (h + 1 + x) else .null
def mI (cp : ClassId) (M : Nat) (s : State) : Nat → State
  | 0 => s
  | i + 1 => (mI cp M s i).pushCell (arrV cp M (fun _ => .int 0))
def mS (s : State) (c cp : ClassId) (N M i : Nat) : State := mI cp M (s.pushCell (arrV c N (mv s.heap.size i))) i
theorem mI_f (cp : ClassId) (M : Nat) (s : State) : ∀ i, (mI cp M s i).heap.size = s.heap.size + i ∧ (mI cp M s i).vm = s.vm ∧ (mI cp M s i).slotsUsed = s.slotsUsed + i * M ∧ ∀ a, a < s.heap.size → (mI cp M s i).heap[a]? = s.heap[a]?
  | 0 => ⟨rfl, rfl, by show s.slotsUsed = s.slotsUsed + 0 * M; omega, fun _ _ => rfl⟩
  | i + 1 => by
    obtain ⟨h1, h2, h3, h4⟩ := mI_f cp M s i
    refine ⟨?_, h2, ?_, fun a ha => ?_⟩
    · show ((mI cp M s i).heap.push _).size = _
      rw [Array.size_push, h1]
      omega
    · show (mI cp M s i).slotsUsed + (arrV cp M (fun _ => .int 0)).slots.size = _
      rw [h3, arrV_size, Nat.succ_mul]
      omega
    · show ((mI cp M s i).heap.push _)[a]? = _
      rw [Array.getElem?_push, if_neg (by omega)]
      exact h4 a ha
theorem pc_sc {s : State} {a : Nat} {x y : Cell} (h : a < s.heap.size) : (s.pushCell y).setCell a x = (s.setCell a x).pushCell y := by
  have e : (s.heap.push y).setIfInBounds a x = (s.heap.setIfInBounds a x).push y := by
    apply Array.ext_getElem?
    intro i
    rw [Array.getElem?_setIfInBounds, Array.getElem?_push, Array.getElem?_push, Array.size_setIfInBounds, Array.getElem?_setIfInBounds, Array.size_push]
    by_cases g : a = i
    · subst g
      rw [if_pos rfl, if_pos (by omega), if_neg (by omega), if_pos rfl, if_pos h]
    · rw [if_neg g, if_neg g]
  unfold State.pushCell State.setCell
  rw [e]
theorem mI_sc {cp : ClassId} {M : Nat} {s : State} {a : Nat} {x : Cell} (h : a < s.heap.size) : ∀ i, (mI cp M s i).setCell a x = mI cp M (s.setCell a x) i
  | 0 => rfl
  | i + 1 => by
    show ((mI cp M s i).pushCell _).setCell a x = (mI cp M (s.setCell a x) i).pushCell _
    rw [pc_sc (by rw [(mI_f cp M s i).1]; omega), mI_sc h i]
theorem pc_st {s : State} {x y : Cell} (h : y.slots.size = x.slots.size) : (s.pushCell y).setCell s.heap.size x = s.pushCell x := by
  have e : (s.heap.push y).setIfInBounds s.heap.size x = s.heap.push x := by
    apply Array.ext_getElem?
    intro i
    rw [Array.getElem?_setIfInBounds, Array.getElem?_push, Array.getElem?_push, Array.size_push]
    by_cases g : s.heap.size = i
    · subst g
      rw [if_pos rfl, if_pos (by omega), if_pos rfl]
    · rw [if_neg g, if_neg (fun g2 => g g2.symm), if_neg (fun g2 => g g2.symm)]
  unfold State.pushCell State.setCell
  rw [e, h]
theorem mS_step {s : State} {c cp : ClassId} {N M i : Nat} : ((mS s c cp N M i).pushCell (arrV cp M (fun _ => .int 0))).setCell s.heap.size (arrV c N (mv s.heap.size (i + 1))) = mS s c cp N M (i + 1) := by
  show (mI cp M (s.pushCell (arrV c N (mv s.heap.size i))) (i + 1)).setCell s.heap.size _ = _
  rw [mI_sc (by show s.heap.size < (s.heap.push _).size; rw [Array.size_push]; omega), pc_st (by rw [arrV_size, arrV_size])]
  rfl
theorem mv_step {h i : Nat} : updV (mv h i) i (.ref (h + 1 + i)) = mv h (i + 1) := by
  funext x
  unfold updV mv
  by_cases g : x = i
  · subst g
    simp
  · by_cases g2 : x < i
    · simp [g, g2, show x < i + 1 by omega]
    · simp [g, g2, show ¬ x < i + 1 by omega]
theorem mna_new {E : CtlPost} {e : Env} {d : Bool} {acts : List Action} {s : State} {c comp : ClassId} {k : Class} {ty : FieldType} {len : Nat} {v : Value} {Q : Addr → Pre} (hk : s.vm.classes[c]? = some k) (hkind : k.kind = .array comp ty) (h1 : ¬ len > e.platform.arrayLengthLimit) (h2 : ¬ len * componentBytes ty > e.platform.maxHeapBytes) (hf : fits ty v = true) (hd : v.isDefault = true) (h3 : s.heap.size < e.platform.maxCells) (h4 : s.slotsUsed + len ≤ e.platform.maxSlots) (hq : Q s.heap.size d acts (s.pushCell (arrV c len (fun _ => v)))) : Sem.wp (Jvm.newArray c len v) Q E e d acts s := by
  have a1 : ∀ (i : Nat) (x : Value), (Array.replicate len v)[i]? = some x → s.fitsSlot c .none i x = true := fun i x hx => by
    rw [Array.getElem?_replicate] at hx
    by_cases g : i < len
    · rw [if_pos g] at hx
      cases hx
      simp [State.fitsSlot, State.slotType?, hk, hkind, hf]
    · rw [if_neg g] at hx
      cases hx
  have a2 : allocActs (Array.replicate len v) s.heap.size acts = acts := by
    have a3 : (Array.replicate len v).all (fun x => x.isDefault) = true := by
      rw [Array.all_replicate]
      split <;> simp [hd]
    unfold allocActs
    rw [if_pos a3]
  rw [← arrV_new] at hq
  simp only [Jvm.newArray, Jvm.arrayFits, wp_bind', Jvm.W.ask, Jvm.W.ite, h1, if_false, wp_pure', Jvm.W.theClass, hk, hkind, h2, Jvm.W.alloc, Jvm.W.stop, Option.some.injEq, exists_eq_left', Array.size_replicate, a2]
  rw [if_neg (by omega)]
  exact ⟨h3, h4, a1, hq⟩
theorem mna_row {E : CtlPost} {e : Env} {d : Bool} {acts : List Action} {s : State} {cp cc : ClassId} {kc : Class} {m : Int32} {M : Nat} {Q : Addr → Pre} (hkc : s.vm.classes[cp]? = some kc) (hkind : kc.kind = .array cc .int) (hm : ¬ m < 0) (hM : m.toNatClampNeg = M) (h1 : ¬ M > e.platform.arrayLengthLimit) (h2 : ¬ M * componentBytes .int > e.platform.maxHeapBytes) (h3 : s.heap.size < e.platform.maxCells) (h4 : s.slotsUsed + M ≤ e.platform.maxSlots) (hq : Q s.heap.size d acts (s.pushCell (arrV cp M (fun _ => .int 0)))) : Sem.wp (Op.multianewarray.make cp [m]) Q E e d acts s := by
  subst hM
  rw [Op.multianewarray.make]
  simp only [wp_bind', Jvm.W.ite, hm, if_false, wp_pure', Jvm.W.theClass, hkc, hkind, Option.some.injEq, exists_eq_left']
  exact mna_new hkc hkind h1 h2 rfl rfl h3 h4 hq
theorem rng_s {i N : Nat} {x : Nat} {rest : List Nat} (h : x :: rest = List.range' i (N - i)) : x = i ∧ i < N ∧ rest = List.range' (i + 1) (N - (i + 1)) := by
  rcases Nat.lt_or_ge i N with g | g
  · rw [show N - i = (N - (i + 1)) + 1 by omega, List.range'_succ] at h
    exact ⟨(List.cons.inj h).1, g, (List.cons.inj h).2⟩
  · rw [show N - i = 0 by omega] at h
    cases h
theorem mna_all {E : CtlPost} {e : Env} {d : Bool} {acts : List Action} {s : State} {c cp cc : ClassId} {k kc : Class} {n m : Int32} {N M : Nat} {Q : Addr → Pre} (hk : s.vm.classes[c]? = some k) (hkd : k.kind = .array cp (.array .int)) (hkc : s.vm.classes[cp]? = some kc) (hkcd : kc.kind = .array cc .int) (hn : ¬ n < 0) (hm : ¬ m < 0) (hN : n.toNatClampNeg = N) (hM : m.toNatClampNeg = M) (h1 : ¬ N > e.platform.arrayLengthLimit) (h2 : ¬ N * componentBytes (.array .int) > e.platform.maxHeapBytes) (h1b : ¬ M > e.platform.arrayLengthLimit) (h2b : ¬ M * componentBytes .int > e.platform.maxHeapBytes) (h3 : s.heap.size + 1 + N ≤ e.platform.maxCells) (h4 : s.slotsUsed + N + N * M ≤ e.platform.maxSlots) (hq : ∀ d2 acts2, Q s.heap.size d2 acts2 (mS s c cp N M N)) : Sem.wp (Op.multianewarray.make c [n, m]) Q E e d acts s := by
  subst hN
  have hfd : ([m].find? (fun x => decide (x < 0))) = none := by simp [hm]
  rw [Op.multianewarray.make]
  simp only [wp_bind', Jvm.W.ite, hn, if_false, wp_pure', Jvm.W.theClass, hk, hkd, Option.some.injEq, exists_eq_left']
  refine mna_new hk hkd h1 h2 rfl rfl (by omega) (by omega) ?_
  simp only [hfd]
  rw [ite_self, wp_bind', Std.Legacy.Range.forIn_eq_forIn_range']
  rw [show ([:n.toNatClampNeg] : Std.Legacy.Range).size = n.toNatClampNeg by simp [Std.Legacy.Range.size]]
  show Sem.wp (forIn (List.range' 0 n.toNatClampNeg 1) PUnit.unit _) _ E e d acts _
  refine wp_forIn_inv (fun rest s2 => ∃ i, i ≤ n.toNatClampNeg ∧ rest = List.range' i (n.toNatClampNeg - i) ∧ s2 = mS s c cp n.toNatClampNeg M i) _ _ ⟨0, Nat.zero_le _, rfl, rfl⟩ ?_ ?_
  · rintro x rest s2 d2 acts2 Q2 ⟨i, hi, hl, rfl⟩ hnx
    obtain ⟨rfl, hlt, hr⟩ := rng_s hl
    obtain ⟨f1, f2, f3, f4⟩ := mI_f cp M (s.pushCell (arrV c n.toNatClampNeg (mv s.heap.size x))) x
    have e1 : (s.pushCell (arrV c n.toNatClampNeg (mv s.heap.size x))).heap.size = s.heap.size + 1 := Array.size_push _
    have e2 : (s.pushCell (arrV c n.toNatClampNeg (mv s.heap.size x))).slotsUsed = s.slotsUsed + n.toNatClampNeg := by
      show s.slotsUsed + (arrV c n.toNatClampNeg (mv s.heap.size x)).slots.size = _
      rw [arrV_size]
    have hmul : x * M + M ≤ n.toNatClampNeg * M := by
      have g := Nat.mul_le_mul_right M (show x + 1 ≤ n.toNatClampNeg from hlt)
      rw [Nat.succ_mul] at g
      exact g
    have z1 : (mS s c cp n.toNatClampNeg M x).heap.size = s.heap.size + 1 + x := by rw [← e1]; exact f1
    have z2 : (mS s c cp n.toNatClampNeg M x).vm = s.vm := f2
    have z3 : (mS s c cp n.toNatClampNeg M x).slotsUsed = s.slotsUsed + n.toNatClampNeg + x * M := by rw [← e2]; exact f3
    have z4 : (mS s c cp n.toNatClampNeg M x).heap[s.heap.size]? = some (arrV c n.toNatClampNeg (mv s.heap.size x)) := by
      refine (f4 s.heap.size (by omega)).trans ?_
      show (s.heap.push _)[s.heap.size]? = _
      rw [Array.getElem?_push_size]
    simp only [wp_bind']
    refine mna_row (by rw [z2]; exact hkc) hkcd hm hM h1b h2b (by omega) (by omega) ?_
    simp only [wp_bind', Jvm.W.writeLoc, wp_pure']
    refine ⟨arrV c n.toNatClampNeg (mv s.heap.size x), ?_, by simp [arrV], by rw [arrV_size]; exact hlt, ?_, hnx _ _ _ ⟨x + 1, hlt, hr, ?_⟩⟩
    · show ((mS s c cp n.toNatClampNeg M x).heap.push _)[s.heap.size]? = _
      rw [Array.getElem?_push, if_neg (by omega)]
      exact z4
    · show ((mS s c cp n.toNatClampNeg M x).pushCell _).fitsSlot c .none x _ = true
      simp [State.fitsSlot, State.slotType?, z2, hk, hkd] <;> rfl
    · rw [arrV_store, z1, mv_step, mS_step]
  · rintro s2 d2 acts2 ⟨i, hi, hl, rfl⟩
    have hiN : i = n.toNatClampNeg := by
      rcases Nat.lt_or_ge i n.toNatClampNeg with g | g
      · rw [show n.toNatClampNeg - i = (n.toNatClampNeg - (i + 1)) + 1 by omega, List.range'_succ] at hl
        cases hl
      · omega
    subst hiN
    simp only [wp_pure']
    exact hq _ _
theorem mI_top {cp : ClassId} {M : Nat} {s : State} {f : JFrame} : ∀ i, mI cp M (s.setTop f) i = (mI cp M s i).setTop f
  | 0 => rfl
  | i + 1 => by
    show (mI cp M (s.setTop f) i).pushCell _ = ((mI cp M s i).pushCell _).setTop f
    rw [mI_top i]
    rfl
theorem mI_tj {cp : ClassId} {M : Nat} {s : State} : ∀ i, (mI cp M s i).topJava? = s.topJava?
  | 0 => rfl
  | i + 1 => by
    show ((mI cp M s i).pushCell _).topJava? = _
    rw [State.topJava?_pushCell, mI_tj i]
theorem mS_top {s : State} {f : JFrame} {c cp : ClassId} {N M i : Nat} : mS (s.setTop f) c cp N M i = (mS s c cp N M i).setTop f := by
  show mI cp M ((s.setTop f).pushCell (arrV c N (mv s.heap.size i))) i = _
  rw [State.pushCell_setTop, mI_top]
  rfl
theorem mna_sem {Q : Unit → Pre} {E : CtlPost} {e : Env} {d : Bool} {acts : List Action} {s : State} {f : JFrame} {index : Nat} {c cp cc : ClassId} {k kc : Class} {n m : Int32} {N M : Nat} {rest : List Value} (hs : s.topJava?.isSome) (hr : s.vm.classReady f.method.cls index c) (hstack : f.stack = .int m :: .int n :: rest) (hk : s.vm.classes[c]? = some k) (hkd : k.kind = .array cp (.array .int)) (hkc : s.vm.classes[cp]? = some kc) (hkcd : kc.kind = .array cc .int) (hn : ¬ n < 0) (hm : ¬ m < 0) (hN : n.toNatClampNeg = N) (hM : m.toNatClampNeg = M) (h1 : ¬ N > e.platform.arrayLengthLimit) (h2 : ¬ N * componentBytes (.array .int) > e.platform.maxHeapBytes) (h1b : ¬ M > e.platform.arrayLengthLimit) (h2b : ¬ M * componentBytes .int > e.platform.maxHeapBytes) (h3 : s.heap.size + 1 + N ≤ e.platform.maxCells) (h4 : s.slotsUsed + N + N * M ≤ e.platform.maxSlots) (hq : ∀ acts2, Q () true acts2 ((mS s c cp N M N).setTop { f with stack := .ref s.heap.size :: rest })) : Sem.wp (Op.multianewarray.sem index 2) Q E e d acts (s.setTop f) := by
  simp only [Op.multianewarray.sem, wp_bind', Jvm.W.resolveClassAt_ready (State.method?_setTop f hs) hr]
  show Sem.wp (Jvm.popN ([.int n, .int m] : List Value).length) _ E e d acts (s.setTop f)
  rw [popN_top hs (args := [.int n, .int m]) (rest := rest) (by rw [hstack]; rfl)]
  simp only [List.mapM_cons, List.mapM_nil, wp_bind', wp_pure']
  refine mna_all (s := s.setTop { f with stack := rest }) hk hkd hkc hkcd hn hm hN hM h1 h2 h1b h2b h3 h4 (fun d2 acts2 => ?_)
  skip
  rw [mS_top]
  refine ⟨{ f with stack := rest }, State.topJava?_setTop' _ (by show (mI cp M _ N).topJava?.isSome; rw [mI_tj]; exact hs), ?_⟩
  rw [State.setTop_setTop]
  exact hq acts2
theorem mna_cold {Q : Unit → Pre} {E : CtlPost} {e : Env} {d : Bool} {acts : List Action} {s : State} {f : JFrame} {index c : Nat} {vm2 : Vm} (hs : s.topJava?.isSome) (hg : (Jvm.resolveClass f.method.cls index).Gives e.toSetting s.vm (.ok c) vm2) (hr : vm2.classReady f.method.cls index c) (hsz : vm2.classes.size ≤ s.vm.classes.size := by no_record) : Sem.wp (Op.multianewarray.sem index 2) Q E e d acts (s.setTop f) ↔ Sem.wp (Op.multianewarray.sem index 2) Q E e d acts ((s.setVm vm2).setTop f) := by
  simp only [Op.multianewarray.sem, wp_bind']
  exact Jvm.W.resolveClassAt_transfer (s := s.setTop f) (State.method?_setTop f hs) hg hr
def mH (cp : ClassId) (M : Nat) (H : Heap) : Nat → Heap
  | 0 => H
  | i + 1 => (mH cp M H i).push (arrV cp M (fun _ => .int 0))
theorem mI_h {cp : ClassId} {M : Nat} {s : State} : ∀ i, (mI cp M s i).heap = mH cp M s.heap i
  | 0 => rfl
  | i + 1 => by
    show (mI cp M s i).heap.push _ = (mH cp M s.heap i).push _
    rw [mI_h i]
section MNA
variable {p : Program} {l : Launch} {e : Env} {R : Room} {s : State} {m : MethodId} {args : Array Value} {below : List Frame} {meth : Method} {c : Code} {H : Heap} {locs : List Loc} {cells slots : Nat} {Q : State → Prop}
theorem mI_X {T : State} {cp : ClassId} {M : Nat} (X : Stand p l e R s m args below meth c T locs cells slots) : ∀ i, Stand p l e R s m args below meth c (mI cp M T i) locs (cells + i) (slots + i * M)
  | 0 => by
    rw [Nat.zero_mul]
    exact X
  | i + 1 => by
    have h := (mI_X (cp := cp) (M := M) X i).pushed (arrV cp M (fun _ => .int 0))
    rw [arrV_size] at h
    rw [Nat.succ_mul, ← Nat.add_assoc, ← Nat.add_assoc]
    exact h
theorem W_mna {cc : ByteArray} (hexec : p.tables.exec = Jvm.exec) (hb : c.code = cc) {own : String} {index : Nat} (hown : s.vm.findClass own = some m.cls) (hclink : (Cond.classLink own index ("[" ++ (FieldType.array .int).toString)).before args s = true) (hover : (Cond.arrayOver (.array .int)).before args s = true) (harr : (Cond.arrayClass .int).before args s = true) {g : JFrame} (hg : g.method = m) (hdg : decode cc g.pc = .ok (.multianewarray index 2, 4)) {n k : Int32} {rest : List Value} (hstack : g.stack = .int k :: .int n :: rest) (hn : ¬ n < 0) (hk : ¬ k < 0) {N M : Nat} (hN : n.toNatClampNeg = N) (hM : k.toNatClampNeg = M) (hNb : N ≤ 1000) (hMb : M ≤ 1000) (hcells : cells + (1 + N) ≤ R.cells) (hslots : slots + (N + N * M) ≤ R.slots) (kk : ∀ (cA comp : ClassId), s.vm.findClass ("[" ++ (FieldType.array .int).toString) = some cA → s.vm.findClass (FieldType.array .int).toString = some comp → W p l e R s m args below meth c (mH comp M (H.push (arrV cA N (mv H.size N))) N) locs (cells + (1 + N)) (slots + (N + N * M)) Q { g with pc := g.pc + 4, stack := .ref H.size :: rest }) : W p l e R s m args below meth c H locs cells slots Q g := by
  intro T hT X
  subst hT; subst hb; subst hg
  have hpl : e.platform.magicAccessors = ({} : Platform).magicAccessors := by rw [X.admits.platform]
  obtain ⟨comp, cA, kA, hcomp, -, hkA, hkindA, hnameA⟩ := arrayOverA_spec hover
  obtain ⟨cI, kI, c0, hnI, hkI, hkindI⟩ := Cond.arrayClass_spec harr
  have ecI : cI = comp := Option.some.inj (hnI.symm.trans hcomp)
  subst ecI
  obtain ⟨c9, hf9, hcl⟩ := Cond.classLink_spec hown hclink e.platform hpl
  have ec9 : cA = c9 := Option.some.inj (hnameA.symm.trans hf9)
  subst ec9
  obtain ⟨hg1, hwarm1, hready1⟩ := State.classEntry (e := e) X.warmed hcl
  generalize T.vm.noted g.method.cls index (.cls cA) = vm1 at hg1 hwarm1 hready1
  have hal : s.vm.Alike vm1 := hwarm1.alike
  obtain ⟨kA1, hkA1, heA⟩ := hal.2.2 _ _ hkA
  obtain ⟨kI1, hkI1, heI⟩ := hal.2.2 _ _ hkI
  have hkindA1 : kA1.kind = .array cI (.array .int) := by rw [heA]; exact hkindA
  have hkindI1 : kI1.kind = .array c0 .int := by rw [heI]; exact hkindI
  have X1 := (X.noted hwarm1).pushed (arrV cA N (mv T.heap.size N))
  rw [arrV_size] at X1
  have X2 := mI_X (cp := cI) (M := M) X1 N
  rw [Nat.add_assoc, Nat.add_assoc] at X2
  obtain ⟨hr1, hr2⟩ := X.roomAbove hcells hslots
  obtain ⟨t9, a1, b1⟩ := kk cA cI hnameA hcomp (mS (T.setVm vm1) cA cI N M N) (by show (mI cI M _ N).heap = _; rw [mI_h]; rfl) X2
  refine ⟨t9, ?_, b1⟩
  jvm_step X.here [hexec, hdg, mna_cold (e := e) (s := T) (f := g) X.here.top hg1 hready1]
  refine mna_sem (s := T.setVm vm1) (f := g) X.here.top hready1 hstack hkA1 hkindA1 hkI1 hkindI1 hn hk hN hM (by rw [Launch.admits_arrayLengthLimit X.admits]; omega) (by rw [Launch.admits_maxHeapBytes X.admits]; show ¬ N * 4 > 536870912; omega) (by rw [Launch.admits_arrayLengthLimit X.admits]; omega) (by rw [Launch.admits_maxHeapBytes X.admits]; show ¬ M * 4 > 536870912; omega) (by show T.heap.size + 1 + N ≤ _; omega) (by show T.slotsUsed + N + N * M ≤ _; omega) (fun acts2 => ?_)
  intro acts3
  rw [afterInstr_ok]
  exact a1
end MNA
def gT {α : Type} (f : Nat → α) (n : Nat) (v : α) : Nat → (Nat → α)
  | 0 => f
  | i + 1 => eG (gT f n v i) (n + i) v
theorem ew_rows {D : va_G} {cy : Nat → ClassId} {b : Nat} {z : Nat → Nat} {F : eF} {A : Nat → Prop} {n M : Nat} {t : eT} {I : eI} {R : eR} {H : Heap} {s : State} {locs : List Loc} (hW : eWd D cy b z F A n t I R H s) (hS : va_S A s.heap H locs) (hA : ∀ q : Nat, s.heap.size ≤ q → A q) : ∀ i, eWd D cy b z F A (n + i) (gT t n (9, M) i) (gT I n (fun _ => 0) i) (gT R n (fun _ => none) i) (mH (cy 9) M H i) s ∧ va_S A s.heap (mH (cy 9) M H i) locs
  | 0 => ⟨hW, hS⟩
  | i + 1 => by
    obtain ⟨hW1, hS1⟩ := ew_rows (M := M) hW hS hA i
    exact ew_new (tg := 9) (ln := M) (gi := fun _ => 0) (gr := fun _ => none) (H1 := (mH (cy 9) M H i).push (arrV (cy 9) M (fun _ => .int 0))) hW1 hS1 hA (by omega) (eC_ia (by rw [eG_eq]) (by omega) (by omega)) (show _ = some (vp_cell _ _) by
      rw [eG_eq, eG_eq, Array.getElem?_push_size]
      rfl) (Array.size_push _) (fun q hq => by rw [Array.getElem?_push, if_neg (Nat.ne_of_lt hq)])
section WPM
variable {y : MethodName} {cc : ByteArray} {nL : Nat} {ret : Option FieldType} {d K N : Nat} {Q : eQt} {kc ks pc : Nat} {L S : List Value} {n : Nat} {t : eT} {I : eI} {R : eR}
theorem wp_mna {idx : Nat} {i j : Int32} {N1 M1 : Nat} (hd : decode cc pc = .ok (.multianewarray idx 2, 4)) (hl1 : Cond.classLink y.cls idx "[[I" ∈ lw_w) (hw : Cond.arrayOver (.array .int) ∈ lw_w) (hw2 : Cond.arrayClass .int ∈ lw_w) (hi : ¬ i < 0) (hj : ¬ j < 0) (hM : i.toNatClampNeg = N1) (hM2 : j.toNatClampNeg = M1) (hb1 : N1 ≤ 1000) (hb2 : M1 ≤ 1000) (hk : kc + (1 + N1) ≤ K) (hk2 : ks + (N1 + N1 * M1) ≤ N) (k : wp y cc nL ret d K N Q (kc + (1 + N1)) (ks + (N1 + N1 * M1)) (pc + 4) L (.ref n :: S) (n + 1 + N1) (gT (eG t n (13, N1)) (n + 1) (9, M1) N1) (gT (eG I n (fun _ => 0)) (n + 1) (fun _ => 0) N1) (gT (eG R n (fun x => if x < N1 then some (n + 1 + x) else none)) (n + 1) (fun _ => none) N1)) : wp y cc nL ret d K N Q kc ks pc L (.int j :: .int i :: S) n t I R := by
  intro p l e Rm s m args below meth c D cy b z F A H locs ls C hA hF hW hS hl
  have hsz := hW.2.2.2.1
  have hn4 := hW.2.2.2.2.1
  have es : ("[" ++ (FieldType.array FieldType.int).toString) = "[[I" := by first | rfl | decide | simp [FieldType.toString]
  refine W_mna C.1 C.2.1 C.2.2.2.2.1 (by rw [es]; exact C.2.2.2.2.2.1 _ hl1) (C.2.2.2.2.2.1 _ hw) (C.2.2.2.2.2.1 _ hw2) rfl hd rfl hi hj hM hM2 hb1 hb2 (Nat.le_trans hk C.2.2.2.2.2.2.2.2.2.2.1) (Nat.le_trans hk2 C.2.2.2.2.2.2.2.2.2.2.2) fun cA comp f1 f2 => ?_
  have hcA : cA = cy 13 := Option.some.inj (f1.symm.trans (hW.1.2 4 _ rfl).2)
  have hcp : comp = cy 9 := Option.some.inj (f2.symm.trans (hW.1.2 0 _ rfl).2)
  subst hcA; subst hcp
  have efn : mv H.size N1 = fun x => va_rf (((if x < N1 then some (n + 1 + x) else none) : Option Nat).map (adr b z)) := by
    funext x
    unfold mv
    by_cases g : x < N1
    · rw [if_pos g, if_pos g]
      show Value.ref _ = Value.ref (adr b z (n + 1 + x))
      rw [hsz, adr_hi hn4 (hW.2.2.2.2.2.2 n (Nat.le_refl _)).2, adr_hi (by omega) (hW.2.2.2.2.2.2 (n + 1 + x) (by omega)).2]
      exact congrArg Value.ref (show ((b + (n - 4) + 1 + x : Nat)) = b + (n + 1 + x - 4) by omega)
    · rw [if_neg g, if_neg g]
      rfl
  obtain ⟨hW1, hS1⟩ := ew_new (tg := 13) (ln := N1) (gi := fun _ => 0) (gr := fun x => if x < N1 then some (n + 1 + x) else none) (H1 := H.push (arrV (cy 13) N1 (mv H.size N1))) hW hS hA (by omega) (eC_ra (by rw [eG_eq]) (by omega)) (show _ = some (vp_cell _ _) by
    rw [eG_eq, eG_eq, Array.getElem?_push_size, efn]
    rfl) (Array.size_push _) (fun q hq => by rw [Array.getElem?_push, if_neg (Nat.ne_of_lt hq)])
  obtain ⟨hW2, hS2⟩ := ew_rows (M := M1) hW1 hS1 hA N1
  generalize mH (cy 9) M1 (H.push (arrV (cy 13) N1 (mv H.size N1))) N1 = H2 at hW2 hS2 ⊢
  show W p l e Rm s m args below meth c H2 locs (kc + (1 + N1)) (ks + (N1 + N1 * M1)) _ (F0 m (pc + 4) ls (.ref H.size :: S.map (cv (adr b z))))
  rw [hsz]
  exact k p l e Rm s m args below meth c D cy b z F A H2 _ ls C hA hF hW2 hS2 hl
end WPM
