/-! THE CLAIM OUT OF ONE WALK OF THE LAW'S BODY. Your part is whole_start (and what it stands on); all else here is the same for every law, but numbers. -/
def R_law : String := "ShakyScreensLaw"
def lw_P (b : Addr) (xs : List Int32) (args : Array Value) (s : State) : Prop := args = #[.ref b] ∧ s.IntsAt b xs ∧ xs.length ≤ 3072 ∧ (Jvm.Cond.and given_1 narrow_1).before args s = true
def lw_Q (_ : Array Value) (s : State) (o : Outcome) (t : State) : Prop := o = .returned (some (.int 1)) ∧ Framed s o t [] 600000 7302249
def lw_Z (below : List Frame) (a : Array Value) (s : State) : State → Prop := fun t => ∃ o, t.status = .running ∧ Ended t below o ∧ lw_Q a s o t
/-- the law's own end, with 1 on the stack, nothing written that was there before, its room as the claim has it -/
theorem lw_ret {p : Program} {l : Launch} {e : Env} {s : State} {m : MethodId} {below : List Frame} {meth : Method} {c : Code} {b : Nat} (hx : p.tables.exec = Jvm.exec) (hb : c.code = code) (hr : meth.sig.returnType = ret) (hlocks : meth.locks = false) {pc : Nat} {H : Heap} {ls : Array Slot} (hdg : decode code pc = .ok (.ireturn, 1)) : W p l e room_1 s m #[Value.ref b] below meth c H [] 600000 7302249 (lw_Z below #[Value.ref b] s) (F0 m pc ls [.int 1]) := by
  intro T hT X
  obtain ⟨fs, hret, hrun, hended, hW, hframe⟩ := X.leave (v := some (.int 1)) (hlocks := hlocks) (fun h => by rw [hr] at h; cases h)
  have hmeth' : T.vm.method? m = some meth := X.method'
  refine ⟨T.setFrames fs, ?_, .returned (some (.int 1)), hrun, hended, rfl, ⟨_, rfl⟩, hW, hframe⟩
  jvm_step X.here [X.here.top, hx, hb, hdg, hmeth', hr, ret, narrow_b1]
  (try refine ⟨rfl, ?_⟩); (try refine ⟨rfl, ?_⟩)
  first | (intro acts; rw [hret _ acts rfl rfl rfl]) | rw [hret _ _ rfl rfl rfl]
  exact Steps.refl _
/-- what holds at the law's entry: the machine, the code, the tables' words (any of lw_tbl by 'hts w (by decide +kernel)'), the script of L ints xs at the cell b, what the Statement gives of the start (any of its parts by flat_of_before) -/
def lw_At (p : Program) (s : State) (m : MethodId) (meth : Method) (c : Code) (b L : Nat) (xs : Nat → Int32) : Prop :=
  p.tables.exec = Jvm.exec ∧ c.code = code ∧ meth.sig.returnType = ret ∧ c.maxLocals = 4 ∧ s.vm.findClass R_law = some m.cls ∧ (∀ w ∈ lw_tbl, w.before #[Value.ref b] s = true) ∧ va_X b L xs s s.heap ∧ b < s.heap.size ∧ meth.locks = false ∧ (Jvm.Cond.and given_1 narrow_1).before #[Value.ref b] s = true
theorem ao_spec {args : Array Value} {s : State} {ty : FieldType} (h : (Cond.arrayOver (.array ty)).before args s = true) : ∃ (comp : ClassId) (c : ClassId) (k : Class), s.vm.classes[c]? = some k ∧ k.kind = .array comp (.array ty) ∧ s.vm.findClass ("[" ++ (FieldType.array ty).toString) = some c := by
  simp only [Cond.before, Cond.holds, Cond.value, beq_iff_eq] at h
  rw [Option.bind_eq_some_iff] at h
  obtain ⟨comp, -, h⟩ := h
  rw [Option.bind_eq_some_iff] at h
  obtain ⟨c, hi, h⟩ := h
  rw [Option.map_eq_some_iff] at h
  obtain ⟨k, hk, hb⟩ := h
  cases hkind : k.kind with
  | array component t2 =>
    rw [hkind] at hb
    simp only [Bool.and_eq_true, decide_eq_true_eq] at hb
    exact ⟨component, c, k, hk, by rw [hkind, hb.1], hb.2⟩
  | _ => rw [hkind] at hb; cases hb
/-- the law's judgement, for every script -/
def law_ok : Prop := ∀ (L : Nat) (xs : Nat → Int32), L ≤ 3072 → wp yL_law code 4 (some .boolean) 1000 600000 7302249 (qI (fun r _ _ _ _ => r = 1)) 0 0 0 [.ref 3, vU, vU, vU] [] 4 (t_0 L) (I_0 L xs) (fun _ _ => none)
theorem tab_of {args : Array Value} {s : State} {A : Nat → Prop} {nm : String} {N : Nat} {f : Nat → Int32} (hA : ∀ a : Nat, a < s.heap.size → ¬ A a) (hN : N < 2 ^ 31) (hl : (Cond.laysStatic "ShakyScreens" nm "[I").before args s = true) (hi : (Cond.initialized "ShakyScreens").before args s = true)
    (h1 : (Cond.arrayOf (.static "ShakyScreens" nm "[I") .int).before args s = true) (h2 : (Cond.eq (.length (.static "ShakyScreens" nm "[I")) (.int (Int32.ofNat N))).before args s = true) (h3 : ∀ j : Nat, j < N → (Cond.eq (.elem (.static "ShakyScreens" nm "[I") (.int (Int32.ofNat j))) (.int (f j))).before args s = true) :
    ∃ t : Nat, va_T .int t N (fun k => .int (f k)) A s s.heap ∧ va_Z RX7 nm "[I" (.ref t) A s s.heap := by
  obtain ⟨t, e1, e2⟩ := va_Tof (A := A) (f := fun k => .int (f k)) hN h1 (va_eqt h2) (fun j hj => va_eqt (h3 j hj)) hA
  exact ⟨t, e2, va_Zref hl hi e1 hA⟩
set_option maxRecDepth 100000 in
theorem start_of (hlaw : law_ok) {p : Program} {e : Env} {s : State} {m : MethodId} {below : List Frame} {meth : Method} {c : Code} (l : Launch) {b L : Nat} {xs : Nat → Int32} (hL : L ≤ 3072) (C0 : lw_At p s m meth c b L xs) : W p l e room_1 s m #[Value.ref b] below meth c s.heap [] 0 0 (lw_Z below #[Value.ref b] s) (entryFrame m ([Value.ref b] : List Value).toArray 4) := by
  obtain ⟨hx, hb, hr, hml, hown, hts, hX, hbl, hlocks, hgv⟩ := id C0
  have hA : ∀ q : Nat, s.heap.size ≤ q → (fun q : Nat => s.heap.size ≤ q) q := fun _ h => h
  have hA2 : ∀ a : Nat, a < s.heap.size → ¬ (fun q : Nat => s.heap.size ≤ q) a := fun a h => Nat.not_le.mpr h
  have hw : ∀ w ∈ lw_w, w.before #[Value.ref b] s = true := fun w h => hts w (List.mem_filter.mp h).1
  have hfl := flat_of_before _ hgv
  have ht0 : ∀ j : Nat, j < 3 → (Cond.eq (.elem (.static "ShakyScreens" "LEAST_ABLE" "[I") (.int (Int32.ofNat j))) (.int ((f_tab L xs 0).2 j))).before #[Value.ref b] s = true := by
    intro j hj
    rcases (show j = 0 ∨ j = 1 ∨ j = 2 by omega) with rfl | rfl | rfl
    · exact hfl (Cond.eq (.elem (.static "ShakyScreens" "LEAST_ABLE" "[I") (.int 0)) (.int 0)) (by decide +kernel)
    · exact hfl (Cond.eq (.elem (.static "ShakyScreens" "LEAST_ABLE" "[I") (.int 1)) (.int 0)) (by decide +kernel)
    · exact hfl (Cond.eq (.elem (.static "ShakyScreens" "LEAST_ABLE" "[I") (.int 2)) (.int 1)) (by decide +kernel)
  obtain ⟨z0, hz0, hZ0⟩ := tab_of (N := 3) (f := (f_tab L xs 0).2) hA2 (by decide) (hts _ mt_380) (hw _ mw_1) (hfl (Cond.arrayOf (.static "ShakyScreens" "LEAST_ABLE" "[I") .int) (by decide +kernel)) (hfl (Cond.eq (.length (.static "ShakyScreens" "LEAST_ABLE" "[I")) (.int 3)) (by decide +kernel)) ht0
  have ht1 : ∀ j : Nat, j < 3 → (Cond.eq (.elem (.static "ShakyScreens" "MOST_ABLE" "[I") (.int (Int32.ofNat j))) (.int ((f_tab L xs 1).2 j))).before #[Value.ref b] s = true := by
    intro j hj
    rcases (show j = 0 ∨ j = 1 ∨ j = 2 by omega) with rfl | rfl | rfl
    · exact hfl (Cond.eq (.elem (.static "ShakyScreens" "MOST_ABLE" "[I") (.int 0)) (.int 2)) (by decide +kernel)
    · exact hfl (Cond.eq (.elem (.static "ShakyScreens" "MOST_ABLE" "[I") (.int 1)) (.int 4095)) (by decide +kernel)
    · exact hfl (Cond.eq (.elem (.static "ShakyScreens" "MOST_ABLE" "[I") (.int 2)) (.int 10)) (by decide +kernel)
  obtain ⟨z1, hz1, hZ1⟩ := tab_of (N := 3) (f := (f_tab L xs 1).2) hA2 (by decide) (hts _ mt_176) (hw _ mw_1) (hfl (Cond.arrayOf (.static "ShakyScreens" "MOST_ABLE" "[I") .int) (by decide +kernel)) (hfl (Cond.eq (.length (.static "ShakyScreens" "MOST_ABLE" "[I")) (.int 3)) (by decide +kernel)) ht1
  have ht2 : ∀ j : Nat, j < 2 → (Cond.eq (.elem (.static "ShakyScreens" "MOST_RULED" "[I") (.int (Int32.ofNat j))) (.int ((f_tab L xs 2).2 j))).before #[Value.ref b] s = true := by
    intro j hj
    rcases (show j = 0 ∨ j = 1 by omega) with rfl | rfl
    · exact hfl (Cond.eq (.elem (.static "ShakyScreens" "MOST_RULED" "[I") (.int 0)) (.int 10)) (by decide +kernel)
    · exact hfl (Cond.eq (.elem (.static "ShakyScreens" "MOST_RULED" "[I") (.int 1)) (.int 99)) (by decide +kernel)
  obtain ⟨z2, hz2, hZ2⟩ := tab_of (N := 2) (f := (f_tab L xs 2).2) hA2 (by decide) (hts _ mt_549) (hw _ mw_1) (hfl (Cond.arrayOf (.static "ShakyScreens" "MOST_RULED" "[I") .int) (by decide +kernel)) (hfl (Cond.eq (.length (.static "ShakyScreens" "MOST_RULED" "[I")) (.int 2)) (by decide +kernel)) ht2
  have hz3 : va_T .int b L (fun k => .int (xs k)) (fun q : Nat => s.heap.size ≤ q) s s.heap := by
    obtain ⟨scr, x1, x2, x3, x4, x5⟩ := hX
    exact ⟨scr, x1, x2, x3, by rw [x4]; exact Nat.le_refl _, by rw [x4], x5, hA2 b hbl⟩
  obtain ⟨dC, dI, hKc⟩ : ∃ (dC : Nat → ClassId) (dI : Nat → Nat → Nat), ∀ (k : Nat) (q : vw_C), vwCl[k]? = some q → u_Kn s q.1 q.2.1 q.2.2 (dC k) (dI k) := by
    obtain ⟨c0, iS0, hKn0⟩ := u_known (C := RX0) (T := TX0) (N := 2) (n := 2) hts inT0 (hts (.instantiable RX0 2) (List.mem_filter.mp mw_80).1)
    obtain ⟨c1, iS1, hKn1⟩ := u_known (C := RX1) (T := TX1) (N := 4) (n := 4) hts inT1 (hts (.instantiable RX1 4) (List.mem_filter.mp mw_148).1)
    obtain ⟨c2, iS2, hKn2⟩ := u_known (C := RX2) (T := TX2) (N := 4) (n := 4) hts inT2 (hts (.instantiable RX2 4) (List.mem_filter.mp mw_23).1)
    obtain ⟨c3, iS3, hKn3⟩ := u_known (C := RX3) (T := TX3) (N := 13) (n := 13) hts inT3 (hts (.instantiable RX3 13) (List.mem_filter.mp mw_168).1)
    obtain ⟨c4, iS4, hKn4⟩ := u_known (C := RX4) (T := TX4) (N := 3) (n := 3) hts inT4 (hts (.instantiable RX4 3) (List.mem_filter.mp mw_53).1)
    obtain ⟨c5, iS5, hKn5⟩ := u_known (C := RX5) (T := TX5) (N := 11) (n := 11) hts inT5 (hts (.instantiable RX5 11) (List.mem_filter.mp mw_74).1)
    obtain ⟨c6, iS6, hKn6⟩ := u_known (C := RX6) (T := TX6) (N := 2) (n := 2) hts inT6 (hts (.instantiable RX6 2) (List.mem_filter.mp mw_659).1)
    obtain ⟨c7, iS7, hKn7⟩ := u_known (C := RX7) (T := TX7) (N := 10) (n := 10) hts inT7 (hts (.instantiable RX7 10) (List.mem_filter.mp mw_15).1)
    obtain ⟨c8, iS8, hKn8⟩ := u_known (C := RX8) (T := TX8) (N := 43) (n := 43) hts inT8 (hts (.instantiable RX8 43) (List.mem_filter.mp mw_743).1)
    refine ⟨fun k => if k = 0 then c0 else if k = 1 then c1 else if k = 2 then c2 else if k = 3 then c3 else if k = 4 then c4 else if k = 5 then c5 else if k = 6 then c6 else if k = 7 then c7 else c8, fun k => if k = 0 then iS0 else if k = 1 then iS1 else if k = 2 then iS2 else if k = 3 then iS3 else if k = 4 then iS4 else if k = 5 then iS5 else if k = 6 then iS6 else if k = 7 then iS7 else iS8, ?_⟩
    intro k q hq
    match k, hq with
    | 0, hq => cases hq; exact hKn0
    | 1, hq => cases hq; exact hKn1
    | 2, hq => cases hq; exact hKn2
    | 3, hq => cases hq; exact hKn3
    | 4, hq => cases hq; exact hKn4
    | 5, hq => cases hq; exact hKn5
    | 6, hq => cases hq; exact hKn6
    | 7, hq => cases hq; exact hKn7
    | 8, hq => cases hq; exact hKn8
    | k + 9, hq => cases hq
  obtain ⟨cI, kI, pI, i1, i2, i3⟩ := Cond.arrayClass_spec (hw _ mw_51)
  obtain ⟨cZ, kZ, pZ, y1, y2, y3⟩ := Cond.arrayClass_spec (hw _ mw_878)
  obtain ⟨pP, cP, kP, p1, -, p3, p4, p5⟩ := Cond.arrayOver_spec (hw _ mw_72)
  obtain ⟨pS, cS, kS, s1, -, s3, s4, s5⟩ := Cond.arrayOver_spec (hw _ mw_167)
  obtain ⟨pG, cG, kG, g1, g2, g3⟩ := ao_spec (hw _ mw_29)
  have hK : va_K (dC, dI) vwCl (eTL (fun k => if k = 9 then cI else if k = 10 then cZ else if k = 11 then cP else if k = 12 then cS else cG)) s := by
    refine ⟨hKc, fun k q hq => ?_⟩
    match k, hq with
    | 0, hq => cases hq; exact ⟨fun N z => ⟨(fun k h => by cases h), kI, i2, pI, i3⟩, i1⟩
    | 1, hq => cases hq; exact ⟨fun N z => ⟨(fun k h => by cases h), kZ, y2, pZ, y3⟩, y1⟩
    | 2, hq => cases hq; exact ⟨fun N z => ⟨(fun k h => by cases h), kP, p3, pP, p4⟩, kP, pP, p3, p4, p1, p5⟩
    | 3, hq => cases hq; exact ⟨fun N z => ⟨(fun k h => by cases h), kS, s3, pS, s4⟩, kS, pS, s3, s4, s1, s5⟩
    | 4, hq => cases hq; exact ⟨fun N z => ⟨(fun k h => by cases h), kG, g1, pG, g2⟩, g3⟩
    | k + 5, hq => cases hq
  generalize hcy : (fun k => if k = 9 then cI else if k = 10 then cZ else if k = 11 then cP else if k = 12 then cS else cG : Nat → ClassId) = cy at hK
  have hl := lv_entry ([.ref b]) (n := 4) (Nat.le_of_ble_eq_true rfl)
  rw [lg_entry_eq]
  have hfz : eFz (fun j => if j = 0 then z0 else if j = 1 then z1 else if j = 2 then z2 else if j = 3 then b else j) (f_tab L xs) (fun q : Nat => s.heap.size ≤ q) s := by
    refine ⟨?_, hZ0, hZ1, hZ2⟩
    intro j hj
    rcases (show j = 0 ∨ j = 1 ∨ j = 2 ∨ j = 3 by omega) with rfl | rfl | rfl | rfl
    · exact hz0
    · exact hz1
    · exact hz2
    · exact hz3
  have hfr : ∀ j, j < 4 → t_0 L j = (14, (f_tab L xs j).1) ∧ I_0 L xs j = (f_tab L xs j).2 := by
    intro j hj
    rcases (show j = 0 ∨ j = 1 ∨ j = 2 ∨ j = 3 by omega) with rfl | rfl | rfl | rfl <;> exact ⟨rfl, rfl⟩
  have hno : ∀ a : Nat, 4 ≤ a → (t_0 L a).1 = 15 ∧ (fun j => if j = 0 then z0 else if j = 1 then z1 else if j = 2 then z2 else if j = 3 then b else j) a = a := by
    intro a ha
    constructor
    · match a, ha with
      | a + 4, _ => rfl
    · show (if a = 0 then z0 else if a = 1 then z1 else if a = 2 then z2 else if a = 3 then b else a) = a
      rw [if_neg (by omega), if_neg (by omega), if_neg (by omega), if_neg (by omega)]
  have hwd : eWd (dC, dI) cy s.heap.size (fun j => if j = 0 then z0 else if j = 1 then z1 else if j = 2 then z2 else if j = 3 then b else j) (f_tab L xs) (fun q : Nat => s.heap.size ≤ q) 4 (t_0 L) (I_0 L xs) (fun _ _ => none) s.heap s := by
    refine ⟨hK, ?_, ⟨?_, ?_⟩, by rw [adr_hi (Nat.le_refl 4) rfl]; rfl, Nat.le_refl 4, hfr, hno⟩
    · intro k q h
      cases h
    · intro i j p q h
      cases h
    · intro k q h
      cases h
  have hel : eL (adr s.heap.size (fun j => if j = 0 then z0 else if j = 1 then z1 else if j = 2 then z2 else if j = 3 then b else j)) ((lg_sl ([.ref b]) ++ List.replicate (4 - (lg_sl ([.ref b])).length) Slot.unset).toArray) 4 [.ref 3, vU, vU, vU] := by
    refine ⟨hl.1, hl.2.1, rfl, ?_, ?_⟩
    · intro i v h hk
      match i, h with
      | 0, h => cases h; exact hl.2.2 (0, .ref b) List.mem_cons_self
      | 1, h => cases h; cases hk
      | 2, h => cases h; cases hk
      | 3, h => cases h; cases hk
      | i + 4, h => cases h
    · intro i x h
      match i, h with
      | 0, h => cases h
      | 1, h => cases h
      | 2, h => cases h
      | 3, h => cases h
      | i + 4, h => cases h
  have hcx : eCx yL_law code 4 (some .boolean) 1000 600000 7302249 p room_1 s m #[Value.ref b] meth c := by
    refine ⟨hx, hb, hr, hml, hown, hw, hlocks, ?_, by decide, by decide, by decide, by decide⟩
    intro h
    exact absurd h (by decide)
  have hmain := hlaw L xs hL p l e room_1 s m #[Value.ref b] below meth c (dC, dI) cy s.heap.size (fun j => if j = 0 then z0 else if j = 1 then z1 else if j = 2 then z2 else if j = 3 then b else j) (f_tab L xs) (fun q : Nat => s.heap.size ≤ q) s.heap [] _ hcx hA hfz hwd va_S.rf hel
  intro T hT X
  obtain ⟨u, h1, o, h2, h3, ⟨⟨rv, n2, t2, I2, R2, e1, ⟨r, e2, e3⟩, -⟩, -⟩, Lc, hF, hLc⟩ := hmain T hT X
  subst e3
  subst e2
  refine ⟨u, h1, o, h2, h3, e1, hF.1, hF.2.1, hF.2.2.weaken (fun x hx hlt => absurd (hLc x hx) (Nat.not_le.mpr hlt)) (Nat.le_refl _) (Nat.le_refl _)⟩
