/-! what the constructors make: the state told by three numbers: cells made, ints written, refs written -/
def zF (I : eI) (a j m : Nat) (v : Int32) : eI := eG I a (fun z => if j ≤ z ∧ z < m then v else I a z)
def zO (R : eR) (e : Nat × Nat × Nat) : eR := if e.2.1 < 100 then eU R e.1 e.2.1 (some e.2.2) else eG R e.1 (fun x => if x < e.2.1 - 100 then some (e.2.2 + x) else none)
def zP (I : eI) (e : Nat × Nat × Nat × Int32) : eI := if e.2.2.1 = 0 then eU I e.1 e.2.1 e.2.2.2 else zF I e.1 0 e.2.2.1 e.2.2.2
def RW : List (Nat × Nat × Nat) := [(5, 1, 6), (5, 2, 7), (8, 110, 9), (5, 3, 8), (4, 0, 5), (20, 1, 21), (20, 2, 22), (23, 110, 24), (20, 3, 23), (19, 0, 20), (4, 1, 19), (4, 2, 34), (36, 1, 37), (35, 0, 36), (35, 1, 38), (35, 2, 39), (40, 105, 41), (35, 3, 40), (35, 4, 46), (35, 5, 47), (4, 4, 35), (48, 0, 49), (48, 1, 50), (48, 2, 51), (4, 5, 48), (4, 6, 52), (4, 7, 53), (54, 0, 55), (56, 1, 57), (54, 1, 56), (58, 1, 59), (54, 2, 58), (54, 7, 60), (54, 8, 61), (54, 10, 62), (54, 12, 63), (34, 0, 54), (64, 0, 65), (66, 1, 67), (64, 1, 66), (68, 1, 69), (64, 2, 68), (64, 7, 70), (64, 8, 71), (64, 10, 72), (64, 12, 73), (34, 1, 64), (74, 0, 75), (76, 1, 77), (74, 1, 76), (78, 1, 79), (74, 2, 78), (74, 7, 80), (74, 8, 81), (74, 10, 82), (74, 12, 83), (34, 2, 74), (84, 0, 85), (86, 1, 87), (84, 1, 86), (88, 1, 89), (84, 2, 88), (84, 7, 90), (84, 8, 91), (84, 10, 92), (84, 12, 93), (34, 3, 84), (94, 2, 95), (94, 3, 96), (94, 4, 97), (94, 6, 98), (94, 7, 99), (94, 8, 100), (94, 10, 101), (94, 11, 102), (94, 12, 103), (94, 13, 104), (94, 14, 105), (94, 15, 106), (94, 16, 107), (94, 18, 108), (94, 19, 109), (94, 20, 110), (94, 23, 111), (94, 24, 112), (94, 25, 113), (94, 28, 114), (94, 29, 115), (94, 30, 116), (94, 31, 117), (94, 32, 118), (94, 33, 119), (94, 34, 120), (94, 35, 121), (94, 36, 122), (94, 37, 123), (94, 38, 124), (94, 39, 125), (94, 40, 126), (94, 41, 127)]
def IW : List (Nat × Nat × Nat × Int32) := [(35, 7, 0, 2147483647), (52, 0, 0, 5), (52, 1, 0, 10), (54, 4, 0, -9), (55, 1, 0, 4095), (55, 2, 0, 10), (63, 0, 8, -1), (64, 4, 0, -9), (65, 1, 0, 4095), (65, 2, 0, 10), (73, 0, 8, -1), (74, 4, 0, -9), (75, 1, 0, 4095), (75, 2, 0, 10), (83, 0, 8, -1), (84, 4, 0, -9), (85, 1, 0, 4095), (85, 2, 0, 10), (93, 0, 8, -1), (94, 26, 0, 5), (94, 27, 0, 10), (102, 0, 4, 4095), (103, 0, 4, 10), (114, 0, 4, -9), (106, 0, 40, -9), (107, 0, 40, -9), (123, 0, 32, -9), (124, 0, 4, -1)]
def zR : Nat → eR
  | 0 => fun _ _ => none
  | k + 1 => zO (zR k) (RW.getD k (0, 0, 0))
def zM : Nat → Nat → Bool
  | 0, _ => true
  | k + 1, n => zM k n && ((RW.getD k (0, 0, 0)).1 != n)
def zB (L : Nat) (xs : Nat → Int32) (n : Nat) : eI := fun a => if a < 4 then I_0 L xs a else if a < n then fun _ => 0 else xs
def zI (L : Nat) (xs : Nat → Int32) (n : Nat) : Nat → eI
  | 0 => zB L xs n
  | k + 1 => zP (zI L xs n k) (IW.getD k (0, 0, 0, 0))
def zV : Nat → eI
  | 0 => fun _ _ => 0
  | k + 1 => zP (zV k) (IW.getD k (0, 0, 0, 0))
def zN : Nat → Nat → Bool
  | 0, _ => true
  | k + 1, n => zN k n && ((IW.getD k (0, 0, 0, 0)).1 != n)
def zT (L n : Nat) : eT := fun a => if a < n then (match T0 a with | some v => v | none => t_0 L a) else t_0 L a
theorem zT_at {L n a : Nat} {v : Nat × Nat} (h : T0 a = some v) (ha : a < n) : zT L n a = v := by
  unfold zT
  rw [if_pos ha, h]
theorem zT_k {L n a q l : Nat} (h : T0 a = some (q, l)) (ha : a < n) : (zT L n a).1 = q := by rw [zT_at h ha]
theorem zT_z {L n a : Nat} (h : T0 a = none) : zT L n a = t_0 L a := by
  unfold zT
  rw [h]
  exact ite_self _
theorem zT_4 {L : Nat} : zT L 4 = t_0 L := by
  funext a
  unfold zT
  match a with
  | 0 => rfl
  | 1 => rfl
  | 2 => rfl
  | 3 => rfl
  | a + 4 => exact if_neg (by omega)
theorem zT_new {L n : Nat} {v : Nat × Nat} (h : T0 n = some v) : eG (zT L n) n v = zT L (n + 1) := by
  funext a
  by_cases g : a = n
  · subst g
    rw [eG_eq, zT_at h (by omega)]
  · rw [eG_ne g]
    unfold zT
    by_cases g2 : a < n
    · rw [if_pos g2, if_pos (by omega)]
    · rw [if_neg g2, if_neg (by omega)]
theorem zO_ne {R : eR} {e : Nat × Nat × Nat} {x : Nat} (h : x ≠ e.1) : zO R e x = R x := by
  unfold zO
  split
  · exact eU_ne h
  · exact eG_ne h
theorem zP_ne {I : eI} {e : Nat × Nat × Nat × Int32} {x : Nat} (h : x ≠ e.1) : zP I e x = I x := by
  unfold zP zF
  split
  · exact eU_ne h
  · exact eG_ne h
theorem and_s {a b : Bool} (h : (a && b) = true) : a = true ∧ b = true := by
  cases a <;> cases b <;> first | exact ⟨rfl, rfl⟩ | cases h
theorem bne_s {a b : Nat} (h : (a != b) = true) : b ≠ a := by
  intro e
  subst e
  simp at h
theorem zR_no {n : Nat} : ∀ k, zM k n = true → zR k n = fun _ => none
  | 0, _ => rfl
  | k + 1, h => by
    obtain ⟨h1, h2⟩ := and_s h
    show zO (zR k) (RW.getD k (0, 0, 0)) n = _
    rw [zO_ne (bne_s h2), zR_no k h1]
theorem zR_new {n k : Nat} (h : zM k n = true) : eG (zR k) n (fun _ => none) = zR k := by
  funext x
  by_cases g : x = n
  · subst g
    rw [eG_eq, zR_no k h]
  · rw [eG_ne g]
theorem zR_put {k a f b : Nat} (h : RW.getD k (0, 0, 0) = (a, f, b)) (hf : f < 100) : eU (zR k) a f (some b) = zR (k + 1) := by
  show _ = zO (zR k) (RW.getD k (0, 0, 0))
  rw [h]
  exact (if_pos hf).symm
theorem zR_row {k a m b : Nat} (h : RW.getD k (0, 0, 0) = (a, m + 100, b)) : eG (zR k) a (fun x => if x < m then some (b + x) else none) = zR (k + 1) := by
  show _ = zO (zR k) (RW.getD k (0, 0, 0))
  rw [h]
  show _ = if m + 100 < 100 then _ else _
  rw [if_neg (by omega)]
  show _ = eG (zR k) a (fun x => if x < m + 100 - 100 then some (b + x) else none)
  rw [Nat.add_sub_cancel]
theorem zI_4 {L : Nat} {xs : Nat → Int32} : zI L xs 4 0 = I_0 L xs := by
  funext a
  show zB L xs 4 a = _
  unfold zB
  match a with
  | 0 => rfl
  | 1 => rfl
  | 2 => rfl
  | 3 => rfl
  | a + 4 => rw [if_neg (by omega), if_neg (by omega)]; rfl
theorem zP_cg {I J : eI} {e : Nat × Nat × Nat × Int32} {x : Nat} (h : I x = J x) : zP I e x = zP J e x := by
  by_cases g : x = e.1
  · unfold zP zF
    split
    · funext y
      unfold eU
      rw [h]
    · subst g
      rw [eG_eq, eG_eq, h]
  · rw [zP_ne g, zP_ne g, h]
theorem zI_v {L : Nat} {xs : Nat → Int32} {n a : Nat} (h4 : 4 ≤ a) (hn : a < n) : ∀ k, zI L xs n k a = zV k a
  | 0 => by
    show zB L xs n a = _
    unfold zB
    rw [if_neg (by omega), if_pos hn]
    rfl
  | k + 1 => zP_cg (zI_v h4 hn k)
theorem zI_lo {L : Nat} {xs : Nat → Int32} {n a : Nat} (h4 : a < 4) : ∀ k, zN k a = true → zI L xs n k a = I_0 L xs a
  | 0, _ => by
    show zB L xs n a = _
    unfold zB
    rw [if_pos h4]
  | k + 1, h => by
    obtain ⟨h1, h2⟩ := and_s h
    show zP (zI L xs n k) (IW.getD k (0, 0, 0, 0)) a = _
    rw [zP_ne (bne_s h2), zI_lo h4 k h1]
theorem zI_eq {L : Nat} {xs : Nat → Int32} {n : Nat} (x : Nat) (h : x ≠ n) : ∀ k, zI L xs n k x = zI L xs (n + 1) k x
  | 0 => by
    show zB L xs n x = zB L xs (n + 1) x
    unfold zB
    by_cases g : x < 4
    · rw [if_pos g, if_pos g]
    · rw [if_neg g, if_neg g]
      by_cases g2 : x < n
      · rw [if_pos g2, if_pos (by omega)]
      · rw [if_neg g2, if_neg (by omega)]
  | k + 1 => zP_cg (zI_eq x h k)
theorem zV_no {n : Nat} : ∀ k, zN k n = true → zV k n = fun _ => 0
  | 0, _ => rfl
  | k + 1, h => by
    obtain ⟨h1, h2⟩ := and_s h
    show zP (zV k) (IW.getD k (0, 0, 0, 0)) n = _
    rw [zP_ne (bne_s h2), zV_no k h1]
theorem zI_new {L : Nat} {xs : Nat → Int32} {n k : Nat} (h : zN k n = true) (h4 : 4 ≤ n) : eG (zI L xs n k) n (fun _ => 0) = zI L xs (n + 1) k := by
  funext x
  by_cases g : x = n
  · subst g
    rw [eG_eq, zI_v h4 (by omega), zV_no k h]
  · rw [eG_ne g, zI_eq x g]
theorem zI_put {L : Nat} {xs : Nat → Int32} {n k a f : Nat} {v : Int32} (h : IW.getD k (0, 0, 0, 0) = (a, f, 0, v)) : eU (zI L xs n k) a f v = zI L xs n (k + 1) := by
  show _ = zP (zI L xs n k) (IW.getD k (0, 0, 0, 0))
  rw [h]
  rfl
theorem zI_fil {L : Nat} {xs : Nat → Int32} {n k a m : Nat} {v : Int32} (h : IW.getD k (0, 0, 0, 0) = (a, 0, m + 1, v)) : zF (zI L xs n k) a 0 (m + 1) v = zI L xs n (k + 1) := by
  show _ = zP (zI L xs n k) (IW.getD k (0, 0, 0, 0))
  rw [h]
  rfl
theorem zF_0 {I : eI} {a m : Nat} {v : Int32} : eG I a (fun x => if x < m then v else I a x) = zF I a 0 m v := by
  unfold zF
  congr 1
  funext z
  by_cases g : z < m
  · rw [if_pos g, if_pos ⟨Nat.zero_le _, g⟩]
  · rw [if_neg g, if_neg (fun q => g q.2)]
theorem eU_same {I : eI} {a f : Nat} {v : Int32} (h : I a f = v) : eU I a f v = I := by
  funext x y
  unfold eU
  split
  · rename_i g
    rw [g.1, g.2, h]
  · rfl
theorem zI_zero {L : Nat} {xs : Nat → Int32} {n k a f : Nat} (h4 : 4 ≤ a) (hn : a < n) (h : zV k a f = 0) : eU (zI L xs n k) a f 0 = zI L xs n k := eU_same (by rw [zI_v h4 hn, h])
theorem zT_rows {L n m : Nat} : ∀ i, (∀ x, x < i → T0 (n + x) = some (9, m)) → gT (zT L n) n (9, m) i = zT L (n + i)
  | 0, _ => rfl
  | i + 1, h => by
    show eG (gT (zT L n) n (9, m) i) (n + i) (9, m) = zT L (n + i + 1)
    rw [zT_rows i (fun x hx => h x (by omega)), zT_new (h i (by omega))]
theorem zI_rows {L : Nat} {xs : Nat → Int32} {n k : Nat} (h4 : 4 ≤ n) : ∀ i, (∀ x, x < i → zN k (n + x) = true) → gT (zI L xs n k) n (fun _ => 0) i = zI L xs (n + i) k
  | 0, _ => rfl
  | i + 1, h => by
    show eG (gT (zI L xs n k) n (fun _ => 0) i) (n + i) (fun _ => 0) = zI L xs (n + i + 1) k
    rw [zI_rows h4 i (fun x hx => h x (by omega)), zI_new (h i (by omega)) (by omega)]
theorem zR_rows {n k : Nat} : ∀ i, (∀ x, x < i → zM k (n + x) = true) → gT (zR k) n (fun _ => none) i = zR k
  | 0, _ => rfl
  | i + 1, h => by
    show eG (gT (zR k) n (fun _ => none) i) (n + i) (fun _ => none) = zR k
    rw [zR_rows i (fun x hx => h x (by omega)), zR_new (h i (by omega))]
theorem zF_step {I : eI} {a j m : Nat} {v : Int32} (h : j < m) : zF (eU I a j v) a (j + 1) m v = zF I a j m v := by
  funext x y
  unfold zF
  by_cases hx : x = a
  · subst hx
    rw [eG_eq, eG_eq]
    show (if j + 1 ≤ y ∧ y < m then _ else _) = if j ≤ y ∧ y < m then _ else _
    by_cases h1 : y = j
    · subst h1
      rw [if_neg (by omega), if_pos (by omega), eU_at]
    · by_cases h2 : j + 1 ≤ y ∧ y < m
      · rw [if_pos h2, if_pos (by omega)]
      · rw [if_neg h2, if_neg (by omega), eU_c h1]
  · rw [eG_ne hx, eG_ne hx, eU_ne hx]
theorem zF_end {I : eI} {a m : Nat} {v : Int32} : zF I a m m v = I := by
  funext x y
  unfold zF
  by_cases hx : x = a
  · subst hx
    rw [eG_eq]
    exact if_neg (by omega)
  · rw [eG_ne hx]
theorem zF_cm {I : eI} {a b j m k : Nat} {v w : Int32} (h : b ≠ a) : zF (eU I b k w) a j m v = eU (zF I a j m v) b k w := by
  funext x y
  unfold zF
  by_cases hx : x = a
  · subst hx
    rw [eG_eq, eU_ne (fun e => h e.symm), eU_ne (fun e => h e.symm), eG_eq]
  · rw [eG_ne hx]
    unfold eU
    split
    · rfl
    · rw [eG_ne hx]
section WN
variable {y : MethodName} {cc : ByteArray} {nL : Nat} {ret : Option FieldType} {d K N : Nat} {Q : eQt} {kc ks pc kc1 ks1 : Nat} {L S : List Value} {n n1 k k1 r r1 : Nat} {L0 : Nat} {xs : Nat → Int32}
theorem wn_new {idx q s0 : Nat} (hd : decode cc pc = .ok (.new idx, 3)) (hq : q < 9) (h1 : Cond.classLink y.cls idx (eCl q).1 ∈ lw_w) (h2 : Cond.instantiable (eCl q).1 (eCl q).2.2 ∈ lw_w) (h3 : Cond.initialized (eCl q).1 ∈ lw_w) (hdv : ∀ j, j < (eCl q).2.2 → defaultValue (eTy q j) = if eint q j = true then .int 0 else .null) (hs0 : (eCl q).2.2 = s0) (en : n + 1 = n1) (ekc : kc + 1 = kc1) (eks : ks + s0 = ks1) (hk : kc1 ≤ K) (hk2 : ks1 ≤ N) (g0 : T0 n = some (q, 0)) (g1 : zN k n = true) (g2 : zM r n = true) (g4 : 4 ≤ n) (kk : wp y cc nL ret d K N Q kc1 ks1 (pc + 3) L (.ref n :: S) n1 (zT L0 n1) (zI L0 xs n1 k) (zR r)) : wp y cc nL ret d K N Q kc ks pc L S n (zT L0 n) (zI L0 xs n k) (zR r) := by
  subst en; subst ekc; subst hs0; subst eks
  refine wp_new hd hq h1 h2 h3 hk hk2 hdv ?_
  rw [zT_new g0, zI_new g1 g4, zR_new g2]
  exact kk
theorem wn_I {i : Int32} {M : Nat} (hd : decode cc pc = .ok (.newarray .int, 2)) (hi : ¬ i < 0) (hM : i.toNatClampNeg = M) (hM2 : M ≤ 1000000) (en : n + 1 = n1) (ekc : kc + 1 = kc1) (eks : ks + M = ks1) (hk : kc1 ≤ K) (hk2 : ks1 ≤ N) (g0 : T0 n = some (9, M)) (g1 : zN k n = true) (g2 : zM r n = true) (g4 : 4 ≤ n) (kk : wp y cc nL ret d K N Q kc1 ks1 (pc + 2) L (.ref n :: S) n1 (zT L0 n1) (zI L0 xs n1 k) (zR r)) : wp y cc nL ret d K N Q kc ks pc L (.int i :: S) n (zT L0 n) (zI L0 xs n k) (zR r) := by
  subst en; subst ekc; subst eks
  refine wp_newI hd mw_51 hi hM hM2 hk hk2 ?_
  rw [zT_new g0, zI_new g1 g4, zR_new g2]
  exact kk
theorem wn_Z {i : Int32} {M : Nat} (hd : decode cc pc = .ok (.newarray .boolean, 2)) (hi : ¬ i < 0) (hM : i.toNatClampNeg = M) (hM2 : M ≤ 1000000) (en : n + 1 = n1) (ekc : kc + 1 = kc1) (eks : ks + M = ks1) (hk : kc1 ≤ K) (hk2 : ks1 ≤ N) (g0 : T0 n = some (10, M)) (g1 : zN k n = true) (g2 : zM r n = true) (g4 : 4 ≤ n) (kk : wp y cc nL ret d K N Q kc1 ks1 (pc + 2) L (.ref n :: S) n1 (zT L0 n1) (zI L0 xs n1 k) (zR r)) : wp y cc nL ret d K N Q kc ks pc L (.int i :: S) n (zT L0 n) (zI L0 xs n k) (zR r) := by
  subst en; subst ekc; subst eks
  refine wp_newZ hd mw_868 hi hM hM2 hk hk2 ?_
  rw [zT_new g0, zI_new g1 g4, zR_new g2]
  exact kk
theorem wn_11 {idx : Nat} {i : Int32} {M : Nat} (hd : decode cc pc = .ok (.anewarray idx, 3)) (hl1 : Cond.classLink y.cls idx RX3 ∈ lw_w) (hi : ¬ i < 0) (hM : i.toNatClampNeg = M) (hM2 : M ≤ 1000000) (en : n + 1 = n1) (ekc : kc + 1 = kc1) (eks : ks + M = ks1) (hk : kc1 ≤ K) (hk2 : ks1 ≤ N) (g0 : T0 n = some (11, M)) (g1 : zN k n = true) (g2 : zM r n = true) (g4 : 4 ≤ n) (kk : wp y cc nL ret d K N Q kc1 ks1 (pc + 3) L (.ref n :: S) n1 (zT L0 n1) (zI L0 xs n1 k) (zR r)) : wp y cc nL ret d K N Q kc ks pc L (.int i :: S) n (zT L0 n) (zI L0 xs n k) (zR r) := by
  subst en; subst ekc; subst eks
  refine wp_anew11 hd hl1 mw_72 hi hM hM2 hk hk2 ?_
  rw [zT_new g0, zI_new g1 g4, zR_new g2]
  exact kk
theorem wn_12 {idx : Nat} {i : Int32} {M : Nat} (hd : decode cc pc = .ok (.anewarray idx, 3)) (hl1 : Cond.classLink y.cls idx RX6 ∈ lw_w) (hi : ¬ i < 0) (hM : i.toNatClampNeg = M) (hM2 : M ≤ 1000000) (en : n + 1 = n1) (ekc : kc + 1 = kc1) (eks : ks + M = ks1) (hk : kc1 ≤ K) (hk2 : ks1 ≤ N) (g0 : T0 n = some (12, M)) (g1 : zN k n = true) (g2 : zM r n = true) (g4 : 4 ≤ n) (kk : wp y cc nL ret d K N Q kc1 ks1 (pc + 3) L (.ref n :: S) n1 (zT L0 n1) (zI L0 xs n1 k) (zR r)) : wp y cc nL ret d K N Q kc ks pc L (.int i :: S) n (zT L0 n) (zI L0 xs n k) (zR r) := by
  subst en; subst ekc; subst eks
  refine wp_anew12 hd hl1 mw_140 hi hM hM2 hk hk2 ?_
  rw [zT_new g0, zI_new g1 g4, zR_new g2]
  exact kk
theorem wn_mna {idx : Nat} {i j : Int32} {N1 M1 : Nat} (hd : decode cc pc = .ok (.multianewarray idx 2, 4)) (hl1 : Cond.classLink y.cls idx "[[I" ∈ lw_w) (hi : ¬ i < 0) (hj : ¬ j < 0) (hM : i.toNatClampNeg = N1) (hM2 : j.toNatClampNeg = M1) (hb1 : N1 ≤ 1000) (hb2 : M1 ≤ 1000) (en : n + 1 + N1 = n1) (ekc : kc + (1 + N1) = kc1) (eks : ks + (N1 + N1 * M1) = ks1) (hk : kc1 ≤ K) (hk2 : ks1 ≤ N) (g0 : T0 n = some (13, N1)) (g1 : zN k n = true) (g4 : 4 ≤ n) (f0 : ∀ x, x < N1 → T0 (n + 1 + x) = some (9, M1)) (f1 : ∀ x, x < N1 → zN k (n + 1 + x) = true) (er : r + 1 = r1) (g2 : RW.getD r (0, 0, 0) = (n, N1 + 100, n + 1)) (f2 : ∀ x, x < N1 → zM r1 (n + 1 + x) = true) (kk : wp y cc nL ret d K N Q kc1 ks1 (pc + 4) L (.ref n :: S) n1 (zT L0 n1) (zI L0 xs n1 k) (zR r1)) : wp y cc nL ret d K N Q kc ks pc L (.int j :: .int i :: S) n (zT L0 n) (zI L0 xs n k) (zR r) := by
  subst en; subst ekc; subst eks; subst er
  refine wp_mna hd hl1 mw_29 mw_51 hi hj hM hM2 hb1 hb2 hk hk2 ?_
  rw [zT_new g0, zI_new g1 g4, zR_row g2, zT_rows N1 f0, zI_rows (by omega) N1 f1, zR_rows N1 f2]
  exact kk
theorem wn_putI0 {idx q f a : Nat} (hd : decode cc pc = .ok (.putfield idx, 3)) (hf : eFl y.cls idx q f) (hi : eint q f = true) (hfin : ((eCl q).2.1 f).2.2.2 = false ∨ (((eCl q).2.1 f).2.2.2 = true ∧ y.name = "<init>" ∧ ((eCl q).2.1 f).1 = y.cls)) (ht : T0 a = some (q, 0)) (ha4 : 4 ≤ a) (ha : a < n) (hz : zV k a f = 0) (kk : wp y cc nL ret d K N Q kc ks (pc + 3) L S n (zT L0 n) (zI L0 xs n k) (zR r)) : wp y cc nL ret d K N Q kc ks pc L (.int 0 :: .ref a :: S) n (zT L0 n) (zI L0 xs n k) (zR r) := by
  refine wp_putI hd hf hi hfin (zT_k ht ha) ?_
  rw [zI_zero ha4 ha hz]
  exact kk
theorem wn_putI {idx q f a : Nat} {v : Int32} (hd : decode cc pc = .ok (.putfield idx, 3)) (hf : eFl y.cls idx q f) (hi : eint q f = true) (hfin : ((eCl q).2.1 f).2.2.2 = false ∨ (((eCl q).2.1 f).2.2.2 = true ∧ y.name = "<init>" ∧ ((eCl q).2.1 f).1 = y.cls)) (ht : T0 a = some (q, 0)) (ha : a < n) (ek : k + 1 = k1) (hz : IW.getD k (0, 0, 0, 0) = (a, f, 0, v)) (kk : wp y cc nL ret d K N Q kc ks (pc + 3) L S n (zT L0 n) (zI L0 xs n k1) (zR r)) : wp y cc nL ret d K N Q kc ks pc L (.int v :: .ref a :: S) n (zT L0 n) (zI L0 xs n k) (zR r) := by
  subst ek
  refine wp_putI hd hf hi hfin (zT_k ht ha) ?_
  rw [zI_put hz]
  exact kk
theorem wn_putR {idx q f a a2 : Nat} (hd : decode cc pc = .ok (.putfield idx, 3)) (hf : eFl y.cls idx q f) (hi : eref q f = true) (hfin : ((eCl q).2.1 f).2.2.2 = false ∨ (((eCl q).2.1 f).2.2.2 = true ∧ y.name = "<init>" ∧ ((eCl q).2.1 f).1 = y.cls)) (ht : T0 a = some (q, 0)) (ha : a < n) (er : r + 1 = r1) (hz : RW.getD r (0, 0, 0) = (a, f, a2)) (hf1 : f < 100) (kk : wp y cc nL ret d K N Q kc ks (pc + 3) L S n (zT L0 n) (zI L0 xs n k) (zR r1)) : wp y cc nL ret d K N Q kc ks pc L (.ref a2 :: .ref a :: S) n (zT L0 n) (zI L0 xs n k) (zR r) := by
  subst er
  refine wp_putR hd hf hi hfin (zT_k ht ha) ?_
  rw [zR_put hz hf1]
  exact kk
theorem wn_ist {a j len : Nat} {i v : Int32} (hd : decode cc pc = .ok (.iastore, 1)) (ht : T0 a = some (9, len)) (ha : a < n) (hj : i = nI j) (hlt : j < len) (hb : len < 2 ^ 31) (ek : k + 1 = k1) (hz : IW.getD k (0, 0, 0, 0) = (a, j, 0, v)) (kk : wp y cc nL ret d K N Q kc ks (pc + 1) L S n (zT L0 n) (zI L0 xs n k1) (zR r)) : wp y cc nL ret d K N Q kc ks pc L (.int v :: .int i :: .ref a :: S) n (zT L0 n) (zI L0 xs n k) (zR r) := by
  subst ek
  refine wp_ist hd (zT_at ht ha) hj hlt ?_ hb
  rw [zI_put hz]
  exact kk
theorem wn_rst11 {a j len a2 : Nat} {i : Int32} (hd : decode cc pc = .ok (.aastore, 1)) (ht : T0 a = some (11, len)) (ha : a < n) (hj : i = nI j) (hlt : j < len) (hb : len < 2 ^ 31) (ht2 : T0 a2 = some (3, 0)) (ha2 : a2 < n) (er : r + 1 = r1) (hz : RW.getD r (0, 0, 0) = (a, j, a2)) (hf1 : j < 100) (kk : wp y cc nL ret d K N Q kc ks (pc + 1) L S n (zT L0 n) (zI L0 xs n k) (zR r1)) : wp y cc nL ret d K N Q kc ks pc L (.ref a2 :: .int i :: .ref a :: S) n (zT L0 n) (zI L0 xs n k) (zR r) := by
  subst er
  refine wp_rst11 hd (zT_at ht ha) hj hlt (zT_k ht2 ha2) ?_ hb
  rw [zR_put hz hf1]
  exact kk
end WN
theorem wn_kc {y : MethodName} {cc : ByteArray} {nL : Nat} {ret : Option FieldType} {d K N : Nat} {Q : eQt} {kc ks pc kc1 ks1 : Nat} {L S : List Value} {n : Nat} {t : eT} {I : eI} {R : eR} (e1 : kc = kc1) (e2 : ks = ks1) (kk : wp y cc nL ret d K N Q kc1 ks1 pc L S n t I R) : wp y cc nL ret d K N Q kc ks pc L S n t I R := by
  subst e1; subst e2
  exact kk
theorem ci_5 (d : Nat) {L : Nat} {xs : Nat → Int32} {Q : Nat → eT → eI → eR → Prop} (hq : Q 19 (zT L 19) (zI L xs 19 0) (zR 4)) : MC yX2_init cX2_init 1 none (d + 1) 13 130 [.ref 5] 6 (zT L 6) (zI L xs 6 0) (zR 0) (qV Q) := by
  refine mc_intro (L0 := [.ref 5]) (by decide) rfl (Nat.le_of_ble_eq_true rfl) ?_
  refine wp_aload_n (i := 0) dX2_init_0 rfl rfl ?_
  refine wp_objInit dX2_init_1 mw_27 (Nat.le_of_ble_eq_true rfl) ?_
  refine wp_aload_n (i := 0) dX2_init_4 rfl rfl ?_
  refine wp_iconst (v := 0) dX2_init_5 (by decide) ?_
  refine wn_putI0 dX2_init_6 fl_X2_9 rfl (Or.inl rfl) rfl (by decide) (by decide) (by decide +kernel) ?_
  refine wp_aload_n (i := 0) dX2_init_9 rfl rfl ?_
  refine wp_bipush (v := 10) dX2_init_10 (by decide) ?_
  refine wn_I (M := 10) (n1 := 7) (kc1 := 1) (ks1 := 10) dX2_init_12 (by decide) (by decide) (by decide) rfl rfl rfl (by decide) (by decide) rfl rfl rfl (by decide) ?_
  refine wn_putR (r1 := 1) dX2_init_14 fl_X2_15 rfl (Or.inr ⟨rfl, rfl, rfl⟩) rfl (by decide) rfl rfl (by decide) ?_
  refine wp_aload_n (i := 0) dX2_init_17 rfl rfl ?_
  refine wp_bipush (v := 10) dX2_init_18 (by decide) ?_
  refine wn_I (M := 10) (n1 := 8) (kc1 := 2) (ks1 := 20) dX2_init_20 (by decide) (by decide) (by decide) rfl rfl rfl (by decide) (by decide) rfl rfl rfl (by decide) ?_
  refine wn_putR (r1 := 2) dX2_init_22 fl_X2_19 rfl (Or.inr ⟨rfl, rfl, rfl⟩) rfl (by decide) rfl rfl (by decide) ?_
  refine wp_aload_n (i := 0) dX2_init_25 rfl rfl ?_
  refine wp_bipush (v := 10) dX2_init_26 (by decide) ?_
  refine wp_bipush (v := 10) dX2_init_28 (by decide) ?_
  refine wn_mna (N1 := 10) (M1 := 10) (n1 := 19) (kc1 := 13) (ks1 := 130) (r1 := 3) dX2_init_30 mw_28 (by decide) (by decide) (by decide) (by decide) (by decide) (by decide) rfl rfl rfl (by decide) (by decide) rfl rfl (by decide) (by decide +kernel) (by decide +kernel) rfl rfl (by decide +kernel) ?_
  refine wn_putR (r1 := 4) dX2_init_34 fl_X2_24 rfl (Or.inr ⟨rfl, rfl, rfl⟩) rfl (by decide) rfl rfl (by decide) ?_
  exact wp_retV dX2_init_37 rfl (by decide) (by decide) hq
theorem ci_20 (d : Nat) {L : Nat} {xs : Nat → Int32} {Q : Nat → eT → eI → eR → Prop} (hq : Q 34 (zT L 34) (zI L xs 34 0) (zR 9)) : MC yX2_init cX2_init 1 none (d + 1) 13 130 [.ref 20] 21 (zT L 21) (zI L xs 21 0) (zR 5) (qV Q) := by
  refine mc_intro (L0 := [.ref 20]) (by decide) rfl (Nat.le_of_ble_eq_true rfl) ?_
  refine wp_aload_n (i := 0) dX2_init_0 rfl rfl ?_
  refine wp_objInit dX2_init_1 mw_27 (Nat.le_of_ble_eq_true rfl) ?_
  refine wp_aload_n (i := 0) dX2_init_4 rfl rfl ?_
  refine wp_iconst (v := 0) dX2_init_5 (by decide) ?_
  refine wn_putI0 dX2_init_6 fl_X2_9 rfl (Or.inl rfl) rfl (by decide) (by decide) (by decide +kernel) ?_
  refine wp_aload_n (i := 0) dX2_init_9 rfl rfl ?_
  refine wp_bipush (v := 10) dX2_init_10 (by decide) ?_
  refine wn_I (M := 10) (n1 := 22) (kc1 := 1) (ks1 := 10) dX2_init_12 (by decide) (by decide) (by decide) rfl rfl rfl (by decide) (by decide) rfl rfl rfl (by decide) ?_
  refine wn_putR (r1 := 6) dX2_init_14 fl_X2_15 rfl (Or.inr ⟨rfl, rfl, rfl⟩) rfl (by decide) rfl rfl (by decide) ?_
  refine wp_aload_n (i := 0) dX2_init_17 rfl rfl ?_
  refine wp_bipush (v := 10) dX2_init_18 (by decide) ?_
  refine wn_I (M := 10) (n1 := 23) (kc1 := 2) (ks1 := 20) dX2_init_20 (by decide) (by decide) (by decide) rfl rfl rfl (by decide) (by decide) rfl rfl rfl (by decide) ?_
  refine wn_putR (r1 := 7) dX2_init_22 fl_X2_19 rfl (Or.inr ⟨rfl, rfl, rfl⟩) rfl (by decide) rfl rfl (by decide) ?_
  refine wp_aload_n (i := 0) dX2_init_25 rfl rfl ?_
  refine wp_bipush (v := 10) dX2_init_26 (by decide) ?_
  refine wp_bipush (v := 10) dX2_init_28 (by decide) ?_
  refine wn_mna (N1 := 10) (M1 := 10) (n1 := 34) (kc1 := 13) (ks1 := 130) (r1 := 8) dX2_init_30 mw_28 (by decide) (by decide) (by decide) (by decide) (by decide) (by decide) rfl rfl rfl (by decide) (by decide) rfl rfl (by decide) (by decide +kernel) (by decide +kernel) rfl rfl (by decide +kernel) ?_
  refine wn_putR (r1 := 9) dX2_init_34 fl_X2_24 rfl (Or.inr ⟨rfl, rfl, rfl⟩) rfl (by decide) rfl rfl (by decide) ?_
  exact wp_retV dX2_init_37 rfl (by decide) (by decide) hq
theorem ci_19 (d : Nat) {L : Nat} {xs : Nat → Int32} {Q : Nat → eT → eI → eR → Prop} (hq : Q 34 (zT L 34) (zI L xs 34 0) (zR 10)) : MC yX4_init cX4_init 1 none (d + 2) 14 134 [.ref 19] 20 (zT L 20) (zI L xs 20 0) (zR 5) (qV Q) := by
  refine mc_intro (L0 := [.ref 19]) (by decide) rfl (Nat.le_of_ble_eq_true rfl) ?_
  refine wp_aload_n (i := 0) dX4_init_0 rfl rfl ?_
  refine wp_objInit dX4_init_1 mw_57 (Nat.le_of_ble_eq_true rfl) ?_
  refine wp_aload_n (i := 0) dX4_init_4 rfl rfl ?_
  refine wn_new (q := 2) (s0 := 4) (n1 := 21) (kc1 := 1) (ks1 := 4) dX4_init_5 (by decide) mw_58 mw_23 mw_2 (by decide +kernel) rfl rfl rfl rfl (by decide) (by decide) rfl rfl rfl (by decide) ?_
  refine wp_dup dX4_init_8 rfl ?_
  refine wp_IN0vA (K2 := 13) (N2 := 130) dX4_init_9 mw_59 mw_25 rfl rfl mi_X2_init (Nat.le_of_ble_eq_true rfl) (by decide) (by decide) (ci_20 (d + 0) ?_)
  refine wn_kc (kc1 := 14) (ks1 := 134) rfl rfl ?_
  refine wn_putR (r1 := 10) dX4_init_12 fl_X4_12 rfl (Or.inr ⟨rfl, rfl, rfl⟩) rfl (by decide) rfl rfl (by decide) ?_
  refine wp_aload_n (i := 0) dX4_init_15 rfl rfl ?_
  refine wp_iconst (v := 0) dX4_init_16 (by decide) ?_
  refine wn_putI0 dX4_init_17 fl_X4_18 rfl (Or.inl rfl) rfl (by decide) (by decide) (by decide +kernel) ?_
  refine wp_aload_n (i := 0) dX4_init_20 rfl rfl ?_
  refine wp_iconst (v := 0) dX4_init_21 (by decide) ?_
  refine wn_putI0 dX4_init_22 fl_X4_22 rfl (Or.inl rfl) rfl (by decide) (by decide) (by decide +kernel) ?_
  exact wp_retV dX4_init_25 rfl (by decide) (by decide) hq
theorem ci_36 (d : Nat) {L : Nat} {xs : Nat → Int32} {Q : Nat → eT → eI → eR → Prop} (hq : Q 38 (zT L 38) (zI L xs 38 0) (zR 13)) : MC yX0_init cX0_init 1 none (d + 1) 1 10 [.ref 36] 37 (zT L 37) (zI L xs 37 0) (zR 12) (qV Q) := by
  refine mc_intro (L0 := [.ref 36]) (by decide) rfl (Nat.le_of_ble_eq_true rfl) ?_
  refine wp_aload_n (i := 0) dX0_init_0 rfl rfl ?_
  refine wp_objInit dX0_init_1 mw_84 (Nat.le_of_ble_eq_true rfl) ?_
  refine wp_aload_n (i := 0) dX0_init_4 rfl rfl ?_
  refine wp_iconst (v := 0) dX0_init_5 (by decide) ?_
  refine wn_putI0 dX0_init_6 fl_X0_9 rfl (Or.inl rfl) rfl (by decide) (by decide) (by decide +kernel) ?_
  refine wp_aload_n (i := 0) dX0_init_9 rfl rfl ?_
  refine wp_bipush (v := 10) dX0_init_10 (by decide) ?_
  refine wn_I (M := 10) (n1 := 38) (kc1 := 1) (ks1 := 10) dX0_init_12 (by decide) (by decide) (by decide) rfl rfl rfl (by decide) (by decide) rfl rfl rfl (by decide) ?_
  refine wn_putR (r1 := 13) dX0_init_14 fl_X0_15 rfl (Or.inr ⟨rfl, rfl, rfl⟩) rfl (by decide) rfl rfl (by decide) ?_
  exact wp_retV dX0_init_17 rfl (by decide) (by decide) hq
theorem ci_35 (d : Nat) {L : Nat} {xs : Nat → Int32} {Q : Nat → eT → eI → eR → Prop} (hq : Q 48 (zT L 48) (zI L xs 48 1) (zR 20)) : MC yX5_init cX5_init 1 none (d + 2) 12 70 [.ref 35] 36 (zT L 36) (zI L xs 36 0) (zR 12) (qV Q) := by
  refine mc_intro (L0 := [.ref 35]) (by decide) rfl (Nat.le_of_ble_eq_true rfl) ?_
  refine wp_aload_n (i := 0) dX5_init_0 rfl rfl ?_
  refine wp_objInit dX5_init_1 mw_78 (Nat.le_of_ble_eq_true rfl) ?_
  refine wp_aload_n (i := 0) dX5_init_4 rfl rfl ?_
  refine wn_new (q := 0) (s0 := 2) (n1 := 37) (kc1 := 1) (ks1 := 2) dX5_init_5 (by decide) mw_79 mw_80 mw_5 (by decide +kernel) rfl rfl rfl rfl (by decide) (by decide) rfl rfl rfl (by decide) ?_
  refine wp_dup dX5_init_8 rfl ?_
  refine wp_IN0vA (K2 := 1) (N2 := 10) dX5_init_9 mw_81 mw_82 rfl rfl mi_X0_init (Nat.le_of_ble_eq_true rfl) (by decide) (by decide) (ci_36 (d + 0) ?_)
  refine wn_kc (kc1 := 2) (ks1 := 12) rfl rfl ?_
  refine wn_putR (r1 := 14) dX5_init_12 fl_X5_14 rfl (Or.inr ⟨rfl, rfl, rfl⟩) rfl (by decide) rfl rfl (by decide) ?_
  refine wp_aload_n (i := 0) dX5_init_15 rfl rfl ?_
  refine wp_iconst (v := 5) dX5_init_16 (by decide) ?_
  refine wn_I (M := 5) (n1 := 39) (kc1 := 3) (ks1 := 17) dX5_init_17 (by decide) (by decide) (by decide) rfl rfl rfl (by decide) (by decide) rfl rfl rfl (by decide) ?_
  refine wn_putR (r1 := 15) dX5_init_19 fl_X5_20 rfl (Or.inr ⟨rfl, rfl, rfl⟩) rfl (by decide) rfl rfl (by decide) ?_
  refine wp_aload_n (i := 0) dX5_init_22 rfl rfl ?_
  refine wp_iconst (v := 5) dX5_init_23 (by decide) ?_
  refine wn_I (M := 5) (n1 := 40) (kc1 := 4) (ks1 := 22) dX5_init_24 (by decide) (by decide) (by decide) rfl rfl rfl (by decide) (by decide) rfl rfl rfl (by decide) ?_
  refine wn_putR (r1 := 16) dX5_init_26 fl_X5_24 rfl (Or.inr ⟨rfl, rfl, rfl⟩) rfl (by decide) rfl rfl (by decide) ?_
  refine wp_aload_n (i := 0) dX5_init_29 rfl rfl ?_
  refine wp_iconst (v := 5) dX5_init_30 (by decide) ?_
  refine wp_iconst (v := 5) dX5_init_31 (by decide) ?_
  refine wn_mna (N1 := 5) (M1 := 5) (n1 := 46) (kc1 := 10) (ks1 := 52) (r1 := 17) dX5_init_32 mw_92 (by decide) (by decide) (by decide) (by decide) (by decide) (by decide) rfl rfl rfl (by decide) (by decide) rfl rfl (by decide) (by decide +kernel) (by decide +kernel) rfl rfl (by decide +kernel) ?_
  refine wn_putR (r1 := 18) dX5_init_36 fl_X5_29 rfl (Or.inr ⟨rfl, rfl, rfl⟩) rfl (by decide) rfl rfl (by decide) ?_
  refine wp_aload_n (i := 0) dX5_init_39 rfl rfl ?_
  refine wp_bipush (v := 6) dX5_init_40 (by decide) ?_
  refine wn_I (M := 6) (n1 := 47) (kc1 := 11) (ks1 := 58) dX5_init_42 (by decide) (by decide) (by decide) rfl rfl rfl (by decide) (by decide) rfl rfl rfl (by decide) ?_
  refine wn_putR (r1 := 19) dX5_init_44 fl_X5_32 rfl (Or.inr ⟨rfl, rfl, rfl⟩) rfl (by decide) rfl rfl (by decide) ?_
  refine wp_aload_n (i := 0) dX5_init_47 rfl rfl ?_
  refine wp_bipush (v := 12) dX5_init_48 (by decide) ?_
  refine wn_I (M := 12) (n1 := 48) (kc1 := 12) (ks1 := 70) dX5_init_50 (by decide) (by decide) (by decide) rfl rfl rfl (by decide) (by decide) rfl rfl rfl (by decide) ?_
  refine wn_putR (r1 := 20) dX5_init_52 fl_X5_35 rfl (Or.inr ⟨rfl, rfl, rfl⟩) rfl (by decide) rfl rfl (by decide) ?_
  refine wp_aload_n (i := 0) dX5_init_55 rfl rfl ?_
  refine wp_iconst (v := 0) dX5_init_56 (by decide) ?_
  refine wn_putI0 dX5_init_57 fl_X5_38 rfl (Or.inl rfl) rfl (by decide) (by decide) (by decide +kernel) ?_
  refine wp_aload_n (i := 0) dX5_init_60 rfl rfl ?_
  refine wp_ldc (v := 2147483647) dX5_init_61 mw_93 ?_
  refine wn_putI (k1 := 1) dX5_init_63 fl_X5_43 rfl (Or.inl rfl) rfl (by decide) rfl rfl ?_
  exact wp_retV dX5_init_66 rfl (by decide) (by decide) hq
theorem ci_48 (d : Nat) {L : Nat} {xs : Nat → Int32} {Q : Nat → eT → eI → eR → Prop} (hq : Q 52 (zT L 52) (zI L xs 52 1) (zR 24)) : MC yX1_init cX1_init 1 none (d + 1) 3 50 [.ref 48] 49 (zT L 49) (zI L xs 49 1) (zR 21) (qV Q) := by
  refine mc_intro (L0 := [.ref 48]) (by decide) rfl (Nat.le_of_ble_eq_true rfl) ?_
  refine wp_aload_n (i := 0) dX1_init_0 rfl rfl ?_
  refine wp_objInit dX1_init_1 mw_125 (Nat.le_of_ble_eq_true rfl) ?_
  refine wp_aload_n (i := 0) dX1_init_4 rfl rfl ?_
  refine wp_bipush (v := 20) dX1_init_5 (by decide) ?_
  refine wn_I (M := 20) (n1 := 50) (kc1 := 1) (ks1 := 20) dX1_init_7 (by decide) (by decide) (by decide) rfl rfl rfl (by decide) (by decide) rfl rfl rfl (by decide) ?_
  refine wn_putR (r1 := 22) dX1_init_9 fl_X1_11 rfl (Or.inr ⟨rfl, rfl, rfl⟩) rfl (by decide) rfl rfl (by decide) ?_
  refine wp_aload_n (i := 0) dX1_init_12 rfl rfl ?_
  refine wp_bipush (v := 20) dX1_init_13 (by decide) ?_
  refine wn_I (M := 20) (n1 := 51) (kc1 := 2) (ks1 := 40) dX1_init_15 (by decide) (by decide) (by decide) rfl rfl rfl (by decide) (by decide) rfl rfl rfl (by decide) ?_
  refine wn_putR (r1 := 23) dX1_init_17 fl_X1_15 rfl (Or.inr ⟨rfl, rfl, rfl⟩) rfl (by decide) rfl rfl (by decide) ?_
  refine wp_aload_n (i := 0) dX1_init_20 rfl rfl ?_
  refine wp_bipush (v := 10) dX1_init_21 (by decide) ?_
  refine wn_I (M := 10) (n1 := 52) (kc1 := 3) (ks1 := 50) dX1_init_23 (by decide) (by decide) (by decide) rfl rfl rfl (by decide) (by decide) rfl rfl rfl (by decide) ?_
  refine wn_putR (r1 := 24) dX1_init_25 fl_X1_18 rfl (Or.inr ⟨rfl, rfl, rfl⟩) rfl (by decide) rfl rfl (by decide) ?_
  refine wp_aload_n (i := 0) dX1_init_28 rfl rfl ?_
  refine wp_iconst (v := 0) dX1_init_29 (by decide) ?_
  refine wn_putI0 dX1_init_30 fl_X1_21 rfl (Or.inl rfl) rfl (by decide) (by decide) (by decide +kernel) ?_
  exact wp_retV dX1_init_33 rfl (by decide) (by decide) hq
theorem ci_56 (d : Nat) {L : Nat} {xs : Nat → Int32} {Q : Nat → eT → eI → eR → Prop} (hq : Q 58 (zT L 58) (zI L xs 58 3) (zR 29)) : MC yX0_init cX0_init 1 none (d + 1) 1 10 [.ref 56] 57 (zT L 57) (zI L xs 57 3) (zR 28) (qV Q) := by
  refine mc_intro (L0 := [.ref 56]) (by decide) rfl (Nat.le_of_ble_eq_true rfl) ?_
  refine wp_aload_n (i := 0) dX0_init_0 rfl rfl ?_
  refine wp_objInit dX0_init_1 mw_84 (Nat.le_of_ble_eq_true rfl) ?_
  refine wp_aload_n (i := 0) dX0_init_4 rfl rfl ?_
  refine wp_iconst (v := 0) dX0_init_5 (by decide) ?_
  refine wn_putI0 dX0_init_6 fl_X0_9 rfl (Or.inl rfl) rfl (by decide) (by decide) (by decide +kernel) ?_
  refine wp_aload_n (i := 0) dX0_init_9 rfl rfl ?_
  refine wp_bipush (v := 10) dX0_init_10 (by decide) ?_
  refine wn_I (M := 10) (n1 := 58) (kc1 := 1) (ks1 := 10) dX0_init_12 (by decide) (by decide) (by decide) rfl rfl rfl (by decide) (by decide) rfl rfl rfl (by decide) ?_
  refine wn_putR (r1 := 29) dX0_init_14 fl_X0_15 rfl (Or.inr ⟨rfl, rfl, rfl⟩) rfl (by decide) rfl rfl (by decide) ?_
  exact wp_retV dX0_init_17 rfl (by decide) (by decide) hq
theorem ci_58 (d : Nat) {L : Nat} {xs : Nat → Int32} {Q : Nat → eT → eI → eR → Prop} (hq : Q 60 (zT L 60) (zI L xs 60 3) (zR 31)) : MC yX0_init cX0_init 1 none (d + 1) 1 10 [.ref 58] 59 (zT L 59) (zI L xs 59 3) (zR 30) (qV Q) := by
  refine mc_intro (L0 := [.ref 58]) (by decide) rfl (Nat.le_of_ble_eq_true rfl) ?_
  refine wp_aload_n (i := 0) dX0_init_0 rfl rfl ?_
  refine wp_objInit dX0_init_1 mw_84 (Nat.le_of_ble_eq_true rfl) ?_
  refine wp_aload_n (i := 0) dX0_init_4 rfl rfl ?_
  refine wp_iconst (v := 0) dX0_init_5 (by decide) ?_
  refine wn_putI0 dX0_init_6 fl_X0_9 rfl (Or.inl rfl) rfl (by decide) (by decide) (by decide +kernel) ?_
  refine wp_aload_n (i := 0) dX0_init_9 rfl rfl ?_
  refine wp_bipush (v := 10) dX0_init_10 (by decide) ?_
  refine wn_I (M := 10) (n1 := 60) (kc1 := 1) (ks1 := 10) dX0_init_12 (by decide) (by decide) (by decide) rfl rfl rfl (by decide) (by decide) rfl rfl rfl (by decide) ?_
  refine wn_putR (r1 := 31) dX0_init_14 fl_X0_15 rfl (Or.inr ⟨rfl, rfl, rfl⟩) rfl (by decide) rfl rfl (by decide) ?_
  exact wp_retV dX0_init_17 rfl (by decide) (by decide) hq
theorem ci_54 (d : Nat) {L : Nat} {xs : Nat → Int32} {Q : Nat → eT → eI → eR → Prop} (hq : Q 64 (zT L 64) (zI L xs 64 7) (zR 36)) : MC yX3_init cX3_init 1 none (d + 2) 9 60 [.ref 54] 55 (zT L 55) (zI L xs 55 3) (zR 27) (qV Q) := by
  refine mc_intro (L0 := [.ref 54]) (by decide) rfl (Nat.le_of_ble_eq_true rfl) ?_
  refine wp_aload_n (i := 0) dX3_init_0 rfl rfl ?_
  refine wp_objInit dX3_init_1 mw_145 (Nat.le_of_ble_eq_true rfl) ?_
  refine wp_aload_n (i := 0) dX3_init_4 rfl rfl ?_
  refine wp_iconst (v := 3) dX3_init_5 (by decide) ?_
  refine wn_I (M := 3) (n1 := 56) (kc1 := 1) (ks1 := 3) dX3_init_6 (by decide) (by decide) (by decide) rfl rfl rfl (by decide) (by decide) rfl rfl rfl (by decide) ?_
  refine wn_putR (r1 := 28) dX3_init_8 fl_X3_9 rfl (Or.inr ⟨rfl, rfl, rfl⟩) rfl (by decide) rfl rfl (by decide) ?_
  refine wp_aload_n (i := 0) dX3_init_11 rfl rfl ?_
  refine wn_new (q := 0) (s0 := 2) (n1 := 57) (kc1 := 2) (ks1 := 5) dX3_init_12 (by decide) mw_146 mw_80 mw_5 (by decide +kernel) rfl rfl rfl rfl (by decide) (by decide) rfl rfl rfl (by decide) ?_
  refine wp_dup dX3_init_15 rfl ?_
  refine wp_IN0vA (K2 := 1) (N2 := 10) dX3_init_16 mw_147 mw_82 rfl rfl mi_X0_init (Nat.le_of_ble_eq_true rfl) (by decide) (by decide) (ci_56 (d + 0) ?_)
  refine wn_kc (kc1 := 3) (ks1 := 15) rfl rfl ?_
  refine wn_putR (r1 := 30) dX3_init_19 fl_X3_18 rfl (Or.inl rfl) rfl (by decide) rfl rfl (by decide) ?_
  refine wp_aload_n (i := 0) dX3_init_22 rfl rfl ?_
  refine wn_new (q := 0) (s0 := 2) (n1 := 59) (kc1 := 4) (ks1 := 17) dX3_init_23 (by decide) mw_146 mw_80 mw_5 (by decide +kernel) rfl rfl rfl rfl (by decide) (by decide) rfl rfl rfl (by decide) ?_
  refine wp_dup dX3_init_26 rfl ?_
  refine wp_IN0vA (K2 := 1) (N2 := 10) dX3_init_27 mw_147 mw_82 rfl rfl mi_X0_init (Nat.le_of_ble_eq_true rfl) (by decide) (by decide) (ci_58 (d + 0) ?_)
  refine wn_kc (kc1 := 5) (ks1 := 27) rfl rfl ?_
  refine wn_putR (r1 := 32) dX3_init_30 fl_X3_22 rfl (Or.inl rfl) rfl (by decide) rfl rfl (by decide) ?_
  refine wp_aload_n (i := 0) dX3_init_33 rfl rfl ?_
  refine wp_iconst (v := 0) dX3_init_34 (by decide) ?_
  refine wn_putI0 dX3_init_35 fl_X3_25 rfl (Or.inl rfl) rfl (by decide) (by decide) (by decide +kernel) ?_
  refine wp_aload_n (i := 0) dX3_init_38 rfl rfl ?_
  refine wp_bipush (v := (-9)) dX3_init_39 (by decide) ?_
  refine wn_putI (k1 := 4) dX3_init_41 fl_X3_29 rfl (Or.inl rfl) rfl (by decide) rfl rfl ?_
  refine wp_aload_n (i := 0) dX3_init_44 rfl rfl ?_
  refine wp_iconst (v := 0) dX3_init_45 (by decide) ?_
  refine wn_putI0 dX3_init_46 fl_X3_32 rfl (Or.inl rfl) rfl (by decide) (by decide) (by decide +kernel) ?_
  refine wp_aload_n (i := 0) dX3_init_49 rfl rfl ?_
  refine wp_iconst (v := 0) dX3_init_50 (by decide) ?_
  refine wn_putI0 dX3_init_51 fl_X3_35 rfl (Or.inl rfl) rfl (by decide) (by decide) (by decide +kernel) ?_
  refine wp_aload_n (i := 0) dX3_init_54 rfl rfl ?_
  refine wp_iconst (v := 3) dX3_init_55 (by decide) ?_
  refine wn_I (M := 3) (n1 := 61) (kc1 := 6) (ks1 := 30) dX3_init_56 (by decide) (by decide) (by decide) rfl rfl rfl (by decide) (by decide) rfl rfl rfl (by decide) ?_
  refine wn_putR (r1 := 33) dX3_init_58 fl_X3_38 rfl (Or.inr ⟨rfl, rfl, rfl⟩) rfl (by decide) rfl rfl (by decide) ?_
  refine wp_aload_n (i := 0) dX3_init_61 rfl rfl ?_
  refine wp_bipush (v := 12) dX3_init_62 (by decide) ?_
  refine wn_I (M := 12) (n1 := 62) (kc1 := 7) (ks1 := 42) dX3_init_64 (by decide) (by decide) (by decide) rfl rfl rfl (by decide) (by decide) rfl rfl rfl (by decide) ?_
  refine wn_putR (r1 := 34) dX3_init_66 fl_X3_41 rfl (Or.inr ⟨rfl, rfl, rfl⟩) rfl (by decide) rfl rfl (by decide) ?_
  refine wp_aload_n (i := 0) dX3_init_69 rfl rfl ?_
  refine wp_iconst (v := 0) dX3_init_70 (by decide) ?_
  refine wn_putI0 dX3_init_71 fl_X3_44 rfl (Or.inl rfl) rfl (by decide) (by decide) (by decide +kernel) ?_
  refine wp_aload_n (i := 0) dX3_init_74 rfl rfl ?_
  refine wp_bipush (v := 10) dX3_init_75 (by decide) ?_
  refine wn_I (M := 10) (n1 := 63) (kc1 := 8) (ks1 := 52) dX3_init_77 (by decide) (by decide) (by decide) rfl rfl rfl (by decide) (by decide) rfl rfl rfl (by decide) ?_
  refine wn_putR (r1 := 35) dX3_init_79 fl_X3_47 rfl (Or.inr ⟨rfl, rfl, rfl⟩) rfl (by decide) rfl rfl (by decide) ?_
  refine wp_aload_n (i := 0) dX3_init_82 rfl rfl ?_
  refine wp_iconst (v := 0) dX3_init_83 (by decide) ?_
  refine wn_putI0 dX3_init_84 fl_X3_50 rfl (Or.inl rfl) rfl (by decide) (by decide) (by decide +kernel) ?_
  refine wp_aload_n (i := 0) dX3_init_87 rfl rfl ?_
  refine wp_bipush (v := 8) dX3_init_88 (by decide) ?_
  refine wn_I (M := 8) (n1 := 64) (kc1 := 9) (ks1 := 60) dX3_init_90 (by decide) (by decide) (by decide) rfl rfl rfl (by decide) (by decide) rfl rfl rfl (by decide) ?_
  refine wn_putR (r1 := 36) dX3_init_92 fl_X3_53 rfl (Or.inr ⟨rfl, rfl, rfl⟩) rfl (by decide) rfl rfl (by decide) ?_
  refine wp_aload_n (i := 0) dX3_init_95 rfl rfl ?_
  refine wp_getR (a2 := 55) dX3_init_96 fl_X3_9 rfl (zT_k rfl (by decide)) (by decide +kernel) ?_
  refine wp_iconst (v := 1) dX3_init_99 (by decide) ?_
  refine wp_gets1N dX3_init_100 mw_148 ?_
  refine wp_iconst (v := 1) dX3_init_103 (by decide) ?_
  refine wp_fld (j := 1) dX3_init_104 (by decide) (zT_z rfl) rfl (by decide) ?_
  refine wp_topI (v2 := 4095) (by rw [zI_lo (by decide) _ (by decide +kernel)]; rfl) ?_
  refine wn_ist (j := 1) (k1 := 5) dX3_init_105 rfl (by decide) rfl (by decide) (by decide) rfl rfl ?_
  refine wp_aload_n (i := 0) dX3_init_106 rfl rfl ?_
  refine wp_getR (a2 := 55) dX3_init_107 fl_X3_9 rfl (zT_k rfl (by decide)) (by decide +kernel) ?_
  refine wp_iconst (v := 2) dX3_init_110 (by decide) ?_
  refine wp_gets1N dX3_init_111 mw_148 ?_
  refine wp_iconst (v := 2) dX3_init_114 (by decide) ?_
  refine wp_fld (j := 2) dX3_init_115 (by decide) (zT_z rfl) rfl (by decide) ?_
  refine wp_topI (v2 := 10) (by rw [zI_lo (by decide) _ (by decide +kernel)]; rfl) ?_
  refine wn_ist (j := 2) (k1 := 6) dX3_init_116 rfl (by decide) rfl (by decide) (by decide) rfl rfl ?_
  refine wp_aload_n (i := 0) dX3_init_117 rfl rfl ?_
  refine wp_getR (a2 := 63) dX3_init_118 fl_X3_53 rfl (zT_k rfl (by decide)) (by decide +kernel) ?_
  refine wp_iconst (v := (-1)) dX3_init_121 (by decide) ?_
  refine wp_S2v dX3_init_122 mw_150 mw_151 mi_J7_fill_53178 (Nat.le_of_ble_eq_true rfl) (by decide) (by decide) (c_fill _ (zT_at rfl (by decide)) (by decide) ?_)
  rw [zF_0, zI_fil (m := 7) rfl]
  exact wp_retV dX3_init_125 rfl (by decide) (by decide) hq
theorem ci_66 (d : Nat) {L : Nat} {xs : Nat → Int32} {Q : Nat → eT → eI → eR → Prop} (hq : Q 68 (zT L 68) (zI L xs 68 7) (zR 39)) : MC yX0_init cX0_init 1 none (d + 1) 1 10 [.ref 66] 67 (zT L 67) (zI L xs 67 7) (zR 38) (qV Q) := by
  refine mc_intro (L0 := [.ref 66]) (by decide) rfl (Nat.le_of_ble_eq_true rfl) ?_
  refine wp_aload_n (i := 0) dX0_init_0 rfl rfl ?_
  refine wp_objInit dX0_init_1 mw_84 (Nat.le_of_ble_eq_true rfl) ?_
  refine wp_aload_n (i := 0) dX0_init_4 rfl rfl ?_
  refine wp_iconst (v := 0) dX0_init_5 (by decide) ?_
  refine wn_putI0 dX0_init_6 fl_X0_9 rfl (Or.inl rfl) rfl (by decide) (by decide) (by decide +kernel) ?_
  refine wp_aload_n (i := 0) dX0_init_9 rfl rfl ?_
  refine wp_bipush (v := 10) dX0_init_10 (by decide) ?_
  refine wn_I (M := 10) (n1 := 68) (kc1 := 1) (ks1 := 10) dX0_init_12 (by decide) (by decide) (by decide) rfl rfl rfl (by decide) (by decide) rfl rfl rfl (by decide) ?_
  refine wn_putR (r1 := 39) dX0_init_14 fl_X0_15 rfl (Or.inr ⟨rfl, rfl, rfl⟩) rfl (by decide) rfl rfl (by decide) ?_
  exact wp_retV dX0_init_17 rfl (by decide) (by decide) hq
theorem ci_68 (d : Nat) {L : Nat} {xs : Nat → Int32} {Q : Nat → eT → eI → eR → Prop} (hq : Q 70 (zT L 70) (zI L xs 70 7) (zR 41)) : MC yX0_init cX0_init 1 none (d + 1) 1 10 [.ref 68] 69 (zT L 69) (zI L xs 69 7) (zR 40) (qV Q) := by
  refine mc_intro (L0 := [.ref 68]) (by decide) rfl (Nat.le_of_ble_eq_true rfl) ?_
  refine wp_aload_n (i := 0) dX0_init_0 rfl rfl ?_
  refine wp_objInit dX0_init_1 mw_84 (Nat.le_of_ble_eq_true rfl) ?_
  refine wp_aload_n (i := 0) dX0_init_4 rfl rfl ?_
  refine wp_iconst (v := 0) dX0_init_5 (by decide) ?_
  refine wn_putI0 dX0_init_6 fl_X0_9 rfl (Or.inl rfl) rfl (by decide) (by decide) (by decide +kernel) ?_
  refine wp_aload_n (i := 0) dX0_init_9 rfl rfl ?_
  refine wp_bipush (v := 10) dX0_init_10 (by decide) ?_
  refine wn_I (M := 10) (n1 := 70) (kc1 := 1) (ks1 := 10) dX0_init_12 (by decide) (by decide) (by decide) rfl rfl rfl (by decide) (by decide) rfl rfl rfl (by decide) ?_
  refine wn_putR (r1 := 41) dX0_init_14 fl_X0_15 rfl (Or.inr ⟨rfl, rfl, rfl⟩) rfl (by decide) rfl rfl (by decide) ?_
  exact wp_retV dX0_init_17 rfl (by decide) (by decide) hq
theorem ci_64 (d : Nat) {L : Nat} {xs : Nat → Int32} {Q : Nat → eT → eI → eR → Prop} (hq : Q 74 (zT L 74) (zI L xs 74 11) (zR 46)) : MC yX3_init cX3_init 1 none (d + 2) 9 60 [.ref 64] 65 (zT L 65) (zI L xs 65 7) (zR 37) (qV Q) := by
  refine mc_intro (L0 := [.ref 64]) (by decide) rfl (Nat.le_of_ble_eq_true rfl) ?_
  refine wp_aload_n (i := 0) dX3_init_0 rfl rfl ?_
  refine wp_objInit dX3_init_1 mw_145 (Nat.le_of_ble_eq_true rfl) ?_
  refine wp_aload_n (i := 0) dX3_init_4 rfl rfl ?_
  refine wp_iconst (v := 3) dX3_init_5 (by decide) ?_
  refine wn_I (M := 3) (n1 := 66) (kc1 := 1) (ks1 := 3) dX3_init_6 (by decide) (by decide) (by decide) rfl rfl rfl (by decide) (by decide) rfl rfl rfl (by decide) ?_
  refine wn_putR (r1 := 38) dX3_init_8 fl_X3_9 rfl (Or.inr ⟨rfl, rfl, rfl⟩) rfl (by decide) rfl rfl (by decide) ?_
  refine wp_aload_n (i := 0) dX3_init_11 rfl rfl ?_
  refine wn_new (q := 0) (s0 := 2) (n1 := 67) (kc1 := 2) (ks1 := 5) dX3_init_12 (by decide) mw_146 mw_80 mw_5 (by decide +kernel) rfl rfl rfl rfl (by decide) (by decide) rfl rfl rfl (by decide) ?_
  refine wp_dup dX3_init_15 rfl ?_
  refine wp_IN0vA (K2 := 1) (N2 := 10) dX3_init_16 mw_147 mw_82 rfl rfl mi_X0_init (Nat.le_of_ble_eq_true rfl) (by decide) (by decide) (ci_66 (d + 0) ?_)
  refine wn_kc (kc1 := 3) (ks1 := 15) rfl rfl ?_
  refine wn_putR (r1 := 40) dX3_init_19 fl_X3_18 rfl (Or.inl rfl) rfl (by decide) rfl rfl (by decide) ?_
  refine wp_aload_n (i := 0) dX3_init_22 rfl rfl ?_
  refine wn_new (q := 0) (s0 := 2) (n1 := 69) (kc1 := 4) (ks1 := 17) dX3_init_23 (by decide) mw_146 mw_80 mw_5 (by decide +kernel) rfl rfl rfl rfl (by decide) (by decide) rfl rfl rfl (by decide) ?_
  refine wp_dup dX3_init_26 rfl ?_
  refine wp_IN0vA (K2 := 1) (N2 := 10) dX3_init_27 mw_147 mw_82 rfl rfl mi_X0_init (Nat.le_of_ble_eq_true rfl) (by decide) (by decide) (ci_68 (d + 0) ?_)
  refine wn_kc (kc1 := 5) (ks1 := 27) rfl rfl ?_
  refine wn_putR (r1 := 42) dX3_init_30 fl_X3_22 rfl (Or.inl rfl) rfl (by decide) rfl rfl (by decide) ?_
  refine wp_aload_n (i := 0) dX3_init_33 rfl rfl ?_
  refine wp_iconst (v := 0) dX3_init_34 (by decide) ?_
  refine wn_putI0 dX3_init_35 fl_X3_25 rfl (Or.inl rfl) rfl (by decide) (by decide) (by decide +kernel) ?_
  refine wp_aload_n (i := 0) dX3_init_38 rfl rfl ?_
  refine wp_bipush (v := (-9)) dX3_init_39 (by decide) ?_
  refine wn_putI (k1 := 8) dX3_init_41 fl_X3_29 rfl (Or.inl rfl) rfl (by decide) rfl rfl ?_
  refine wp_aload_n (i := 0) dX3_init_44 rfl rfl ?_
  refine wp_iconst (v := 0) dX3_init_45 (by decide) ?_
  refine wn_putI0 dX3_init_46 fl_X3_32 rfl (Or.inl rfl) rfl (by decide) (by decide) (by decide +kernel) ?_
  refine wp_aload_n (i := 0) dX3_init_49 rfl rfl ?_
  refine wp_iconst (v := 0) dX3_init_50 (by decide) ?_
  refine wn_putI0 dX3_init_51 fl_X3_35 rfl (Or.inl rfl) rfl (by decide) (by decide) (by decide +kernel) ?_
  refine wp_aload_n (i := 0) dX3_init_54 rfl rfl ?_
  refine wp_iconst (v := 3) dX3_init_55 (by decide) ?_
  refine wn_I (M := 3) (n1 := 71) (kc1 := 6) (ks1 := 30) dX3_init_56 (by decide) (by decide) (by decide) rfl rfl rfl (by decide) (by decide) rfl rfl rfl (by decide) ?_
  refine wn_putR (r1 := 43) dX3_init_58 fl_X3_38 rfl (Or.inr ⟨rfl, rfl, rfl⟩) rfl (by decide) rfl rfl (by decide) ?_
  refine wp_aload_n (i := 0) dX3_init_61 rfl rfl ?_
  refine wp_bipush (v := 12) dX3_init_62 (by decide) ?_
  refine wn_I (M := 12) (n1 := 72) (kc1 := 7) (ks1 := 42) dX3_init_64 (by decide) (by decide) (by decide) rfl rfl rfl (by decide) (by decide) rfl rfl rfl (by decide) ?_
  refine wn_putR (r1 := 44) dX3_init_66 fl_X3_41 rfl (Or.inr ⟨rfl, rfl, rfl⟩) rfl (by decide) rfl rfl (by decide) ?_
  refine wp_aload_n (i := 0) dX3_init_69 rfl rfl ?_
  refine wp_iconst (v := 0) dX3_init_70 (by decide) ?_
  refine wn_putI0 dX3_init_71 fl_X3_44 rfl (Or.inl rfl) rfl (by decide) (by decide) (by decide +kernel) ?_
  refine wp_aload_n (i := 0) dX3_init_74 rfl rfl ?_
  refine wp_bipush (v := 10) dX3_init_75 (by decide) ?_
  refine wn_I (M := 10) (n1 := 73) (kc1 := 8) (ks1 := 52) dX3_init_77 (by decide) (by decide) (by decide) rfl rfl rfl (by decide) (by decide) rfl rfl rfl (by decide) ?_
  refine wn_putR (r1 := 45) dX3_init_79 fl_X3_47 rfl (Or.inr ⟨rfl, rfl, rfl⟩) rfl (by decide) rfl rfl (by decide) ?_
  refine wp_aload_n (i := 0) dX3_init_82 rfl rfl ?_
  refine wp_iconst (v := 0) dX3_init_83 (by decide) ?_
  refine wn_putI0 dX3_init_84 fl_X3_50 rfl (Or.inl rfl) rfl (by decide) (by decide) (by decide +kernel) ?_
  refine wp_aload_n (i := 0) dX3_init_87 rfl rfl ?_
  refine wp_bipush (v := 8) dX3_init_88 (by decide) ?_
  refine wn_I (M := 8) (n1 := 74) (kc1 := 9) (ks1 := 60) dX3_init_90 (by decide) (by decide) (by decide) rfl rfl rfl (by decide) (by decide) rfl rfl rfl (by decide) ?_
  refine wn_putR (r1 := 46) dX3_init_92 fl_X3_53 rfl (Or.inr ⟨rfl, rfl, rfl⟩) rfl (by decide) rfl rfl (by decide) ?_
  refine wp_aload_n (i := 0) dX3_init_95 rfl rfl ?_
  refine wp_getR (a2 := 65) dX3_init_96 fl_X3_9 rfl (zT_k rfl (by decide)) (by decide +kernel) ?_
  refine wp_iconst (v := 1) dX3_init_99 (by decide) ?_
  refine wp_gets1N dX3_init_100 mw_148 ?_
  refine wp_iconst (v := 1) dX3_init_103 (by decide) ?_
  refine wp_fld (j := 1) dX3_init_104 (by decide) (zT_z rfl) rfl (by decide) ?_
  refine wp_topI (v2 := 4095) (by rw [zI_lo (by decide) _ (by decide +kernel)]; rfl) ?_
  refine wn_ist (j := 1) (k1 := 9) dX3_init_105 rfl (by decide) rfl (by decide) (by decide) rfl rfl ?_
  refine wp_aload_n (i := 0) dX3_init_106 rfl rfl ?_
  refine wp_getR (a2 := 65) dX3_init_107 fl_X3_9 rfl (zT_k rfl (by decide)) (by decide +kernel) ?_
  refine wp_iconst (v := 2) dX3_init_110 (by decide) ?_
  refine wp_gets1N dX3_init_111 mw_148 ?_
  refine wp_iconst (v := 2) dX3_init_114 (by decide) ?_
  refine wp_fld (j := 2) dX3_init_115 (by decide) (zT_z rfl) rfl (by decide) ?_
  refine wp_topI (v2 := 10) (by rw [zI_lo (by decide) _ (by decide +kernel)]; rfl) ?_
  refine wn_ist (j := 2) (k1 := 10) dX3_init_116 rfl (by decide) rfl (by decide) (by decide) rfl rfl ?_
  refine wp_aload_n (i := 0) dX3_init_117 rfl rfl ?_
  refine wp_getR (a2 := 73) dX3_init_118 fl_X3_53 rfl (zT_k rfl (by decide)) (by decide +kernel) ?_
  refine wp_iconst (v := (-1)) dX3_init_121 (by decide) ?_
  refine wp_S2v dX3_init_122 mw_150 mw_151 mi_J7_fill_53178 (Nat.le_of_ble_eq_true rfl) (by decide) (by decide) (c_fill _ (zT_at rfl (by decide)) (by decide) ?_)
  rw [zF_0, zI_fil (m := 7) rfl]
  exact wp_retV dX3_init_125 rfl (by decide) (by decide) hq
theorem ci_76 (d : Nat) {L : Nat} {xs : Nat → Int32} {Q : Nat → eT → eI → eR → Prop} (hq : Q 78 (zT L 78) (zI L xs 78 11) (zR 49)) : MC yX0_init cX0_init 1 none (d + 1) 1 10 [.ref 76] 77 (zT L 77) (zI L xs 77 11) (zR 48) (qV Q) := by
  refine mc_intro (L0 := [.ref 76]) (by decide) rfl (Nat.le_of_ble_eq_true rfl) ?_
  refine wp_aload_n (i := 0) dX0_init_0 rfl rfl ?_
  refine wp_objInit dX0_init_1 mw_84 (Nat.le_of_ble_eq_true rfl) ?_
  refine wp_aload_n (i := 0) dX0_init_4 rfl rfl ?_
  refine wp_iconst (v := 0) dX0_init_5 (by decide) ?_
  refine wn_putI0 dX0_init_6 fl_X0_9 rfl (Or.inl rfl) rfl (by decide) (by decide) (by decide +kernel) ?_
  refine wp_aload_n (i := 0) dX0_init_9 rfl rfl ?_
  refine wp_bipush (v := 10) dX0_init_10 (by decide) ?_
  refine wn_I (M := 10) (n1 := 78) (kc1 := 1) (ks1 := 10) dX0_init_12 (by decide) (by decide) (by decide) rfl rfl rfl (by decide) (by decide) rfl rfl rfl (by decide) ?_
  refine wn_putR (r1 := 49) dX0_init_14 fl_X0_15 rfl (Or.inr ⟨rfl, rfl, rfl⟩) rfl (by decide) rfl rfl (by decide) ?_
  exact wp_retV dX0_init_17 rfl (by decide) (by decide) hq
theorem ci_78 (d : Nat) {L : Nat} {xs : Nat → Int32} {Q : Nat → eT → eI → eR → Prop} (hq : Q 80 (zT L 80) (zI L xs 80 11) (zR 51)) : MC yX0_init cX0_init 1 none (d + 1) 1 10 [.ref 78] 79 (zT L 79) (zI L xs 79 11) (zR 50) (qV Q) := by
  refine mc_intro (L0 := [.ref 78]) (by decide) rfl (Nat.le_of_ble_eq_true rfl) ?_
  refine wp_aload_n (i := 0) dX0_init_0 rfl rfl ?_
  refine wp_objInit dX0_init_1 mw_84 (Nat.le_of_ble_eq_true rfl) ?_
  refine wp_aload_n (i := 0) dX0_init_4 rfl rfl ?_
  refine wp_iconst (v := 0) dX0_init_5 (by decide) ?_
  refine wn_putI0 dX0_init_6 fl_X0_9 rfl (Or.inl rfl) rfl (by decide) (by decide) (by decide +kernel) ?_
  refine wp_aload_n (i := 0) dX0_init_9 rfl rfl ?_
  refine wp_bipush (v := 10) dX0_init_10 (by decide) ?_
  refine wn_I (M := 10) (n1 := 80) (kc1 := 1) (ks1 := 10) dX0_init_12 (by decide) (by decide) (by decide) rfl rfl rfl (by decide) (by decide) rfl rfl rfl (by decide) ?_
  refine wn_putR (r1 := 51) dX0_init_14 fl_X0_15 rfl (Or.inr ⟨rfl, rfl, rfl⟩) rfl (by decide) rfl rfl (by decide) ?_
  exact wp_retV dX0_init_17 rfl (by decide) (by decide) hq
theorem ci_74 (d : Nat) {L : Nat} {xs : Nat → Int32} {Q : Nat → eT → eI → eR → Prop} (hq : Q 84 (zT L 84) (zI L xs 84 15) (zR 56)) : MC yX3_init cX3_init 1 none (d + 2) 9 60 [.ref 74] 75 (zT L 75) (zI L xs 75 11) (zR 47) (qV Q) := by
  refine mc_intro (L0 := [.ref 74]) (by decide) rfl (Nat.le_of_ble_eq_true rfl) ?_
  refine wp_aload_n (i := 0) dX3_init_0 rfl rfl ?_
  refine wp_objInit dX3_init_1 mw_145 (Nat.le_of_ble_eq_true rfl) ?_
  refine wp_aload_n (i := 0) dX3_init_4 rfl rfl ?_
  refine wp_iconst (v := 3) dX3_init_5 (by decide) ?_
  refine wn_I (M := 3) (n1 := 76) (kc1 := 1) (ks1 := 3) dX3_init_6 (by decide) (by decide) (by decide) rfl rfl rfl (by decide) (by decide) rfl rfl rfl (by decide) ?_
  refine wn_putR (r1 := 48) dX3_init_8 fl_X3_9 rfl (Or.inr ⟨rfl, rfl, rfl⟩) rfl (by decide) rfl rfl (by decide) ?_
  refine wp_aload_n (i := 0) dX3_init_11 rfl rfl ?_
  refine wn_new (q := 0) (s0 := 2) (n1 := 77) (kc1 := 2) (ks1 := 5) dX3_init_12 (by decide) mw_146 mw_80 mw_5 (by decide +kernel) rfl rfl rfl rfl (by decide) (by decide) rfl rfl rfl (by decide) ?_
  refine wp_dup dX3_init_15 rfl ?_
  refine wp_IN0vA (K2 := 1) (N2 := 10) dX3_init_16 mw_147 mw_82 rfl rfl mi_X0_init (Nat.le_of_ble_eq_true rfl) (by decide) (by decide) (ci_76 (d + 0) ?_)
  refine wn_kc (kc1 := 3) (ks1 := 15) rfl rfl ?_
  refine wn_putR (r1 := 50) dX3_init_19 fl_X3_18 rfl (Or.inl rfl) rfl (by decide) rfl rfl (by decide) ?_
  refine wp_aload_n (i := 0) dX3_init_22 rfl rfl ?_
  refine wn_new (q := 0) (s0 := 2) (n1 := 79) (kc1 := 4) (ks1 := 17) dX3_init_23 (by decide) mw_146 mw_80 mw_5 (by decide +kernel) rfl rfl rfl rfl (by decide) (by decide) rfl rfl rfl (by decide) ?_
  refine wp_dup dX3_init_26 rfl ?_
  refine wp_IN0vA (K2 := 1) (N2 := 10) dX3_init_27 mw_147 mw_82 rfl rfl mi_X0_init (Nat.le_of_ble_eq_true rfl) (by decide) (by decide) (ci_78 (d + 0) ?_)
  refine wn_kc (kc1 := 5) (ks1 := 27) rfl rfl ?_
  refine wn_putR (r1 := 52) dX3_init_30 fl_X3_22 rfl (Or.inl rfl) rfl (by decide) rfl rfl (by decide) ?_
  refine wp_aload_n (i := 0) dX3_init_33 rfl rfl ?_
  refine wp_iconst (v := 0) dX3_init_34 (by decide) ?_
  refine wn_putI0 dX3_init_35 fl_X3_25 rfl (Or.inl rfl) rfl (by decide) (by decide) (by decide +kernel) ?_
  refine wp_aload_n (i := 0) dX3_init_38 rfl rfl ?_
  refine wp_bipush (v := (-9)) dX3_init_39 (by decide) ?_
  refine wn_putI (k1 := 12) dX3_init_41 fl_X3_29 rfl (Or.inl rfl) rfl (by decide) rfl rfl ?_
  refine wp_aload_n (i := 0) dX3_init_44 rfl rfl ?_
  refine wp_iconst (v := 0) dX3_init_45 (by decide) ?_
  refine wn_putI0 dX3_init_46 fl_X3_32 rfl (Or.inl rfl) rfl (by decide) (by decide) (by decide +kernel) ?_
  refine wp_aload_n (i := 0) dX3_init_49 rfl rfl ?_
  refine wp_iconst (v := 0) dX3_init_50 (by decide) ?_
  refine wn_putI0 dX3_init_51 fl_X3_35 rfl (Or.inl rfl) rfl (by decide) (by decide) (by decide +kernel) ?_
  refine wp_aload_n (i := 0) dX3_init_54 rfl rfl ?_
  refine wp_iconst (v := 3) dX3_init_55 (by decide) ?_
  refine wn_I (M := 3) (n1 := 81) (kc1 := 6) (ks1 := 30) dX3_init_56 (by decide) (by decide) (by decide) rfl rfl rfl (by decide) (by decide) rfl rfl rfl (by decide) ?_
  refine wn_putR (r1 := 53) dX3_init_58 fl_X3_38 rfl (Or.inr ⟨rfl, rfl, rfl⟩) rfl (by decide) rfl rfl (by decide) ?_
  refine wp_aload_n (i := 0) dX3_init_61 rfl rfl ?_
  refine wp_bipush (v := 12) dX3_init_62 (by decide) ?_
  refine wn_I (M := 12) (n1 := 82) (kc1 := 7) (ks1 := 42) dX3_init_64 (by decide) (by decide) (by decide) rfl rfl rfl (by decide) (by decide) rfl rfl rfl (by decide) ?_
  refine wn_putR (r1 := 54) dX3_init_66 fl_X3_41 rfl (Or.inr ⟨rfl, rfl, rfl⟩) rfl (by decide) rfl rfl (by decide) ?_
  refine wp_aload_n (i := 0) dX3_init_69 rfl rfl ?_
  refine wp_iconst (v := 0) dX3_init_70 (by decide) ?_
  refine wn_putI0 dX3_init_71 fl_X3_44 rfl (Or.inl rfl) rfl (by decide) (by decide) (by decide +kernel) ?_
  refine wp_aload_n (i := 0) dX3_init_74 rfl rfl ?_
  refine wp_bipush (v := 10) dX3_init_75 (by decide) ?_
  refine wn_I (M := 10) (n1 := 83) (kc1 := 8) (ks1 := 52) dX3_init_77 (by decide) (by decide) (by decide) rfl rfl rfl (by decide) (by decide) rfl rfl rfl (by decide) ?_
  refine wn_putR (r1 := 55) dX3_init_79 fl_X3_47 rfl (Or.inr ⟨rfl, rfl, rfl⟩) rfl (by decide) rfl rfl (by decide) ?_
  refine wp_aload_n (i := 0) dX3_init_82 rfl rfl ?_
  refine wp_iconst (v := 0) dX3_init_83 (by decide) ?_
  refine wn_putI0 dX3_init_84 fl_X3_50 rfl (Or.inl rfl) rfl (by decide) (by decide) (by decide +kernel) ?_
  refine wp_aload_n (i := 0) dX3_init_87 rfl rfl ?_
  refine wp_bipush (v := 8) dX3_init_88 (by decide) ?_
  refine wn_I (M := 8) (n1 := 84) (kc1 := 9) (ks1 := 60) dX3_init_90 (by decide) (by decide) (by decide) rfl rfl rfl (by decide) (by decide) rfl rfl rfl (by decide) ?_
  refine wn_putR (r1 := 56) dX3_init_92 fl_X3_53 rfl (Or.inr ⟨rfl, rfl, rfl⟩) rfl (by decide) rfl rfl (by decide) ?_
  refine wp_aload_n (i := 0) dX3_init_95 rfl rfl ?_
  refine wp_getR (a2 := 75) dX3_init_96 fl_X3_9 rfl (zT_k rfl (by decide)) (by decide +kernel) ?_
  refine wp_iconst (v := 1) dX3_init_99 (by decide) ?_
  refine wp_gets1N dX3_init_100 mw_148 ?_
  refine wp_iconst (v := 1) dX3_init_103 (by decide) ?_
  refine wp_fld (j := 1) dX3_init_104 (by decide) (zT_z rfl) rfl (by decide) ?_
  refine wp_topI (v2 := 4095) (by rw [zI_lo (by decide) _ (by decide +kernel)]; rfl) ?_
  refine wn_ist (j := 1) (k1 := 13) dX3_init_105 rfl (by decide) rfl (by decide) (by decide) rfl rfl ?_
  refine wp_aload_n (i := 0) dX3_init_106 rfl rfl ?_
  refine wp_getR (a2 := 75) dX3_init_107 fl_X3_9 rfl (zT_k rfl (by decide)) (by decide +kernel) ?_
  refine wp_iconst (v := 2) dX3_init_110 (by decide) ?_
  refine wp_gets1N dX3_init_111 mw_148 ?_
  refine wp_iconst (v := 2) dX3_init_114 (by decide) ?_
  refine wp_fld (j := 2) dX3_init_115 (by decide) (zT_z rfl) rfl (by decide) ?_
  refine wp_topI (v2 := 10) (by rw [zI_lo (by decide) _ (by decide +kernel)]; rfl) ?_
  refine wn_ist (j := 2) (k1 := 14) dX3_init_116 rfl (by decide) rfl (by decide) (by decide) rfl rfl ?_
  refine wp_aload_n (i := 0) dX3_init_117 rfl rfl ?_
  refine wp_getR (a2 := 83) dX3_init_118 fl_X3_53 rfl (zT_k rfl (by decide)) (by decide +kernel) ?_
  refine wp_iconst (v := (-1)) dX3_init_121 (by decide) ?_
  refine wp_S2v dX3_init_122 mw_150 mw_151 mi_J7_fill_53178 (Nat.le_of_ble_eq_true rfl) (by decide) (by decide) (c_fill _ (zT_at rfl (by decide)) (by decide) ?_)
  rw [zF_0, zI_fil (m := 7) rfl]
  exact wp_retV dX3_init_125 rfl (by decide) (by decide) hq
theorem ci_86 (d : Nat) {L : Nat} {xs : Nat → Int32} {Q : Nat → eT → eI → eR → Prop} (hq : Q 88 (zT L 88) (zI L xs 88 15) (zR 59)) : MC yX0_init cX0_init 1 none (d + 1) 1 10 [.ref 86] 87 (zT L 87) (zI L xs 87 15) (zR 58) (qV Q) := by
  refine mc_intro (L0 := [.ref 86]) (by decide) rfl (Nat.le_of_ble_eq_true rfl) ?_
  refine wp_aload_n (i := 0) dX0_init_0 rfl rfl ?_
  refine wp_objInit dX0_init_1 mw_84 (Nat.le_of_ble_eq_true rfl) ?_
  refine wp_aload_n (i := 0) dX0_init_4 rfl rfl ?_
  refine wp_iconst (v := 0) dX0_init_5 (by decide) ?_
  refine wn_putI0 dX0_init_6 fl_X0_9 rfl (Or.inl rfl) rfl (by decide) (by decide) (by decide +kernel) ?_
  refine wp_aload_n (i := 0) dX0_init_9 rfl rfl ?_
  refine wp_bipush (v := 10) dX0_init_10 (by decide) ?_
  refine wn_I (M := 10) (n1 := 88) (kc1 := 1) (ks1 := 10) dX0_init_12 (by decide) (by decide) (by decide) rfl rfl rfl (by decide) (by decide) rfl rfl rfl (by decide) ?_
  refine wn_putR (r1 := 59) dX0_init_14 fl_X0_15 rfl (Or.inr ⟨rfl, rfl, rfl⟩) rfl (by decide) rfl rfl (by decide) ?_
  exact wp_retV dX0_init_17 rfl (by decide) (by decide) hq
theorem ci_88 (d : Nat) {L : Nat} {xs : Nat → Int32} {Q : Nat → eT → eI → eR → Prop} (hq : Q 90 (zT L 90) (zI L xs 90 15) (zR 61)) : MC yX0_init cX0_init 1 none (d + 1) 1 10 [.ref 88] 89 (zT L 89) (zI L xs 89 15) (zR 60) (qV Q) := by
  refine mc_intro (L0 := [.ref 88]) (by decide) rfl (Nat.le_of_ble_eq_true rfl) ?_
  refine wp_aload_n (i := 0) dX0_init_0 rfl rfl ?_
  refine wp_objInit dX0_init_1 mw_84 (Nat.le_of_ble_eq_true rfl) ?_
  refine wp_aload_n (i := 0) dX0_init_4 rfl rfl ?_
  refine wp_iconst (v := 0) dX0_init_5 (by decide) ?_
  refine wn_putI0 dX0_init_6 fl_X0_9 rfl (Or.inl rfl) rfl (by decide) (by decide) (by decide +kernel) ?_
  refine wp_aload_n (i := 0) dX0_init_9 rfl rfl ?_
  refine wp_bipush (v := 10) dX0_init_10 (by decide) ?_
  refine wn_I (M := 10) (n1 := 90) (kc1 := 1) (ks1 := 10) dX0_init_12 (by decide) (by decide) (by decide) rfl rfl rfl (by decide) (by decide) rfl rfl rfl (by decide) ?_
  refine wn_putR (r1 := 61) dX0_init_14 fl_X0_15 rfl (Or.inr ⟨rfl, rfl, rfl⟩) rfl (by decide) rfl rfl (by decide) ?_
  exact wp_retV dX0_init_17 rfl (by decide) (by decide) hq
theorem ci_84 (d : Nat) {L : Nat} {xs : Nat → Int32} {Q : Nat → eT → eI → eR → Prop} (hq : Q 94 (zT L 94) (zI L xs 94 19) (zR 66)) : MC yX3_init cX3_init 1 none (d + 2) 9 60 [.ref 84] 85 (zT L 85) (zI L xs 85 15) (zR 57) (qV Q) := by
  refine mc_intro (L0 := [.ref 84]) (by decide) rfl (Nat.le_of_ble_eq_true rfl) ?_
  refine wp_aload_n (i := 0) dX3_init_0 rfl rfl ?_
  refine wp_objInit dX3_init_1 mw_145 (Nat.le_of_ble_eq_true rfl) ?_
  refine wp_aload_n (i := 0) dX3_init_4 rfl rfl ?_
  refine wp_iconst (v := 3) dX3_init_5 (by decide) ?_
  refine wn_I (M := 3) (n1 := 86) (kc1 := 1) (ks1 := 3) dX3_init_6 (by decide) (by decide) (by decide) rfl rfl rfl (by decide) (by decide) rfl rfl rfl (by decide) ?_
  refine wn_putR (r1 := 58) dX3_init_8 fl_X3_9 rfl (Or.inr ⟨rfl, rfl, rfl⟩) rfl (by decide) rfl rfl (by decide) ?_
  refine wp_aload_n (i := 0) dX3_init_11 rfl rfl ?_
  refine wn_new (q := 0) (s0 := 2) (n1 := 87) (kc1 := 2) (ks1 := 5) dX3_init_12 (by decide) mw_146 mw_80 mw_5 (by decide +kernel) rfl rfl rfl rfl (by decide) (by decide) rfl rfl rfl (by decide) ?_
  refine wp_dup dX3_init_15 rfl ?_
  refine wp_IN0vA (K2 := 1) (N2 := 10) dX3_init_16 mw_147 mw_82 rfl rfl mi_X0_init (Nat.le_of_ble_eq_true rfl) (by decide) (by decide) (ci_86 (d + 0) ?_)
  refine wn_kc (kc1 := 3) (ks1 := 15) rfl rfl ?_
  refine wn_putR (r1 := 60) dX3_init_19 fl_X3_18 rfl (Or.inl rfl) rfl (by decide) rfl rfl (by decide) ?_
  refine wp_aload_n (i := 0) dX3_init_22 rfl rfl ?_
  refine wn_new (q := 0) (s0 := 2) (n1 := 89) (kc1 := 4) (ks1 := 17) dX3_init_23 (by decide) mw_146 mw_80 mw_5 (by decide +kernel) rfl rfl rfl rfl (by decide) (by decide) rfl rfl rfl (by decide) ?_
  refine wp_dup dX3_init_26 rfl ?_
  refine wp_IN0vA (K2 := 1) (N2 := 10) dX3_init_27 mw_147 mw_82 rfl rfl mi_X0_init (Nat.le_of_ble_eq_true rfl) (by decide) (by decide) (ci_88 (d + 0) ?_)
  refine wn_kc (kc1 := 5) (ks1 := 27) rfl rfl ?_
  refine wn_putR (r1 := 62) dX3_init_30 fl_X3_22 rfl (Or.inl rfl) rfl (by decide) rfl rfl (by decide) ?_
  refine wp_aload_n (i := 0) dX3_init_33 rfl rfl ?_
  refine wp_iconst (v := 0) dX3_init_34 (by decide) ?_
  refine wn_putI0 dX3_init_35 fl_X3_25 rfl (Or.inl rfl) rfl (by decide) (by decide) (by decide +kernel) ?_
  refine wp_aload_n (i := 0) dX3_init_38 rfl rfl ?_
  refine wp_bipush (v := (-9)) dX3_init_39 (by decide) ?_
  refine wn_putI (k1 := 16) dX3_init_41 fl_X3_29 rfl (Or.inl rfl) rfl (by decide) rfl rfl ?_
  refine wp_aload_n (i := 0) dX3_init_44 rfl rfl ?_
  refine wp_iconst (v := 0) dX3_init_45 (by decide) ?_
  refine wn_putI0 dX3_init_46 fl_X3_32 rfl (Or.inl rfl) rfl (by decide) (by decide) (by decide +kernel) ?_
  refine wp_aload_n (i := 0) dX3_init_49 rfl rfl ?_
  refine wp_iconst (v := 0) dX3_init_50 (by decide) ?_
  refine wn_putI0 dX3_init_51 fl_X3_35 rfl (Or.inl rfl) rfl (by decide) (by decide) (by decide +kernel) ?_
  refine wp_aload_n (i := 0) dX3_init_54 rfl rfl ?_
  refine wp_iconst (v := 3) dX3_init_55 (by decide) ?_
  refine wn_I (M := 3) (n1 := 91) (kc1 := 6) (ks1 := 30) dX3_init_56 (by decide) (by decide) (by decide) rfl rfl rfl (by decide) (by decide) rfl rfl rfl (by decide) ?_
  refine wn_putR (r1 := 63) dX3_init_58 fl_X3_38 rfl (Or.inr ⟨rfl, rfl, rfl⟩) rfl (by decide) rfl rfl (by decide) ?_
  refine wp_aload_n (i := 0) dX3_init_61 rfl rfl ?_
  refine wp_bipush (v := 12) dX3_init_62 (by decide) ?_
  refine wn_I (M := 12) (n1 := 92) (kc1 := 7) (ks1 := 42) dX3_init_64 (by decide) (by decide) (by decide) rfl rfl rfl (by decide) (by decide) rfl rfl rfl (by decide) ?_
  refine wn_putR (r1 := 64) dX3_init_66 fl_X3_41 rfl (Or.inr ⟨rfl, rfl, rfl⟩) rfl (by decide) rfl rfl (by decide) ?_
  refine wp_aload_n (i := 0) dX3_init_69 rfl rfl ?_
  refine wp_iconst (v := 0) dX3_init_70 (by decide) ?_
  refine wn_putI0 dX3_init_71 fl_X3_44 rfl (Or.inl rfl) rfl (by decide) (by decide) (by decide +kernel) ?_
  refine wp_aload_n (i := 0) dX3_init_74 rfl rfl ?_
  refine wp_bipush (v := 10) dX3_init_75 (by decide) ?_
  refine wn_I (M := 10) (n1 := 93) (kc1 := 8) (ks1 := 52) dX3_init_77 (by decide) (by decide) (by decide) rfl rfl rfl (by decide) (by decide) rfl rfl rfl (by decide) ?_
  refine wn_putR (r1 := 65) dX3_init_79 fl_X3_47 rfl (Or.inr ⟨rfl, rfl, rfl⟩) rfl (by decide) rfl rfl (by decide) ?_
  refine wp_aload_n (i := 0) dX3_init_82 rfl rfl ?_
  refine wp_iconst (v := 0) dX3_init_83 (by decide) ?_
  refine wn_putI0 dX3_init_84 fl_X3_50 rfl (Or.inl rfl) rfl (by decide) (by decide) (by decide +kernel) ?_
  refine wp_aload_n (i := 0) dX3_init_87 rfl rfl ?_
  refine wp_bipush (v := 8) dX3_init_88 (by decide) ?_
  refine wn_I (M := 8) (n1 := 94) (kc1 := 9) (ks1 := 60) dX3_init_90 (by decide) (by decide) (by decide) rfl rfl rfl (by decide) (by decide) rfl rfl rfl (by decide) ?_
  refine wn_putR (r1 := 66) dX3_init_92 fl_X3_53 rfl (Or.inr ⟨rfl, rfl, rfl⟩) rfl (by decide) rfl rfl (by decide) ?_
  refine wp_aload_n (i := 0) dX3_init_95 rfl rfl ?_
  refine wp_getR (a2 := 85) dX3_init_96 fl_X3_9 rfl (zT_k rfl (by decide)) (by decide +kernel) ?_
  refine wp_iconst (v := 1) dX3_init_99 (by decide) ?_
  refine wp_gets1N dX3_init_100 mw_148 ?_
  refine wp_iconst (v := 1) dX3_init_103 (by decide) ?_
  refine wp_fld (j := 1) dX3_init_104 (by decide) (zT_z rfl) rfl (by decide) ?_
  refine wp_topI (v2 := 4095) (by rw [zI_lo (by decide) _ (by decide +kernel)]; rfl) ?_
  refine wn_ist (j := 1) (k1 := 17) dX3_init_105 rfl (by decide) rfl (by decide) (by decide) rfl rfl ?_
  refine wp_aload_n (i := 0) dX3_init_106 rfl rfl ?_
  refine wp_getR (a2 := 85) dX3_init_107 fl_X3_9 rfl (zT_k rfl (by decide)) (by decide +kernel) ?_
  refine wp_iconst (v := 2) dX3_init_110 (by decide) ?_
  refine wp_gets1N dX3_init_111 mw_148 ?_
  refine wp_iconst (v := 2) dX3_init_114 (by decide) ?_
  refine wp_fld (j := 2) dX3_init_115 (by decide) (zT_z rfl) rfl (by decide) ?_
  refine wp_topI (v2 := 10) (by rw [zI_lo (by decide) _ (by decide +kernel)]; rfl) ?_
  refine wn_ist (j := 2) (k1 := 18) dX3_init_116 rfl (by decide) rfl (by decide) (by decide) rfl rfl ?_
  refine wp_aload_n (i := 0) dX3_init_117 rfl rfl ?_
  refine wp_getR (a2 := 93) dX3_init_118 fl_X3_53 rfl (zT_k rfl (by decide)) (by decide +kernel) ?_
  refine wp_iconst (v := (-1)) dX3_init_121 (by decide) ?_
  refine wp_S2v dX3_init_122 mw_150 mw_151 mi_J7_fill_53178 (Nat.le_of_ble_eq_true rfl) (by decide) (by decide) (c_fill _ (zT_at rfl (by decide)) (by decide) ?_)
  rw [zF_0, zI_fil (m := 7) rfl]
  exact wp_retV dX3_init_125 rfl (by decide) (by decide) hq
theorem ci_4 (d : Nat) {L : Nat} {xs : Nat → Int32} {Q : Nat → eT → eI → eR → Prop} (hq : Q 94 (zT L 94) (zI L xs 94 19) (zR 67)) : MC yX7_init cX7_init 2 none (d + 3) 89 705 [.ref 4] 5 (zT L 5) (zI L xs 5 0) (zR 0) (qV Q) := by
  refine mc_intro (L0 := [.ref 4, vU]) (by decide) rfl (Nat.le_of_ble_eq_true rfl) ?_
  refine wp_aload_n (i := 0) dX7_init_0 rfl rfl ?_
  refine wp_objInit dX7_init_1 mw_19 (Nat.le_of_ble_eq_true rfl) ?_
  refine wp_aload_n (i := 0) dX7_init_4 rfl rfl ?_
  refine wn_new (q := 2) (s0 := 4) (n1 := 6) (kc1 := 1) (ks1 := 4) dX7_init_5 (by decide) mw_22 mw_23 mw_2 (by decide +kernel) rfl rfl rfl rfl (by decide) (by decide) rfl rfl rfl (by decide) ?_
  refine wp_dup dX7_init_8 rfl ?_
  refine wp_IN0vA (K2 := 13) (N2 := 130) dX7_init_9 mw_24 mw_25 rfl rfl mi_X2_init (Nat.le_of_ble_eq_true rfl) (by decide) (by decide) (ci_5 (d + 1) ?_)
  refine wn_kc (kc1 := 14) (ks1 := 134) rfl rfl ?_
  refine wn_putR (r1 := 5) dX7_init_12 fl_X7_12 rfl (Or.inr ⟨rfl, rfl, rfl⟩) rfl (by decide) rfl rfl (by decide) ?_
  refine wp_aload_n (i := 0) dX7_init_15 rfl rfl ?_
  refine wn_new (q := 4) (s0 := 3) (n1 := 20) (kc1 := 15) (ks1 := 137) dX7_init_16 (by decide) mw_52 mw_53 mw_3 (by decide +kernel) rfl rfl rfl rfl (by decide) (by decide) rfl rfl rfl (by decide) ?_
  refine wp_dup dX7_init_19 rfl ?_
  refine wp_IN0vA (K2 := 14) (N2 := 134) dX7_init_20 mw_54 mw_55 rfl rfl mi_X4_init (Nat.le_of_ble_eq_true rfl) (by decide) (by decide) (ci_19 (d + 0) ?_)
  refine wn_kc (kc1 := 29) (ks1 := 271) rfl rfl ?_
  refine wn_putR (r1 := 11) dX7_init_23 fl_X7_21 rfl (Or.inr ⟨rfl, rfl, rfl⟩) rfl (by decide) rfl rfl (by decide) ?_
  refine wp_aload_n (i := 0) dX7_init_26 rfl rfl ?_
  refine wp_iconst (v := 4) dX7_init_27 (by decide) ?_
  refine wn_11 (M := 4) (n1 := 35) (kc1 := 30) (ks1 := 275) dX7_init_28 mw_71 (by decide) (by decide) (by decide) rfl rfl rfl (by decide) (by decide) rfl rfl rfl (by decide) ?_
  refine wn_putR (r1 := 12) dX7_init_31 fl_X7_27 rfl (Or.inr ⟨rfl, rfl, rfl⟩) rfl (by decide) rfl rfl (by decide) ?_
  refine wp_aload_n (i := 0) dX7_init_34 rfl rfl ?_
  refine wp_iconst (v := 0) dX7_init_35 (by decide) ?_
  refine wn_putI0 dX7_init_36 fl_X7_31 rfl (Or.inl rfl) rfl (by decide) (by decide) (by decide +kernel) ?_
  refine wp_aload_n (i := 0) dX7_init_39 rfl rfl ?_
  refine wn_new (q := 5) (s0 := 8) (n1 := 36) (kc1 := 31) (ks1 := 283) dX7_init_40 (by decide) mw_73 mw_74 mw_4 (by decide +kernel) rfl rfl rfl rfl (by decide) (by decide) rfl rfl rfl (by decide) ?_
  refine wp_dup dX7_init_43 rfl ?_
  refine wp_IN0vA (K2 := 12) (N2 := 70) dX7_init_44 mw_75 mw_76 rfl rfl mi_X5_init (Nat.le_of_ble_eq_true rfl) (by decide) (by decide) (ci_35 (d + 0) ?_)
  refine wn_kc (kc1 := 43) (ks1 := 353) rfl rfl ?_
  refine wn_putR (r1 := 21) dX7_init_47 fl_X7_38 rfl (Or.inr ⟨rfl, rfl, rfl⟩) rfl (by decide) rfl rfl (by decide) ?_
  refine wp_aload_n (i := 0) dX7_init_50 rfl rfl ?_
  refine wn_new (q := 1) (s0 := 4) (n1 := 49) (kc1 := 44) (ks1 := 357) dX7_init_51 (by decide) mw_120 mw_121 mw_6 (by decide +kernel) rfl rfl rfl rfl (by decide) (by decide) rfl rfl rfl (by decide) ?_
  refine wp_dup dX7_init_54 rfl ?_
  refine wp_IN0vA (K2 := 3) (N2 := 50) dX7_init_55 mw_122 mw_123 rfl rfl mi_X1_init (Nat.le_of_ble_eq_true rfl) (by decide) (by decide) (ci_48 (d + 1) ?_)
  refine wn_kc (kc1 := 47) (ks1 := 407) rfl rfl ?_
  refine wn_putR (r1 := 25) dX7_init_58 fl_X7_45 rfl (Or.inr ⟨rfl, rfl, rfl⟩) rfl (by decide) rfl rfl (by decide) ?_
  refine wp_aload_n (i := 0) dX7_init_61 rfl rfl ?_
  refine wp_iconst (v := 2) dX7_init_62 (by decide) ?_
  refine wn_I (M := 2) (n1 := 53) (kc1 := 48) (ks1 := 409) dX7_init_63 (by decide) (by decide) (by decide) rfl rfl rfl (by decide) (by decide) rfl rfl rfl (by decide) ?_
  refine wn_putR (r1 := 26) dX7_init_65 fl_X7_49 rfl (Or.inr ⟨rfl, rfl, rfl⟩) rfl (by decide) rfl rfl (by decide) ?_
  refine wp_aload_n (i := 0) dX7_init_68 rfl rfl ?_
  refine wp_iconst (v := 4) dX7_init_69 (by decide) ?_
  refine wn_12 (M := 4) (n1 := 54) (kc1 := 49) (ks1 := 413) dX7_init_70 mw_139 (by decide) (by decide) (by decide) rfl rfl rfl (by decide) (by decide) rfl rfl rfl (by decide) ?_
  refine wn_putR (r1 := 27) dX7_init_73 fl_X7_55 rfl (Or.inr ⟨rfl, rfl, rfl⟩) rfl (by decide) rfl rfl (by decide) ?_
  refine wp_aload_n (i := 0) dX7_init_76 rfl rfl ?_
  refine wp_iconst (v := 0) dX7_init_77 (by decide) ?_
  refine wn_putI0 dX7_init_78 fl_X7_59 rfl (Or.inl rfl) rfl (by decide) (by decide) (by decide +kernel) ?_
  refine wp_aload_n (i := 0) dX7_init_81 rfl rfl ?_
  refine wp_iconst (v := 0) dX7_init_82 (by decide) ?_
  refine wn_putI0 dX7_init_83 fl_X7_62 rfl (Or.inl rfl) rfl (by decide) (by decide) (by decide +kernel) ?_
  refine wp_aload_n (i := 0) dX7_init_86 rfl rfl ?_
  refine wp_getR (a2 := 52) dX7_init_87 fl_X7_49 rfl (zT_k rfl (by decide)) (by decide +kernel) ?_
  refine wp_iconst (v := 0) dX7_init_90 (by decide) ?_
  refine wp_iconst (v := 5) dX7_init_91 (by decide) ?_
  refine wn_ist (j := 0) (k1 := 2) dX7_init_92 rfl (by decide) rfl (by decide) (by decide) rfl rfl ?_
  refine wp_aload_n (i := 0) dX7_init_93 rfl rfl ?_
  refine wp_getR (a2 := 52) dX7_init_94 fl_X7_49 rfl (zT_k rfl (by decide)) (by decide +kernel) ?_
  refine wp_iconst (v := 1) dX7_init_97 (by decide) ?_
  refine wp_bipush (v := 10) dX7_init_98 (by decide) ?_
  refine wn_ist (j := 1) (k1 := 3) dX7_init_100 rfl (by decide) rfl (by decide) (by decide) rfl rfl ?_
  refine wp_iconst (v := 0) dX7_init_101 (by decide) ?_
  refine wp_istore_2_1 dX7_init_102 rfl ?_
  refine wp_iload_n (i := 1) dX7_init_103 rfl rfl ?_
  refine wp_iconst (v := 4) dX7_init_104 (by decide) ?_
  refine wp_icmp_ge (tgt := 127) dX7_init_105 (by decide) (fun zq105 => absurd zq105 (by decide)) (fun zq105 => ?_)
  refine wp_aload_n (i := 0) dX7_init_108 rfl rfl ?_
  refine wp_getR (a2 := 34) dX7_init_109 fl_X7_27 rfl (zT_k rfl (by decide)) (by decide +kernel) ?_
  refine wp_iload_n (i := 1) dX7_init_112 rfl rfl ?_
  refine wn_new (q := 3) (s0 := 13) (n1 := 55) (kc1 := 50) (ks1 := 426) dX7_init_113 (by decide) mw_71 mw_141 mw_7 (by decide +kernel) rfl rfl rfl rfl (by decide) (by decide) rfl rfl rfl (by decide) ?_
  refine wp_dup dX7_init_116 rfl ?_
  refine wp_I0vA (K2 := 9) (N2 := 60) dX7_init_117 mw_142 mw_143 rfl rfl mi_X3_init (Nat.le_of_ble_eq_true rfl) (by decide) (by decide) (ci_54 (d + 0) ?_)
  refine wn_kc (kc1 := 59) (ks1 := 486) rfl rfl ?_
  refine wn_rst11 (j := 0) (r1 := 37) dX7_init_120 rfl (by decide) rfl (by decide) (by decide) rfl (by decide) rfl rfl (by decide) ?_
  refine wp_iinc_2_1 (v := 1) dX7_init_121 (by decide) ?_
  refine wp_goto (tgt := 103) dX7_init_124 (by decide) ?_
  refine wp_iload_n (i := 1) dX7_init_103 rfl rfl ?_
  refine wp_iconst (v := 4) dX7_init_104 (by decide) ?_
  refine wp_icmp_ge (tgt := 127) dX7_init_105 (by decide) (fun zq105 => absurd zq105 (by decide)) (fun zq105 => ?_)
  refine wp_aload_n (i := 0) dX7_init_108 rfl rfl ?_
  refine wp_getR (a2 := 34) dX7_init_109 fl_X7_27 rfl (zT_k rfl (by decide)) (by decide +kernel) ?_
  refine wp_iload_n (i := 1) dX7_init_112 rfl rfl ?_
  refine wn_new (q := 3) (s0 := 13) (n1 := 65) (kc1 := 60) (ks1 := 499) dX7_init_113 (by decide) mw_71 mw_141 mw_7 (by decide +kernel) rfl rfl rfl rfl (by decide) (by decide) rfl rfl rfl (by decide) ?_
  refine wp_dup dX7_init_116 rfl ?_
  refine wp_I0vA (K2 := 9) (N2 := 60) dX7_init_117 mw_142 mw_143 rfl rfl mi_X3_init (Nat.le_of_ble_eq_true rfl) (by decide) (by decide) (ci_64 (d + 0) ?_)
  refine wn_kc (kc1 := 69) (ks1 := 559) rfl rfl ?_
  refine wn_rst11 (j := 1) (r1 := 47) dX7_init_120 rfl (by decide) rfl (by decide) (by decide) rfl (by decide) rfl rfl (by decide) ?_
  refine wp_iinc_2_1 (v := 2) dX7_init_121 (by decide) ?_
  refine wp_goto (tgt := 103) dX7_init_124 (by decide) ?_
  refine wp_iload_n (i := 1) dX7_init_103 rfl rfl ?_
  refine wp_iconst (v := 4) dX7_init_104 (by decide) ?_
  refine wp_icmp_ge (tgt := 127) dX7_init_105 (by decide) (fun zq105 => absurd zq105 (by decide)) (fun zq105 => ?_)
  refine wp_aload_n (i := 0) dX7_init_108 rfl rfl ?_
  refine wp_getR (a2 := 34) dX7_init_109 fl_X7_27 rfl (zT_k rfl (by decide)) (by decide +kernel) ?_
  refine wp_iload_n (i := 1) dX7_init_112 rfl rfl ?_
  refine wn_new (q := 3) (s0 := 13) (n1 := 75) (kc1 := 70) (ks1 := 572) dX7_init_113 (by decide) mw_71 mw_141 mw_7 (by decide +kernel) rfl rfl rfl rfl (by decide) (by decide) rfl rfl rfl (by decide) ?_
  refine wp_dup dX7_init_116 rfl ?_
  refine wp_I0vA (K2 := 9) (N2 := 60) dX7_init_117 mw_142 mw_143 rfl rfl mi_X3_init (Nat.le_of_ble_eq_true rfl) (by decide) (by decide) (ci_74 (d + 0) ?_)
  refine wn_kc (kc1 := 79) (ks1 := 632) rfl rfl ?_
  refine wn_rst11 (j := 2) (r1 := 57) dX7_init_120 rfl (by decide) rfl (by decide) (by decide) rfl (by decide) rfl rfl (by decide) ?_
  refine wp_iinc_2_1 (v := 3) dX7_init_121 (by decide) ?_
  refine wp_goto (tgt := 103) dX7_init_124 (by decide) ?_
  refine wp_iload_n (i := 1) dX7_init_103 rfl rfl ?_
  refine wp_iconst (v := 4) dX7_init_104 (by decide) ?_
  refine wp_icmp_ge (tgt := 127) dX7_init_105 (by decide) (fun zq105 => absurd zq105 (by decide)) (fun zq105 => ?_)
  refine wp_aload_n (i := 0) dX7_init_108 rfl rfl ?_
  refine wp_getR (a2 := 34) dX7_init_109 fl_X7_27 rfl (zT_k rfl (by decide)) (by decide +kernel) ?_
  refine wp_iload_n (i := 1) dX7_init_112 rfl rfl ?_
  refine wn_new (q := 3) (s0 := 13) (n1 := 85) (kc1 := 80) (ks1 := 645) dX7_init_113 (by decide) mw_71 mw_141 mw_7 (by decide +kernel) rfl rfl rfl rfl (by decide) (by decide) rfl rfl rfl (by decide) ?_
  refine wp_dup dX7_init_116 rfl ?_
  refine wp_I0vA (K2 := 9) (N2 := 60) dX7_init_117 mw_142 mw_143 rfl rfl mi_X3_init (Nat.le_of_ble_eq_true rfl) (by decide) (by decide) (ci_84 (d + 0) ?_)
  refine wn_kc (kc1 := 89) (ks1 := 705) rfl rfl ?_
  refine wn_rst11 (j := 3) (r1 := 67) dX7_init_120 rfl (by decide) rfl (by decide) (by decide) rfl (by decide) rfl rfl (by decide) ?_
  refine wp_iinc_2_1 (v := 4) dX7_init_121 (by decide) ?_
  refine wp_goto (tgt := 103) dX7_init_124 (by decide) ?_
  refine wp_iload_n (i := 1) dX7_init_103 rfl rfl ?_
  refine wp_iconst (v := 4) dX7_init_104 (by decide) ?_
  refine wp_icmp_ge (tgt := 127) dX7_init_105 (by decide) (fun zq105 => ?_) (fun zq105 => absurd zq105 (by decide))
  exact wp_retV dX7_init_127 rfl (by decide) (by decide) hq
