/-! what the constructors make: the state told by three numbers: cells made, ints written, refs written -/
def zF (I : eI) (a j m : Nat) (v : Int32) : eI := eG I a (fun z => if j ≤ z ∧ z < m then v else I a z)
def zO (R : eR) (e : Nat × Nat × Nat) : eR := if e.2.1 < 100 then eU R e.1 e.2.1 (some e.2.2) else eG R e.1 (fun x => if x < e.2.1 - 100 then some (e.2.2 + x) else none)
/-- which places are too near, by how many were looked at -/
def tnM (w p : Nat) : Nat → Int32
  | 0 => 0
  | o + 1 => tnM w p o ||| (if apN p o ≤ w then (1 : Int32) <<< (nI o &&& 31) else 0)
theorem tnM_bt : ∀ w, w < 3 → ∀ p, p < 12 → ∀ q, q < 12 → bt (tnM w p 12) q = decide (apN p q ≤ w) := by decide +kernel
/-- what the seeker's constructor writes into its rows -/
def zQ (I : eI) : eI := fun a x => if 54 ≤ a ∧ a < 66 ∧ x < 12 then nI (wyN (a - 54) x) else if 67 ≤ a ∧ a < 70 ∧ x < 12 then tnM (a - 67) x 12 else I a x
def zH (e : Nat × Nat × Nat × Int32) (n : Nat) : Bool := if e.2.2.1 < 1000 then e.1 == n else (Nat.ble 54 n && Nat.ble n 69)
def zP (I : eI) (e : Nat × Nat × Nat × Int32) : eI := if e.2.2.1 = 0 then eU I e.1 e.2.1 e.2.2.2 else if e.2.2.1 < 1000 then zF I e.1 0 e.2.2.1 e.2.2.2 else zQ I
def TZL : List (Option (Nat × Nat)) := [none, none, none, none, some (7, 0), some (2, 0), some (9, 10), some (9, 10), some (13, 10), some (9, 10), some (9, 10), some (9, 10), some (9, 10), some (9, 10), some (9, 10), some (9, 10), some (9, 10), some (9, 10), some (9, 10), some (4, 0), some (2, 0), some (9, 10), some (9, 10), some (13, 10), some (9, 10), some (9, 10), some (9, 10), some (9, 10), some (9, 10), some (9, 10), some (9, 10), some (9, 10), some (9, 10), some (9, 10), some (11, 4), some (5, 0), some (0, 0), some (9, 10), some (9, 5), some (9, 5), some (13, 5), some (9, 5), some (9, 5), some (9, 5), some (9, 5), some (9, 5), some (9, 6), some (13, 5), some (9, 60), some (9, 60), some (9, 60), some (9, 60), some (9, 60), some (13, 12), some (9, 12), some (9, 12), some (9, 12), some (9, 12), some (9, 12), some (9, 12), some (9, 12), some (9, 12), some (9, 12), some (9, 12), some (9, 12), some (9, 12), some (13, 3), some (9, 12), some (9, 12), some (9, 12), some (1, 0), some (9, 20), some (9, 20), some (9, 10), some (9, 2), some (12, 4), some (3, 0), some (9, 3), some (0, 0), some (9, 10), some (0, 0), some (9, 10), some (9, 3), some (9, 12), some (9, 10), some (9, 8), some (3, 0), some (9, 3), some (0, 0), some (9, 10), some (0, 0), some (9, 10), some (9, 3), some (9, 12), some (9, 10), some (9, 8), some (3, 0), some (9, 3), some (0, 0), some (9, 10), some (0, 0), some (9, 10), some (9, 3), some (9, 12), some (9, 10), some (9, 8), some (3, 0), some (9, 3), some (0, 0), some (9, 10), some (0, 0), some (9, 10), some (9, 3), some (9, 12), some (9, 10), some (9, 8), some (8, 0), some (9, 10), some (9, 10), some (9, 100), some (9, 10), some (9, 10), some (9, 100), some (9, 4), some (9, 4), some (9, 4), some (10, 4), some (10, 4), some (9, 40), some (9, 40), some (9, 5), some (9, 5), some (9, 5), some (9, 20), some (9, 20), some (9, 10), some (9, 4), some (9, 4), some (9, 4), some (9, 4), some (9, 12), some (9, 4), some (9, 48), some (9, 4), some (9, 40), some (9, 32), some (9, 4), some (9, 4), some (9, 240), some (9, 60)]
def TZ (a : Nat) : Option (Nat × Nat) := TZL.getD a none
def RW : List (Nat × Nat × Nat) := [(5, 1, 6), (5, 2, 7), (8, 110, 9), (5, 3, 8), (4, 0, 5), (20, 1, 21), (20, 2, 22), (23, 110, 24), (20, 3, 23), (19, 0, 20), (4, 1, 19), (4, 2, 34), (36, 1, 37), (35, 0, 36), (35, 1, 38), (35, 2, 39), (40, 105, 41), (35, 3, 40), (35, 4, 46), (47, 105, 48), (35, 5, 47), (53, 112, 54), (35, 6, 53), (66, 103, 67), (35, 7, 66), (4, 4, 35), (70, 0, 71), (70, 1, 72), (70, 2, 73), (4, 5, 70), (4, 6, 74), (4, 7, 75), (76, 0, 77), (78, 1, 79), (76, 1, 78), (80, 1, 81), (76, 2, 80), (76, 7, 82), (76, 8, 83), (76, 10, 84), (76, 12, 85), (34, 0, 76), (86, 0, 87), (88, 1, 89), (86, 1, 88), (90, 1, 91), (86, 2, 90), (86, 7, 92), (86, 8, 93), (86, 10, 94), (86, 12, 95), (34, 1, 86), (96, 0, 97), (98, 1, 99), (96, 1, 98), (100, 1, 101), (96, 2, 100), (96, 7, 102), (96, 8, 103), (96, 10, 104), (96, 12, 105), (34, 2, 96), (106, 0, 107), (108, 1, 109), (106, 1, 108), (110, 1, 111), (106, 2, 110), (106, 7, 112), (106, 8, 113), (106, 10, 114), (106, 12, 115), (34, 3, 106), (116, 2, 117), (116, 3, 118), (116, 4, 119), (116, 6, 120), (116, 7, 121), (116, 8, 122), (116, 10, 123), (116, 11, 124), (116, 12, 125), (116, 13, 126), (116, 14, 127), (116, 15, 128), (116, 16, 129), (116, 18, 130), (116, 19, 131), (116, 20, 132), (116, 23, 133), (116, 24, 134), (116, 25, 135), (116, 28, 136), (116, 29, 137), (116, 30, 138), (116, 31, 139), (116, 32, 140), (116, 33, 141), (116, 34, 142), (116, 35, 143), (116, 36, 144), (116, 37, 145), (116, 38, 146), (116, 39, 147), (116, 40, 148), (116, 41, 149)]
def IW : List (Nat × Nat × Nat × Int32) := [(35, 10, 0, 1048576), (0, 0, 1000, 0), (74, 0, 0, 5), (74, 1, 0, 10), (76, 4, 0, -9), (77, 1, 0, 4095), (77, 2, 0, 10), (85, 0, 8, -1), (86, 4, 0, -9), (87, 1, 0, 4095), (87, 2, 0, 10), (95, 0, 8, -1), (96, 4, 0, -9), (97, 1, 0, 4095), (97, 2, 0, 10), (105, 0, 8, -1), (106, 4, 0, -9), (107, 1, 0, 4095), (107, 2, 0, 10), (115, 0, 8, -1), (116, 26, 0, 5), (116, 27, 0, 10), (124, 0, 4, 4095), (125, 0, 4, 10), (136, 0, 4, -9), (128, 0, 40, -9), (129, 0, 40, -9), (145, 0, 32, -9), (146, 0, 4, -1)]
def zR : Nat → eR
  | 0 => fun _ _ => none
  | k + 1 => zO (zR k) (RW.getD k (0, 0, 0))
def zM : Nat → Nat → Bool
  | 0, _ => true
  | k + 1, n => zM k n && ((RW.getD k (0, 0, 0)).1 != n)
def zB (L : Nat) (xs : Nat → Int32) (n : Nat) : eI := fun a => if a < 4 then I_0 L xs a else if a < n then fun _ => 0 else xs
def zI (L : Nat) (xs : Nat → Int32) (n : Nat) : Nat → eI
  | 0 => zB L xs n
  | k + 1 => zP (zI L xs n k) (IW.getD k (0, 0, 0, 0))
def zV : Nat → eI
  | 0 => fun _ _ => 0
  | k + 1 => zP (zV k) (IW.getD k (0, 0, 0, 0))
def zN : Nat → Nat → Bool
  | 0, _ => true
  | k + 1, n => zN k n && !(zH (IW.getD k (0, 0, 0, 0)) n)
def zT (L n : Nat) : eT := fun a => if a < n then (match TZ a with | some v => v | none => t_0 L a) else t_0 L a
theorem zT_at {L n a : Nat} {v : Nat × Nat} (h : TZ a = some v) (ha : a < n) : zT L n a = v := by
  unfold zT
  rw [if_pos ha, h]
theorem zT_k {L n a q l : Nat} (h : TZ a = some (q, l)) (ha : a < n) : (zT L n a).1 = q := by rw [zT_at h ha]
theorem zT_z {L n a : Nat} (h : TZ a = none) : zT L n a = t_0 L a := by
  unfold zT
  rw [h]
  exact ite_self _
theorem zT_4 {L : Nat} : zT L 4 = t_0 L := by
  funext a
  unfold zT
  match a with
  | 0 => rfl
  | 1 => rfl
  | 2 => rfl
  | 3 => rfl
  | a + 4 => exact if_neg (by omega)
theorem zT_new {L n : Nat} {v : Nat × Nat} (h : TZ n = some v) : eG (zT L n) n v = zT L (n + 1) := by
  funext a
  by_cases g : a = n
  · subst g
    rw [eG_eq, zT_at h (by omega)]
  · rw [eG_ne g]
    unfold zT
    by_cases g2 : a < n
    · rw [if_pos g2, if_pos (by omega)]
    · rw [if_neg g2, if_neg (by omega)]
theorem zO_ne {R : eR} {e : Nat × Nat × Nat} {x : Nat} (h : x ≠ e.1) : zO R e x = R x := by
  unfold zO
  split
  · exact eU_ne h
  · exact eG_ne h
theorem zQ_ne {I : eI} {x : Nat} (h : x < 54 ∨ 69 < x) : zQ I x = I x := by
  funext y
  unfold zQ
  rw [if_neg (by omega), if_neg (by omega)]
theorem zP_ne {I : eI} {e : Nat × Nat × Nat × Int32} {x : Nat} (h : zH e x = false) : zP I e x = I x := by
  unfold zH at h
  unfold zP zF
  by_cases g : e.2.2.1 < 1000
  · rw [if_pos g] at h
    have hx : x ≠ e.1 := fun q => by
      rw [q] at h
      simp at h
    split
    · exact eU_ne hx
    · first | exact eG_ne hx | (rw [if_pos g]; exact eG_ne hx)
  · rw [if_neg g] at h
    rw [if_neg (by omega), if_neg g]
    refine zQ_ne ?_
    rcases Nat.lt_or_ge x 54 with q | q
    · exact Or.inl q
    · rcases Nat.lt_or_ge 69 x with q2 | q2
      · exact Or.inr q2
      · rw [Nat.ble_eq_true_of_le q, Nat.ble_eq_true_of_le q2] at h
        cases h
theorem and_s {a b : Bool} (h : (a && b) = true) : a = true ∧ b = true := by
  cases a <;> cases b <;> first | exact ⟨rfl, rfl⟩ | cases h
theorem bne_s {a b : Nat} (h : (a != b) = true) : b ≠ a := by
  intro e
  subst e
  simp at h
theorem zR_no {n : Nat} : ∀ k, zM k n = true → zR k n = fun _ => none
  | 0, _ => rfl
  | k + 1, h => by
    obtain ⟨h1, h2⟩ := and_s h
    show zO (zR k) (RW.getD k (0, 0, 0)) n = _
    rw [zO_ne (bne_s h2), zR_no k h1]
theorem zR_new {n k : Nat} (h : zM k n = true) : eG (zR k) n (fun _ => none) = zR k := by
  funext x
  by_cases g : x = n
  · subst g
    rw [eG_eq, zR_no k h]
  · rw [eG_ne g]
theorem zR_put {k a f b : Nat} (h : RW.getD k (0, 0, 0) = (a, f, b)) (hf : f < 100) : eU (zR k) a f (some b) = zR (k + 1) := by
  show _ = zO (zR k) (RW.getD k (0, 0, 0))
  rw [h]
  exact (if_pos hf).symm
theorem zR_row {k a m b : Nat} (h : RW.getD k (0, 0, 0) = (a, m + 100, b)) : eG (zR k) a (fun x => if x < m then some (b + x) else none) = zR (k + 1) := by
  show _ = zO (zR k) (RW.getD k (0, 0, 0))
  rw [h]
  show _ = if m + 100 < 100 then _ else _
  rw [if_neg (by omega)]
  show _ = eG (zR k) a (fun x => if x < m + 100 - 100 then some (b + x) else none)
  rw [Nat.add_sub_cancel]
theorem zI_4 {L : Nat} {xs : Nat → Int32} : zI L xs 4 0 = I_0 L xs := by
  funext a
  show zB L xs 4 a = _
  unfold zB
  match a with
  | 0 => rfl
  | 1 => rfl
  | 2 => rfl
  | 3 => rfl
  | a + 4 => rw [if_neg (by omega), if_neg (by omega)]; rfl
theorem zP_cg {I J : eI} {e : Nat × Nat × Nat × Int32} {x : Nat} (h : I x = J x) : zP I e x = zP J e x := by
  unfold zP
  split
  · funext y
    unfold eU
    rw [h]
  · split
    · unfold zF
      by_cases g : x = e.1
      · subst g
        rw [eG_eq, eG_eq, h]
      · rw [eG_ne g, eG_ne g, h]
    · funext y
      unfold zQ
      rw [h]
theorem not_s {a : Bool} (h : (!a) = true) : a = false := by cases a <;> first | rfl | cases h
theorem zI_v {L : Nat} {xs : Nat → Int32} {n a : Nat} (h4 : 4 ≤ a) (hn : a < n) : ∀ k, zI L xs n k a = zV k a
  | 0 => by
    show zB L xs n a = _
    unfold zB
    rw [if_neg (by omega), if_pos hn]
    rfl
  | k + 1 => zP_cg (zI_v h4 hn k)
theorem zI_lo {L : Nat} {xs : Nat → Int32} {n a : Nat} (h4 : a < 4) : ∀ k, zN k a = true → zI L xs n k a = I_0 L xs a
  | 0, _ => by
    show zB L xs n a = _
    unfold zB
    rw [if_pos h4]
  | k + 1, h => by
    obtain ⟨h1, h2⟩ := and_s h
    show zP (zI L xs n k) (IW.getD k (0, 0, 0, 0)) a = _
    rw [zP_ne (not_s h2), zI_lo h4 k h1]
theorem zI_eq {L : Nat} {xs : Nat → Int32} {n : Nat} (x : Nat) (h : x ≠ n) : ∀ k, zI L xs n k x = zI L xs (n + 1) k x
  | 0 => by
    show zB L xs n x = zB L xs (n + 1) x
    unfold zB
    by_cases g : x < 4
    · rw [if_pos g, if_pos g]
    · rw [if_neg g, if_neg g]
      by_cases g2 : x < n
      · rw [if_pos g2, if_pos (by omega)]
      · rw [if_neg g2, if_neg (by omega)]
  | k + 1 => zP_cg (zI_eq x h k)
theorem zV_no {n : Nat} : ∀ k, zN k n = true → zV k n = fun _ => 0
  | 0, _ => rfl
  | k + 1, h => by
    obtain ⟨h1, h2⟩ := and_s h
    show zP (zV k) (IW.getD k (0, 0, 0, 0)) n = _
    rw [zP_ne (not_s h2), zV_no k h1]
theorem zI_new {L : Nat} {xs : Nat → Int32} {n k : Nat} (h : zN k n = true) (h4 : 4 ≤ n) : eG (zI L xs n k) n (fun _ => 0) = zI L xs (n + 1) k := by
  funext x
  by_cases g : x = n
  · subst g
    rw [eG_eq, zI_v h4 (by omega), zV_no k h]
  · rw [eG_ne g, zI_eq x g]
theorem zI_put {L : Nat} {xs : Nat → Int32} {n k a f : Nat} {v : Int32} (h : IW.getD k (0, 0, 0, 0) = (a, f, 0, v)) : eU (zI L xs n k) a f v = zI L xs n (k + 1) := by
  show _ = zP (zI L xs n k) (IW.getD k (0, 0, 0, 0))
  rw [h]
  rfl
theorem zI_fil {L : Nat} {xs : Nat → Int32} {n k a m : Nat} {v : Int32} (h : IW.getD k (0, 0, 0, 0) = (a, 0, m + 1, v)) (hm : m < 999) : zF (zI L xs n k) a 0 (m + 1) v = zI L xs n (k + 1) := by
  show _ = zP (zI L xs n k) (IW.getD k (0, 0, 0, 0))
  rw [h]
  show _ = if m + 1 = 0 then _ else if m + 1 < 1000 then _ else _
  rw [if_neg (by omega), if_pos (by omega)]
theorem zI_Q {L : Nat} {xs : Nat → Int32} {n k : Nat} (h : IW.getD k (0, 0, 0, 0) = (0, 0, 1000, 0)) : zQ (zI L xs n k) = zI L xs n (k + 1) := by
  show _ = zP (zI L xs n k) (IW.getD k (0, 0, 0, 0))
  rw [h]
  rfl
theorem zF_0 {I : eI} {a m : Nat} {v : Int32} : eG I a (fun x => if x < m then v else I a x) = zF I a 0 m v := by
  unfold zF
  congr 1
  funext z
  by_cases g : z < m
  · rw [if_pos g, if_pos ⟨Nat.zero_le _, g⟩]
  · rw [if_neg g, if_neg (fun q => g q.2)]
theorem eU_same {I : eI} {a f : Nat} {v : Int32} (h : I a f = v) : eU I a f v = I := by
  funext x y
  unfold eU
  split
  · rename_i g
    rw [g.1, g.2, h]
  · rfl
theorem zI_zero {L : Nat} {xs : Nat → Int32} {n k a f : Nat} (h4 : 4 ≤ a) (hn : a < n) (h : zV k a f = 0) : eU (zI L xs n k) a f 0 = zI L xs n k := eU_same (by rw [zI_v h4 hn, h])
theorem zT_rows {L n m : Nat} : ∀ i, (∀ x, x < i → TZ (n + x) = some (9, m)) → gT (zT L n) n (9, m) i = zT L (n + i)
  | 0, _ => rfl
  | i + 1, h => by
    show eG (gT (zT L n) n (9, m) i) (n + i) (9, m) = zT L (n + i + 1)
    rw [zT_rows i (fun x hx => h x (by omega)), zT_new (h i (by omega))]
theorem zI_rows {L : Nat} {xs : Nat → Int32} {n k : Nat} (h4 : 4 ≤ n) : ∀ i, (∀ x, x < i → zN k (n + x) = true) → gT (zI L xs n k) n (fun _ => 0) i = zI L xs (n + i) k
  | 0, _ => rfl
  | i + 1, h => by
    show eG (gT (zI L xs n k) n (fun _ => 0) i) (n + i) (fun _ => 0) = zI L xs (n + i + 1) k
    rw [zI_rows h4 i (fun x hx => h x (by omega)), zI_new (h i (by omega)) (by omega)]
theorem zR_rows {n k : Nat} : ∀ i, (∀ x, x < i → zM k (n + x) = true) → gT (zR k) n (fun _ => none) i = zR k
  | 0, _ => rfl
  | i + 1, h => by
    show eG (gT (zR k) n (fun _ => none) i) (n + i) (fun _ => none) = zR k
    rw [zR_rows i (fun x hx => h x (by omega)), zR_new (h i (by omega))]
theorem zF_step {I : eI} {a j m : Nat} {v : Int32} (h : j < m) : zF (eU I a j v) a (j + 1) m v = zF I a j m v := by
  funext x y
  unfold zF
  by_cases hx : x = a
  · subst hx
    rw [eG_eq, eG_eq]
    show (if j + 1 ≤ y ∧ y < m then _ else _) = if j ≤ y ∧ y < m then _ else _
    by_cases h1 : y = j
    · subst h1
      rw [if_neg (by omega), if_pos (by omega), eU_at]
    · by_cases h2 : j + 1 ≤ y ∧ y < m
      · rw [if_pos h2, if_pos (by omega)]
      · rw [if_neg h2, if_neg (by omega), eU_c h1]
  · rw [eG_ne hx, eG_ne hx, eU_ne hx]
theorem zF_end {I : eI} {a m : Nat} {v : Int32} : zF I a m m v = I := by
  funext x y
  unfold zF
  by_cases hx : x = a
  · subst hx
    rw [eG_eq]
    exact if_neg (by omega)
  · rw [eG_ne hx]
theorem zF_cm {I : eI} {a b j m k : Nat} {v w : Int32} (h : b ≠ a) : zF (eU I b k w) a j m v = eU (zF I a j m v) b k w := by
  funext x y
  unfold zF
  by_cases hx : x = a
  · subst hx
    rw [eG_eq, eU_ne (fun e => h e.symm), eU_ne (fun e => h e.symm), eG_eq]
  · rw [eG_ne hx]
    unfold eU
    split
    · rfl
    · rw [eG_ne hx]
section WN
variable {y : MethodName} {cc : ByteArray} {nL : Nat} {ret : Option FieldType} {d K N : Nat} {Q : eQt} {kc ks pc kc1 ks1 : Nat} {L S : List Value} {n n1 k k1 r r1 : Nat} {L0 : Nat} {xs : Nat → Int32}
theorem wn_new {idx q s0 : Nat} (hd : decode cc pc = .ok (.new idx, 3)) (hq : q < 9) (h1 : Cond.classLink y.cls idx (eCl q).1 ∈ lw_w) (h2 : Cond.instantiable (eCl q).1 (eCl q).2.2 ∈ lw_w) (h3 : Cond.initialized (eCl q).1 ∈ lw_w) (hdv : ∀ j, j < (eCl q).2.2 → defaultValue (eTy q j) = if eint q j = true then .int 0 else .null) (hs0 : (eCl q).2.2 = s0) (en : n + 1 = n1) (ekc : kc + 1 = kc1) (eks : ks + s0 = ks1) (hk : kc1 ≤ K) (hk2 : ks1 ≤ N) (g0 : TZ n = some (q, 0)) (g1 : zN k n = true) (g2 : zM r n = true) (g4 : 4 ≤ n) (kk : wp y cc nL ret d K N Q kc1 ks1 (pc + 3) L (.ref n :: S) n1 (zT L0 n1) (zI L0 xs n1 k) (zR r)) : wp y cc nL ret d K N Q kc ks pc L S n (zT L0 n) (zI L0 xs n k) (zR r) := by
  subst en; subst ekc; subst hs0; subst eks
  refine wp_new hd hq h1 h2 h3 hk hk2 hdv ?_
  rw [zT_new g0, zI_new g1 g4, zR_new g2]
  exact kk
theorem wn_I {i : Int32} {M : Nat} (hd : decode cc pc = .ok (.newarray .int, 2)) (hi : ¬ i < 0) (hM : i.toNatClampNeg = M) (hM2 : M ≤ 1000000) (en : n + 1 = n1) (ekc : kc + 1 = kc1) (eks : ks + M = ks1) (hk : kc1 ≤ K) (hk2 : ks1 ≤ N) (g0 : TZ n = some (9, M)) (g1 : zN k n = true) (g2 : zM r n = true) (g4 : 4 ≤ n) (kk : wp y cc nL ret d K N Q kc1 ks1 (pc + 2) L (.ref n :: S) n1 (zT L0 n1) (zI L0 xs n1 k) (zR r)) : wp y cc nL ret d K N Q kc ks pc L (.int i :: S) n (zT L0 n) (zI L0 xs n k) (zR r) := by
  subst en; subst ekc; subst eks
  refine wp_newI hd mw_51 hi hM hM2 hk hk2 ?_
  rw [zT_new g0, zI_new g1 g4, zR_new g2]
  exact kk
theorem wn_Z {i : Int32} {M : Nat} (hd : decode cc pc = .ok (.newarray .boolean, 2)) (hi : ¬ i < 0) (hM : i.toNatClampNeg = M) (hM2 : M ≤ 1000000) (en : n + 1 = n1) (ekc : kc + 1 = kc1) (eks : ks + M = ks1) (hk : kc1 ≤ K) (hk2 : ks1 ≤ N) (g0 : TZ n = some (10, M)) (g1 : zN k n = true) (g2 : zM r n = true) (g4 : 4 ≤ n) (kk : wp y cc nL ret d K N Q kc1 ks1 (pc + 2) L (.ref n :: S) n1 (zT L0 n1) (zI L0 xs n1 k) (zR r)) : wp y cc nL ret d K N Q kc ks pc L (.int i :: S) n (zT L0 n) (zI L0 xs n k) (zR r) := by
  subst en; subst ekc; subst eks
  refine wp_newZ hd mw_878 hi hM hM2 hk hk2 ?_
  rw [zT_new g0, zI_new g1 g4, zR_new g2]
  exact kk
theorem wn_11 {idx : Nat} {i : Int32} {M : Nat} (hd : decode cc pc = .ok (.anewarray idx, 3)) (hl1 : Cond.classLink y.cls idx RX3 ∈ lw_w) (hi : ¬ i < 0) (hM : i.toNatClampNeg = M) (hM2 : M ≤ 1000000) (en : n + 1 = n1) (ekc : kc + 1 = kc1) (eks : ks + M = ks1) (hk : kc1 ≤ K) (hk2 : ks1 ≤ N) (g0 : TZ n = some (11, M)) (g1 : zN k n = true) (g2 : zM r n = true) (g4 : 4 ≤ n) (kk : wp y cc nL ret d K N Q kc1 ks1 (pc + 3) L (.ref n :: S) n1 (zT L0 n1) (zI L0 xs n1 k) (zR r)) : wp y cc nL ret d K N Q kc ks pc L (.int i :: S) n (zT L0 n) (zI L0 xs n k) (zR r) := by
  subst en; subst ekc; subst eks
  refine wp_anew11 hd hl1 mw_72 hi hM hM2 hk hk2 ?_
  rw [zT_new g0, zI_new g1 g4, zR_new g2]
  exact kk
theorem wn_12 {idx : Nat} {i : Int32} {M : Nat} (hd : decode cc pc = .ok (.anewarray idx, 3)) (hl1 : Cond.classLink y.cls idx RX6 ∈ lw_w) (hi : ¬ i < 0) (hM : i.toNatClampNeg = M) (hM2 : M ≤ 1000000) (en : n + 1 = n1) (ekc : kc + 1 = kc1) (eks : ks + M = ks1) (hk : kc1 ≤ K) (hk2 : ks1 ≤ N) (g0 : TZ n = some (12, M)) (g1 : zN k n = true) (g2 : zM r n = true) (g4 : 4 ≤ n) (kk : wp y cc nL ret d K N Q kc1 ks1 (pc + 3) L (.ref n :: S) n1 (zT L0 n1) (zI L0 xs n1 k) (zR r)) : wp y cc nL ret d K N Q kc ks pc L (.int i :: S) n (zT L0 n) (zI L0 xs n k) (zR r) := by
  subst en; subst ekc; subst eks
  refine wp_anew12 hd hl1 mw_167 hi hM hM2 hk hk2 ?_
  rw [zT_new g0, zI_new g1 g4, zR_new g2]
  exact kk
theorem wn_mna {idx : Nat} {i j : Int32} {N1 M1 : Nat} (hd : decode cc pc = .ok (.multianewarray idx 2, 4)) (hl1 : Cond.classLink y.cls idx "[[I" ∈ lw_w) (hi : ¬ i < 0) (hj : ¬ j < 0) (hM : i.toNatClampNeg = N1) (hM2 : j.toNatClampNeg = M1) (hb1 : N1 ≤ 1000) (hb2 : M1 ≤ 1000) (en : n + 1 + N1 = n1) (ekc : kc + (1 + N1) = kc1) (eks : ks + (N1 + N1 * M1) = ks1) (hk : kc1 ≤ K) (hk2 : ks1 ≤ N) (g0 : TZ n = some (13, N1)) (g1 : zN k n = true) (g4 : 4 ≤ n) (f0 : ∀ x, x < N1 → TZ (n + 1 + x) = some (9, M1)) (f1 : ∀ x, x < N1 → zN k (n + 1 + x) = true) (er : r + 1 = r1) (g2 : RW.getD r (0, 0, 0) = (n, N1 + 100, n + 1)) (f2 : ∀ x, x < N1 → zM r1 (n + 1 + x) = true) (kk : wp y cc nL ret d K N Q kc1 ks1 (pc + 4) L (.ref n :: S) n1 (zT L0 n1) (zI L0 xs n1 k) (zR r1)) : wp y cc nL ret d K N Q kc ks pc L (.int j :: .int i :: S) n (zT L0 n) (zI L0 xs n k) (zR r) := by
  subst en; subst ekc; subst eks; subst er
  refine wp_mna hd hl1 mw_29 mw_51 hi hj hM hM2 hb1 hb2 hk hk2 ?_
  rw [zT_new g0, zI_new g1 g4, zR_row g2, zT_rows N1 f0, zI_rows (by omega) N1 f1, zR_rows N1 f2]
  exact kk
theorem wn_putI0 {idx q f a : Nat} (hd : decode cc pc = .ok (.putfield idx, 3)) (hf : eFl y.cls idx q f) (hi : eint q f = true) (hfin : ((eCl q).2.1 f).2.2.2 = false ∨ (((eCl q).2.1 f).2.2.2 = true ∧ y.name = "<init>" ∧ ((eCl q).2.1 f).1 = y.cls)) (ht : TZ a = some (q, 0)) (ha4 : 4 ≤ a) (ha : a < n) (hz : zV k a f = 0) (kk : wp y cc nL ret d K N Q kc ks (pc + 3) L S n (zT L0 n) (zI L0 xs n k) (zR r)) : wp y cc nL ret d K N Q kc ks pc L (.int 0 :: .ref a :: S) n (zT L0 n) (zI L0 xs n k) (zR r) := by
  refine wp_putI hd hf hi hfin (zT_k ht ha) ?_
  rw [zI_zero ha4 ha hz]
  exact kk
theorem wn_putI {idx q f a : Nat} {v : Int32} (hd : decode cc pc = .ok (.putfield idx, 3)) (hf : eFl y.cls idx q f) (hi : eint q f = true) (hfin : ((eCl q).2.1 f).2.2.2 = false ∨ (((eCl q).2.1 f).2.2.2 = true ∧ y.name = "<init>" ∧ ((eCl q).2.1 f).1 = y.cls)) (ht : TZ a = some (q, 0)) (ha : a < n) (ek : k + 1 = k1) (hz : IW.getD k (0, 0, 0, 0) = (a, f, 0, v)) (kk : wp y cc nL ret d K N Q kc ks (pc + 3) L S n (zT L0 n) (zI L0 xs n k1) (zR r)) : wp y cc nL ret d K N Q kc ks pc L (.int v :: .ref a :: S) n (zT L0 n) (zI L0 xs n k) (zR r) := by
  subst ek
  refine wp_putI hd hf hi hfin (zT_k ht ha) ?_
  rw [zI_put hz]
  exact kk
theorem wn_putR {idx q f a a2 : Nat} (hd : decode cc pc = .ok (.putfield idx, 3)) (hf : eFl y.cls idx q f) (hi : eref q f = true) (hfin : ((eCl q).2.1 f).2.2.2 = false ∨ (((eCl q).2.1 f).2.2.2 = true ∧ y.name = "<init>" ∧ ((eCl q).2.1 f).1 = y.cls)) (ht : TZ a = some (q, 0)) (ha : a < n) (er : r + 1 = r1) (hz : RW.getD r (0, 0, 0) = (a, f, a2)) (hf1 : f < 100) (kk : wp y cc nL ret d K N Q kc ks (pc + 3) L S n (zT L0 n) (zI L0 xs n k) (zR r1)) : wp y cc nL ret d K N Q kc ks pc L (.ref a2 :: .ref a :: S) n (zT L0 n) (zI L0 xs n k) (zR r) := by
  subst er
  refine wp_putR hd hf hi hfin (zT_k ht ha) ?_
  rw [zR_put hz hf1]
  exact kk
theorem wn_ist {a j len : Nat} {i v : Int32} (hd : decode cc pc = .ok (.iastore, 1)) (ht : TZ a = some (9, len)) (ha : a < n) (hj : i = nI j) (hlt : j < len) (hb : len < 2 ^ 31) (ek : k + 1 = k1) (hz : IW.getD k (0, 0, 0, 0) = (a, j, 0, v)) (kk : wp y cc nL ret d K N Q kc ks (pc + 1) L S n (zT L0 n) (zI L0 xs n k1) (zR r)) : wp y cc nL ret d K N Q kc ks pc L (.int v :: .int i :: .ref a :: S) n (zT L0 n) (zI L0 xs n k) (zR r) := by
  subst ek
  refine wp_ist hd (zT_at ht ha) hj hlt ?_ hb
  rw [zI_put hz]
  exact kk
theorem wn_rst11 {a j len a2 : Nat} {i : Int32} (hd : decode cc pc = .ok (.aastore, 1)) (ht : TZ a = some (11, len)) (ha : a < n) (hj : i = nI j) (hlt : j < len) (hb : len < 2 ^ 31) (ht2 : TZ a2 = some (3, 0)) (ha2 : a2 < n) (er : r + 1 = r1) (hz : RW.getD r (0, 0, 0) = (a, j, a2)) (hf1 : j < 100) (kk : wp y cc nL ret d K N Q kc ks (pc + 1) L S n (zT L0 n) (zI L0 xs n k) (zR r1)) : wp y cc nL ret d K N Q kc ks pc L (.ref a2 :: .int i :: .ref a :: S) n (zT L0 n) (zI L0 xs n k) (zR r) := by
  subst er
  refine wp_rst11 hd (zT_at ht ha) hj hlt (zT_k ht2 ha2) ?_ hb
  rw [zR_put hz hf1]
  exact kk
end WN
theorem wn_kc {y : MethodName} {cc : ByteArray} {nL : Nat} {ret : Option FieldType} {d K N : Nat} {Q : eQt} {kc ks pc kc1 ks1 : Nat} {L S : List Value} {n : Nat} {t : eT} {I : eI} {R : eR} (e1 : kc = kc1) (e2 : ks = ks1) (kk : wp y cc nL ret d K N Q kc1 ks1 pc L S n t I R) : wp y cc nL ret d K N Q kc ks pc L S n t I R := by
  subst e1; subst e2
  exact kk
/-- where the seeker's rows stand as it is made -/
def ZS (t : eT) (R : eR) : Prop := (t 35).1 = 5 ∧ R 35 6 = some 53 ∧ R 35 7 = some 66 ∧ t 53 = (13, 12) ∧ t 66 = (13, 3) ∧ (∀ j, j < 12 → R 53 j = some (54 + j) ∧ t (54 + j) = (9, 12)) ∧ ∀ j, j < 3 → R 66 j = some (67 + j) ∧ t (67 + j) = (9, 12)
theorem lp_sk3 (d : Nat) {n : Nat} {t : eT} {R : eR} {Q : eQt} {K N kc ks : Nat} (hz : ZS t R) (hkK : kc ≤ K) (hkN : ks ≤ N) {p oz : Nat} (hp : p < 12) (hoz : oz < 12) : ∀ (r w : Nat) (I : eI), w + r = 3 → (∀ w2, w2 < w → I (67 + w2) p = tnM w2 p (oz + 1)) → (∀ w2, w ≤ w2 → w2 < 3 → I (67 + w2) p = tnM w2 p oz) → (∀ I2 : eI, (∀ w2, w2 < 3 → I2 (67 + w2) p = tnM w2 p (oz + 1)) → (∀ a x, (a < 67 ∨ 69 < a ∨ x ≠ p) → I2 a x = I a x) → wp yX5_init cX5_init 4 none (d + 2) K N Q kc ks 166 [.ref 35, .int (nI p), .int (nI oz), .int (nI 3)] [] n t I2 R) → wp yX5_init cX5_init 4 none (d + 2) K N Q kc ks 128 [.ref 35, .int (nI p), .int (nI oz), .int (nI w)] [] n t I R := by
  intro r
  induction r with
  | zero =>
    intro w I hw hd hu hq
    obtain rfl : w = 3 := by omega
    refine wp_iload_n (i := 3) dX5_init_128 rfl rfl ?_
    refine wp_iconst (v := 2) dX5_init_129 (by decide) ?_
    refine wp_icmp_gt (tgt := 166) dX5_init_130 (by decide) (fun zq130 => ?_) (fun zq130 => absurd (nI_lt (show 2 < 3 by decide) (by decide)) zq130) 
    exact hq I (fun w2 h2 => hd w2 h2) (fun _ _ _ => rfl)
  | succ r ih =>
    intro w I hw hd hu hq
    refine wp_iload_n (i := 3) dX5_init_128 rfl rfl ?_
    refine wp_iconst (v := 2) dX5_init_129 (by decide) ?_
    refine wp_icmp_gt (tgt := 166) dX5_init_130 (by decide) (fun zq130 => absurd zq130 (nI_nlt (show w ≤ 2 by omega) (by decide))) (fun zq130 => ?_) 
    refine wp_aload_n (i := 0) dX5_init_133 rfl rfl ?_
    refine wp_getR dX5_init_134 fl_X5_39 rfl hz.1 hz.2.2.1 ?_
    refine wp_iload_n (i := 3) dX5_init_137 rfl rfl ?_
    refine wp_rld13 (j := w) dX5_init_138 hz.2.2.2.2.1 rfl (by omega) (hz.2.2.2.2.2.2 w (by omega)).1 ?_
    refine wp_iload_n (i := 1) dX5_init_139 rfl rfl ?_
    refine wp_dup2 dX5_init_140 rfl rfl ?_
    refine wp_ild (j := p) dX5_init_141 (hz.2.2.2.2.2.2 w (by omega)).2 rfl (by omega) ?_
    rw [hu w (Nat.le_refl _) (by omega)]
    refine wp_iload_n (i := 1) dX5_init_142 rfl rfl ?_
    refine wp_iload_n (i := 2) dX5_init_143 rfl rfl ?_
    refine wp_S2i dX5_init_144 mw_106 mw_107 mi_X0_apart (Nat.le_of_ble_eq_true rfl) hkK hkN (c_apart _ ?_) 
    refine wp_topI (v2 := nI (apN p oz)) (ap_c p hp oz hoz) ?_
    have hap := ap_wy p hp oz hoz
    refine wp_iload_n (i := 3) dX5_init_147 rfl rfl ?_
    refine wp_icmp_gt (tgt := 157) dX5_init_148 (by decide) (fun zq148 => ?_) (fun zq148 => ?_) 
    · refine wp_iconst (v := 0) dX5_init_157 (by decide) ?_
      refine wp_ior dX5_init_158 ?_
      refine wp_ist (j := p) dX5_init_159 (hz.2.2.2.2.2.2 w (by omega)).2 rfl (by omega) ?_
      refine wp_iinc_4_3 (v := nI (w + 1)) dX5_init_160 (n_add rfl rfl) ?_
      refine wp_goto (tgt := 128) dX5_init_163 (by decide) ?_
      refine ih (w + 1) (eU I (67 + w) p (tnM w p oz ||| 0)) (by omega) (fun w2 h2 => ?_) (fun w2 h2 h3 => ?_) (fun I2 g1 g2 => hq I2 g1 (fun a x hax => (g2 a x hax).trans ?_))
      · by_cases e9 : w2 = w
        · rw [e9, eU_at]; exact (show _ = tnM w p oz ||| (if apN p oz ≤ w then _ else 0) by rw [if_neg (fun g => absurd zq148 (nI_nlt g (by omega)))])
        · rw [eU_o (by omega)]; exact hd w2 (by omega)
      · rw [eU_o (by omega)]; exact hu w2 (by omega) h3
      · by_cases e9 : a = 67 + w
        · subst e9; exact eU_c (by omega)
        · exact eU_o e9
    · refine wp_iconst (v := 1) dX5_init_151 (by decide) ?_
      refine wp_iload_n (i := 2) dX5_init_152 rfl rfl ?_
      refine wp_ishl dX5_init_153 ?_
      refine wp_goto (tgt := 158) dX5_init_154 (by decide) ?_
      refine wp_ior dX5_init_158 ?_
      refine wp_ist (j := p) dX5_init_159 (hz.2.2.2.2.2.2 w (by omega)).2 rfl (by omega) ?_
      refine wp_iinc_4_3 (v := nI (w + 1)) dX5_init_160 (n_add rfl rfl) ?_
      refine wp_goto (tgt := 128) dX5_init_163 (by decide) ?_
      refine ih (w + 1) (eU I (67 + w) p (tnM w p oz ||| (1 : Int32) <<< (nI oz &&& 31))) (by omega) (fun w2 h2 => ?_) (fun w2 h2 h3 => ?_) (fun I2 g1 g2 => hq I2 g1 (fun a x hax => (g2 a x hax).trans ?_))
      · by_cases e9 : w2 = w
        · rw [e9, eU_at]; exact (show _ = tnM w p oz ||| (if apN p oz ≤ w then _ else 0) by rw [if_pos (Nat.le_of_not_lt (fun g => zq148 (nI_lt g (by omega))))])
        · rw [eU_o (by omega)]; exact hd w2 (by omega)
      · rw [eU_o (by omega)]; exact hu w2 (by omega) h3
      · by_cases e9 : a = 67 + w
        · subst e9; exact eU_c (by omega)
        · exact eU_o e9

theorem lp_sk2 (d : Nat) {n : Nat} {t : eT} {R : eR} {Q : eQt} {K N kc ks : Nat} (hz : ZS t R) (hkK : kc ≤ K) (hkN : ks ≤ N) {p : Nat} (hp : p < 12) : ∀ (r oz : Nat) (I : eI) (x3 : Value), oz + r = 12 → sec x3 = false → (∀ q, q < oz → I (54 + p) q = nI (wyN p q)) → (∀ w2, w2 < 3 → I (67 + w2) p = tnM w2 p oz) → (∀ I2 : eI, (∀ q, q < 12 → I2 (54 + p) q = nI (wyN p q)) → (∀ w2, w2 < 3 → I2 (67 + w2) p = tnM w2 p 12) → (∀ a x, ((a ≠ 54 + p ∨ 12 ≤ x) ∧ (a < 67 ∨ 69 < a ∨ x ≠ p)) → I2 a x = I a x) → ∀ x3, sec x3 = false → wp yX5_init cX5_init 4 none (d + 2) K N Q kc ks 172 [.ref 35, .int (nI p), .int (nI 12), x3] [] n t I2 R) → wp yX5_init cX5_init 4 none (d + 2) K N Q kc ks 107 [.ref 35, .int (nI p), .int (nI oz), x3] [] n t I R := by
  intro r
  induction r with
  | zero =>
    intro oz I x3 ho hx3 f1 f2 hq
    obtain rfl : oz = 12 := by omega
    refine wp_iload_n (i := 2) dX5_init_107 rfl rfl ?_
    refine wp_bipush (v := 12) dX5_init_108 (by decide) ?_
    refine wp_icmp_ge (tgt := 172) dX5_init_110 (by decide) (fun zq110 => ?_) (fun zq110 => absurd (nI_le (show 12 ≤ 12 by decide) (by decide)) zq110) 
    exact hq I f1 f2 (fun _ _ _ => rfl) x3 hx3
  | succ r ih =>
    intro oz I x3 ho hx3 f1 f2 hq
    refine wp_iload_n (i := 2) dX5_init_107 rfl rfl ?_
    refine wp_bipush (v := 12) dX5_init_108 (by decide) ?_
    refine wp_icmp_ge (tgt := 172) dX5_init_110 (by decide) (fun zq110 => absurd zq110 (nI_ge (show oz < 12 by omega) (by decide))) (fun zq110 => ?_) 
    refine wp_aload_n (i := 0) dX5_init_113 rfl rfl ?_
    refine wp_getR dX5_init_114 fl_X5_36 rfl hz.1 hz.2.1 ?_
    refine wp_iload_n (i := 1) dX5_init_117 rfl rfl ?_
    refine wp_rld13 (j := p) dX5_init_118 hz.2.2.2.1 rfl (by omega) (hz.2.2.2.2.2.1 p hp).1 ?_
    refine wp_iload_n (i := 2) dX5_init_119 rfl rfl ?_
    refine wp_iload_n (i := 1) dX5_init_120 rfl rfl ?_
    refine wp_iload_n (i := 2) dX5_init_121 rfl rfl ?_
    refine wp_S2i dX5_init_122 mw_94 mw_95 mi_X0_wayBetween (Nat.le_of_ble_eq_true rfl) hkK hkN (c_wayBetween _ ?_) 
    refine wp_topI (v2 := nI (wyN p oz)) (wy_c p hp oz (by omega)) ?_
    refine wp_ist (j := oz) dX5_init_125 (hz.2.2.2.2.2.1 p hp).2 rfl (by omega) ?_
    refine wp_iconst (v := 0) dX5_init_126 (by decide) ?_
    refine wp_istore_4_3 dX5_init_127 (by first | rfl | assumption) ?_
    refine lp_sk3 d hz hkK hkN hp (show oz < 12 by omega) 3 0 (eU I (54 + p) oz (nI (wyN p oz))) rfl (fun w2 h => absurd h (Nat.not_lt_zero w2)) (fun w2 _ h => by rw [eU_o (by omega)]; exact f2 w2 h) (fun I2 g1 g2 => ?_)
    refine wp_iinc_4_2 (v := nI (oz + 1)) dX5_init_166 (n_add rfl rfl) ?_
    refine wp_goto (tgt := 107) dX5_init_169 (by decide) ?_
    refine ih (oz + 1) I2 _ (by omega) rfl (fun q h9 => ?_) g1 (fun I3 k1 k2 k3 => hq I3 k1 k2 (fun a x hax => ?_))
    · rw [g2 (54 + p) q (by omega)]
      by_cases e9 : q = oz
      · subst e9; rw [eU_at]
      · rw [eU_c e9]; exact f1 q (by omega)
    · rw [k3 a x hax, g2 a x hax.2]
      by_cases e9 : a = 54 + p
      · exact eU_c (by omega)
      · exact eU_o e9

theorem lp_sk1 (d : Nat) {n : Nat} {t : eT} {R : eR} {Q : eQt} {K N kc ks : Nat} (hz : ZS t R) (hkK : kc ≤ K) (hkN : ks ≤ N) : ∀ (r p : Nat) (I : eI) (x2 x3 : Value), p + r = 12 → sec x2 = false → sec x3 = false → (∀ p2 q, p2 < p → q < 12 → I (54 + p2) q = nI (wyN p2 q)) → (∀ w2 p2, w2 < 3 → p2 < p → I (67 + w2) p2 = tnM w2 p2 12) → (∀ w2 p2, w2 < 3 → p ≤ p2 → p2 < 12 → I (67 + w2) p2 = 0) → (∀ I2 : eI, (∀ p2 q, p2 < 12 → q < 12 → I2 (54 + p2) q = nI (wyN p2 q)) → (∀ w2 p2, w2 < 3 → p2 < 12 → I2 (67 + w2) p2 = tnM w2 p2 12) → (∀ a x, ((a < 54 ∨ 65 < a ∨ 12 ≤ x) ∧ (a < 67 ∨ 69 < a ∨ 12 ≤ x)) → I2 a x = I a x) → ∀ x2 x3, sec x2 = false → sec x3 = false → wp yX5_init cX5_init 4 none (d + 2) K N Q kc ks 178 [.ref 35, .int (nI 12), x2, x3] [] n t I2 R) → wp yX5_init cX5_init 4 none (d + 2) K N Q kc ks 99 [.ref 35, .int (nI p), x2, x3] [] n t I R := by
  intro r
  induction r with
  | zero =>
    intro p I x2 x3 hp hx2 hx3 f1 f2 f3 hq
    obtain rfl : p = 12 := by omega
    refine wp_iload_n (i := 1) dX5_init_99 rfl rfl ?_
    refine wp_bipush (v := 12) dX5_init_100 (by decide) ?_
    refine wp_icmp_ge (tgt := 178) dX5_init_102 (by decide) (fun zq102 => ?_) (fun zq102 => absurd (nI_le (show 12 ≤ 12 by decide) (by decide)) zq102) 
    exact hq I f1 f2 (fun _ _ _ => rfl) x2 x3 hx2 hx3
  | succ r ih =>
    intro p I x2 x3 hp hx2 hx3 f1 f2 f3 hq
    refine wp_iload_n (i := 1) dX5_init_99 rfl rfl ?_
    refine wp_bipush (v := 12) dX5_init_100 (by decide) ?_
    refine wp_icmp_ge (tgt := 178) dX5_init_102 (by decide) (fun zq102 => absurd zq102 (nI_ge (show p < 12 by omega) (by decide))) (fun zq102 => ?_) 
    refine wp_iconst (v := 0) dX5_init_105 (by decide) ?_
    refine wp_istore_4_2 dX5_init_106 (by first | rfl | assumption) ?_
    refine lp_sk2 d hz hkK hkN (show p < 12 by omega) 12 0 I _ rfl hx3 (fun q h => absurd h (Nat.not_lt_zero q)) (fun w2 h => f3 w2 p h (Nat.le_refl _) (by omega)) (fun I2 g1 g2 g3 x9 hx9 => ?_)
    refine wp_iinc_4_1 (v := nI (p + 1)) dX5_init_172 (n_add rfl rfl) ?_
    refine wp_goto (tgt := 99) dX5_init_175 (by decide) ?_
    refine ih (p + 1) I2 _ _ (by omega) rfl hx9 (fun p2 q h8 h9 => ?_) (fun w2 p2 h8 h9 => ?_) (fun w2 p2 h7 h8 h9 => ?_) (fun I3 k1 k2 k3 => hq I3 k1 k2 (fun a x hax => ?_))
    · by_cases e9 : p2 = p
      · subst e9; exact g1 q h9
      · rw [g3 (54 + p2) q ⟨Or.inl (by omega), Or.inl (by omega)⟩]; exact f1 p2 q (by omega) h9
    · by_cases e9 : p2 = p
      · subst e9; exact g2 w2 h8
      · rw [g3 (67 + w2) p2 ⟨Or.inl (by omega), Or.inr (Or.inr e9)⟩]; exact f2 w2 p2 h8 (by omega)
    · rw [g3 (67 + w2) p2 ⟨Or.inl (by omega), Or.inr (Or.inr (by omega))⟩]; exact f3 w2 p2 h7 (by omega) h9
    · rw [k3 a x hax, g3 a x ⟨by omega, by omega⟩]

theorem sk_fin {L : Nat} {xs : Nat → Int32} {k : Nat} {I2 : eI} (hw : IW.getD k (0, 0, 0, 0) = (0, 0, 1000, 0)) (f1 : ∀ p2 q, p2 < 12 → q < 12 → I2 (54 + p2) q = nI (wyN p2 q)) (f2 : ∀ w2 p2, w2 < 3 → p2 < 12 → I2 (67 + w2) p2 = tnM w2 p2 12) (f3 : ∀ a x, ((a < 54 ∨ 65 < a ∨ 12 ≤ x) ∧ (a < 67 ∨ 69 < a ∨ 12 ≤ x)) → I2 a x = zI L xs 70 k a x) : I2 = zI L xs 70 (k + 1) := by
  rw [← zI_Q hw]
  funext a x
  unfold zQ
  by_cases g : 54 ≤ a ∧ a < 66 ∧ x < 12
  · rw [if_pos g]
    have e := f1 (a - 54) x (by omega) g.2.2
    rw [show 54 + (a - 54) = a by omega] at e
    exact e
  · rw [if_neg g]
    by_cases g2 : 67 ≤ a ∧ a < 70 ∧ x < 12
    · rw [if_pos g2]
      have e := f2 (a - 67) x (by omega) g2.2.2
      rw [show 67 + (a - 67) = a by omega] at e
      exact e
    · rw [if_neg g2]
      exact f3 a x ⟨by omega, by omega⟩
theorem ci_5 (d : Nat) {L : Nat} {xs : Nat → Int32} {Q : Nat → eT → eI → eR → Prop} (hq : Q 19 (zT L 19) (zI L xs 19 0) (zR 4)) : MC yX2_init cX2_init 1 none (d + 1) 13 130 [.ref 5] 6 (zT L 6) (zI L xs 6 0) (zR 0) (qV Q) := by
  refine mc_intro (L0 := [.ref 5]) (by decide) rfl (Nat.le_of_ble_eq_true rfl) ?_
  refine wp_aload_n (i := 0) dX2_init_0 rfl rfl ?_
  refine wp_objInit dX2_init_1 mw_27 (Nat.le_of_ble_eq_true rfl) ?_
  refine wp_aload_n (i := 0) dX2_init_4 rfl rfl ?_
  refine wp_iconst (v := 0) dX2_init_5 (by decide) ?_
  refine wn_putI0 dX2_init_6 fl_X2_9 rfl (Or.inl rfl) rfl (by decide) (by decide) (by decide +kernel) ?_
  refine wp_aload_n (i := 0) dX2_init_9 rfl rfl ?_
  refine wp_bipush (v := 10) dX2_init_10 (by decide) ?_
  refine wn_I (M := 10) (n1 := 7) (kc1 := 1) (ks1 := 10) dX2_init_12 (by decide) (by decide) (by decide) rfl rfl rfl (by decide) (by decide) rfl rfl rfl (by decide) ?_
  refine wn_putR (r1 := 1) dX2_init_14 fl_X2_15 rfl (Or.inr ⟨rfl, rfl, rfl⟩) rfl (by decide) rfl rfl (by decide) ?_
  refine wp_aload_n (i := 0) dX2_init_17 rfl rfl ?_
  refine wp_bipush (v := 10) dX2_init_18 (by decide) ?_
  refine wn_I (M := 10) (n1 := 8) (kc1 := 2) (ks1 := 20) dX2_init_20 (by decide) (by decide) (by decide) rfl rfl rfl (by decide) (by decide) rfl rfl rfl (by decide) ?_
  refine wn_putR (r1 := 2) dX2_init_22 fl_X2_19 rfl (Or.inr ⟨rfl, rfl, rfl⟩) rfl (by decide) rfl rfl (by decide) ?_
  refine wp_aload_n (i := 0) dX2_init_25 rfl rfl ?_
  refine wp_bipush (v := 10) dX2_init_26 (by decide) ?_
  refine wp_bipush (v := 10) dX2_init_28 (by decide) ?_
  refine wn_mna (N1 := 10) (M1 := 10) (n1 := 19) (kc1 := 13) (ks1 := 130) (r1 := 3) dX2_init_30 mw_28 (by decide) (by decide) (by decide) (by decide) (by decide) (by decide) rfl rfl rfl (by decide) (by decide) rfl rfl (by decide) (by decide +kernel) (by decide +kernel) rfl rfl (by decide +kernel) ?_
  refine wn_putR (r1 := 4) dX2_init_34 fl_X2_24 rfl (Or.inr ⟨rfl, rfl, rfl⟩) rfl (by decide) rfl rfl (by decide) ?_
  exact wp_retV dX2_init_37 rfl (by decide) (by decide) hq
theorem ci_20 (d : Nat) {L : Nat} {xs : Nat → Int32} {Q : Nat → eT → eI → eR → Prop} (hq : Q 34 (zT L 34) (zI L xs 34 0) (zR 9)) : MC yX2_init cX2_init 1 none (d + 1) 13 130 [.ref 20] 21 (zT L 21) (zI L xs 21 0) (zR 5) (qV Q) := by
  refine mc_intro (L0 := [.ref 20]) (by decide) rfl (Nat.le_of_ble_eq_true rfl) ?_
  refine wp_aload_n (i := 0) dX2_init_0 rfl rfl ?_
  refine wp_objInit dX2_init_1 mw_27 (Nat.le_of_ble_eq_true rfl) ?_
  refine wp_aload_n (i := 0) dX2_init_4 rfl rfl ?_
  refine wp_iconst (v := 0) dX2_init_5 (by decide) ?_
  refine wn_putI0 dX2_init_6 fl_X2_9 rfl (Or.inl rfl) rfl (by decide) (by decide) (by decide +kernel) ?_
  refine wp_aload_n (i := 0) dX2_init_9 rfl rfl ?_
  refine wp_bipush (v := 10) dX2_init_10 (by decide) ?_
  refine wn_I (M := 10) (n1 := 22) (kc1 := 1) (ks1 := 10) dX2_init_12 (by decide) (by decide) (by decide) rfl rfl rfl (by decide) (by decide) rfl rfl rfl (by decide) ?_
  refine wn_putR (r1 := 6) dX2_init_14 fl_X2_15 rfl (Or.inr ⟨rfl, rfl, rfl⟩) rfl (by decide) rfl rfl (by decide) ?_
  refine wp_aload_n (i := 0) dX2_init_17 rfl rfl ?_
  refine wp_bipush (v := 10) dX2_init_18 (by decide) ?_
  refine wn_I (M := 10) (n1 := 23) (kc1 := 2) (ks1 := 20) dX2_init_20 (by decide) (by decide) (by decide) rfl rfl rfl (by decide) (by decide) rfl rfl rfl (by decide) ?_
  refine wn_putR (r1 := 7) dX2_init_22 fl_X2_19 rfl (Or.inr ⟨rfl, rfl, rfl⟩) rfl (by decide) rfl rfl (by decide) ?_
  refine wp_aload_n (i := 0) dX2_init_25 rfl rfl ?_
  refine wp_bipush (v := 10) dX2_init_26 (by decide) ?_
  refine wp_bipush (v := 10) dX2_init_28 (by decide) ?_
  refine wn_mna (N1 := 10) (M1 := 10) (n1 := 34) (kc1 := 13) (ks1 := 130) (r1 := 8) dX2_init_30 mw_28 (by decide) (by decide) (by decide) (by decide) (by decide) (by decide) rfl rfl rfl (by decide) (by decide) rfl rfl (by decide) (by decide +kernel) (by decide +kernel) rfl rfl (by decide +kernel) ?_
  refine wn_putR (r1 := 9) dX2_init_34 fl_X2_24 rfl (Or.inr ⟨rfl, rfl, rfl⟩) rfl (by decide) rfl rfl (by decide) ?_
  exact wp_retV dX2_init_37 rfl (by decide) (by decide) hq
theorem ci_19 (d : Nat) {L : Nat} {xs : Nat → Int32} {Q : Nat → eT → eI → eR → Prop} (hq : Q 34 (zT L 34) (zI L xs 34 0) (zR 10)) : MC yX4_init cX4_init 1 none (d + 2) 14 134 [.ref 19] 20 (zT L 20) (zI L xs 20 0) (zR 5) (qV Q) := by
  refine mc_intro (L0 := [.ref 19]) (by decide) rfl (Nat.le_of_ble_eq_true rfl) ?_
  refine wp_aload_n (i := 0) dX4_init_0 rfl rfl ?_
  refine wp_objInit dX4_init_1 mw_57 (Nat.le_of_ble_eq_true rfl) ?_
  refine wp_aload_n (i := 0) dX4_init_4 rfl rfl ?_
  refine wn_new (q := 2) (s0 := 4) (n1 := 21) (kc1 := 1) (ks1 := 4) dX4_init_5 (by decide) mw_58 mw_23 mw_2 (by decide +kernel) rfl rfl rfl rfl (by decide) (by decide) rfl rfl rfl (by decide) ?_
  refine wp_dup dX4_init_8 rfl ?_
  refine wp_IN0vA (K2 := 13) (N2 := 130) dX4_init_9 mw_59 mw_25 rfl rfl mi_X2_init (Nat.le_of_ble_eq_true rfl) (by decide) (by decide) (ci_20 (d + 0) ?_)
  refine wn_kc (kc1 := 14) (ks1 := 134) rfl rfl ?_
  refine wn_putR (r1 := 10) dX4_init_12 fl_X4_12 rfl (Or.inr ⟨rfl, rfl, rfl⟩) rfl (by decide) rfl rfl (by decide) ?_
  refine wp_aload_n (i := 0) dX4_init_15 rfl rfl ?_
  refine wp_iconst (v := 0) dX4_init_16 (by decide) ?_
  refine wn_putI0 dX4_init_17 fl_X4_18 rfl (Or.inl rfl) rfl (by decide) (by decide) (by decide +kernel) ?_
  refine wp_aload_n (i := 0) dX4_init_20 rfl rfl ?_
  refine wp_iconst (v := 0) dX4_init_21 (by decide) ?_
  refine wn_putI0 dX4_init_22 fl_X4_22 rfl (Or.inl rfl) rfl (by decide) (by decide) (by decide +kernel) ?_
  exact wp_retV dX4_init_25 rfl (by decide) (by decide) hq
theorem ci_36 (d : Nat) {L : Nat} {xs : Nat → Int32} {Q : Nat → eT → eI → eR → Prop} (hq : Q 38 (zT L 38) (zI L xs 38 0) (zR 13)) : MC yX0_init cX0_init 1 none (d + 1) 1 10 [.ref 36] 37 (zT L 37) (zI L xs 37 0) (zR 12) (qV Q) := by
  refine mc_intro (L0 := [.ref 36]) (by decide) rfl (Nat.le_of_ble_eq_true rfl) ?_
  refine wp_aload_n (i := 0) dX0_init_0 rfl rfl ?_
  refine wp_objInit dX0_init_1 mw_84 (Nat.le_of_ble_eq_true rfl) ?_
  refine wp_aload_n (i := 0) dX0_init_4 rfl rfl ?_
  refine wp_iconst (v := 0) dX0_init_5 (by decide) ?_
  refine wn_putI0 dX0_init_6 fl_X0_9 rfl (Or.inl rfl) rfl (by decide) (by decide) (by decide +kernel) ?_
  refine wp_aload_n (i := 0) dX0_init_9 rfl rfl ?_
  refine wp_bipush (v := 10) dX0_init_10 (by decide) ?_
  refine wn_I (M := 10) (n1 := 38) (kc1 := 1) (ks1 := 10) dX0_init_12 (by decide) (by decide) (by decide) rfl rfl rfl (by decide) (by decide) rfl rfl rfl (by decide) ?_
  refine wn_putR (r1 := 13) dX0_init_14 fl_X0_15 rfl (Or.inr ⟨rfl, rfl, rfl⟩) rfl (by decide) rfl rfl (by decide) ?_
  exact wp_retV dX0_init_17 rfl (by decide) (by decide) hq
theorem ci_35 (d : Nat) {L : Nat} {xs : Nat → Int32} {Q : Nat → eT → eI → eR → Prop} (hq : Q 70 (zT L 70) (zI L xs 70 2) (zR 25)) : MC yX5_init cX5_init 4 none (d + 2) 34 558 [.ref 35] 36 (zT L 36) (zI L xs 36 0) (zR 12) (qV Q) := by
  refine mc_intro (L0 := [.ref 35, vU, vU, vU]) (by decide) rfl (Nat.le_of_ble_eq_true rfl) ?_
  refine wp_aload_n (i := 0) dX5_init_0 rfl rfl ?_
  refine wp_objInit dX5_init_1 mw_78 (Nat.le_of_ble_eq_true rfl) ?_
  refine wp_aload_n (i := 0) dX5_init_4 rfl rfl ?_
  refine wn_new (q := 0) (s0 := 2) (n1 := 37) (kc1 := 1) (ks1 := 2) dX5_init_5 (by decide) mw_79 mw_80 mw_5 (by decide +kernel) rfl rfl rfl rfl (by decide) (by decide) rfl rfl rfl (by decide) ?_
  refine wp_dup dX5_init_8 rfl ?_
  refine wp_IN0vA (K2 := 1) (N2 := 10) dX5_init_9 mw_81 mw_82 rfl rfl mi_X0_init (Nat.le_of_ble_eq_true rfl) (by decide) (by decide) (ci_36 (d + 0) ?_)
  refine wn_kc (kc1 := 2) (ks1 := 12) rfl rfl ?_
  refine wn_putR (r1 := 14) dX5_init_12 fl_X5_12 rfl (Or.inr ⟨rfl, rfl, rfl⟩) rfl (by decide) rfl rfl (by decide) ?_
  refine wp_aload_n (i := 0) dX5_init_15 rfl rfl ?_
  refine wp_iconst (v := 5) dX5_init_16 (by decide) ?_
  refine wn_I (M := 5) (n1 := 39) (kc1 := 3) (ks1 := 17) dX5_init_17 (by decide) (by decide) (by decide) rfl rfl rfl (by decide) (by decide) rfl rfl rfl (by decide) ?_
  refine wn_putR (r1 := 15) dX5_init_19 fl_X5_18 rfl (Or.inr ⟨rfl, rfl, rfl⟩) rfl (by decide) rfl rfl (by decide) ?_
  refine wp_aload_n (i := 0) dX5_init_22 rfl rfl ?_
  refine wp_iconst (v := 5) dX5_init_23 (by decide) ?_
  refine wn_I (M := 5) (n1 := 40) (kc1 := 4) (ks1 := 22) dX5_init_24 (by decide) (by decide) (by decide) rfl rfl rfl (by decide) (by decide) rfl rfl rfl (by decide) ?_
  refine wn_putR (r1 := 16) dX5_init_26 fl_X5_22 rfl (Or.inr ⟨rfl, rfl, rfl⟩) rfl (by decide) rfl rfl (by decide) ?_
  refine wp_aload_n (i := 0) dX5_init_29 rfl rfl ?_
  refine wp_iconst (v := 5) dX5_init_30 (by decide) ?_
  refine wp_iconst (v := 5) dX5_init_31 (by decide) ?_
  refine wn_mna (N1 := 5) (M1 := 5) (n1 := 46) (kc1 := 10) (ks1 := 52) (r1 := 17) dX5_init_32 mw_92 (by decide) (by decide) (by decide) (by decide) (by decide) (by decide) rfl rfl rfl (by decide) (by decide) rfl rfl (by decide) (by decide +kernel) (by decide +kernel) rfl rfl (by decide +kernel) ?_
  refine wn_putR (r1 := 18) dX5_init_36 fl_X5_27 rfl (Or.inr ⟨rfl, rfl, rfl⟩) rfl (by decide) rfl rfl (by decide) ?_
  refine wp_aload_n (i := 0) dX5_init_39 rfl rfl ?_
  refine wp_bipush (v := 6) dX5_init_40 (by decide) ?_
  refine wn_I (M := 6) (n1 := 47) (kc1 := 11) (ks1 := 58) dX5_init_42 (by decide) (by decide) (by decide) rfl rfl rfl (by decide) (by decide) rfl rfl rfl (by decide) ?_
  refine wn_putR (r1 := 19) dX5_init_44 fl_X5_30 rfl (Or.inr ⟨rfl, rfl, rfl⟩) rfl (by decide) rfl rfl (by decide) ?_
  refine wp_aload_n (i := 0) dX5_init_47 rfl rfl ?_
  refine wp_iconst (v := 5) dX5_init_48 (by decide) ?_
  refine wp_bipush (v := 60) dX5_init_49 (by decide) ?_
  refine wn_mna (N1 := 5) (M1 := 60) (n1 := 53) (kc1 := 17) (ks1 := 363) (r1 := 20) dX5_init_51 mw_92 (by decide) (by decide) (by decide) (by decide) (by decide) (by decide) rfl rfl rfl (by decide) (by decide) rfl rfl (by decide) (by decide +kernel) (by decide +kernel) rfl rfl (by decide +kernel) ?_
  refine wn_putR (r1 := 21) dX5_init_55 fl_X5_33 rfl (Or.inr ⟨rfl, rfl, rfl⟩) rfl (by decide) rfl rfl (by decide) ?_
  refine wp_aload_n (i := 0) dX5_init_58 rfl rfl ?_
  refine wp_bipush (v := 12) dX5_init_59 (by decide) ?_
  refine wp_bipush (v := 12) dX5_init_61 (by decide) ?_
  refine wn_mna (N1 := 12) (M1 := 12) (n1 := 66) (kc1 := 30) (ks1 := 519) (r1 := 22) dX5_init_63 mw_92 (by decide) (by decide) (by decide) (by decide) (by decide) (by decide) rfl rfl rfl (by decide) (by decide) rfl rfl (by decide) (by decide +kernel) (by decide +kernel) rfl rfl (by decide +kernel) ?_
  refine wn_putR (r1 := 23) dX5_init_67 fl_X5_36 rfl (Or.inr ⟨rfl, rfl, rfl⟩) rfl (by decide) rfl rfl (by decide) ?_
  refine wp_aload_n (i := 0) dX5_init_70 rfl rfl ?_
  refine wp_iconst (v := 3) dX5_init_71 (by decide) ?_
  refine wp_bipush (v := 12) dX5_init_72 (by decide) ?_
  refine wn_mna (N1 := 3) (M1 := 12) (n1 := 70) (kc1 := 34) (ks1 := 558) (r1 := 24) dX5_init_74 mw_92 (by decide) (by decide) (by decide) (by decide) (by decide) (by decide) rfl rfl rfl (by decide) (by decide) rfl rfl (by decide) (by decide +kernel) (by decide +kernel) rfl rfl (by decide +kernel) ?_
  refine wn_putR (r1 := 25) dX5_init_78 fl_X5_39 rfl (Or.inr ⟨rfl, rfl, rfl⟩) rfl (by decide) rfl rfl (by decide) ?_
  refine wp_aload_n (i := 0) dX5_init_81 rfl rfl ?_
  refine wp_iconst (v := 0) dX5_init_82 (by decide) ?_
  refine wn_putI0 dX5_init_83 fl_X5_42 rfl (Or.inl rfl) rfl (by decide) (by decide) (by decide +kernel) ?_
  refine wp_aload_n (i := 0) dX5_init_86 rfl rfl ?_
  refine wp_iconst (v := 0) dX5_init_87 (by decide) ?_
  refine wn_putI0 dX5_init_88 fl_X5_46 rfl (Or.inl rfl) rfl (by decide) (by decide) (by decide +kernel) ?_
  refine wp_aload_n (i := 0) dX5_init_91 rfl rfl ?_
  refine wp_ldc (v := 1048576) dX5_init_92 mw_93 ?_
  refine wn_putI (k1 := 1) dX5_init_94 fl_X5_50 rfl (Or.inl rfl) rfl (by decide) rfl rfl ?_
  refine wp_iconst (v := 0) dX5_init_97 (by decide) ?_
  refine wp_istore_4_1 dX5_init_98 rfl ?_
  have hzs : ZS (zT L 70) (zR 25) := ⟨rfl, by decide +kernel, by decide +kernel, rfl, rfl, fun j hj => ⟨(show ∀ j, j < 12 → zR 25 53 j = some (54 + j) by decide +kernel) j hj, zT_at ((show ∀ j, j < 12 → TZ (54 + j) = some (9, 12) by decide +kernel) j hj) (by omega)⟩, fun j hj => ⟨(show ∀ j, j < 3 → zR 25 66 j = some (67 + j) by decide +kernel) j hj, zT_at ((show ∀ j, j < 3 → TZ (67 + j) = some (9, 12) by decide +kernel) j hj) (by omega)⟩⟩
  refine lp_sk1 _ hzs (by decide) (by decide) 12 0 _ vU vU rfl rfl rfl (fun p2 q h => absurd h (Nat.not_lt_zero p2)) (fun w2 p2 _ h => absurd h (Nat.not_lt_zero p2)) (fun w2 p2 h _ _ => by rw [zI_v (a := 67 + w2) (n := 70) (by omega) (by omega), zV_no (n := 67 + w2) _ ((show ∀ w, w < 3 → zN 1 (67 + w) = true by decide +kernel) w2 h)]) (fun I2 f1 f2 f3 x2 x3 hx2 hx3 => ?_)
  obtain rfl := sk_fin (k := 1) rfl f1 f2 f3
  exact wp_retV dX5_init_178 rfl (by decide) (by decide) hq
theorem ci_70 (d : Nat) {L : Nat} {xs : Nat → Int32} {Q : Nat → eT → eI → eR → Prop} (hq : Q 74 (zT L 74) (zI L xs 74 2) (zR 29)) : MC yX1_init cX1_init 1 none (d + 1) 3 50 [.ref 70] 71 (zT L 71) (zI L xs 71 2) (zR 26) (qV Q) := by
  refine mc_intro (L0 := [.ref 70]) (by decide) rfl (Nat.le_of_ble_eq_true rfl) ?_
  refine wp_aload_n (i := 0) dX1_init_0 rfl rfl ?_
  refine wp_objInit dX1_init_1 mw_152 (Nat.le_of_ble_eq_true rfl) ?_
  refine wp_aload_n (i := 0) dX1_init_4 rfl rfl ?_
  refine wp_bipush (v := 20) dX1_init_5 (by decide) ?_
  refine wn_I (M := 20) (n1 := 72) (kc1 := 1) (ks1 := 20) dX1_init_7 (by decide) (by decide) (by decide) rfl rfl rfl (by decide) (by decide) rfl rfl rfl (by decide) ?_
  refine wn_putR (r1 := 27) dX1_init_9 fl_X1_11 rfl (Or.inr ⟨rfl, rfl, rfl⟩) rfl (by decide) rfl rfl (by decide) ?_
  refine wp_aload_n (i := 0) dX1_init_12 rfl rfl ?_
  refine wp_bipush (v := 20) dX1_init_13 (by decide) ?_
  refine wn_I (M := 20) (n1 := 73) (kc1 := 2) (ks1 := 40) dX1_init_15 (by decide) (by decide) (by decide) rfl rfl rfl (by decide) (by decide) rfl rfl rfl (by decide) ?_
  refine wn_putR (r1 := 28) dX1_init_17 fl_X1_15 rfl (Or.inr ⟨rfl, rfl, rfl⟩) rfl (by decide) rfl rfl (by decide) ?_
  refine wp_aload_n (i := 0) dX1_init_20 rfl rfl ?_
  refine wp_bipush (v := 10) dX1_init_21 (by decide) ?_
  refine wn_I (M := 10) (n1 := 74) (kc1 := 3) (ks1 := 50) dX1_init_23 (by decide) (by decide) (by decide) rfl rfl rfl (by decide) (by decide) rfl rfl rfl (by decide) ?_
  refine wn_putR (r1 := 29) dX1_init_25 fl_X1_18 rfl (Or.inr ⟨rfl, rfl, rfl⟩) rfl (by decide) rfl rfl (by decide) ?_
  refine wp_aload_n (i := 0) dX1_init_28 rfl rfl ?_
  refine wp_iconst (v := 0) dX1_init_29 (by decide) ?_
  refine wn_putI0 dX1_init_30 fl_X1_21 rfl (Or.inl rfl) rfl (by decide) (by decide) (by decide +kernel) ?_
  exact wp_retV dX1_init_33 rfl (by decide) (by decide) hq
theorem ci_78 (d : Nat) {L : Nat} {xs : Nat → Int32} {Q : Nat → eT → eI → eR → Prop} (hq : Q 80 (zT L 80) (zI L xs 80 4) (zR 34)) : MC yX0_init cX0_init 1 none (d + 1) 1 10 [.ref 78] 79 (zT L 79) (zI L xs 79 4) (zR 33) (qV Q) := by
  refine mc_intro (L0 := [.ref 78]) (by decide) rfl (Nat.le_of_ble_eq_true rfl) ?_
  refine wp_aload_n (i := 0) dX0_init_0 rfl rfl ?_
  refine wp_objInit dX0_init_1 mw_84 (Nat.le_of_ble_eq_true rfl) ?_
  refine wp_aload_n (i := 0) dX0_init_4 rfl rfl ?_
  refine wp_iconst (v := 0) dX0_init_5 (by decide) ?_
  refine wn_putI0 dX0_init_6 fl_X0_9 rfl (Or.inl rfl) rfl (by decide) (by decide) (by decide +kernel) ?_
  refine wp_aload_n (i := 0) dX0_init_9 rfl rfl ?_
  refine wp_bipush (v := 10) dX0_init_10 (by decide) ?_
  refine wn_I (M := 10) (n1 := 80) (kc1 := 1) (ks1 := 10) dX0_init_12 (by decide) (by decide) (by decide) rfl rfl rfl (by decide) (by decide) rfl rfl rfl (by decide) ?_
  refine wn_putR (r1 := 34) dX0_init_14 fl_X0_15 rfl (Or.inr ⟨rfl, rfl, rfl⟩) rfl (by decide) rfl rfl (by decide) ?_
  exact wp_retV dX0_init_17 rfl (by decide) (by decide) hq
theorem ci_80 (d : Nat) {L : Nat} {xs : Nat → Int32} {Q : Nat → eT → eI → eR → Prop} (hq : Q 82 (zT L 82) (zI L xs 82 4) (zR 36)) : MC yX0_init cX0_init 1 none (d + 1) 1 10 [.ref 80] 81 (zT L 81) (zI L xs 81 4) (zR 35) (qV Q) := by
  refine mc_intro (L0 := [.ref 80]) (by decide) rfl (Nat.le_of_ble_eq_true rfl) ?_
  refine wp_aload_n (i := 0) dX0_init_0 rfl rfl ?_
  refine wp_objInit dX0_init_1 mw_84 (Nat.le_of_ble_eq_true rfl) ?_
  refine wp_aload_n (i := 0) dX0_init_4 rfl rfl ?_
  refine wp_iconst (v := 0) dX0_init_5 (by decide) ?_
  refine wn_putI0 dX0_init_6 fl_X0_9 rfl (Or.inl rfl) rfl (by decide) (by decide) (by decide +kernel) ?_
  refine wp_aload_n (i := 0) dX0_init_9 rfl rfl ?_
  refine wp_bipush (v := 10) dX0_init_10 (by decide) ?_
  refine wn_I (M := 10) (n1 := 82) (kc1 := 1) (ks1 := 10) dX0_init_12 (by decide) (by decide) (by decide) rfl rfl rfl (by decide) (by decide) rfl rfl rfl (by decide) ?_
  refine wn_putR (r1 := 36) dX0_init_14 fl_X0_15 rfl (Or.inr ⟨rfl, rfl, rfl⟩) rfl (by decide) rfl rfl (by decide) ?_
  exact wp_retV dX0_init_17 rfl (by decide) (by decide) hq
theorem ci_76 (d : Nat) {L : Nat} {xs : Nat → Int32} {Q : Nat → eT → eI → eR → Prop} (hq : Q 86 (zT L 86) (zI L xs 86 8) (zR 41)) : MC yX3_init cX3_init 1 none (d + 2) 9 60 [.ref 76] 77 (zT L 77) (zI L xs 77 4) (zR 32) (qV Q) := by
  refine mc_intro (L0 := [.ref 76]) (by decide) rfl (Nat.le_of_ble_eq_true rfl) ?_
  refine wp_aload_n (i := 0) dX3_init_0 rfl rfl ?_
  refine wp_objInit dX3_init_1 mw_172 (Nat.le_of_ble_eq_true rfl) ?_
  refine wp_aload_n (i := 0) dX3_init_4 rfl rfl ?_
  refine wp_iconst (v := 3) dX3_init_5 (by decide) ?_
  refine wn_I (M := 3) (n1 := 78) (kc1 := 1) (ks1 := 3) dX3_init_6 (by decide) (by decide) (by decide) rfl rfl rfl (by decide) (by decide) rfl rfl rfl (by decide) ?_
  refine wn_putR (r1 := 33) dX3_init_8 fl_X3_9 rfl (Or.inr ⟨rfl, rfl, rfl⟩) rfl (by decide) rfl rfl (by decide) ?_
  refine wp_aload_n (i := 0) dX3_init_11 rfl rfl ?_
  refine wn_new (q := 0) (s0 := 2) (n1 := 79) (kc1 := 2) (ks1 := 5) dX3_init_12 (by decide) mw_173 mw_80 mw_5 (by decide +kernel) rfl rfl rfl rfl (by decide) (by decide) rfl rfl rfl (by decide) ?_
  refine wp_dup dX3_init_15 rfl ?_
  refine wp_IN0vA (K2 := 1) (N2 := 10) dX3_init_16 mw_174 mw_82 rfl rfl mi_X0_init (Nat.le_of_ble_eq_true rfl) (by decide) (by decide) (ci_78 (d + 0) ?_)
  refine wn_kc (kc1 := 3) (ks1 := 15) rfl rfl ?_
  refine wn_putR (r1 := 35) dX3_init_19 fl_X3_18 rfl (Or.inl rfl) rfl (by decide) rfl rfl (by decide) ?_
  refine wp_aload_n (i := 0) dX3_init_22 rfl rfl ?_
  refine wn_new (q := 0) (s0 := 2) (n1 := 81) (kc1 := 4) (ks1 := 17) dX3_init_23 (by decide) mw_173 mw_80 mw_5 (by decide +kernel) rfl rfl rfl rfl (by decide) (by decide) rfl rfl rfl (by decide) ?_
  refine wp_dup dX3_init_26 rfl ?_
  refine wp_IN0vA (K2 := 1) (N2 := 10) dX3_init_27 mw_174 mw_82 rfl rfl mi_X0_init (Nat.le_of_ble_eq_true rfl) (by decide) (by decide) (ci_80 (d + 0) ?_)
  refine wn_kc (kc1 := 5) (ks1 := 27) rfl rfl ?_
  refine wn_putR (r1 := 37) dX3_init_30 fl_X3_22 rfl (Or.inl rfl) rfl (by decide) rfl rfl (by decide) ?_
  refine wp_aload_n (i := 0) dX3_init_33 rfl rfl ?_
  refine wp_iconst (v := 0) dX3_init_34 (by decide) ?_
  refine wn_putI0 dX3_init_35 fl_X3_25 rfl (Or.inl rfl) rfl (by decide) (by decide) (by decide +kernel) ?_
  refine wp_aload_n (i := 0) dX3_init_38 rfl rfl ?_
  refine wp_bipush (v := (-9)) dX3_init_39 (by decide) ?_
  refine wn_putI (k1 := 5) dX3_init_41 fl_X3_29 rfl (Or.inl rfl) rfl (by decide) rfl rfl ?_
  refine wp_aload_n (i := 0) dX3_init_44 rfl rfl ?_
  refine wp_iconst (v := 0) dX3_init_45 (by decide) ?_
  refine wn_putI0 dX3_init_46 fl_X3_32 rfl (Or.inl rfl) rfl (by decide) (by decide) (by decide +kernel) ?_
  refine wp_aload_n (i := 0) dX3_init_49 rfl rfl ?_
  refine wp_iconst (v := 0) dX3_init_50 (by decide) ?_
  refine wn_putI0 dX3_init_51 fl_X3_35 rfl (Or.inl rfl) rfl (by decide) (by decide) (by decide +kernel) ?_
  refine wp_aload_n (i := 0) dX3_init_54 rfl rfl ?_
  refine wp_iconst (v := 3) dX3_init_55 (by decide) ?_
  refine wn_I (M := 3) (n1 := 83) (kc1 := 6) (ks1 := 30) dX3_init_56 (by decide) (by decide) (by decide) rfl rfl rfl (by decide) (by decide) rfl rfl rfl (by decide) ?_
  refine wn_putR (r1 := 38) dX3_init_58 fl_X3_38 rfl (Or.inr ⟨rfl, rfl, rfl⟩) rfl (by decide) rfl rfl (by decide) ?_
  refine wp_aload_n (i := 0) dX3_init_61 rfl rfl ?_
  refine wp_bipush (v := 12) dX3_init_62 (by decide) ?_
  refine wn_I (M := 12) (n1 := 84) (kc1 := 7) (ks1 := 42) dX3_init_64 (by decide) (by decide) (by decide) rfl rfl rfl (by decide) (by decide) rfl rfl rfl (by decide) ?_
  refine wn_putR (r1 := 39) dX3_init_66 fl_X3_41 rfl (Or.inr ⟨rfl, rfl, rfl⟩) rfl (by decide) rfl rfl (by decide) ?_
  refine wp_aload_n (i := 0) dX3_init_69 rfl rfl ?_
  refine wp_iconst (v := 0) dX3_init_70 (by decide) ?_
  refine wn_putI0 dX3_init_71 fl_X3_44 rfl (Or.inl rfl) rfl (by decide) (by decide) (by decide +kernel) ?_
  refine wp_aload_n (i := 0) dX3_init_74 rfl rfl ?_
  refine wp_bipush (v := 10) dX3_init_75 (by decide) ?_
  refine wn_I (M := 10) (n1 := 85) (kc1 := 8) (ks1 := 52) dX3_init_77 (by decide) (by decide) (by decide) rfl rfl rfl (by decide) (by decide) rfl rfl rfl (by decide) ?_
  refine wn_putR (r1 := 40) dX3_init_79 fl_X3_47 rfl (Or.inr ⟨rfl, rfl, rfl⟩) rfl (by decide) rfl rfl (by decide) ?_
  refine wp_aload_n (i := 0) dX3_init_82 rfl rfl ?_
  refine wp_iconst (v := 0) dX3_init_83 (by decide) ?_
  refine wn_putI0 dX3_init_84 fl_X3_50 rfl (Or.inl rfl) rfl (by decide) (by decide) (by decide +kernel) ?_
  refine wp_aload_n (i := 0) dX3_init_87 rfl rfl ?_
  refine wp_bipush (v := 8) dX3_init_88 (by decide) ?_
  refine wn_I (M := 8) (n1 := 86) (kc1 := 9) (ks1 := 60) dX3_init_90 (by decide) (by decide) (by decide) rfl rfl rfl (by decide) (by decide) rfl rfl rfl (by decide) ?_
  refine wn_putR (r1 := 41) dX3_init_92 fl_X3_53 rfl (Or.inr ⟨rfl, rfl, rfl⟩) rfl (by decide) rfl rfl (by decide) ?_
  refine wp_aload_n (i := 0) dX3_init_95 rfl rfl ?_
  refine wp_getR (a2 := 77) dX3_init_96 fl_X3_9 rfl (zT_k rfl (by decide)) (by decide +kernel) ?_
  refine wp_iconst (v := 1) dX3_init_99 (by decide) ?_
  refine wp_gets1N dX3_init_100 mw_175 ?_
  refine wp_iconst (v := 1) dX3_init_103 (by decide) ?_
  refine wp_fld (j := 1) dX3_init_104 (by decide) (zT_z rfl) rfl (by decide) ?_
  refine wp_topI (v2 := 4095) (by rw [zI_lo (by decide) _ (by decide +kernel)]; rfl) ?_
  refine wn_ist (j := 1) (k1 := 6) dX3_init_105 rfl (by decide) rfl (by decide) (by decide) rfl rfl ?_
  refine wp_aload_n (i := 0) dX3_init_106 rfl rfl ?_
  refine wp_getR (a2 := 77) dX3_init_107 fl_X3_9 rfl (zT_k rfl (by decide)) (by decide +kernel) ?_
  refine wp_iconst (v := 2) dX3_init_110 (by decide) ?_
  refine wp_gets1N dX3_init_111 mw_175 ?_
  refine wp_iconst (v := 2) dX3_init_114 (by decide) ?_
  refine wp_fld (j := 2) dX3_init_115 (by decide) (zT_z rfl) rfl (by decide) ?_
  refine wp_topI (v2 := 10) (by rw [zI_lo (by decide) _ (by decide +kernel)]; rfl) ?_
  refine wn_ist (j := 2) (k1 := 7) dX3_init_116 rfl (by decide) rfl (by decide) (by decide) rfl rfl ?_
  refine wp_aload_n (i := 0) dX3_init_117 rfl rfl ?_
  refine wp_getR (a2 := 85) dX3_init_118 fl_X3_53 rfl (zT_k rfl (by decide)) (by decide +kernel) ?_
  refine wp_iconst (v := (-1)) dX3_init_121 (by decide) ?_
  refine wp_S2v dX3_init_122 mw_177 mw_178 mi_J7_fill_53178 (Nat.le_of_ble_eq_true rfl) (by decide) (by decide) (c_fill _ (zT_at rfl (by decide)) (by decide) ?_)
  rw [zF_0, zI_fil (m := 7) rfl (by decide)]
  exact wp_retV dX3_init_125 rfl (by decide) (by decide) hq
theorem ci_88 (d : Nat) {L : Nat} {xs : Nat → Int32} {Q : Nat → eT → eI → eR → Prop} (hq : Q 90 (zT L 90) (zI L xs 90 8) (zR 44)) : MC yX0_init cX0_init 1 none (d + 1) 1 10 [.ref 88] 89 (zT L 89) (zI L xs 89 8) (zR 43) (qV Q) := by
  refine mc_intro (L0 := [.ref 88]) (by decide) rfl (Nat.le_of_ble_eq_true rfl) ?_
  refine wp_aload_n (i := 0) dX0_init_0 rfl rfl ?_
  refine wp_objInit dX0_init_1 mw_84 (Nat.le_of_ble_eq_true rfl) ?_
  refine wp_aload_n (i := 0) dX0_init_4 rfl rfl ?_
  refine wp_iconst (v := 0) dX0_init_5 (by decide) ?_
  refine wn_putI0 dX0_init_6 fl_X0_9 rfl (Or.inl rfl) rfl (by decide) (by decide) (by decide +kernel) ?_
  refine wp_aload_n (i := 0) dX0_init_9 rfl rfl ?_
  refine wp_bipush (v := 10) dX0_init_10 (by decide) ?_
  refine wn_I (M := 10) (n1 := 90) (kc1 := 1) (ks1 := 10) dX0_init_12 (by decide) (by decide) (by decide) rfl rfl rfl (by decide) (by decide) rfl rfl rfl (by decide) ?_
  refine wn_putR (r1 := 44) dX0_init_14 fl_X0_15 rfl (Or.inr ⟨rfl, rfl, rfl⟩) rfl (by decide) rfl rfl (by decide) ?_
  exact wp_retV dX0_init_17 rfl (by decide) (by decide) hq
theorem ci_90 (d : Nat) {L : Nat} {xs : Nat → Int32} {Q : Nat → eT → eI → eR → Prop} (hq : Q 92 (zT L 92) (zI L xs 92 8) (zR 46)) : MC yX0_init cX0_init 1 none (d + 1) 1 10 [.ref 90] 91 (zT L 91) (zI L xs 91 8) (zR 45) (qV Q) := by
  refine mc_intro (L0 := [.ref 90]) (by decide) rfl (Nat.le_of_ble_eq_true rfl) ?_
  refine wp_aload_n (i := 0) dX0_init_0 rfl rfl ?_
  refine wp_objInit dX0_init_1 mw_84 (Nat.le_of_ble_eq_true rfl) ?_
  refine wp_aload_n (i := 0) dX0_init_4 rfl rfl ?_
  refine wp_iconst (v := 0) dX0_init_5 (by decide) ?_
  refine wn_putI0 dX0_init_6 fl_X0_9 rfl (Or.inl rfl) rfl (by decide) (by decide) (by decide +kernel) ?_
  refine wp_aload_n (i := 0) dX0_init_9 rfl rfl ?_
  refine wp_bipush (v := 10) dX0_init_10 (by decide) ?_
  refine wn_I (M := 10) (n1 := 92) (kc1 := 1) (ks1 := 10) dX0_init_12 (by decide) (by decide) (by decide) rfl rfl rfl (by decide) (by decide) rfl rfl rfl (by decide) ?_
  refine wn_putR (r1 := 46) dX0_init_14 fl_X0_15 rfl (Or.inr ⟨rfl, rfl, rfl⟩) rfl (by decide) rfl rfl (by decide) ?_
  exact wp_retV dX0_init_17 rfl (by decide) (by decide) hq
theorem ci_86 (d : Nat) {L : Nat} {xs : Nat → Int32} {Q : Nat → eT → eI → eR → Prop} (hq : Q 96 (zT L 96) (zI L xs 96 12) (zR 51)) : MC yX3_init cX3_init 1 none (d + 2) 9 60 [.ref 86] 87 (zT L 87) (zI L xs 87 8) (zR 42) (qV Q) := by
  refine mc_intro (L0 := [.ref 86]) (by decide) rfl (Nat.le_of_ble_eq_true rfl) ?_
  refine wp_aload_n (i := 0) dX3_init_0 rfl rfl ?_
  refine wp_objInit dX3_init_1 mw_172 (Nat.le_of_ble_eq_true rfl) ?_
  refine wp_aload_n (i := 0) dX3_init_4 rfl rfl ?_
  refine wp_iconst (v := 3) dX3_init_5 (by decide) ?_
  refine wn_I (M := 3) (n1 := 88) (kc1 := 1) (ks1 := 3) dX3_init_6 (by decide) (by decide) (by decide) rfl rfl rfl (by decide) (by decide) rfl rfl rfl (by decide) ?_
  refine wn_putR (r1 := 43) dX3_init_8 fl_X3_9 rfl (Or.inr ⟨rfl, rfl, rfl⟩) rfl (by decide) rfl rfl (by decide) ?_
  refine wp_aload_n (i := 0) dX3_init_11 rfl rfl ?_
  refine wn_new (q := 0) (s0 := 2) (n1 := 89) (kc1 := 2) (ks1 := 5) dX3_init_12 (by decide) mw_173 mw_80 mw_5 (by decide +kernel) rfl rfl rfl rfl (by decide) (by decide) rfl rfl rfl (by decide) ?_
  refine wp_dup dX3_init_15 rfl ?_
  refine wp_IN0vA (K2 := 1) (N2 := 10) dX3_init_16 mw_174 mw_82 rfl rfl mi_X0_init (Nat.le_of_ble_eq_true rfl) (by decide) (by decide) (ci_88 (d + 0) ?_)
  refine wn_kc (kc1 := 3) (ks1 := 15) rfl rfl ?_
  refine wn_putR (r1 := 45) dX3_init_19 fl_X3_18 rfl (Or.inl rfl) rfl (by decide) rfl rfl (by decide) ?_
  refine wp_aload_n (i := 0) dX3_init_22 rfl rfl ?_
  refine wn_new (q := 0) (s0 := 2) (n1 := 91) (kc1 := 4) (ks1 := 17) dX3_init_23 (by decide) mw_173 mw_80 mw_5 (by decide +kernel) rfl rfl rfl rfl (by decide) (by decide) rfl rfl rfl (by decide) ?_
  refine wp_dup dX3_init_26 rfl ?_
  refine wp_IN0vA (K2 := 1) (N2 := 10) dX3_init_27 mw_174 mw_82 rfl rfl mi_X0_init (Nat.le_of_ble_eq_true rfl) (by decide) (by decide) (ci_90 (d + 0) ?_)
  refine wn_kc (kc1 := 5) (ks1 := 27) rfl rfl ?_
  refine wn_putR (r1 := 47) dX3_init_30 fl_X3_22 rfl (Or.inl rfl) rfl (by decide) rfl rfl (by decide) ?_
  refine wp_aload_n (i := 0) dX3_init_33 rfl rfl ?_
  refine wp_iconst (v := 0) dX3_init_34 (by decide) ?_
  refine wn_putI0 dX3_init_35 fl_X3_25 rfl (Or.inl rfl) rfl (by decide) (by decide) (by decide +kernel) ?_
  refine wp_aload_n (i := 0) dX3_init_38 rfl rfl ?_
  refine wp_bipush (v := (-9)) dX3_init_39 (by decide) ?_
  refine wn_putI (k1 := 9) dX3_init_41 fl_X3_29 rfl (Or.inl rfl) rfl (by decide) rfl rfl ?_
  refine wp_aload_n (i := 0) dX3_init_44 rfl rfl ?_
  refine wp_iconst (v := 0) dX3_init_45 (by decide) ?_
  refine wn_putI0 dX3_init_46 fl_X3_32 rfl (Or.inl rfl) rfl (by decide) (by decide) (by decide +kernel) ?_
  refine wp_aload_n (i := 0) dX3_init_49 rfl rfl ?_
  refine wp_iconst (v := 0) dX3_init_50 (by decide) ?_
  refine wn_putI0 dX3_init_51 fl_X3_35 rfl (Or.inl rfl) rfl (by decide) (by decide) (by decide +kernel) ?_
  refine wp_aload_n (i := 0) dX3_init_54 rfl rfl ?_
  refine wp_iconst (v := 3) dX3_init_55 (by decide) ?_
  refine wn_I (M := 3) (n1 := 93) (kc1 := 6) (ks1 := 30) dX3_init_56 (by decide) (by decide) (by decide) rfl rfl rfl (by decide) (by decide) rfl rfl rfl (by decide) ?_
  refine wn_putR (r1 := 48) dX3_init_58 fl_X3_38 rfl (Or.inr ⟨rfl, rfl, rfl⟩) rfl (by decide) rfl rfl (by decide) ?_
  refine wp_aload_n (i := 0) dX3_init_61 rfl rfl ?_
  refine wp_bipush (v := 12) dX3_init_62 (by decide) ?_
  refine wn_I (M := 12) (n1 := 94) (kc1 := 7) (ks1 := 42) dX3_init_64 (by decide) (by decide) (by decide) rfl rfl rfl (by decide) (by decide) rfl rfl rfl (by decide) ?_
  refine wn_putR (r1 := 49) dX3_init_66 fl_X3_41 rfl (Or.inr ⟨rfl, rfl, rfl⟩) rfl (by decide) rfl rfl (by decide) ?_
  refine wp_aload_n (i := 0) dX3_init_69 rfl rfl ?_
  refine wp_iconst (v := 0) dX3_init_70 (by decide) ?_
  refine wn_putI0 dX3_init_71 fl_X3_44 rfl (Or.inl rfl) rfl (by decide) (by decide) (by decide +kernel) ?_
  refine wp_aload_n (i := 0) dX3_init_74 rfl rfl ?_
  refine wp_bipush (v := 10) dX3_init_75 (by decide) ?_
  refine wn_I (M := 10) (n1 := 95) (kc1 := 8) (ks1 := 52) dX3_init_77 (by decide) (by decide) (by decide) rfl rfl rfl (by decide) (by decide) rfl rfl rfl (by decide) ?_
  refine wn_putR (r1 := 50) dX3_init_79 fl_X3_47 rfl (Or.inr ⟨rfl, rfl, rfl⟩) rfl (by decide) rfl rfl (by decide) ?_
  refine wp_aload_n (i := 0) dX3_init_82 rfl rfl ?_
  refine wp_iconst (v := 0) dX3_init_83 (by decide) ?_
  refine wn_putI0 dX3_init_84 fl_X3_50 rfl (Or.inl rfl) rfl (by decide) (by decide) (by decide +kernel) ?_
  refine wp_aload_n (i := 0) dX3_init_87 rfl rfl ?_
  refine wp_bipush (v := 8) dX3_init_88 (by decide) ?_
  refine wn_I (M := 8) (n1 := 96) (kc1 := 9) (ks1 := 60) dX3_init_90 (by decide) (by decide) (by decide) rfl rfl rfl (by decide) (by decide) rfl rfl rfl (by decide) ?_
  refine wn_putR (r1 := 51) dX3_init_92 fl_X3_53 rfl (Or.inr ⟨rfl, rfl, rfl⟩) rfl (by decide) rfl rfl (by decide) ?_
  refine wp_aload_n (i := 0) dX3_init_95 rfl rfl ?_
  refine wp_getR (a2 := 87) dX3_init_96 fl_X3_9 rfl (zT_k rfl (by decide)) (by decide +kernel) ?_
  refine wp_iconst (v := 1) dX3_init_99 (by decide) ?_
  refine wp_gets1N dX3_init_100 mw_175 ?_
  refine wp_iconst (v := 1) dX3_init_103 (by decide) ?_
  refine wp_fld (j := 1) dX3_init_104 (by decide) (zT_z rfl) rfl (by decide) ?_
  refine wp_topI (v2 := 4095) (by rw [zI_lo (by decide) _ (by decide +kernel)]; rfl) ?_
  refine wn_ist (j := 1) (k1 := 10) dX3_init_105 rfl (by decide) rfl (by decide) (by decide) rfl rfl ?_
  refine wp_aload_n (i := 0) dX3_init_106 rfl rfl ?_
  refine wp_getR (a2 := 87) dX3_init_107 fl_X3_9 rfl (zT_k rfl (by decide)) (by decide +kernel) ?_
  refine wp_iconst (v := 2) dX3_init_110 (by decide) ?_
  refine wp_gets1N dX3_init_111 mw_175 ?_
  refine wp_iconst (v := 2) dX3_init_114 (by decide) ?_
  refine wp_fld (j := 2) dX3_init_115 (by decide) (zT_z rfl) rfl (by decide) ?_
  refine wp_topI (v2 := 10) (by rw [zI_lo (by decide) _ (by decide +kernel)]; rfl) ?_
  refine wn_ist (j := 2) (k1 := 11) dX3_init_116 rfl (by decide) rfl (by decide) (by decide) rfl rfl ?_
  refine wp_aload_n (i := 0) dX3_init_117 rfl rfl ?_
  refine wp_getR (a2 := 95) dX3_init_118 fl_X3_53 rfl (zT_k rfl (by decide)) (by decide +kernel) ?_
  refine wp_iconst (v := (-1)) dX3_init_121 (by decide) ?_
  refine wp_S2v dX3_init_122 mw_177 mw_178 mi_J7_fill_53178 (Nat.le_of_ble_eq_true rfl) (by decide) (by decide) (c_fill _ (zT_at rfl (by decide)) (by decide) ?_)
  rw [zF_0, zI_fil (m := 7) rfl (by decide)]
  exact wp_retV dX3_init_125 rfl (by decide) (by decide) hq
theorem ci_98 (d : Nat) {L : Nat} {xs : Nat → Int32} {Q : Nat → eT → eI → eR → Prop} (hq : Q 100 (zT L 100) (zI L xs 100 12) (zR 54)) : MC yX0_init cX0_init 1 none (d + 1) 1 10 [.ref 98] 99 (zT L 99) (zI L xs 99 12) (zR 53) (qV Q) := by
  refine mc_intro (L0 := [.ref 98]) (by decide) rfl (Nat.le_of_ble_eq_true rfl) ?_
  refine wp_aload_n (i := 0) dX0_init_0 rfl rfl ?_
  refine wp_objInit dX0_init_1 mw_84 (Nat.le_of_ble_eq_true rfl) ?_
  refine wp_aload_n (i := 0) dX0_init_4 rfl rfl ?_
  refine wp_iconst (v := 0) dX0_init_5 (by decide) ?_
  refine wn_putI0 dX0_init_6 fl_X0_9 rfl (Or.inl rfl) rfl (by decide) (by decide) (by decide +kernel) ?_
  refine wp_aload_n (i := 0) dX0_init_9 rfl rfl ?_
  refine wp_bipush (v := 10) dX0_init_10 (by decide) ?_
  refine wn_I (M := 10) (n1 := 100) (kc1 := 1) (ks1 := 10) dX0_init_12 (by decide) (by decide) (by decide) rfl rfl rfl (by decide) (by decide) rfl rfl rfl (by decide) ?_
  refine wn_putR (r1 := 54) dX0_init_14 fl_X0_15 rfl (Or.inr ⟨rfl, rfl, rfl⟩) rfl (by decide) rfl rfl (by decide) ?_
  exact wp_retV dX0_init_17 rfl (by decide) (by decide) hq
theorem ci_100 (d : Nat) {L : Nat} {xs : Nat → Int32} {Q : Nat → eT → eI → eR → Prop} (hq : Q 102 (zT L 102) (zI L xs 102 12) (zR 56)) : MC yX0_init cX0_init 1 none (d + 1) 1 10 [.ref 100] 101 (zT L 101) (zI L xs 101 12) (zR 55) (qV Q) := by
  refine mc_intro (L0 := [.ref 100]) (by decide) rfl (Nat.le_of_ble_eq_true rfl) ?_
  refine wp_aload_n (i := 0) dX0_init_0 rfl rfl ?_
  refine wp_objInit dX0_init_1 mw_84 (Nat.le_of_ble_eq_true rfl) ?_
  refine wp_aload_n (i := 0) dX0_init_4 rfl rfl ?_
  refine wp_iconst (v := 0) dX0_init_5 (by decide) ?_
  refine wn_putI0 dX0_init_6 fl_X0_9 rfl (Or.inl rfl) rfl (by decide) (by decide) (by decide +kernel) ?_
  refine wp_aload_n (i := 0) dX0_init_9 rfl rfl ?_
  refine wp_bipush (v := 10) dX0_init_10 (by decide) ?_
  refine wn_I (M := 10) (n1 := 102) (kc1 := 1) (ks1 := 10) dX0_init_12 (by decide) (by decide) (by decide) rfl rfl rfl (by decide) (by decide) rfl rfl rfl (by decide) ?_
  refine wn_putR (r1 := 56) dX0_init_14 fl_X0_15 rfl (Or.inr ⟨rfl, rfl, rfl⟩) rfl (by decide) rfl rfl (by decide) ?_
  exact wp_retV dX0_init_17 rfl (by decide) (by decide) hq
theorem ci_96 (d : Nat) {L : Nat} {xs : Nat → Int32} {Q : Nat → eT → eI → eR → Prop} (hq : Q 106 (zT L 106) (zI L xs 106 16) (zR 61)) : MC yX3_init cX3_init 1 none (d + 2) 9 60 [.ref 96] 97 (zT L 97) (zI L xs 97 12) (zR 52) (qV Q) := by
  refine mc_intro (L0 := [.ref 96]) (by decide) rfl (Nat.le_of_ble_eq_true rfl) ?_
  refine wp_aload_n (i := 0) dX3_init_0 rfl rfl ?_
  refine wp_objInit dX3_init_1 mw_172 (Nat.le_of_ble_eq_true rfl) ?_
  refine wp_aload_n (i := 0) dX3_init_4 rfl rfl ?_
  refine wp_iconst (v := 3) dX3_init_5 (by decide) ?_
  refine wn_I (M := 3) (n1 := 98) (kc1 := 1) (ks1 := 3) dX3_init_6 (by decide) (by decide) (by decide) rfl rfl rfl (by decide) (by decide) rfl rfl rfl (by decide) ?_
  refine wn_putR (r1 := 53) dX3_init_8 fl_X3_9 rfl (Or.inr ⟨rfl, rfl, rfl⟩) rfl (by decide) rfl rfl (by decide) ?_
  refine wp_aload_n (i := 0) dX3_init_11 rfl rfl ?_
  refine wn_new (q := 0) (s0 := 2) (n1 := 99) (kc1 := 2) (ks1 := 5) dX3_init_12 (by decide) mw_173 mw_80 mw_5 (by decide +kernel) rfl rfl rfl rfl (by decide) (by decide) rfl rfl rfl (by decide) ?_
  refine wp_dup dX3_init_15 rfl ?_
  refine wp_IN0vA (K2 := 1) (N2 := 10) dX3_init_16 mw_174 mw_82 rfl rfl mi_X0_init (Nat.le_of_ble_eq_true rfl) (by decide) (by decide) (ci_98 (d + 0) ?_)
  refine wn_kc (kc1 := 3) (ks1 := 15) rfl rfl ?_
  refine wn_putR (r1 := 55) dX3_init_19 fl_X3_18 rfl (Or.inl rfl) rfl (by decide) rfl rfl (by decide) ?_
  refine wp_aload_n (i := 0) dX3_init_22 rfl rfl ?_
  refine wn_new (q := 0) (s0 := 2) (n1 := 101) (kc1 := 4) (ks1 := 17) dX3_init_23 (by decide) mw_173 mw_80 mw_5 (by decide +kernel) rfl rfl rfl rfl (by decide) (by decide) rfl rfl rfl (by decide) ?_
  refine wp_dup dX3_init_26 rfl ?_
  refine wp_IN0vA (K2 := 1) (N2 := 10) dX3_init_27 mw_174 mw_82 rfl rfl mi_X0_init (Nat.le_of_ble_eq_true rfl) (by decide) (by decide) (ci_100 (d + 0) ?_)
  refine wn_kc (kc1 := 5) (ks1 := 27) rfl rfl ?_
  refine wn_putR (r1 := 57) dX3_init_30 fl_X3_22 rfl (Or.inl rfl) rfl (by decide) rfl rfl (by decide) ?_
  refine wp_aload_n (i := 0) dX3_init_33 rfl rfl ?_
  refine wp_iconst (v := 0) dX3_init_34 (by decide) ?_
  refine wn_putI0 dX3_init_35 fl_X3_25 rfl (Or.inl rfl) rfl (by decide) (by decide) (by decide +kernel) ?_
  refine wp_aload_n (i := 0) dX3_init_38 rfl rfl ?_
  refine wp_bipush (v := (-9)) dX3_init_39 (by decide) ?_
  refine wn_putI (k1 := 13) dX3_init_41 fl_X3_29 rfl (Or.inl rfl) rfl (by decide) rfl rfl ?_
  refine wp_aload_n (i := 0) dX3_init_44 rfl rfl ?_
  refine wp_iconst (v := 0) dX3_init_45 (by decide) ?_
  refine wn_putI0 dX3_init_46 fl_X3_32 rfl (Or.inl rfl) rfl (by decide) (by decide) (by decide +kernel) ?_
  refine wp_aload_n (i := 0) dX3_init_49 rfl rfl ?_
  refine wp_iconst (v := 0) dX3_init_50 (by decide) ?_
  refine wn_putI0 dX3_init_51 fl_X3_35 rfl (Or.inl rfl) rfl (by decide) (by decide) (by decide +kernel) ?_
  refine wp_aload_n (i := 0) dX3_init_54 rfl rfl ?_
  refine wp_iconst (v := 3) dX3_init_55 (by decide) ?_
  refine wn_I (M := 3) (n1 := 103) (kc1 := 6) (ks1 := 30) dX3_init_56 (by decide) (by decide) (by decide) rfl rfl rfl (by decide) (by decide) rfl rfl rfl (by decide) ?_
  refine wn_putR (r1 := 58) dX3_init_58 fl_X3_38 rfl (Or.inr ⟨rfl, rfl, rfl⟩) rfl (by decide) rfl rfl (by decide) ?_
  refine wp_aload_n (i := 0) dX3_init_61 rfl rfl ?_
  refine wp_bipush (v := 12) dX3_init_62 (by decide) ?_
  refine wn_I (M := 12) (n1 := 104) (kc1 := 7) (ks1 := 42) dX3_init_64 (by decide) (by decide) (by decide) rfl rfl rfl (by decide) (by decide) rfl rfl rfl (by decide) ?_
  refine wn_putR (r1 := 59) dX3_init_66 fl_X3_41 rfl (Or.inr ⟨rfl, rfl, rfl⟩) rfl (by decide) rfl rfl (by decide) ?_
  refine wp_aload_n (i := 0) dX3_init_69 rfl rfl ?_
  refine wp_iconst (v := 0) dX3_init_70 (by decide) ?_
  refine wn_putI0 dX3_init_71 fl_X3_44 rfl (Or.inl rfl) rfl (by decide) (by decide) (by decide +kernel) ?_
  refine wp_aload_n (i := 0) dX3_init_74 rfl rfl ?_
  refine wp_bipush (v := 10) dX3_init_75 (by decide) ?_
  refine wn_I (M := 10) (n1 := 105) (kc1 := 8) (ks1 := 52) dX3_init_77 (by decide) (by decide) (by decide) rfl rfl rfl (by decide) (by decide) rfl rfl rfl (by decide) ?_
  refine wn_putR (r1 := 60) dX3_init_79 fl_X3_47 rfl (Or.inr ⟨rfl, rfl, rfl⟩) rfl (by decide) rfl rfl (by decide) ?_
  refine wp_aload_n (i := 0) dX3_init_82 rfl rfl ?_
  refine wp_iconst (v := 0) dX3_init_83 (by decide) ?_
  refine wn_putI0 dX3_init_84 fl_X3_50 rfl (Or.inl rfl) rfl (by decide) (by decide) (by decide +kernel) ?_
  refine wp_aload_n (i := 0) dX3_init_87 rfl rfl ?_
  refine wp_bipush (v := 8) dX3_init_88 (by decide) ?_
  refine wn_I (M := 8) (n1 := 106) (kc1 := 9) (ks1 := 60) dX3_init_90 (by decide) (by decide) (by decide) rfl rfl rfl (by decide) (by decide) rfl rfl rfl (by decide) ?_
  refine wn_putR (r1 := 61) dX3_init_92 fl_X3_53 rfl (Or.inr ⟨rfl, rfl, rfl⟩) rfl (by decide) rfl rfl (by decide) ?_
  refine wp_aload_n (i := 0) dX3_init_95 rfl rfl ?_
  refine wp_getR (a2 := 97) dX3_init_96 fl_X3_9 rfl (zT_k rfl (by decide)) (by decide +kernel) ?_
  refine wp_iconst (v := 1) dX3_init_99 (by decide) ?_
  refine wp_gets1N dX3_init_100 mw_175 ?_
  refine wp_iconst (v := 1) dX3_init_103 (by decide) ?_
  refine wp_fld (j := 1) dX3_init_104 (by decide) (zT_z rfl) rfl (by decide) ?_
  refine wp_topI (v2 := 4095) (by rw [zI_lo (by decide) _ (by decide +kernel)]; rfl) ?_
  refine wn_ist (j := 1) (k1 := 14) dX3_init_105 rfl (by decide) rfl (by decide) (by decide) rfl rfl ?_
  refine wp_aload_n (i := 0) dX3_init_106 rfl rfl ?_
  refine wp_getR (a2 := 97) dX3_init_107 fl_X3_9 rfl (zT_k rfl (by decide)) (by decide +kernel) ?_
  refine wp_iconst (v := 2) dX3_init_110 (by decide) ?_
  refine wp_gets1N dX3_init_111 mw_175 ?_
  refine wp_iconst (v := 2) dX3_init_114 (by decide) ?_
  refine wp_fld (j := 2) dX3_init_115 (by decide) (zT_z rfl) rfl (by decide) ?_
  refine wp_topI (v2 := 10) (by rw [zI_lo (by decide) _ (by decide +kernel)]; rfl) ?_
  refine wn_ist (j := 2) (k1 := 15) dX3_init_116 rfl (by decide) rfl (by decide) (by decide) rfl rfl ?_
  refine wp_aload_n (i := 0) dX3_init_117 rfl rfl ?_
  refine wp_getR (a2 := 105) dX3_init_118 fl_X3_53 rfl (zT_k rfl (by decide)) (by decide +kernel) ?_
  refine wp_iconst (v := (-1)) dX3_init_121 (by decide) ?_
  refine wp_S2v dX3_init_122 mw_177 mw_178 mi_J7_fill_53178 (Nat.le_of_ble_eq_true rfl) (by decide) (by decide) (c_fill _ (zT_at rfl (by decide)) (by decide) ?_)
  rw [zF_0, zI_fil (m := 7) rfl (by decide)]
  exact wp_retV dX3_init_125 rfl (by decide) (by decide) hq
theorem ci_108 (d : Nat) {L : Nat} {xs : Nat → Int32} {Q : Nat → eT → eI → eR → Prop} (hq : Q 110 (zT L 110) (zI L xs 110 16) (zR 64)) : MC yX0_init cX0_init 1 none (d + 1) 1 10 [.ref 108] 109 (zT L 109) (zI L xs 109 16) (zR 63) (qV Q) := by
  refine mc_intro (L0 := [.ref 108]) (by decide) rfl (Nat.le_of_ble_eq_true rfl) ?_
  refine wp_aload_n (i := 0) dX0_init_0 rfl rfl ?_
  refine wp_objInit dX0_init_1 mw_84 (Nat.le_of_ble_eq_true rfl) ?_
  refine wp_aload_n (i := 0) dX0_init_4 rfl rfl ?_
  refine wp_iconst (v := 0) dX0_init_5 (by decide) ?_
  refine wn_putI0 dX0_init_6 fl_X0_9 rfl (Or.inl rfl) rfl (by decide) (by decide) (by decide +kernel) ?_
  refine wp_aload_n (i := 0) dX0_init_9 rfl rfl ?_
  refine wp_bipush (v := 10) dX0_init_10 (by decide) ?_
  refine wn_I (M := 10) (n1 := 110) (kc1 := 1) (ks1 := 10) dX0_init_12 (by decide) (by decide) (by decide) rfl rfl rfl (by decide) (by decide) rfl rfl rfl (by decide) ?_
  refine wn_putR (r1 := 64) dX0_init_14 fl_X0_15 rfl (Or.inr ⟨rfl, rfl, rfl⟩) rfl (by decide) rfl rfl (by decide) ?_
  exact wp_retV dX0_init_17 rfl (by decide) (by decide) hq
theorem ci_110 (d : Nat) {L : Nat} {xs : Nat → Int32} {Q : Nat → eT → eI → eR → Prop} (hq : Q 112 (zT L 112) (zI L xs 112 16) (zR 66)) : MC yX0_init cX0_init 1 none (d + 1) 1 10 [.ref 110] 111 (zT L 111) (zI L xs 111 16) (zR 65) (qV Q) := by
  refine mc_intro (L0 := [.ref 110]) (by decide) rfl (Nat.le_of_ble_eq_true rfl) ?_
  refine wp_aload_n (i := 0) dX0_init_0 rfl rfl ?_
  refine wp_objInit dX0_init_1 mw_84 (Nat.le_of_ble_eq_true rfl) ?_
  refine wp_aload_n (i := 0) dX0_init_4 rfl rfl ?_
  refine wp_iconst (v := 0) dX0_init_5 (by decide) ?_
  refine wn_putI0 dX0_init_6 fl_X0_9 rfl (Or.inl rfl) rfl (by decide) (by decide) (by decide +kernel) ?_
  refine wp_aload_n (i := 0) dX0_init_9 rfl rfl ?_
  refine wp_bipush (v := 10) dX0_init_10 (by decide) ?_
  refine wn_I (M := 10) (n1 := 112) (kc1 := 1) (ks1 := 10) dX0_init_12 (by decide) (by decide) (by decide) rfl rfl rfl (by decide) (by decide) rfl rfl rfl (by decide) ?_
  refine wn_putR (r1 := 66) dX0_init_14 fl_X0_15 rfl (Or.inr ⟨rfl, rfl, rfl⟩) rfl (by decide) rfl rfl (by decide) ?_
  exact wp_retV dX0_init_17 rfl (by decide) (by decide) hq
theorem ci_106 (d : Nat) {L : Nat} {xs : Nat → Int32} {Q : Nat → eT → eI → eR → Prop} (hq : Q 116 (zT L 116) (zI L xs 116 20) (zR 71)) : MC yX3_init cX3_init 1 none (d + 2) 9 60 [.ref 106] 107 (zT L 107) (zI L xs 107 16) (zR 62) (qV Q) := by
  refine mc_intro (L0 := [.ref 106]) (by decide) rfl (Nat.le_of_ble_eq_true rfl) ?_
  refine wp_aload_n (i := 0) dX3_init_0 rfl rfl ?_
  refine wp_objInit dX3_init_1 mw_172 (Nat.le_of_ble_eq_true rfl) ?_
  refine wp_aload_n (i := 0) dX3_init_4 rfl rfl ?_
  refine wp_iconst (v := 3) dX3_init_5 (by decide) ?_
  refine wn_I (M := 3) (n1 := 108) (kc1 := 1) (ks1 := 3) dX3_init_6 (by decide) (by decide) (by decide) rfl rfl rfl (by decide) (by decide) rfl rfl rfl (by decide) ?_
  refine wn_putR (r1 := 63) dX3_init_8 fl_X3_9 rfl (Or.inr ⟨rfl, rfl, rfl⟩) rfl (by decide) rfl rfl (by decide) ?_
  refine wp_aload_n (i := 0) dX3_init_11 rfl rfl ?_
  refine wn_new (q := 0) (s0 := 2) (n1 := 109) (kc1 := 2) (ks1 := 5) dX3_init_12 (by decide) mw_173 mw_80 mw_5 (by decide +kernel) rfl rfl rfl rfl (by decide) (by decide) rfl rfl rfl (by decide) ?_
  refine wp_dup dX3_init_15 rfl ?_
  refine wp_IN0vA (K2 := 1) (N2 := 10) dX3_init_16 mw_174 mw_82 rfl rfl mi_X0_init (Nat.le_of_ble_eq_true rfl) (by decide) (by decide) (ci_108 (d + 0) ?_)
  refine wn_kc (kc1 := 3) (ks1 := 15) rfl rfl ?_
  refine wn_putR (r1 := 65) dX3_init_19 fl_X3_18 rfl (Or.inl rfl) rfl (by decide) rfl rfl (by decide) ?_
  refine wp_aload_n (i := 0) dX3_init_22 rfl rfl ?_
  refine wn_new (q := 0) (s0 := 2) (n1 := 111) (kc1 := 4) (ks1 := 17) dX3_init_23 (by decide) mw_173 mw_80 mw_5 (by decide +kernel) rfl rfl rfl rfl (by decide) (by decide) rfl rfl rfl (by decide) ?_
  refine wp_dup dX3_init_26 rfl ?_
  refine wp_IN0vA (K2 := 1) (N2 := 10) dX3_init_27 mw_174 mw_82 rfl rfl mi_X0_init (Nat.le_of_ble_eq_true rfl) (by decide) (by decide) (ci_110 (d + 0) ?_)
  refine wn_kc (kc1 := 5) (ks1 := 27) rfl rfl ?_
  refine wn_putR (r1 := 67) dX3_init_30 fl_X3_22 rfl (Or.inl rfl) rfl (by decide) rfl rfl (by decide) ?_
  refine wp_aload_n (i := 0) dX3_init_33 rfl rfl ?_
  refine wp_iconst (v := 0) dX3_init_34 (by decide) ?_
  refine wn_putI0 dX3_init_35 fl_X3_25 rfl (Or.inl rfl) rfl (by decide) (by decide) (by decide +kernel) ?_
  refine wp_aload_n (i := 0) dX3_init_38 rfl rfl ?_
  refine wp_bipush (v := (-9)) dX3_init_39 (by decide) ?_
  refine wn_putI (k1 := 17) dX3_init_41 fl_X3_29 rfl (Or.inl rfl) rfl (by decide) rfl rfl ?_
  refine wp_aload_n (i := 0) dX3_init_44 rfl rfl ?_
  refine wp_iconst (v := 0) dX3_init_45 (by decide) ?_
  refine wn_putI0 dX3_init_46 fl_X3_32 rfl (Or.inl rfl) rfl (by decide) (by decide) (by decide +kernel) ?_
  refine wp_aload_n (i := 0) dX3_init_49 rfl rfl ?_
  refine wp_iconst (v := 0) dX3_init_50 (by decide) ?_
  refine wn_putI0 dX3_init_51 fl_X3_35 rfl (Or.inl rfl) rfl (by decide) (by decide) (by decide +kernel) ?_
  refine wp_aload_n (i := 0) dX3_init_54 rfl rfl ?_
  refine wp_iconst (v := 3) dX3_init_55 (by decide) ?_
  refine wn_I (M := 3) (n1 := 113) (kc1 := 6) (ks1 := 30) dX3_init_56 (by decide) (by decide) (by decide) rfl rfl rfl (by decide) (by decide) rfl rfl rfl (by decide) ?_
  refine wn_putR (r1 := 68) dX3_init_58 fl_X3_38 rfl (Or.inr ⟨rfl, rfl, rfl⟩) rfl (by decide) rfl rfl (by decide) ?_
  refine wp_aload_n (i := 0) dX3_init_61 rfl rfl ?_
  refine wp_bipush (v := 12) dX3_init_62 (by decide) ?_
  refine wn_I (M := 12) (n1 := 114) (kc1 := 7) (ks1 := 42) dX3_init_64 (by decide) (by decide) (by decide) rfl rfl rfl (by decide) (by decide) rfl rfl rfl (by decide) ?_
  refine wn_putR (r1 := 69) dX3_init_66 fl_X3_41 rfl (Or.inr ⟨rfl, rfl, rfl⟩) rfl (by decide) rfl rfl (by decide) ?_
  refine wp_aload_n (i := 0) dX3_init_69 rfl rfl ?_
  refine wp_iconst (v := 0) dX3_init_70 (by decide) ?_
  refine wn_putI0 dX3_init_71 fl_X3_44 rfl (Or.inl rfl) rfl (by decide) (by decide) (by decide +kernel) ?_
  refine wp_aload_n (i := 0) dX3_init_74 rfl rfl ?_
  refine wp_bipush (v := 10) dX3_init_75 (by decide) ?_
  refine wn_I (M := 10) (n1 := 115) (kc1 := 8) (ks1 := 52) dX3_init_77 (by decide) (by decide) (by decide) rfl rfl rfl (by decide) (by decide) rfl rfl rfl (by decide) ?_
  refine wn_putR (r1 := 70) dX3_init_79 fl_X3_47 rfl (Or.inr ⟨rfl, rfl, rfl⟩) rfl (by decide) rfl rfl (by decide) ?_
  refine wp_aload_n (i := 0) dX3_init_82 rfl rfl ?_
  refine wp_iconst (v := 0) dX3_init_83 (by decide) ?_
  refine wn_putI0 dX3_init_84 fl_X3_50 rfl (Or.inl rfl) rfl (by decide) (by decide) (by decide +kernel) ?_
  refine wp_aload_n (i := 0) dX3_init_87 rfl rfl ?_
  refine wp_bipush (v := 8) dX3_init_88 (by decide) ?_
  refine wn_I (M := 8) (n1 := 116) (kc1 := 9) (ks1 := 60) dX3_init_90 (by decide) (by decide) (by decide) rfl rfl rfl (by decide) (by decide) rfl rfl rfl (by decide) ?_
  refine wn_putR (r1 := 71) dX3_init_92 fl_X3_53 rfl (Or.inr ⟨rfl, rfl, rfl⟩) rfl (by decide) rfl rfl (by decide) ?_
  refine wp_aload_n (i := 0) dX3_init_95 rfl rfl ?_
  refine wp_getR (a2 := 107) dX3_init_96 fl_X3_9 rfl (zT_k rfl (by decide)) (by decide +kernel) ?_
  refine wp_iconst (v := 1) dX3_init_99 (by decide) ?_
  refine wp_gets1N dX3_init_100 mw_175 ?_
  refine wp_iconst (v := 1) dX3_init_103 (by decide) ?_
  refine wp_fld (j := 1) dX3_init_104 (by decide) (zT_z rfl) rfl (by decide) ?_
  refine wp_topI (v2 := 4095) (by rw [zI_lo (by decide) _ (by decide +kernel)]; rfl) ?_
  refine wn_ist (j := 1) (k1 := 18) dX3_init_105 rfl (by decide) rfl (by decide) (by decide) rfl rfl ?_
  refine wp_aload_n (i := 0) dX3_init_106 rfl rfl ?_
  refine wp_getR (a2 := 107) dX3_init_107 fl_X3_9 rfl (zT_k rfl (by decide)) (by decide +kernel) ?_
  refine wp_iconst (v := 2) dX3_init_110 (by decide) ?_
  refine wp_gets1N dX3_init_111 mw_175 ?_
  refine wp_iconst (v := 2) dX3_init_114 (by decide) ?_
  refine wp_fld (j := 2) dX3_init_115 (by decide) (zT_z rfl) rfl (by decide) ?_
  refine wp_topI (v2 := 10) (by rw [zI_lo (by decide) _ (by decide +kernel)]; rfl) ?_
  refine wn_ist (j := 2) (k1 := 19) dX3_init_116 rfl (by decide) rfl (by decide) (by decide) rfl rfl ?_
  refine wp_aload_n (i := 0) dX3_init_117 rfl rfl ?_
  refine wp_getR (a2 := 115) dX3_init_118 fl_X3_53 rfl (zT_k rfl (by decide)) (by decide +kernel) ?_
  refine wp_iconst (v := (-1)) dX3_init_121 (by decide) ?_
  refine wp_S2v dX3_init_122 mw_177 mw_178 mi_J7_fill_53178 (Nat.le_of_ble_eq_true rfl) (by decide) (by decide) (c_fill _ (zT_at rfl (by decide)) (by decide) ?_)
  rw [zF_0, zI_fil (m := 7) rfl (by decide)]
  exact wp_retV dX3_init_125 rfl (by decide) (by decide) hq
theorem ci_4 (d : Nat) {L : Nat} {xs : Nat → Int32} {Q : Nat → eT → eI → eR → Prop} (hq : Q 116 (zT L 116) (zI L xs 116 20) (zR 72)) : MC yX7_init cX7_init 2 none (d + 3) 111 1196 [.ref 4] 5 (zT L 5) (zI L xs 5 0) (zR 0) (qV Q) := by
  refine mc_intro (L0 := [.ref 4, vU]) (by decide) rfl (Nat.le_of_ble_eq_true rfl) ?_
  refine wp_aload_n (i := 0) dX7_init_0 rfl rfl ?_
  refine wp_objInit dX7_init_1 mw_19 (Nat.le_of_ble_eq_true rfl) ?_
  refine wp_aload_n (i := 0) dX7_init_4 rfl rfl ?_
  refine wn_new (q := 2) (s0 := 4) (n1 := 6) (kc1 := 1) (ks1 := 4) dX7_init_5 (by decide) mw_22 mw_23 mw_2 (by decide +kernel) rfl rfl rfl rfl (by decide) (by decide) rfl rfl rfl (by decide) ?_
  refine wp_dup dX7_init_8 rfl ?_
  refine wp_IN0vA (K2 := 13) (N2 := 130) dX7_init_9 mw_24 mw_25 rfl rfl mi_X2_init (Nat.le_of_ble_eq_true rfl) (by decide) (by decide) (ci_5 (d + 1) ?_)
  refine wn_kc (kc1 := 14) (ks1 := 134) rfl rfl ?_
  refine wn_putR (r1 := 5) dX7_init_12 fl_X7_12 rfl (Or.inr ⟨rfl, rfl, rfl⟩) rfl (by decide) rfl rfl (by decide) ?_
  refine wp_aload_n (i := 0) dX7_init_15 rfl rfl ?_
  refine wn_new (q := 4) (s0 := 3) (n1 := 20) (kc1 := 15) (ks1 := 137) dX7_init_16 (by decide) mw_52 mw_53 mw_3 (by decide +kernel) rfl rfl rfl rfl (by decide) (by decide) rfl rfl rfl (by decide) ?_
  refine wp_dup dX7_init_19 rfl ?_
  refine wp_IN0vA (K2 := 14) (N2 := 134) dX7_init_20 mw_54 mw_55 rfl rfl mi_X4_init (Nat.le_of_ble_eq_true rfl) (by decide) (by decide) (ci_19 (d + 0) ?_)
  refine wn_kc (kc1 := 29) (ks1 := 271) rfl rfl ?_
  refine wn_putR (r1 := 11) dX7_init_23 fl_X7_21 rfl (Or.inr ⟨rfl, rfl, rfl⟩) rfl (by decide) rfl rfl (by decide) ?_
  refine wp_aload_n (i := 0) dX7_init_26 rfl rfl ?_
  refine wp_iconst (v := 4) dX7_init_27 (by decide) ?_
  refine wn_11 (M := 4) (n1 := 35) (kc1 := 30) (ks1 := 275) dX7_init_28 mw_71 (by decide) (by decide) (by decide) rfl rfl rfl (by decide) (by decide) rfl rfl rfl (by decide) ?_
  refine wn_putR (r1 := 12) dX7_init_31 fl_X7_27 rfl (Or.inr ⟨rfl, rfl, rfl⟩) rfl (by decide) rfl rfl (by decide) ?_
  refine wp_aload_n (i := 0) dX7_init_34 rfl rfl ?_
  refine wp_iconst (v := 0) dX7_init_35 (by decide) ?_
  refine wn_putI0 dX7_init_36 fl_X7_31 rfl (Or.inl rfl) rfl (by decide) (by decide) (by decide +kernel) ?_
  refine wp_aload_n (i := 0) dX7_init_39 rfl rfl ?_
  refine wn_new (q := 5) (s0 := 11) (n1 := 36) (kc1 := 31) (ks1 := 286) dX7_init_40 (by decide) mw_73 mw_74 mw_4 (by decide +kernel) rfl rfl rfl rfl (by decide) (by decide) rfl rfl rfl (by decide) ?_
  refine wp_dup dX7_init_43 rfl ?_
  refine wp_I0vA (K2 := 34) (N2 := 558) dX7_init_44 mw_75 mw_76 rfl rfl mi_X5_init (Nat.le_of_ble_eq_true rfl) (by decide) (by decide) (ci_35 (d + 0) ?_)
  refine wn_kc (kc1 := 65) (ks1 := 844) rfl rfl ?_
  refine wn_putR (r1 := 26) dX7_init_47 fl_X7_38 rfl (Or.inr ⟨rfl, rfl, rfl⟩) rfl (by decide) rfl rfl (by decide) ?_
  refine wp_aload_n (i := 0) dX7_init_50 rfl rfl ?_
  refine wn_new (q := 1) (s0 := 4) (n1 := 71) (kc1 := 66) (ks1 := 848) dX7_init_51 (by decide) mw_147 mw_148 mw_7 (by decide +kernel) rfl rfl rfl rfl (by decide) (by decide) rfl rfl rfl (by decide) ?_
  refine wp_dup dX7_init_54 rfl ?_
  refine wp_IN0vA (K2 := 3) (N2 := 50) dX7_init_55 mw_149 mw_150 rfl rfl mi_X1_init (Nat.le_of_ble_eq_true rfl) (by decide) (by decide) (ci_70 (d + 1) ?_)
  refine wn_kc (kc1 := 69) (ks1 := 898) rfl rfl ?_
  refine wn_putR (r1 := 30) dX7_init_58 fl_X7_45 rfl (Or.inr ⟨rfl, rfl, rfl⟩) rfl (by decide) rfl rfl (by decide) ?_
  refine wp_aload_n (i := 0) dX7_init_61 rfl rfl ?_
  refine wp_iconst (v := 2) dX7_init_62 (by decide) ?_
  refine wn_I (M := 2) (n1 := 75) (kc1 := 70) (ks1 := 900) dX7_init_63 (by decide) (by decide) (by decide) rfl rfl rfl (by decide) (by decide) rfl rfl rfl (by decide) ?_
  refine wn_putR (r1 := 31) dX7_init_65 fl_X7_49 rfl (Or.inr ⟨rfl, rfl, rfl⟩) rfl (by decide) rfl rfl (by decide) ?_
  refine wp_aload_n (i := 0) dX7_init_68 rfl rfl ?_
  refine wp_iconst (v := 4) dX7_init_69 (by decide) ?_
  refine wn_12 (M := 4) (n1 := 76) (kc1 := 71) (ks1 := 904) dX7_init_70 mw_166 (by decide) (by decide) (by decide) rfl rfl rfl (by decide) (by decide) rfl rfl rfl (by decide) ?_
  refine wn_putR (r1 := 32) dX7_init_73 fl_X7_55 rfl (Or.inr ⟨rfl, rfl, rfl⟩) rfl (by decide) rfl rfl (by decide) ?_
  refine wp_aload_n (i := 0) dX7_init_76 rfl rfl ?_
  refine wp_iconst (v := 0) dX7_init_77 (by decide) ?_
  refine wn_putI0 dX7_init_78 fl_X7_59 rfl (Or.inl rfl) rfl (by decide) (by decide) (by decide +kernel) ?_
  refine wp_aload_n (i := 0) dX7_init_81 rfl rfl ?_
  refine wp_iconst (v := 0) dX7_init_82 (by decide) ?_
  refine wn_putI0 dX7_init_83 fl_X7_62 rfl (Or.inl rfl) rfl (by decide) (by decide) (by decide +kernel) ?_
  refine wp_aload_n (i := 0) dX7_init_86 rfl rfl ?_
  refine wp_getR (a2 := 74) dX7_init_87 fl_X7_49 rfl (zT_k rfl (by decide)) (by decide +kernel) ?_
  refine wp_iconst (v := 0) dX7_init_90 (by decide) ?_
  refine wp_iconst (v := 5) dX7_init_91 (by decide) ?_
  refine wn_ist (j := 0) (k1 := 3) dX7_init_92 rfl (by decide) rfl (by decide) (by decide) rfl rfl ?_
  refine wp_aload_n (i := 0) dX7_init_93 rfl rfl ?_
  refine wp_getR (a2 := 74) dX7_init_94 fl_X7_49 rfl (zT_k rfl (by decide)) (by decide +kernel) ?_
  refine wp_iconst (v := 1) dX7_init_97 (by decide) ?_
  refine wp_bipush (v := 10) dX7_init_98 (by decide) ?_
  refine wn_ist (j := 1) (k1 := 4) dX7_init_100 rfl (by decide) rfl (by decide) (by decide) rfl rfl ?_
  refine wp_iconst (v := 0) dX7_init_101 (by decide) ?_
  refine wp_istore_2_1 dX7_init_102 rfl ?_
  refine wp_iload_n (i := 1) dX7_init_103 rfl rfl ?_
  refine wp_iconst (v := 4) dX7_init_104 (by decide) ?_
  refine wp_icmp_ge (tgt := 127) dX7_init_105 (by decide) (fun zq105 => absurd zq105 (by decide)) (fun zq105 => ?_)
  refine wp_aload_n (i := 0) dX7_init_108 rfl rfl ?_
  refine wp_getR (a2 := 34) dX7_init_109 fl_X7_27 rfl (zT_k rfl (by decide)) (by decide +kernel) ?_
  refine wp_iload_n (i := 1) dX7_init_112 rfl rfl ?_
  refine wn_new (q := 3) (s0 := 13) (n1 := 77) (kc1 := 72) (ks1 := 917) dX7_init_113 (by decide) mw_71 mw_168 mw_8 (by decide +kernel) rfl rfl rfl rfl (by decide) (by decide) rfl rfl rfl (by decide) ?_
  refine wp_dup dX7_init_116 rfl ?_
  refine wp_I0vA (K2 := 9) (N2 := 60) dX7_init_117 mw_169 mw_170 rfl rfl mi_X3_init (Nat.le_of_ble_eq_true rfl) (by decide) (by decide) (ci_76 (d + 0) ?_)
  refine wn_kc (kc1 := 81) (ks1 := 977) rfl rfl ?_
  refine wn_rst11 (j := 0) (r1 := 42) dX7_init_120 rfl (by decide) rfl (by decide) (by decide) rfl (by decide) rfl rfl (by decide) ?_
  refine wp_iinc_2_1 (v := 1) dX7_init_121 (by decide) ?_
  refine wp_goto (tgt := 103) dX7_init_124 (by decide) ?_
  refine wp_iload_n (i := 1) dX7_init_103 rfl rfl ?_
  refine wp_iconst (v := 4) dX7_init_104 (by decide) ?_
  refine wp_icmp_ge (tgt := 127) dX7_init_105 (by decide) (fun zq105 => absurd zq105 (by decide)) (fun zq105 => ?_)
  refine wp_aload_n (i := 0) dX7_init_108 rfl rfl ?_
  refine wp_getR (a2 := 34) dX7_init_109 fl_X7_27 rfl (zT_k rfl (by decide)) (by decide +kernel) ?_
  refine wp_iload_n (i := 1) dX7_init_112 rfl rfl ?_
  refine wn_new (q := 3) (s0 := 13) (n1 := 87) (kc1 := 82) (ks1 := 990) dX7_init_113 (by decide) mw_71 mw_168 mw_8 (by decide +kernel) rfl rfl rfl rfl (by decide) (by decide) rfl rfl rfl (by decide) ?_
  refine wp_dup dX7_init_116 rfl ?_
  refine wp_I0vA (K2 := 9) (N2 := 60) dX7_init_117 mw_169 mw_170 rfl rfl mi_X3_init (Nat.le_of_ble_eq_true rfl) (by decide) (by decide) (ci_86 (d + 0) ?_)
  refine wn_kc (kc1 := 91) (ks1 := 1050) rfl rfl ?_
  refine wn_rst11 (j := 1) (r1 := 52) dX7_init_120 rfl (by decide) rfl (by decide) (by decide) rfl (by decide) rfl rfl (by decide) ?_
  refine wp_iinc_2_1 (v := 2) dX7_init_121 (by decide) ?_
  refine wp_goto (tgt := 103) dX7_init_124 (by decide) ?_
  refine wp_iload_n (i := 1) dX7_init_103 rfl rfl ?_
  refine wp_iconst (v := 4) dX7_init_104 (by decide) ?_
  refine wp_icmp_ge (tgt := 127) dX7_init_105 (by decide) (fun zq105 => absurd zq105 (by decide)) (fun zq105 => ?_)
  refine wp_aload_n (i := 0) dX7_init_108 rfl rfl ?_
  refine wp_getR (a2 := 34) dX7_init_109 fl_X7_27 rfl (zT_k rfl (by decide)) (by decide +kernel) ?_
  refine wp_iload_n (i := 1) dX7_init_112 rfl rfl ?_
  refine wn_new (q := 3) (s0 := 13) (n1 := 97) (kc1 := 92) (ks1 := 1063) dX7_init_113 (by decide) mw_71 mw_168 mw_8 (by decide +kernel) rfl rfl rfl rfl (by decide) (by decide) rfl rfl rfl (by decide) ?_
  refine wp_dup dX7_init_116 rfl ?_
  refine wp_I0vA (K2 := 9) (N2 := 60) dX7_init_117 mw_169 mw_170 rfl rfl mi_X3_init (Nat.le_of_ble_eq_true rfl) (by decide) (by decide) (ci_96 (d + 0) ?_)
  refine wn_kc (kc1 := 101) (ks1 := 1123) rfl rfl ?_
  refine wn_rst11 (j := 2) (r1 := 62) dX7_init_120 rfl (by decide) rfl (by decide) (by decide) rfl (by decide) rfl rfl (by decide) ?_
  refine wp_iinc_2_1 (v := 3) dX7_init_121 (by decide) ?_
  refine wp_goto (tgt := 103) dX7_init_124 (by decide) ?_
  refine wp_iload_n (i := 1) dX7_init_103 rfl rfl ?_
  refine wp_iconst (v := 4) dX7_init_104 (by decide) ?_
  refine wp_icmp_ge (tgt := 127) dX7_init_105 (by decide) (fun zq105 => absurd zq105 (by decide)) (fun zq105 => ?_)
  refine wp_aload_n (i := 0) dX7_init_108 rfl rfl ?_
  refine wp_getR (a2 := 34) dX7_init_109 fl_X7_27 rfl (zT_k rfl (by decide)) (by decide +kernel) ?_
  refine wp_iload_n (i := 1) dX7_init_112 rfl rfl ?_
  refine wn_new (q := 3) (s0 := 13) (n1 := 107) (kc1 := 102) (ks1 := 1136) dX7_init_113 (by decide) mw_71 mw_168 mw_8 (by decide +kernel) rfl rfl rfl rfl (by decide) (by decide) rfl rfl rfl (by decide) ?_
  refine wp_dup dX7_init_116 rfl ?_
  refine wp_I0vA (K2 := 9) (N2 := 60) dX7_init_117 mw_169 mw_170 rfl rfl mi_X3_init (Nat.le_of_ble_eq_true rfl) (by decide) (by decide) (ci_106 (d + 0) ?_)
  refine wn_kc (kc1 := 111) (ks1 := 1196) rfl rfl ?_
  refine wn_rst11 (j := 3) (r1 := 72) dX7_init_120 rfl (by decide) rfl (by decide) (by decide) rfl (by decide) rfl rfl (by decide) ?_
  refine wp_iinc_2_1 (v := 4) dX7_init_121 (by decide) ?_
  refine wp_goto (tgt := 103) dX7_init_124 (by decide) ?_
  refine wp_iload_n (i := 1) dX7_init_103 rfl rfl ?_
  refine wp_iconst (v := 4) dX7_init_104 (by decide) ?_
  refine wp_icmp_ge (tgt := 127) dX7_init_105 (by decide) (fun zq105 => ?_) (fun zq105 => absurd zq105 (by decide))
  exact wp_retV dX7_init_127 rfl (by decide) (by decide) hq
