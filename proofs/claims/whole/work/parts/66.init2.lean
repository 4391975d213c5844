def RZL : List (List (Option Nat)) := [[], [], [], [], [some 5, some 19, some 34, none, some 35, some 70, some 74, some 75], [none, some 6, some 7, some 8], [], [], [some 9, some 10, some 11, some 12, some 13, some 14, some 15, some 16, some 17, some 18], [], [], [], [], [], [], [], [], [], [], [some 20], [none, some 21, some 22, some 23], [], [], [some 24, some 25, some 26, some 27, some 28, some 29, some 30, some 31, some 32, some 33], [], [], [], [], [], [], [], [], [], [], [some 76, some 86, some 96, some 106], [some 36, some 38, some 39, some 40, some 46, some 47, some 53, some 66], [none, some 37], [], [], [], [some 41, some 42, some 43, some 44, some 45], [], [], [], [], [], [], [some 48, some 49, some 50, some 51, some 52], [], [], [], [], [], [some 54, some 55, some 56, some 57, some 58, some 59, some 60, some 61, some 62, some 63, some 64, some 65], [], [], [], [], [], [], [], [], [], [], [], [], [some 67, some 68, some 69], [], [], [], [some 71, some 72, some 73], [], [], [], [], [], [some 77, none, none, none, none, none, none, some 82, some 83, none, some 84, none, some 85], [], [none, some 79], [], [none, some 81], [], [], [], [], [], [some 87, none, none, none, none, none, none, some 92, some 93, none, some 94, none, some 95], [], [none, some 89], [], [none, some 91], [], [], [], [], [], [some 97, none, none, none, none, none, none, some 102, some 103, none, some 104, none, some 105], [], [none, some 99], [], [none, some 101], [], [], [], [], [], [some 107, none, none, none, none, none, none, some 112, some 113, none, some 114, none, some 115], [], [none, some 109], [], [none, some 111], [], [], [], [], [], [none, none, some 117, some 118, some 119, none, some 120, some 121, some 122, none, some 123, some 124, some 125, some 126, some 127, some 128, some 129, none, some 130, some 131, some 132, none, none, some 133, some 134, some 135, none, none, some 136, some 137, some 138, some 139, some 140, some 141, some 142, some 143, some 144, some 145, some 146, some 147, some 148, some 149], [], [], [], [], [], [], [], [], [], [], [], [], [], [], [], [], [], [], [], [], [], [], [], [], [], [], [], [], [], [], [], [], []]
def RZ (a f : Nat) : Option Nat := (RZL.getD a []).getD f none
theorem gd_out {α : Type} {l : List α} {a : Nat} {x : α} (h : l.length ≤ a) : l.getD a x = x := by rw [List.getD_eq_getElem?_getD, List.getElem?_eq_none h]; rfl
def zOk (a f : Nat) : Bool := match RZ a f with
  | some b => zR 105 a f == some b
  | none => true
theorem zOk_all : ∀ a, a < 150 → ∀ f, f < 45 → zOk a f = true := by decide +kernel
theorem RZ_len : ∀ a, a < 150 → (RZL.getD a []).length ≤ 45 := by decide +kernel
theorem RZ_lt {a f b : Nat} (h : RZ a f = some b) : a < 150 ∧ f < 45 := by
  have g1 : a < 150 := by
    rcases Nat.lt_or_ge a 150 with g | g
    · exact g
    · unfold RZ at h
      rw [gd_out (l := RZL) (show RZL.length ≤ a from Nat.le_trans (by decide +kernel) g)] at h
      cases h
  refine ⟨g1, ?_⟩
  rcases Nat.lt_or_ge f 45 with g | g
  · exact g
  · unfold RZ at h
    rw [gd_out (l := RZL.getD a []) (Nat.le_trans (RZ_len a g1) g)] at h
    cases h
theorem zr_r {a f b : Nat} (h : RZ a f = some b) : zR 105 a f = some b := by
  have q := RZ_lt h
  have g := zOk_all a q.1 f q.2
  unfold zOk at g
  rw [h] at g
  exact eq_of_beq g
def rOk (a f : Nat) : Bool := match R0 a f with
  | some b => rnR sgm tau (zR 105) a f == some b
  | none => true
theorem rOk_all : ∀ a, a < 150 → ∀ f, f < 45 → rOk a f = true := by decide +kernel
theorem tOk_all : ∀ a, a < 150 → T0 a = TZ (sgm a) := by decide +kernel
theorem R0_len : ∀ a, a < 150 → (R0L.getD a []).length ≤ 45 := by decide +kernel
theorem R0_lt {a f b : Nat} (h : R0 a f = some b) : a < 150 ∧ f < 45 := by
  have g1 := R0_b h
  refine ⟨g1, ?_⟩
  rcases Nat.lt_or_ge f 45 with g | g
  · exact g
  · unfold R0 at h
    rw [gd_out (l := R0L.getD a []) (Nat.le_trans (R0_len a g1) g)] at h
    cases h
theorem st_150 {L : Nat} : ST 150 (rnT sgm (zT L 150)) (rnR sgm tau (zR 105)) := by
  refine ⟨Nat.le_refl _, fun a v h => ?_, fun a f b h => ?_⟩
  · have hb := T0_b h
    rw [tOk_all a hb] at h
    exact zT_at h (sg_b a hb).1
  have q := R0_lt h
  have g := rOk_all a q.1 f q.2
  unfold rOk at g
  rw [h] at g
  exact eq_of_beq g

theorem lq1 (d : Nat) {L : Nat} {Q : eQt} {kc ks K N : Nat} : ∀ (rz kz : Nat) (I : eI), kz + rz = 4 → wp yX8_init cX8_init 2 none d K N Q kc ks 302 [.ref 116, .int (nI 4)] [] 150 (zT L 150) (zF (zF (zF I 124 kz 4 4095) 125 kz 4 10) 136 kz 4 (-9)) (zR 105) → wp yX8_init cX8_init 2 none d K N Q kc ks 266 [.ref 116, .int (nI kz)] [] 150 (zT L 150) I (zR 105) := by
  intro rz
  induction rz with
  | zero =>
    intro kz I hk hq
    obtain rfl : kz = 4 := by omega
    rw [zF_end, zF_end, zF_end] at hq
    refine wp_iload_n (i := 1) dX8_init_266 rfl rfl ?_
    refine wp_iconst (v := 4) dX8_init_267 (by decide) ?_
    refine wp_icmp_ge (tgt := 302) dX8_init_268 (by decide) (fun zq268 => ?_) (fun zq268 => absurd (by decide) zq268) 
    exact hq
  | succ rz ih =>
    intro kz I hk hq
    refine wp_iload_n (i := 1) dX8_init_266 rfl rfl ?_
    refine wp_iconst (v := 4) dX8_init_267 (by decide) ?_
    refine wp_icmp_ge (tgt := 302) dX8_init_268 (by decide) (fun zq268 => absurd zq268 (nI_ge (show kz < 4 by omega) (by decide))) (fun zq268 => ?_) 
    refine wp_aload_n (i := 0) dX8_init_271 rfl rfl ?_
    refine wp_getR dX8_init_272 fl_X8_31 rfl (zT_k rfl (by decide)) (zr_r rfl) ?_
    refine wp_iload_n (i := 1) dX8_init_275 rfl rfl ?_
    refine wp_sipush (v := 4095) dX8_init_276 (by decide) ?_
    refine wp_ist (j := kz) dX8_init_279 (zT_at rfl (by decide)) rfl (by omega) ?_
    refine wp_aload_n (i := 0) dX8_init_280 rfl rfl ?_
    refine wp_getR dX8_init_281 fl_X8_34 rfl (zT_k rfl (by decide)) (zr_r rfl) ?_
    refine wp_iload_n (i := 1) dX8_init_284 rfl rfl ?_
    refine wp_bipush (v := 10) dX8_init_285 (by decide) ?_
    refine wp_ist (j := kz) dX8_init_287 (zT_at rfl (by decide)) rfl (by omega) ?_
    refine wp_aload_n (i := 0) dX8_init_288 rfl rfl ?_
    refine wp_getR dX8_init_289 fl_X8_68 rfl (zT_k rfl (by decide)) (zr_r rfl) ?_
    refine wp_iload_n (i := 1) dX8_init_292 rfl rfl ?_
    refine wp_bipush (v := (-9)) dX8_init_293 (by decide) ?_
    refine wp_ist (j := kz) dX8_init_295 (zT_at rfl (by decide)) rfl (by omega) ?_
    refine wp_iinc_2_1 (v := nI (kz + 1)) dX8_init_296 (n_add rfl rfl) ?_
    refine wp_goto (tgt := 266) dX8_init_299 (by decide) ?_
    exact ih (kz + 1) _ (by omega) (by rw [zF_cm (b := 136) (a := 124) (by decide), zF_cm (b := 125) (a := 124) (by decide), zF_step (a := 124) (by omega), zF_cm (b := 136) (a := 125) (by decide), zF_step (a := 125) (by omega), zF_step (a := 136) (by omega)]; exact hq)

theorem lq2 (d : Nat) {L : Nat} {Q : eQt} {kc ks K N : Nat} : ∀ (rz kz : Nat) (I : eI), kz + rz = 40 → wp yX8_init cX8_init 2 none d K N Q kc ks 332 [.ref 116, .int (nI 40)] [] 150 (zT L 150) (zF (zF I 128 kz 40 (-9)) 129 kz 40 (-9)) (zR 105) → wp yX8_init cX8_init 2 none d K N Q kc ks 304 [.ref 116, .int (nI kz)] [] 150 (zT L 150) I (zR 105) := by
  intro rz
  induction rz with
  | zero =>
    intro kz I hk hq
    obtain rfl : kz = 40 := by omega
    rw [zF_end, zF_end] at hq
    refine wp_iload_n (i := 1) dX8_init_304 rfl rfl ?_
    refine wp_bipush (v := 40) dX8_init_305 (by decide) ?_
    refine wp_icmp_ge (tgt := 332) dX8_init_307 (by decide) (fun zq307 => ?_) (fun zq307 => absurd (by decide) zq307) 
    exact hq
  | succ rz ih =>
    intro kz I hk hq
    refine wp_iload_n (i := 1) dX8_init_304 rfl rfl ?_
    refine wp_bipush (v := 40) dX8_init_305 (by decide) ?_
    refine wp_icmp_ge (tgt := 332) dX8_init_307 (by decide) (fun zq307 => absurd zq307 (nI_ge (show kz < 40 by omega) (by decide))) (fun zq307 => ?_) 
    refine wp_aload_n (i := 0) dX8_init_310 rfl rfl ?_
    refine wp_getR dX8_init_311 fl_X8_44 rfl (zT_k rfl (by decide)) (zr_r rfl) ?_
    refine wp_iload_n (i := 1) dX8_init_314 rfl rfl ?_
    refine wp_bipush (v := (-9)) dX8_init_315 (by decide) ?_
    refine wp_ist (j := kz) dX8_init_317 (zT_at rfl (by decide)) rfl (by omega) ?_
    refine wp_aload_n (i := 0) dX8_init_318 rfl rfl ?_
    refine wp_getR dX8_init_319 fl_X8_47 rfl (zT_k rfl (by decide)) (zr_r rfl) ?_
    refine wp_iload_n (i := 1) dX8_init_322 rfl rfl ?_
    refine wp_bipush (v := (-9)) dX8_init_323 (by decide) ?_
    refine wp_ist (j := kz) dX8_init_325 (zT_at rfl (by decide)) rfl (by omega) ?_
    refine wp_iinc_2_1 (v := nI (kz + 1)) dX8_init_326 (n_add rfl rfl) ?_
    refine wp_goto (tgt := 304) dX8_init_329 (by decide) ?_
    exact ih (kz + 1) _ (by omega) (by rw [zF_cm (b := 129) (a := 128) (by decide), zF_step (a := 128) (by omega), zF_step (a := 129) (by omega)]; exact hq)

theorem lq3 (d : Nat) {L : Nat} {Q : eQt} {kc ks K N : Nat} : ∀ (rz kz : Nat) (I : eI), kz + rz = 32 → wp yX8_init cX8_init 2 none d K N Q kc ks 354 [.ref 116, .int (nI 32)] [] 150 (zT L 150) (zF I 145 kz 32 (-9)) (zR 105) → wp yX8_init cX8_init 2 none d K N Q kc ks 334 [.ref 116, .int (nI kz)] [] 150 (zT L 150) I (zR 105) := by
  intro rz
  induction rz with
  | zero =>
    intro kz I hk hq
    obtain rfl : kz = 32 := by omega
    rw [zF_end] at hq
    refine wp_iload_n (i := 1) dX8_init_334 rfl rfl ?_
    refine wp_bipush (v := 32) dX8_init_335 (by decide) ?_
    refine wp_icmp_ge (tgt := 354) dX8_init_337 (by decide) (fun zq337 => ?_) (fun zq337 => absurd (by decide) zq337) 
    exact hq
  | succ rz ih =>
    intro kz I hk hq
    refine wp_iload_n (i := 1) dX8_init_334 rfl rfl ?_
    refine wp_bipush (v := 32) dX8_init_335 (by decide) ?_
    refine wp_icmp_ge (tgt := 354) dX8_init_337 (by decide) (fun zq337 => absurd zq337 (nI_ge (show kz < 32 by omega) (by decide))) (fun zq337 => ?_) 
    refine wp_aload_n (i := 0) dX8_init_340 rfl rfl ?_
    refine wp_getR dX8_init_341 fl_X8_95 rfl (zT_k rfl (by decide)) (zr_r rfl) ?_
    refine wp_iload_n (i := 1) dX8_init_344 rfl rfl ?_
    refine wp_bipush (v := (-9)) dX8_init_345 (by decide) ?_
    refine wp_ist (j := kz) dX8_init_347 (zT_at rfl (by decide)) rfl (by omega) ?_
    refine wp_iinc_2_1 (v := nI (kz + 1)) dX8_init_348 (n_add rfl rfl) ?_
    refine wp_goto (tgt := 334) dX8_init_351 (by decide) ?_
    exact ih (kz + 1) _ (by omega) (by rw [zF_step (a := 145) (by omega)]; exact hq)

theorem lq4 (d : Nat) {L : Nat} {Q : eQt} {kc ks K N : Nat} : ∀ (rz kz : Nat) (I : eI), kz + rz = 4 → wp yX8_init cX8_init 2 none d K N Q kc ks 374 [.ref 116, .int (nI 4)] [] 150 (zT L 150) (zF I 146 kz 4 (-1)) (zR 105) → wp yX8_init cX8_init 2 none d K N Q kc ks 356 [.ref 116, .int (nI kz)] [] 150 (zT L 150) I (zR 105) := by
  intro rz
  induction rz with
  | zero =>
    intro kz I hk hq
    obtain rfl : kz = 4 := by omega
    rw [zF_end] at hq
    refine wp_iload_n (i := 1) dX8_init_356 rfl rfl ?_
    refine wp_iconst (v := 4) dX8_init_357 (by decide) ?_
    refine wp_icmp_ge (tgt := 374) dX8_init_358 (by decide) (fun zq358 => ?_) (fun zq358 => absurd (by decide) zq358) 
    exact hq
  | succ rz ih =>
    intro kz I hk hq
    refine wp_iload_n (i := 1) dX8_init_356 rfl rfl ?_
    refine wp_iconst (v := 4) dX8_init_357 (by decide) ?_
    refine wp_icmp_ge (tgt := 374) dX8_init_358 (by decide) (fun zq358 => absurd zq358 (nI_ge (show kz < 4 by omega) (by decide))) (fun zq358 => ?_) 
    refine wp_aload_n (i := 0) dX8_init_361 rfl rfl ?_
    refine wp_getR dX8_init_362 fl_X8_98 rfl (zT_k rfl (by decide)) (zr_r rfl) ?_
    refine wp_iload_n (i := 1) dX8_init_365 rfl rfl ?_
    refine wp_iconst (v := (-1)) dX8_init_366 (by decide) ?_
    refine wp_ist (j := kz) dX8_init_367 (zT_at rfl (by decide)) rfl (by omega) ?_
    refine wp_iinc_2_1 (v := nI (kz + 1)) dX8_init_368 (n_add rfl rfl) ?_
    refine wp_goto (tgt := 356) dX8_init_371 (by decide) ?_
    exact ih (kz + 1) _ (by omega) (by rw [zF_step (a := 146) (by omega)]; exact hq)

theorem ci_116 (d : Nat) {L : Nat} {xs : Nat → Int32} {Q : Nat → eT → eI → eR → Prop} (hq : Q 150 (zT L 150) (zI L xs 150 29) (zR 105)) : MC yX8_init cX8_init 2 none (d + 1) 33 869 [.ref 116] 117 (zT L 117) (zI L xs 117 20) (zR 72) (qV Q) := by
  refine mc_intro (L0 := [.ref 116, vU]) (by decide) rfl (Nat.le_of_ble_eq_true rfl) ?_
  refine wp_aload_n (i := 0) dX8_init_0 rfl rfl ?_
  refine wp_objInit dX8_init_1 mw_747 (Nat.le_of_ble_eq_true rfl) ?_
  refine wp_aload_n (i := 0) dX8_init_4 rfl rfl ?_
  refine wp_bipush (v := 10) dX8_init_5 (by decide) ?_
  refine wn_I (M := 10) (n1 := 118) (kc1 := 1) (ks1 := 10) dX8_init_7 (by decide) (by decide) (by decide) rfl rfl rfl (by decide) (by decide) rfl rfl rfl (by decide) ?_
  refine wn_putR (r1 := 73) dX8_init_9 fl_X8_7 rfl (Or.inr ⟨rfl, rfl, rfl⟩) rfl (by decide) rfl rfl (by decide) ?_
  refine wp_aload_n (i := 0) dX8_init_12 rfl rfl ?_
  refine wp_bipush (v := 10) dX8_init_13 (by decide) ?_
  refine wn_I (M := 10) (n1 := 119) (kc1 := 2) (ks1 := 20) dX8_init_15 (by decide) (by decide) (by decide) rfl rfl rfl (by decide) (by decide) rfl rfl rfl (by decide) ?_
  refine wn_putR (r1 := 74) dX8_init_17 fl_X8_13 rfl (Or.inr ⟨rfl, rfl, rfl⟩) rfl (by decide) rfl rfl (by decide) ?_
  refine wp_aload_n (i := 0) dX8_init_20 rfl rfl ?_
  refine wp_bipush (v := 100) dX8_init_21 (by decide) ?_
  refine wn_I (M := 100) (n1 := 120) (kc1 := 3) (ks1 := 120) dX8_init_23 (by decide) (by decide) (by decide) rfl rfl rfl (by decide) (by decide) rfl rfl rfl (by decide) ?_
  refine wn_putR (r1 := 75) dX8_init_25 fl_X8_16 rfl (Or.inr ⟨rfl, rfl, rfl⟩) rfl (by decide) rfl rfl (by decide) ?_
  refine wp_aload_n (i := 0) dX8_init_28 rfl rfl ?_
  refine wp_bipush (v := 10) dX8_init_29 (by decide) ?_
  refine wn_I (M := 10) (n1 := 121) (kc1 := 4) (ks1 := 130) dX8_init_31 (by decide) (by decide) (by decide) rfl rfl rfl (by decide) (by decide) rfl rfl rfl (by decide) ?_
  refine wn_putR (r1 := 76) dX8_init_33 fl_X8_19 rfl (Or.inr ⟨rfl, rfl, rfl⟩) rfl (by decide) rfl rfl (by decide) ?_
  refine wp_aload_n (i := 0) dX8_init_36 rfl rfl ?_
  refine wp_bipush (v := 10) dX8_init_37 (by decide) ?_
  refine wn_I (M := 10) (n1 := 122) (kc1 := 5) (ks1 := 140) dX8_init_39 (by decide) (by decide) (by decide) rfl rfl rfl (by decide) (by decide) rfl rfl rfl (by decide) ?_
  refine wn_putR (r1 := 77) dX8_init_41 fl_X8_22 rfl (Or.inr ⟨rfl, rfl, rfl⟩) rfl (by decide) rfl rfl (by decide) ?_
  refine wp_aload_n (i := 0) dX8_init_44 rfl rfl ?_
  refine wp_bipush (v := 100) dX8_init_45 (by decide) ?_
  refine wn_I (M := 100) (n1 := 123) (kc1 := 6) (ks1 := 240) dX8_init_47 (by decide) (by decide) (by decide) rfl rfl rfl (by decide) (by decide) rfl rfl rfl (by decide) ?_
  refine wn_putR (r1 := 78) dX8_init_49 fl_X8_25 rfl (Or.inr ⟨rfl, rfl, rfl⟩) rfl (by decide) rfl rfl (by decide) ?_
  refine wp_aload_n (i := 0) dX8_init_52 rfl rfl ?_
  refine wp_iconst (v := 4) dX8_init_53 (by decide) ?_
  refine wn_I (M := 4) (n1 := 124) (kc1 := 7) (ks1 := 244) dX8_init_54 (by decide) (by decide) (by decide) rfl rfl rfl (by decide) (by decide) rfl rfl rfl (by decide) ?_
  refine wn_putR (r1 := 79) dX8_init_56 fl_X8_28 rfl (Or.inr ⟨rfl, rfl, rfl⟩) rfl (by decide) rfl rfl (by decide) ?_
  refine wp_aload_n (i := 0) dX8_init_59 rfl rfl ?_
  refine wp_iconst (v := 4) dX8_init_60 (by decide) ?_
  refine wn_I (M := 4) (n1 := 125) (kc1 := 8) (ks1 := 248) dX8_init_61 (by decide) (by decide) (by decide) rfl rfl rfl (by decide) (by decide) rfl rfl rfl (by decide) ?_
  refine wn_putR (r1 := 80) dX8_init_63 fl_X8_31 rfl (Or.inr ⟨rfl, rfl, rfl⟩) rfl (by decide) rfl rfl (by decide) ?_
  refine wp_aload_n (i := 0) dX8_init_66 rfl rfl ?_
  refine wp_iconst (v := 4) dX8_init_67 (by decide) ?_
  refine wn_I (M := 4) (n1 := 126) (kc1 := 9) (ks1 := 252) dX8_init_68 (by decide) (by decide) (by decide) rfl rfl rfl (by decide) (by decide) rfl rfl rfl (by decide) ?_
  refine wn_putR (r1 := 81) dX8_init_70 fl_X8_34 rfl (Or.inr ⟨rfl, rfl, rfl⟩) rfl (by decide) rfl rfl (by decide) ?_
  refine wp_aload_n (i := 0) dX8_init_73 rfl rfl ?_
  refine wp_iconst (v := 4) dX8_init_74 (by decide) ?_
  refine wn_Z (M := 4) (n1 := 127) (kc1 := 10) (ks1 := 256) dX8_init_75 (by decide) (by decide) (by decide) rfl rfl rfl (by decide) (by decide) rfl rfl rfl (by decide) ?_
  refine wn_putR (r1 := 82) dX8_init_77 fl_X8_37 rfl (Or.inr ⟨rfl, rfl, rfl⟩) rfl (by decide) rfl rfl (by decide) ?_
  refine wp_aload_n (i := 0) dX8_init_80 rfl rfl ?_
  refine wp_iconst (v := 4) dX8_init_81 (by decide) ?_
  refine wn_Z (M := 4) (n1 := 128) (kc1 := 11) (ks1 := 260) dX8_init_82 (by decide) (by decide) (by decide) rfl rfl rfl (by decide) (by decide) rfl rfl rfl (by decide) ?_
  refine wn_putR (r1 := 83) dX8_init_84 fl_X8_41 rfl (Or.inr ⟨rfl, rfl, rfl⟩) rfl (by decide) rfl rfl (by decide) ?_
  refine wp_aload_n (i := 0) dX8_init_87 rfl rfl ?_
  refine wp_bipush (v := 40) dX8_init_88 (by decide) ?_
  refine wn_I (M := 40) (n1 := 129) (kc1 := 12) (ks1 := 300) dX8_init_90 (by decide) (by decide) (by decide) rfl rfl rfl (by decide) (by decide) rfl rfl rfl (by decide) ?_
  refine wn_putR (r1 := 84) dX8_init_92 fl_X8_44 rfl (Or.inr ⟨rfl, rfl, rfl⟩) rfl (by decide) rfl rfl (by decide) ?_
  refine wp_aload_n (i := 0) dX8_init_95 rfl rfl ?_
  refine wp_bipush (v := 40) dX8_init_96 (by decide) ?_
  refine wn_I (M := 40) (n1 := 130) (kc1 := 13) (ks1 := 340) dX8_init_98 (by decide) (by decide) (by decide) rfl rfl rfl (by decide) (by decide) rfl rfl rfl (by decide) ?_
  refine wn_putR (r1 := 85) dX8_init_100 fl_X8_47 rfl (Or.inr ⟨rfl, rfl, rfl⟩) rfl (by decide) rfl rfl (by decide) ?_
  refine wp_aload_n (i := 0) dX8_init_103 rfl rfl ?_
  refine wp_iconst (v := 5) dX8_init_104 (by decide) ?_
  refine wn_I (M := 5) (n1 := 131) (kc1 := 14) (ks1 := 345) dX8_init_105 (by decide) (by decide) (by decide) rfl rfl rfl (by decide) (by decide) rfl rfl rfl (by decide) ?_
  refine wn_putR (r1 := 86) dX8_init_107 fl_X8_50 rfl (Or.inr ⟨rfl, rfl, rfl⟩) rfl (by decide) rfl rfl (by decide) ?_
  refine wp_aload_n (i := 0) dX8_init_110 rfl rfl ?_
  refine wp_iconst (v := 5) dX8_init_111 (by decide) ?_
  refine wn_I (M := 5) (n1 := 132) (kc1 := 15) (ks1 := 350) dX8_init_112 (by decide) (by decide) (by decide) rfl rfl rfl (by decide) (by decide) rfl rfl rfl (by decide) ?_
  refine wn_putR (r1 := 87) dX8_init_114 fl_X8_53 rfl (Or.inr ⟨rfl, rfl, rfl⟩) rfl (by decide) rfl rfl (by decide) ?_
  refine wp_aload_n (i := 0) dX8_init_117 rfl rfl ?_
  refine wp_iconst (v := 5) dX8_init_118 (by decide) ?_
  refine wn_I (M := 5) (n1 := 133) (kc1 := 16) (ks1 := 355) dX8_init_119 (by decide) (by decide) (by decide) rfl rfl rfl (by decide) (by decide) rfl rfl rfl (by decide) ?_
  refine wn_putR (r1 := 88) dX8_init_121 fl_X8_56 rfl (Or.inr ⟨rfl, rfl, rfl⟩) rfl (by decide) rfl rfl (by decide) ?_
  refine wp_aload_n (i := 0) dX8_init_124 rfl rfl ?_
  refine wp_bipush (v := 20) dX8_init_125 (by decide) ?_
  refine wn_I (M := 20) (n1 := 134) (kc1 := 17) (ks1 := 375) dX8_init_127 (by decide) (by decide) (by decide) rfl rfl rfl (by decide) (by decide) rfl rfl rfl (by decide) ?_
  refine wn_putR (r1 := 89) dX8_init_129 fl_X8_59 rfl (Or.inr ⟨rfl, rfl, rfl⟩) rfl (by decide) rfl rfl (by decide) ?_
  refine wp_aload_n (i := 0) dX8_init_132 rfl rfl ?_
  refine wp_bipush (v := 20) dX8_init_133 (by decide) ?_
  refine wn_I (M := 20) (n1 := 135) (kc1 := 18) (ks1 := 395) dX8_init_135 (by decide) (by decide) (by decide) rfl rfl rfl (by decide) (by decide) rfl rfl rfl (by decide) ?_
  refine wn_putR (r1 := 90) dX8_init_137 fl_X8_62 rfl (Or.inr ⟨rfl, rfl, rfl⟩) rfl (by decide) rfl rfl (by decide) ?_
  refine wp_aload_n (i := 0) dX8_init_140 rfl rfl ?_
  refine wp_bipush (v := 10) dX8_init_141 (by decide) ?_
  refine wn_I (M := 10) (n1 := 136) (kc1 := 19) (ks1 := 405) dX8_init_143 (by decide) (by decide) (by decide) rfl rfl rfl (by decide) (by decide) rfl rfl rfl (by decide) ?_
  refine wn_putR (r1 := 91) dX8_init_145 fl_X8_65 rfl (Or.inr ⟨rfl, rfl, rfl⟩) rfl (by decide) rfl rfl (by decide) ?_
  refine wp_aload_n (i := 0) dX8_init_148 rfl rfl ?_
  refine wp_iconst (v := 4) dX8_init_149 (by decide) ?_
  refine wn_I (M := 4) (n1 := 137) (kc1 := 20) (ks1 := 409) dX8_init_150 (by decide) (by decide) (by decide) rfl rfl rfl (by decide) (by decide) rfl rfl rfl (by decide) ?_
  refine wn_putR (r1 := 92) dX8_init_152 fl_X8_68 rfl (Or.inr ⟨rfl, rfl, rfl⟩) rfl (by decide) rfl rfl (by decide) ?_
  refine wp_aload_n (i := 0) dX8_init_155 rfl rfl ?_
  refine wp_iconst (v := 4) dX8_init_156 (by decide) ?_
  refine wn_I (M := 4) (n1 := 138) (kc1 := 21) (ks1 := 413) dX8_init_157 (by decide) (by decide) (by decide) rfl rfl rfl (by decide) (by decide) rfl rfl rfl (by decide) ?_
  refine wn_putR (r1 := 93) dX8_init_159 fl_X8_71 rfl (Or.inr ⟨rfl, rfl, rfl⟩) rfl (by decide) rfl rfl (by decide) ?_
  refine wp_aload_n (i := 0) dX8_init_162 rfl rfl ?_
  refine wp_iconst (v := 4) dX8_init_163 (by decide) ?_
  refine wn_I (M := 4) (n1 := 139) (kc1 := 22) (ks1 := 417) dX8_init_164 (by decide) (by decide) (by decide) rfl rfl rfl (by decide) (by decide) rfl rfl rfl (by decide) ?_
  refine wn_putR (r1 := 94) dX8_init_166 fl_X8_74 rfl (Or.inr ⟨rfl, rfl, rfl⟩) rfl (by decide) rfl rfl (by decide) ?_
  refine wp_aload_n (i := 0) dX8_init_169 rfl rfl ?_
  refine wp_iconst (v := 4) dX8_init_170 (by decide) ?_
  refine wn_I (M := 4) (n1 := 140) (kc1 := 23) (ks1 := 421) dX8_init_171 (by decide) (by decide) (by decide) rfl rfl rfl (by decide) (by decide) rfl rfl rfl (by decide) ?_
  refine wn_putR (r1 := 95) dX8_init_173 fl_X8_77 rfl (Or.inr ⟨rfl, rfl, rfl⟩) rfl (by decide) rfl rfl (by decide) ?_
  refine wp_aload_n (i := 0) dX8_init_176 rfl rfl ?_
  refine wp_bipush (v := 12) dX8_init_177 (by decide) ?_
  refine wn_I (M := 12) (n1 := 141) (kc1 := 24) (ks1 := 433) dX8_init_179 (by decide) (by decide) (by decide) rfl rfl rfl (by decide) (by decide) rfl rfl rfl (by decide) ?_
  refine wn_putR (r1 := 96) dX8_init_181 fl_X8_80 rfl (Or.inr ⟨rfl, rfl, rfl⟩) rfl (by decide) rfl rfl (by decide) ?_
  refine wp_aload_n (i := 0) dX8_init_184 rfl rfl ?_
  refine wp_iconst (v := 4) dX8_init_185 (by decide) ?_
  refine wn_I (M := 4) (n1 := 142) (kc1 := 25) (ks1 := 437) dX8_init_186 (by decide) (by decide) (by decide) rfl rfl rfl (by decide) (by decide) rfl rfl rfl (by decide) ?_
  refine wn_putR (r1 := 97) dX8_init_188 fl_X8_83 rfl (Or.inr ⟨rfl, rfl, rfl⟩) rfl (by decide) rfl rfl (by decide) ?_
  refine wp_aload_n (i := 0) dX8_init_191 rfl rfl ?_
  refine wp_bipush (v := 48) dX8_init_192 (by decide) ?_
  refine wn_I (M := 48) (n1 := 143) (kc1 := 26) (ks1 := 485) dX8_init_194 (by decide) (by decide) (by decide) rfl rfl rfl (by decide) (by decide) rfl rfl rfl (by decide) ?_
  refine wn_putR (r1 := 98) dX8_init_196 fl_X8_86 rfl (Or.inr ⟨rfl, rfl, rfl⟩) rfl (by decide) rfl rfl (by decide) ?_
  refine wp_aload_n (i := 0) dX8_init_199 rfl rfl ?_
  refine wp_iconst (v := 4) dX8_init_200 (by decide) ?_
  refine wn_I (M := 4) (n1 := 144) (kc1 := 27) (ks1 := 489) dX8_init_201 (by decide) (by decide) (by decide) rfl rfl rfl (by decide) (by decide) rfl rfl rfl (by decide) ?_
  refine wn_putR (r1 := 99) dX8_init_203 fl_X8_89 rfl (Or.inr ⟨rfl, rfl, rfl⟩) rfl (by decide) rfl rfl (by decide) ?_
  refine wp_aload_n (i := 0) dX8_init_206 rfl rfl ?_
  refine wp_bipush (v := 40) dX8_init_207 (by decide) ?_
  refine wn_I (M := 40) (n1 := 145) (kc1 := 28) (ks1 := 529) dX8_init_209 (by decide) (by decide) (by decide) rfl rfl rfl (by decide) (by decide) rfl rfl rfl (by decide) ?_
  refine wn_putR (r1 := 100) dX8_init_211 fl_X8_92 rfl (Or.inr ⟨rfl, rfl, rfl⟩) rfl (by decide) rfl rfl (by decide) ?_
  refine wp_aload_n (i := 0) dX8_init_214 rfl rfl ?_
  refine wp_bipush (v := 32) dX8_init_215 (by decide) ?_
  refine wn_I (M := 32) (n1 := 146) (kc1 := 29) (ks1 := 561) dX8_init_217 (by decide) (by decide) (by decide) rfl rfl rfl (by decide) (by decide) rfl rfl rfl (by decide) ?_
  refine wn_putR (r1 := 101) dX8_init_219 fl_X8_95 rfl (Or.inr ⟨rfl, rfl, rfl⟩) rfl (by decide) rfl rfl (by decide) ?_
  refine wp_aload_n (i := 0) dX8_init_222 rfl rfl ?_
  refine wp_iconst (v := 4) dX8_init_223 (by decide) ?_
  refine wn_I (M := 4) (n1 := 147) (kc1 := 30) (ks1 := 565) dX8_init_224 (by decide) (by decide) (by decide) rfl rfl rfl (by decide) (by decide) rfl rfl rfl (by decide) ?_
  refine wn_putR (r1 := 102) dX8_init_226 fl_X8_98 rfl (Or.inr ⟨rfl, rfl, rfl⟩) rfl (by decide) rfl rfl (by decide) ?_
  refine wp_aload_n (i := 0) dX8_init_229 rfl rfl ?_
  refine wp_iconst (v := 4) dX8_init_230 (by decide) ?_
  refine wn_I (M := 4) (n1 := 148) (kc1 := 31) (ks1 := 569) dX8_init_231 (by decide) (by decide) (by decide) rfl rfl rfl (by decide) (by decide) rfl rfl rfl (by decide) ?_
  refine wn_putR (r1 := 103) dX8_init_233 fl_X8_101 rfl (Or.inr ⟨rfl, rfl, rfl⟩) rfl (by decide) rfl rfl (by decide) ?_
  refine wp_aload_n (i := 0) dX8_init_236 rfl rfl ?_
  refine wp_sipush (v := 240) dX8_init_237 (by decide) ?_
  refine wn_I (M := 240) (n1 := 149) (kc1 := 32) (ks1 := 809) dX8_init_240 (by decide) (by decide) (by decide) rfl rfl rfl (by decide) (by decide) rfl rfl rfl (by decide) ?_
  refine wn_putR (r1 := 104) dX8_init_242 fl_X8_104 rfl (Or.inr ⟨rfl, rfl, rfl⟩) rfl (by decide) rfl rfl (by decide) ?_
  refine wp_aload_n (i := 0) dX8_init_245 rfl rfl ?_
  refine wp_bipush (v := 60) dX8_init_246 (by decide) ?_
  refine wn_I (M := 60) (n1 := 150) (kc1 := 33) (ks1 := 869) dX8_init_248 (by decide) (by decide) (by decide) rfl rfl rfl (by decide) (by decide) rfl rfl rfl (by decide) ?_
  refine wn_putR (r1 := 105) dX8_init_250 fl_X8_107 rfl (Or.inr ⟨rfl, rfl, rfl⟩) rfl (by decide) rfl rfl (by decide) ?_
  refine wp_aload_n (i := 0) dX8_init_253 rfl rfl ?_
  refine wp_iconst (v := 5) dX8_init_254 (by decide) ?_
  refine wn_putI (k1 := 21) dX8_init_255 fl_X8_110 rfl (Or.inl rfl) rfl (by decide) rfl rfl ?_
  refine wp_aload_n (i := 0) dX8_init_258 rfl rfl ?_
  refine wp_bipush (v := 10) dX8_init_259 (by decide) ?_
  refine wn_putI (k1 := 22) dX8_init_261 fl_X8_114 rfl (Or.inl rfl) rfl (by decide) rfl rfl ?_
  refine wp_iconst (v := nI 0) dX8_init_264 (by decide) ?_
  refine wp_istore_2_1 dX8_init_265 rfl ?_
  refine lq1 _ 4 0 _ rfl ?_
  rw [zI_fil (m := 3) rfl (by decide), zI_fil (m := 3) rfl (by decide), zI_fil (m := 3) rfl (by decide)]
  refine wp_iconst (v := nI 0) dX8_init_302 (by decide) ?_
  refine wp_istore_2_1 dX8_init_303 rfl ?_
  refine lq2 _ 40 0 _ rfl ?_
  rw [zI_fil (m := 39) rfl (by decide), zI_fil (m := 39) rfl (by decide)]
  refine wp_iconst (v := nI 0) dX8_init_332 (by decide) ?_
  refine wp_istore_2_1 dX8_init_333 rfl ?_
  refine lq3 _ 32 0 _ rfl ?_
  rw [zI_fil (m := 31) rfl (by decide)]
  refine wp_iconst (v := nI 0) dX8_init_354 (by decide) ?_
  refine wp_istore_2_1 dX8_init_355 rfl ?_
  refine lq4 _ 4 0 _ rfl ?_
  rw [zI_fil (m := 3) rfl (by decide)]
  exact wp_retV dX8_init_374 rfl (by decide) (by decide) hq

section INV0
variable {L : Nat} {xs : Nat → Int32}
theorem i0_v (a : Nat) (h1 : 4 ≤ a) (h2 : a < 150) : rnI sgm (zI L xs 150 29) a = zV 29 (sgm a) := zI_v (sg_4 a h1) (sg_b a h2).1 29
theorem i0_z (a : Nat) (h1 : 4 ≤ a) (h2 : a < 150) (h : zN 29 (sgm a) = true) : rnI sgm (zI L xs 150 29) a = fun _ => 0 := by rw [i0_v a h1 h2, zV_no _ h]
theorem i0_lo {a : Nat} (h : a < 4) (hz : zN 29 a = true) : rnI sgm (zI L xs 150 29) a = I_0 L xs a := by
  unfold rnI
  rw [sg_lo h]
  exact zI_lo h 29 hz
theorem t0_lo {a : Nat} (h : a < 4) (hz : TZ a = none) : rnT sgm (zT L 150) a = t_0 L a := by
  unfold rnT
  rw [sg_lo h]
  exact zT_z hz
theorem i0_fz : FZ (rnT sgm (zT L 150)) (rnI sgm (zI L xs 150 29)) L xs := by
  unfold FZ
  rw [i0_lo (a := 0) (by decide) (by decide +kernel), i0_lo (a := 1) (by decide) (by decide +kernel), i0_lo (a := 2) (by decide) (by decide +kernel), i0_lo (a := 3) (by decide) (by decide +kernel), t0_lo (a := 0) (by decide) rfl, t0_lo (a := 1) (by decide) rfl, t0_lo (a := 2) (by decide) rfl, t0_lo (a := 3) (by decide) rfl]
  exact ⟨rfl, rfl, rfl, rfl, rfl, rfl, rfl, rfl, rfl, rfl, rfl, rfl, rfl⟩
theorem i0_g : IG 0 (rnI sgm (zI L xs 150 29)) := by
  unfold IG
  rw [i0_v 4 (by decide) (by decide), i0_v 94 (by decide) (by decide), i0_v 52 (by decide) (by decide)]
  exact ⟨by decide +kernel, by decide +kernel, by decide +kernel, ⟨5, by decide, by decide +kernel⟩, by decide +kernel, by decide +kernel, by decide +kernel⟩
theorem i0_p : IP 0 (rnI sgm (zI L xs 150 29)) := by
  unfold IP
  rw [i0_v 5 (by decide) (by decide), i0_v 94 (by decide) (by decide)]
  exact ⟨by decide +kernel, by decide +kernel, fun x hx => absurd hx (by omega), fun x hx => absurd hx (by omega), fun a b ha _ => absurd ha (by omega)⟩
theorem i0_a1 {p : Nat} (hp : p < 4) : IA1 (rnI sgm (zI L xs 150 29)) p := by
  unfold IA1
  rw [i0_v (55 + 10 * p) (by omega) (by omega), i0_v 101 (by decide) (by decide), i0_v 102 (by decide) (by decide), i0_v 103 (by decide) (by decide)]
  rcases (show p = 0 ∨ p = 1 ∨ p = 2 ∨ p = 3 by omega) with rfl | rfl | rfl | rfl <;> exact ⟨⟨by decide +kernel, 0, by decide, by decide +kernel⟩, by decide +kernel, by decide +kernel, 10, by decide, by decide +kernel⟩
theorem i0_a2 {p : Nat} (hp : p < 4) : IA2 (rnI sgm (zI L xs 150 29)) p := by
  unfold IA2
  rw [i0_v (54 + 10 * p) (by omega) (by omega), i0_v 114 (by decide) (by decide), i0_v 115 (by decide) (by decide), i0_v 116 (by decide) (by decide), i0_v 117 (by decide) (by decide)]
  rcases (show p = 0 ∨ p = 1 ∨ p = 2 ∨ p = 3 by omega) with rfl | rfl | rfl | rfl <;> exact ⟨by decide +kernel, by decide +kernel, Or.inl (by decide +kernel), by decide +kernel, ⟨0, by decide, by decide +kernel⟩, by decide +kernel⟩
theorem i0_a3 {p : Nat} (hp : p < 4) : IA3 0 (rnI sgm (zI L xs 150 29)) p := by
  unfold IA3
  rw [i0_v (54 + 10 * p) (by omega) (by omega), i0_v (60 + 10 * p) (by omega) (by omega), i0_z 118 (by decide) (by decide) (by decide +kernel), i0_v 119 (by decide) (by decide)]
  rcases (show p = 0 ∨ p = 1 ∨ p = 2 ∨ p = 3 by omega) with rfl | rfl | rfl | rfl
  · refine ⟨0, by decide, by decide +kernel, by decide +kernel, fun i hi => absurd hi (by omega), fun e he => ⟨?_, 0, by decide, rfl, by exact Nat.le_refl 0⟩⟩
    rw [zV_no (n := sgm (60 + 10 * 0)) _ (by decide +kernel)]
  · refine ⟨0, by decide, by decide +kernel, by decide +kernel, fun i hi => absurd hi (by omega), fun e he => ⟨?_, 0, by decide, rfl, by exact Nat.le_refl 0⟩⟩
    rw [zV_no (n := sgm (60 + 10 * 1)) _ (by decide +kernel)]
  · refine ⟨0, by decide, by decide +kernel, by decide +kernel, fun i hi => absurd hi (by omega), fun e he => ⟨?_, 0, by decide, rfl, by exact Nat.le_refl 0⟩⟩
    rw [zV_no (n := sgm (60 + 10 * 2)) _ (by decide +kernel)]
  · refine ⟨0, by decide, by decide +kernel, by decide +kernel, fun i hi => absurd hi (by omega), fun e he => ⟨?_, 0, by decide, rfl, by exact Nat.le_refl 0⟩⟩
    rw [zV_no (n := sgm (60 + 10 * 3)) _ (by decide +kernel)]
theorem i0_a4 {p : Nat} (hp : p < 4) : IA4 (rnI sgm (zI L xs 150 29)) p := by
  unfold IA4
  rw [i0_v (54 + 10 * p) (by omega) (by omega), i0_v (62 + 10 * p) (by omega) (by omega), i0_z 122 (by decide) (by decide) (by decide +kernel), i0_v 121 (by decide) (by decide)]
  rcases (show p = 0 ∨ p = 1 ∨ p = 2 ∨ p = 3 by omega) with rfl | rfl | rfl | rfl
  · refine ⟨0, by decide, by decide +kernel, by decide +kernel, fun i hi => ⟨?_, (by show -99 ≤ (0 : Int32).toInt; decide), (by show (0 : Int32).toInt ≤ 99; decide)⟩⟩
    rw [zV_no (n := sgm (62 + 10 * 0)) _ (by decide +kernel)]
  · refine ⟨0, by decide, by decide +kernel, by decide +kernel, fun i hi => ⟨?_, (by show -99 ≤ (0 : Int32).toInt; decide), (by show (0 : Int32).toInt ≤ 99; decide)⟩⟩
    rw [zV_no (n := sgm (62 + 10 * 1)) _ (by decide +kernel)]
  · refine ⟨0, by decide, by decide +kernel, by decide +kernel, fun i hi => ⟨?_, (by show -99 ≤ (0 : Int32).toInt; decide), (by show (0 : Int32).toInt ≤ 99; decide)⟩⟩
    rw [zV_no (n := sgm (62 + 10 * 2)) _ (by decide +kernel)]
  · refine ⟨0, by decide, by decide +kernel, by decide +kernel, fun i hi => ⟨?_, (by show -99 ≤ (0 : Int32).toInt; decide), (by show (0 : Int32).toInt ≤ 99; decide)⟩⟩
    rw [zV_no (n := sgm (62 + 10 * 3)) _ (by decide +kernel)]
theorem i0_a5 {p : Nat} (hp : p < 4) : IA5 (rnI sgm (zI L xs 150 29)) p := by
  intro q e hq he
  rw [i0_v (63 + 10 * p) (by omega) (by omega), i0_v 123 (by decide) (by decide)]
  refine Or.inl ?_
  rcases (show p = 0 ∨ p = 1 ∨ p = 2 ∨ p = 3 by omega) with rfl | rfl | rfl | rfl
  · exact (show ∀ q, q < 4 → ∀ e, e < 2 → zV 29 (sgm (63 + 10 * 0)) (e * 4 + q) = -1 ∧ zV 29 (sgm 123) (8 * 0 + 2 * q + e) = -9 by decide +kernel) q hq e he
  · exact (show ∀ q, q < 4 → ∀ e, e < 2 → zV 29 (sgm (63 + 10 * 1)) (e * 4 + q) = -1 ∧ zV 29 (sgm 123) (8 * 1 + 2 * q + e) = -9 by decide +kernel) q hq e he
  · exact (show ∀ q, q < 4 → ∀ e, e < 2 → zV 29 (sgm (63 + 10 * 2)) (e * 4 + q) = -1 ∧ zV 29 (sgm 123) (8 * 2 + 2 * q + e) = -9 by decide +kernel) q hq e he
  · exact (show ∀ q, q < 4 → ∀ e, e < 2 → zV 29 (sgm (63 + 10 * 3)) (e * 4 + q) = -1 ∧ zV 29 (sgm 123) (8 * 3 + 2 * q + e) = -9 by decide +kernel) q hq e he
theorem bit_0 : ∀ a, a < 10 → ¬ bitAt 0 a := by unfold bitAt; decide
theorem i0_lr {u rp rh p : Nat} (h1 : rnI sgm (zI L xs 150 29) u 0 = 0) (h2 : ∀ a, a < 10 → rnI sgm (zI L xs 150 29) rp (10 * p + a) = -9) (h3 : rnI sgm (zI L xs 150 29) rh p = 0) : LR (rnI sgm (zI L xs 150 29)) u rp rh p 0 := by
  refine ⟨fun _ => none, fun a ha => Or.inl ⟨rfl, ?_⟩, fun a ha => Or.inl ⟨rfl, h2 a ha⟩, fun a ha => ?_, by decide, Or.inl ⟨h1, h3, fun _ _ => rfl⟩⟩
  · rw [h1]
    exact bit_0 a ha
  · cases ha
theorem i0_9 {p : Nat} (hp : p < 4) : ∀ a, a < 10 → rnI sgm (zI L xs 150 29) 106 (10 * p + a) = -9 ∧ rnI sgm (zI L xs 150 29) 107 (10 * p + a) = -9 := by
  rw [i0_v 106 (by decide) (by decide), i0_v 107 (by decide) (by decide)]
  rcases (show p = 0 ∨ p = 1 ∨ p = 2 ∨ p = 3 by omega) with rfl | rfl | rfl | rfl <;> decide +kernel
theorem i0_l {p : Nat} (hp : p < 4) : IL 0 (rnI sgm (zI L xs 150 29)) (rnR sgm tau (zR 105)) p := by
  have g := i0_9 (L := L) (xs := xs) hp
  have z1 : rnI sgm (zI L xs 150 29) 104 p = 0 := by rw [i0_z 104 (by decide) (by decide) (by decide +kernel)]
  have z2 : rnI sgm (zI L xs 150 29) 105 p = 0 := by rw [i0_z 105 (by decide) (by decide) (by decide +kernel)]
  have z3 : rnI sgm (zI L xs 150 29) (56 + 10 * p) 0 = 0 := by
    rw [i0_v (56 + 10 * p) (by omega) (by omega)]
    rcases (show p = 0 ∨ p = 1 ∨ p = 2 ∨ p = 3 by omega) with rfl | rfl | rfl | rfl <;> decide +kernel
  have z4 : rnI sgm (zI L xs 150 29) (58 + 10 * p) 0 = 0 := by
    rw [i0_v (58 + 10 * p) (by omega) (by omega)]
    rcases (show p = 0 ∨ p = 1 ∨ p = 2 ∨ p = 3 by omega) with rfl | rfl | rfl | rfl <;> decide +kernel
  refine ⟨56 + 10 * p, 58 + 10 * p, Or.inl ⟨rfl, rfl⟩, ?_, ?_, i0_lr z3 (fun a ha => (g a ha).1) z1, i0_lr z4 (fun a ha => (g a ha).2) z2, fun _ => z2⟩
  · rcases (show p = 0 ∨ p = 1 ∨ p = 2 ∨ p = 3 by omega) with rfl | rfl | rfl | rfl <;> decide +kernel
  · rcases (show p = 0 ∨ p = 1 ∨ p = 2 ∨ p = 3 by omega) with rfl | rfl | rfl | rfl <;> decide +kernel
theorem r0_53 : ∀ s, s < 4 → rnR sgm tau (zR 105) 53 s = none := by decide +kernel
theorem i0_sk : SK (rnI sgm (zI L xs 150 29)) := by
  refine ⟨fun x hx => ?_, fun p q hp hq => ?_, fun w p q hw hp hq => ?_⟩
  · rw [i0_z 132 (by decide) (by decide) (by decide +kernel)]
  · rw [i0_v (133 + p) (by omega) (by omega)]
    exact (show ∀ p, p < 12 → ∀ q, q < 12 → zV 29 (sgm (133 + p)) q = nI (wyN p q) by decide +kernel) p hp q hq
  · rw [i0_v (145 + w) (by omega) (by omega), (show ∀ w, w < 3 → ∀ p, p < 12 → zV 29 (sgm (145 + w)) p = tnM w p 12 by decide +kernel) w hw p hp]
    exact tnM_bt w hw p hp q hq
theorem i0_s : IS 150 (rnT sgm (zT L 150)) (rnI sgm (zI L xs 150 29)) (rnR sgm tau (zR 105)) := by
  refine ⟨fun s hs => Or.inl ⟨r0_53 s hs, ?_⟩, fun s s2 a a2 cc cc2 h1 h2 h3 h4 => ?_, i0_sk⟩
  · rw [i0_v 124 (by decide) (by decide)]
    rcases (show s = 0 ∨ s = 1 ∨ s = 2 ∨ s = 3 by omega) with rfl | rfl | rfl | rfl <;> decide +kernel
  · rw [r0_53 s h1] at h4
    cases h4
theorem inv_0 : Inv 0 150 (rnT sgm (zT L 150)) (rnI sgm (zI L xs 150 29)) (rnR sgm tau (zR 105)) L xs := ⟨0, 0, by decide, by decide, st_150, i0_fz, i0_g, i0_p, fun _ hp => i0_a1 hp, fun _ hp => i0_a2 hp, fun _ hp => i0_a3 hp, fun _ hp => i0_a4 hp, fun _ hp => i0_a5 hp, fun _ hp => i0_l hp, i0_s⟩
end INV0
