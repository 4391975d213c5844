theorem gd_out {α : Type} {l : List α} {a : Nat} {x : α} (h : l.length ≤ a) : l.getD a x = x := by rw [List.getD_eq_getElem?_getD, List.getElem?_eq_none h]; rfl
def rOk (a f : Nat) : Bool := match R0 a f with
  | some b => zR 100 a f == some b
  | none => true
theorem rOk_all : ∀ a, a < 128 → ∀ f, f < 45 → rOk a f = true := by decide +kernel
theorem R0_len : ∀ a, a < 128 → (R0L.getD a []).length ≤ 45 := by decide +kernel
theorem T0_lt {a : Nat} {v : Nat × Nat} (h : T0 a = some v) : a < 128 := by
  rcases Nat.lt_or_ge a 128 with g | g
  · exact g
  · unfold T0 at h
    rw [gd_out (show T0L.length ≤ a from Nat.le_trans (by decide +kernel) g)] at h
    cases h
theorem R0_lt {a f b : Nat} (h : R0 a f = some b) : a < 128 ∧ f < 45 := by
  have g1 : a < 128 := by
    rcases Nat.lt_or_ge a 128 with g | g
    · exact g
    · unfold R0 at h
      rw [gd_out (l := R0L) (show R0L.length ≤ a from Nat.le_trans (by decide +kernel) g)] at h
      cases h
  refine ⟨g1, ?_⟩
  rcases Nat.lt_or_ge f 45 with g | g
  · exact g
  · unfold R0 at h
    rw [gd_out (l := R0L.getD a []) (Nat.le_trans (R0_len a g1) g)] at h
    cases h
theorem st_128 {L : Nat} : ST 128 (zT L 128) (zR 100) := by
  refine ⟨Nat.le_refl _, fun a v h => zT_at h (T0_lt h), fun a f b h => ?_⟩
  have q := R0_lt h
  have g := rOk_all a q.1 f q.2
  unfold rOk at g
  rw [h] at g
  exact eq_of_beq g

theorem lq1 (d : Nat) {n : Nat} {t : eT} {R : eR} {Q : eQt} {kc ks K N : Nat} (hst : ST n t R) : ∀ (rz kz : Nat) (I : eI), kz + rz = 4 → wp yX8_init cX8_init 2 none d K N Q kc ks 302 [.ref 94, .int (nI 4)] [] n t (zF (zF (zF I 102 kz 4 4095) 103 kz 4 10) 114 kz 4 (-9)) R → wp yX8_init cX8_init 2 none d K N Q kc ks 266 [.ref 94, .int (nI kz)] [] n t I R := by
  intro rz
  induction rz with
  | zero =>
    intro kz I hk hq
    obtain rfl : kz = 4 := by omega
    rw [zF_end, zF_end, zF_end] at hq
    refine wp_iload_n (i := 1) dX8_init_266 rfl rfl ?_
    refine wp_iconst (v := 4) dX8_init_267 (by decide) ?_
    refine wp_icmp_ge (tgt := 302) dX8_init_268 (by decide) (fun zq268 => ?_) (fun zq268 => absurd (by decide) zq268) 
    exact hq
  | succ rz ih =>
    intro kz I hk hq
    refine wp_iload_n (i := 1) dX8_init_266 rfl rfl ?_
    refine wp_iconst (v := 4) dX8_init_267 (by decide) ?_
    refine wp_icmp_ge (tgt := 302) dX8_init_268 (by decide) (fun zq268 => absurd zq268 (nI_ge (show kz < 4 by omega) (by decide))) (fun zq268 => ?_) 
    refine wp_aload_n (i := 0) dX8_init_271 rfl rfl ?_
    refine wp_getR dX8_init_272 fl_X8_31 rfl (st_k hst rfl) (st_r hst rfl) ?_
    refine wp_iload_n (i := 1) dX8_init_275 rfl rfl ?_
    refine wp_sipush (v := 4095) dX8_init_276 (by decide) ?_
    refine wp_ist (j := kz) dX8_init_279 (st_t hst rfl) rfl (by omega) ?_
    refine wp_aload_n (i := 0) dX8_init_280 rfl rfl ?_
    refine wp_getR dX8_init_281 fl_X8_34 rfl (st_k hst rfl) (st_r hst rfl) ?_
    refine wp_iload_n (i := 1) dX8_init_284 rfl rfl ?_
    refine wp_bipush (v := 10) dX8_init_285 (by decide) ?_
    refine wp_ist (j := kz) dX8_init_287 (st_t hst rfl) rfl (by omega) ?_
    refine wp_aload_n (i := 0) dX8_init_288 rfl rfl ?_
    refine wp_getR dX8_init_289 fl_X8_68 rfl (st_k hst rfl) (st_r hst rfl) ?_
    refine wp_iload_n (i := 1) dX8_init_292 rfl rfl ?_
    refine wp_bipush (v := (-9)) dX8_init_293 (by decide) ?_
    refine wp_ist (j := kz) dX8_init_295 (st_t hst rfl) rfl (by omega) ?_
    refine wp_iinc_2_1 (v := nI (kz + 1)) dX8_init_296 (n_add rfl rfl) ?_
    refine wp_goto (tgt := 266) dX8_init_299 (by decide) ?_
    exact ih (kz + 1) _ (by omega) (by rw [zF_cm (b := 114) (a := 102) (by decide), zF_cm (b := 103) (a := 102) (by decide), zF_step (a := 102) (by omega), zF_cm (b := 114) (a := 103) (by decide), zF_step (a := 103) (by omega), zF_step (a := 114) (by omega)]; exact hq)

theorem lq2 (d : Nat) {n : Nat} {t : eT} {R : eR} {Q : eQt} {kc ks K N : Nat} (hst : ST n t R) : ∀ (rz kz : Nat) (I : eI), kz + rz = 40 → wp yX8_init cX8_init 2 none d K N Q kc ks 332 [.ref 94, .int (nI 40)] [] n t (zF (zF I 106 kz 40 (-9)) 107 kz 40 (-9)) R → wp yX8_init cX8_init 2 none d K N Q kc ks 304 [.ref 94, .int (nI kz)] [] n t I R := by
  intro rz
  induction rz with
  | zero =>
    intro kz I hk hq
    obtain rfl : kz = 40 := by omega
    rw [zF_end, zF_end] at hq
    refine wp_iload_n (i := 1) dX8_init_304 rfl rfl ?_
    refine wp_bipush (v := 40) dX8_init_305 (by decide) ?_
    refine wp_icmp_ge (tgt := 332) dX8_init_307 (by decide) (fun zq307 => ?_) (fun zq307 => absurd (by decide) zq307) 
    exact hq
  | succ rz ih =>
    intro kz I hk hq
    refine wp_iload_n (i := 1) dX8_init_304 rfl rfl ?_
    refine wp_bipush (v := 40) dX8_init_305 (by decide) ?_
    refine wp_icmp_ge (tgt := 332) dX8_init_307 (by decide) (fun zq307 => absurd zq307 (nI_ge (show kz < 40 by omega) (by decide))) (fun zq307 => ?_) 
    refine wp_aload_n (i := 0) dX8_init_310 rfl rfl ?_
    refine wp_getR dX8_init_311 fl_X8_44 rfl (st_k hst rfl) (st_r hst rfl) ?_
    refine wp_iload_n (i := 1) dX8_init_314 rfl rfl ?_
    refine wp_bipush (v := (-9)) dX8_init_315 (by decide) ?_
    refine wp_ist (j := kz) dX8_init_317 (st_t hst rfl) rfl (by omega) ?_
    refine wp_aload_n (i := 0) dX8_init_318 rfl rfl ?_
    refine wp_getR dX8_init_319 fl_X8_47 rfl (st_k hst rfl) (st_r hst rfl) ?_
    refine wp_iload_n (i := 1) dX8_init_322 rfl rfl ?_
    refine wp_bipush (v := (-9)) dX8_init_323 (by decide) ?_
    refine wp_ist (j := kz) dX8_init_325 (st_t hst rfl) rfl (by omega) ?_
    refine wp_iinc_2_1 (v := nI (kz + 1)) dX8_init_326 (n_add rfl rfl) ?_
    refine wp_goto (tgt := 304) dX8_init_329 (by decide) ?_
    exact ih (kz + 1) _ (by omega) (by rw [zF_cm (b := 107) (a := 106) (by decide), zF_step (a := 106) (by omega), zF_step (a := 107) (by omega)]; exact hq)

theorem lq3 (d : Nat) {n : Nat} {t : eT} {R : eR} {Q : eQt} {kc ks K N : Nat} (hst : ST n t R) : ∀ (rz kz : Nat) (I : eI), kz + rz = 32 → wp yX8_init cX8_init 2 none d K N Q kc ks 354 [.ref 94, .int (nI 32)] [] n t (zF I 123 kz 32 (-9)) R → wp yX8_init cX8_init 2 none d K N Q kc ks 334 [.ref 94, .int (nI kz)] [] n t I R := by
  intro rz
  induction rz with
  | zero =>
    intro kz I hk hq
    obtain rfl : kz = 32 := by omega
    rw [zF_end] at hq
    refine wp_iload_n (i := 1) dX8_init_334 rfl rfl ?_
    refine wp_bipush (v := 32) dX8_init_335 (by decide) ?_
    refine wp_icmp_ge (tgt := 354) dX8_init_337 (by decide) (fun zq337 => ?_) (fun zq337 => absurd (by decide) zq337) 
    exact hq
  | succ rz ih =>
    intro kz I hk hq
    refine wp_iload_n (i := 1) dX8_init_334 rfl rfl ?_
    refine wp_bipush (v := 32) dX8_init_335 (by decide) ?_
    refine wp_icmp_ge (tgt := 354) dX8_init_337 (by decide) (fun zq337 => absurd zq337 (nI_ge (show kz < 32 by omega) (by decide))) (fun zq337 => ?_) 
    refine wp_aload_n (i := 0) dX8_init_340 rfl rfl ?_
    refine wp_getR dX8_init_341 fl_X8_95 rfl (st_k hst rfl) (st_r hst rfl) ?_
    refine wp_iload_n (i := 1) dX8_init_344 rfl rfl ?_
    refine wp_bipush (v := (-9)) dX8_init_345 (by decide) ?_
    refine wp_ist (j := kz) dX8_init_347 (st_t hst rfl) rfl (by omega) ?_
    refine wp_iinc_2_1 (v := nI (kz + 1)) dX8_init_348 (n_add rfl rfl) ?_
    refine wp_goto (tgt := 334) dX8_init_351 (by decide) ?_
    exact ih (kz + 1) _ (by omega) (by rw [zF_step (a := 123) (by omega)]; exact hq)

theorem lq4 (d : Nat) {n : Nat} {t : eT} {R : eR} {Q : eQt} {kc ks K N : Nat} (hst : ST n t R) : ∀ (rz kz : Nat) (I : eI), kz + rz = 4 → wp yX8_init cX8_init 2 none d K N Q kc ks 374 [.ref 94, .int (nI 4)] [] n t (zF I 124 kz 4 (-1)) R → wp yX8_init cX8_init 2 none d K N Q kc ks 356 [.ref 94, .int (nI kz)] [] n t I R := by
  intro rz
  induction rz with
  | zero =>
    intro kz I hk hq
    obtain rfl : kz = 4 := by omega
    rw [zF_end] at hq
    refine wp_iload_n (i := 1) dX8_init_356 rfl rfl ?_
    refine wp_iconst (v := 4) dX8_init_357 (by decide) ?_
    refine wp_icmp_ge (tgt := 374) dX8_init_358 (by decide) (fun zq358 => ?_) (fun zq358 => absurd (by decide) zq358) 
    exact hq
  | succ rz ih =>
    intro kz I hk hq
    refine wp_iload_n (i := 1) dX8_init_356 rfl rfl ?_
    refine wp_iconst (v := 4) dX8_init_357 (by decide) ?_
    refine wp_icmp_ge (tgt := 374) dX8_init_358 (by decide) (fun zq358 => absurd zq358 (nI_ge (show kz < 4 by omega) (by decide))) (fun zq358 => ?_) 
    refine wp_aload_n (i := 0) dX8_init_361 rfl rfl ?_
    refine wp_getR dX8_init_362 fl_X8_98 rfl (st_k hst rfl) (st_r hst rfl) ?_
    refine wp_iload_n (i := 1) dX8_init_365 rfl rfl ?_
    refine wp_iconst (v := (-1)) dX8_init_366 (by decide) ?_
    refine wp_ist (j := kz) dX8_init_367 (st_t hst rfl) rfl (by omega) ?_
    refine wp_iinc_2_1 (v := nI (kz + 1)) dX8_init_368 (n_add rfl rfl) ?_
    refine wp_goto (tgt := 356) dX8_init_371 (by decide) ?_
    exact ih (kz + 1) _ (by omega) (by rw [zF_step (a := 124) (by omega)]; exact hq)

theorem ci_94 (d : Nat) {L : Nat} {xs : Nat → Int32} {Q : Nat → eT → eI → eR → Prop} (hq : Q 128 (zT L 128) (zI L xs 128 28) (zR 100)) : MC yX8_init cX8_init 2 none (d + 1) 33 869 [.ref 94] 95 (zT L 95) (zI L xs 95 19) (zR 67) (qV Q) := by
  refine mc_intro (L0 := [.ref 94, vU]) (by decide) rfl (Nat.le_of_ble_eq_true rfl) ?_
  refine wp_aload_n (i := 0) dX8_init_0 rfl rfl ?_
  refine wp_objInit dX8_init_1 mw_737 (Nat.le_of_ble_eq_true rfl) ?_
  refine wp_aload_n (i := 0) dX8_init_4 rfl rfl ?_
  refine wp_bipush (v := 10) dX8_init_5 (by decide) ?_
  refine wn_I (M := 10) (n1 := 96) (kc1 := 1) (ks1 := 10) dX8_init_7 (by decide) (by decide) (by decide) rfl rfl rfl (by decide) (by decide) rfl rfl rfl (by decide) ?_
  refine wn_putR (r1 := 68) dX8_init_9 fl_X8_7 rfl (Or.inr ⟨rfl, rfl, rfl⟩) rfl (by decide) rfl rfl (by decide) ?_
  refine wp_aload_n (i := 0) dX8_init_12 rfl rfl ?_
  refine wp_bipush (v := 10) dX8_init_13 (by decide) ?_
  refine wn_I (M := 10) (n1 := 97) (kc1 := 2) (ks1 := 20) dX8_init_15 (by decide) (by decide) (by decide) rfl rfl rfl (by decide) (by decide) rfl rfl rfl (by decide) ?_
  refine wn_putR (r1 := 69) dX8_init_17 fl_X8_13 rfl (Or.inr ⟨rfl, rfl, rfl⟩) rfl (by decide) rfl rfl (by decide) ?_
  refine wp_aload_n (i := 0) dX8_init_20 rfl rfl ?_
  refine wp_bipush (v := 100) dX8_init_21 (by decide) ?_
  refine wn_I (M := 100) (n1 := 98) (kc1 := 3) (ks1 := 120) dX8_init_23 (by decide) (by decide) (by decide) rfl rfl rfl (by decide) (by decide) rfl rfl rfl (by decide) ?_
  refine wn_putR (r1 := 70) dX8_init_25 fl_X8_16 rfl (Or.inr ⟨rfl, rfl, rfl⟩) rfl (by decide) rfl rfl (by decide) ?_
  refine wp_aload_n (i := 0) dX8_init_28 rfl rfl ?_
  refine wp_bipush (v := 10) dX8_init_29 (by decide) ?_
  refine wn_I (M := 10) (n1 := 99) (kc1 := 4) (ks1 := 130) dX8_init_31 (by decide) (by decide) (by decide) rfl rfl rfl (by decide) (by decide) rfl rfl rfl (by decide) ?_
  refine wn_putR (r1 := 71) dX8_init_33 fl_X8_19 rfl (Or.inr ⟨rfl, rfl, rfl⟩) rfl (by decide) rfl rfl (by decide) ?_
  refine wp_aload_n (i := 0) dX8_init_36 rfl rfl ?_
  refine wp_bipush (v := 10) dX8_init_37 (by decide) ?_
  refine wn_I (M := 10) (n1 := 100) (kc1 := 5) (ks1 := 140) dX8_init_39 (by decide) (by decide) (by decide) rfl rfl rfl (by decide) (by decide) rfl rfl rfl (by decide) ?_
  refine wn_putR (r1 := 72) dX8_init_41 fl_X8_22 rfl (Or.inr ⟨rfl, rfl, rfl⟩) rfl (by decide) rfl rfl (by decide) ?_
  refine wp_aload_n (i := 0) dX8_init_44 rfl rfl ?_
  refine wp_bipush (v := 100) dX8_init_45 (by decide) ?_
  refine wn_I (M := 100) (n1 := 101) (kc1 := 6) (ks1 := 240) dX8_init_47 (by decide) (by decide) (by decide) rfl rfl rfl (by decide) (by decide) rfl rfl rfl (by decide) ?_
  refine wn_putR (r1 := 73) dX8_init_49 fl_X8_25 rfl (Or.inr ⟨rfl, rfl, rfl⟩) rfl (by decide) rfl rfl (by decide) ?_
  refine wp_aload_n (i := 0) dX8_init_52 rfl rfl ?_
  refine wp_iconst (v := 4) dX8_init_53 (by decide) ?_
  refine wn_I (M := 4) (n1 := 102) (kc1 := 7) (ks1 := 244) dX8_init_54 (by decide) (by decide) (by decide) rfl rfl rfl (by decide) (by decide) rfl rfl rfl (by decide) ?_
  refine wn_putR (r1 := 74) dX8_init_56 fl_X8_28 rfl (Or.inr ⟨rfl, rfl, rfl⟩) rfl (by decide) rfl rfl (by decide) ?_
  refine wp_aload_n (i := 0) dX8_init_59 rfl rfl ?_
  refine wp_iconst (v := 4) dX8_init_60 (by decide) ?_
  refine wn_I (M := 4) (n1 := 103) (kc1 := 8) (ks1 := 248) dX8_init_61 (by decide) (by decide) (by decide) rfl rfl rfl (by decide) (by decide) rfl rfl rfl (by decide) ?_
  refine wn_putR (r1 := 75) dX8_init_63 fl_X8_31 rfl (Or.inr ⟨rfl, rfl, rfl⟩) rfl (by decide) rfl rfl (by decide) ?_
  refine wp_aload_n (i := 0) dX8_init_66 rfl rfl ?_
  refine wp_iconst (v := 4) dX8_init_67 (by decide) ?_
  refine wn_I (M := 4) (n1 := 104) (kc1 := 9) (ks1 := 252) dX8_init_68 (by decide) (by decide) (by decide) rfl rfl rfl (by decide) (by decide) rfl rfl rfl (by decide) ?_
  refine wn_putR (r1 := 76) dX8_init_70 fl_X8_34 rfl (Or.inr ⟨rfl, rfl, rfl⟩) rfl (by decide) rfl rfl (by decide) ?_
  refine wp_aload_n (i := 0) dX8_init_73 rfl rfl ?_
  refine wp_iconst (v := 4) dX8_init_74 (by decide) ?_
  refine wn_Z (M := 4) (n1 := 105) (kc1 := 10) (ks1 := 256) dX8_init_75 (by decide) (by decide) (by decide) rfl rfl rfl (by decide) (by decide) rfl rfl rfl (by decide) ?_
  refine wn_putR (r1 := 77) dX8_init_77 fl_X8_37 rfl (Or.inr ⟨rfl, rfl, rfl⟩) rfl (by decide) rfl rfl (by decide) ?_
  refine wp_aload_n (i := 0) dX8_init_80 rfl rfl ?_
  refine wp_iconst (v := 4) dX8_init_81 (by decide) ?_
  refine wn_Z (M := 4) (n1 := 106) (kc1 := 11) (ks1 := 260) dX8_init_82 (by decide) (by decide) (by decide) rfl rfl rfl (by decide) (by decide) rfl rfl rfl (by decide) ?_
  refine wn_putR (r1 := 78) dX8_init_84 fl_X8_41 rfl (Or.inr ⟨rfl, rfl, rfl⟩) rfl (by decide) rfl rfl (by decide) ?_
  refine wp_aload_n (i := 0) dX8_init_87 rfl rfl ?_
  refine wp_bipush (v := 40) dX8_init_88 (by decide) ?_
  refine wn_I (M := 40) (n1 := 107) (kc1 := 12) (ks1 := 300) dX8_init_90 (by decide) (by decide) (by decide) rfl rfl rfl (by decide) (by decide) rfl rfl rfl (by decide) ?_
  refine wn_putR (r1 := 79) dX8_init_92 fl_X8_44 rfl (Or.inr ⟨rfl, rfl, rfl⟩) rfl (by decide) rfl rfl (by decide) ?_
  refine wp_aload_n (i := 0) dX8_init_95 rfl rfl ?_
  refine wp_bipush (v := 40) dX8_init_96 (by decide) ?_
  refine wn_I (M := 40) (n1 := 108) (kc1 := 13) (ks1 := 340) dX8_init_98 (by decide) (by decide) (by decide) rfl rfl rfl (by decide) (by decide) rfl rfl rfl (by decide) ?_
  refine wn_putR (r1 := 80) dX8_init_100 fl_X8_47 rfl (Or.inr ⟨rfl, rfl, rfl⟩) rfl (by decide) rfl rfl (by decide) ?_
  refine wp_aload_n (i := 0) dX8_init_103 rfl rfl ?_
  refine wp_iconst (v := 5) dX8_init_104 (by decide) ?_
  refine wn_I (M := 5) (n1 := 109) (kc1 := 14) (ks1 := 345) dX8_init_105 (by decide) (by decide) (by decide) rfl rfl rfl (by decide) (by decide) rfl rfl rfl (by decide) ?_
  refine wn_putR (r1 := 81) dX8_init_107 fl_X8_50 rfl (Or.inr ⟨rfl, rfl, rfl⟩) rfl (by decide) rfl rfl (by decide) ?_
  refine wp_aload_n (i := 0) dX8_init_110 rfl rfl ?_
  refine wp_iconst (v := 5) dX8_init_111 (by decide) ?_
  refine wn_I (M := 5) (n1 := 110) (kc1 := 15) (ks1 := 350) dX8_init_112 (by decide) (by decide) (by decide) rfl rfl rfl (by decide) (by decide) rfl rfl rfl (by decide) ?_
  refine wn_putR (r1 := 82) dX8_init_114 fl_X8_53 rfl (Or.inr ⟨rfl, rfl, rfl⟩) rfl (by decide) rfl rfl (by decide) ?_
  refine wp_aload_n (i := 0) dX8_init_117 rfl rfl ?_
  refine wp_iconst (v := 5) dX8_init_118 (by decide) ?_
  refine wn_I (M := 5) (n1 := 111) (kc1 := 16) (ks1 := 355) dX8_init_119 (by decide) (by decide) (by decide) rfl rfl rfl (by decide) (by decide) rfl rfl rfl (by decide) ?_
  refine wn_putR (r1 := 83) dX8_init_121 fl_X8_56 rfl (Or.inr ⟨rfl, rfl, rfl⟩) rfl (by decide) rfl rfl (by decide) ?_
  refine wp_aload_n (i := 0) dX8_init_124 rfl rfl ?_
  refine wp_bipush (v := 20) dX8_init_125 (by decide) ?_
  refine wn_I (M := 20) (n1 := 112) (kc1 := 17) (ks1 := 375) dX8_init_127 (by decide) (by decide) (by decide) rfl rfl rfl (by decide) (by decide) rfl rfl rfl (by decide) ?_
  refine wn_putR (r1 := 84) dX8_init_129 fl_X8_59 rfl (Or.inr ⟨rfl, rfl, rfl⟩) rfl (by decide) rfl rfl (by decide) ?_
  refine wp_aload_n (i := 0) dX8_init_132 rfl rfl ?_
  refine wp_bipush (v := 20) dX8_init_133 (by decide) ?_
  refine wn_I (M := 20) (n1 := 113) (kc1 := 18) (ks1 := 395) dX8_init_135 (by decide) (by decide) (by decide) rfl rfl rfl (by decide) (by decide) rfl rfl rfl (by decide) ?_
  refine wn_putR (r1 := 85) dX8_init_137 fl_X8_62 rfl (Or.inr ⟨rfl, rfl, rfl⟩) rfl (by decide) rfl rfl (by decide) ?_
  refine wp_aload_n (i := 0) dX8_init_140 rfl rfl ?_
  refine wp_bipush (v := 10) dX8_init_141 (by decide) ?_
  refine wn_I (M := 10) (n1 := 114) (kc1 := 19) (ks1 := 405) dX8_init_143 (by decide) (by decide) (by decide) rfl rfl rfl (by decide) (by decide) rfl rfl rfl (by decide) ?_
  refine wn_putR (r1 := 86) dX8_init_145 fl_X8_65 rfl (Or.inr ⟨rfl, rfl, rfl⟩) rfl (by decide) rfl rfl (by decide) ?_
  refine wp_aload_n (i := 0) dX8_init_148 rfl rfl ?_
  refine wp_iconst (v := 4) dX8_init_149 (by decide) ?_
  refine wn_I (M := 4) (n1 := 115) (kc1 := 20) (ks1 := 409) dX8_init_150 (by decide) (by decide) (by decide) rfl rfl rfl (by decide) (by decide) rfl rfl rfl (by decide) ?_
  refine wn_putR (r1 := 87) dX8_init_152 fl_X8_68 rfl (Or.inr ⟨rfl, rfl, rfl⟩) rfl (by decide) rfl rfl (by decide) ?_
  refine wp_aload_n (i := 0) dX8_init_155 rfl rfl ?_
  refine wp_iconst (v := 4) dX8_init_156 (by decide) ?_
  refine wn_I (M := 4) (n1 := 116) (kc1 := 21) (ks1 := 413) dX8_init_157 (by decide) (by decide) (by decide) rfl rfl rfl (by decide) (by decide) rfl rfl rfl (by decide) ?_
  refine wn_putR (r1 := 88) dX8_init_159 fl_X8_71 rfl (Or.inr ⟨rfl, rfl, rfl⟩) rfl (by decide) rfl rfl (by decide) ?_
  refine wp_aload_n (i := 0) dX8_init_162 rfl rfl ?_
  refine wp_iconst (v := 4) dX8_init_163 (by decide) ?_
  refine wn_I (M := 4) (n1 := 117) (kc1 := 22) (ks1 := 417) dX8_init_164 (by decide) (by decide) (by decide) rfl rfl rfl (by decide) (by decide) rfl rfl rfl (by decide) ?_
  refine wn_putR (r1 := 89) dX8_init_166 fl_X8_74 rfl (Or.inr ⟨rfl, rfl, rfl⟩) rfl (by decide) rfl rfl (by decide) ?_
  refine wp_aload_n (i := 0) dX8_init_169 rfl rfl ?_
  refine wp_iconst (v := 4) dX8_init_170 (by decide) ?_
  refine wn_I (M := 4) (n1 := 118) (kc1 := 23) (ks1 := 421) dX8_init_171 (by decide) (by decide) (by decide) rfl rfl rfl (by decide) (by decide) rfl rfl rfl (by decide) ?_
  refine wn_putR (r1 := 90) dX8_init_173 fl_X8_77 rfl (Or.inr ⟨rfl, rfl, rfl⟩) rfl (by decide) rfl rfl (by decide) ?_
  refine wp_aload_n (i := 0) dX8_init_176 rfl rfl ?_
  refine wp_bipush (v := 12) dX8_init_177 (by decide) ?_
  refine wn_I (M := 12) (n1 := 119) (kc1 := 24) (ks1 := 433) dX8_init_179 (by decide) (by decide) (by decide) rfl rfl rfl (by decide) (by decide) rfl rfl rfl (by decide) ?_
  refine wn_putR (r1 := 91) dX8_init_181 fl_X8_80 rfl (Or.inr ⟨rfl, rfl, rfl⟩) rfl (by decide) rfl rfl (by decide) ?_
  refine wp_aload_n (i := 0) dX8_init_184 rfl rfl ?_
  refine wp_iconst (v := 4) dX8_init_185 (by decide) ?_
  refine wn_I (M := 4) (n1 := 120) (kc1 := 25) (ks1 := 437) dX8_init_186 (by decide) (by decide) (by decide) rfl rfl rfl (by decide) (by decide) rfl rfl rfl (by decide) ?_
  refine wn_putR (r1 := 92) dX8_init_188 fl_X8_83 rfl (Or.inr ⟨rfl, rfl, rfl⟩) rfl (by decide) rfl rfl (by decide) ?_
  refine wp_aload_n (i := 0) dX8_init_191 rfl rfl ?_
  refine wp_bipush (v := 48) dX8_init_192 (by decide) ?_
  refine wn_I (M := 48) (n1 := 121) (kc1 := 26) (ks1 := 485) dX8_init_194 (by decide) (by decide) (by decide) rfl rfl rfl (by decide) (by decide) rfl rfl rfl (by decide) ?_
  refine wn_putR (r1 := 93) dX8_init_196 fl_X8_86 rfl (Or.inr ⟨rfl, rfl, rfl⟩) rfl (by decide) rfl rfl (by decide) ?_
  refine wp_aload_n (i := 0) dX8_init_199 rfl rfl ?_
  refine wp_iconst (v := 4) dX8_init_200 (by decide) ?_
  refine wn_I (M := 4) (n1 := 122) (kc1 := 27) (ks1 := 489) dX8_init_201 (by decide) (by decide) (by decide) rfl rfl rfl (by decide) (by decide) rfl rfl rfl (by decide) ?_
  refine wn_putR (r1 := 94) dX8_init_203 fl_X8_89 rfl (Or.inr ⟨rfl, rfl, rfl⟩) rfl (by decide) rfl rfl (by decide) ?_
  refine wp_aload_n (i := 0) dX8_init_206 rfl rfl ?_
  refine wp_bipush (v := 40) dX8_init_207 (by decide) ?_
  refine wn_I (M := 40) (n1 := 123) (kc1 := 28) (ks1 := 529) dX8_init_209 (by decide) (by decide) (by decide) rfl rfl rfl (by decide) (by decide) rfl rfl rfl (by decide) ?_
  refine wn_putR (r1 := 95) dX8_init_211 fl_X8_92 rfl (Or.inr ⟨rfl, rfl, rfl⟩) rfl (by decide) rfl rfl (by decide) ?_
  refine wp_aload_n (i := 0) dX8_init_214 rfl rfl ?_
  refine wp_bipush (v := 32) dX8_init_215 (by decide) ?_
  refine wn_I (M := 32) (n1 := 124) (kc1 := 29) (ks1 := 561) dX8_init_217 (by decide) (by decide) (by decide) rfl rfl rfl (by decide) (by decide) rfl rfl rfl (by decide) ?_
  refine wn_putR (r1 := 96) dX8_init_219 fl_X8_95 rfl (Or.inr ⟨rfl, rfl, rfl⟩) rfl (by decide) rfl rfl (by decide) ?_
  refine wp_aload_n (i := 0) dX8_init_222 rfl rfl ?_
  refine wp_iconst (v := 4) dX8_init_223 (by decide) ?_
  refine wn_I (M := 4) (n1 := 125) (kc1 := 30) (ks1 := 565) dX8_init_224 (by decide) (by decide) (by decide) rfl rfl rfl (by decide) (by decide) rfl rfl rfl (by decide) ?_
  refine wn_putR (r1 := 97) dX8_init_226 fl_X8_98 rfl (Or.inr ⟨rfl, rfl, rfl⟩) rfl (by decide) rfl rfl (by decide) ?_
  refine wp_aload_n (i := 0) dX8_init_229 rfl rfl ?_
  refine wp_iconst (v := 4) dX8_init_230 (by decide) ?_
  refine wn_I (M := 4) (n1 := 126) (kc1 := 31) (ks1 := 569) dX8_init_231 (by decide) (by decide) (by decide) rfl rfl rfl (by decide) (by decide) rfl rfl rfl (by decide) ?_
  refine wn_putR (r1 := 98) dX8_init_233 fl_X8_101 rfl (Or.inr ⟨rfl, rfl, rfl⟩) rfl (by decide) rfl rfl (by decide) ?_
  refine wp_aload_n (i := 0) dX8_init_236 rfl rfl ?_
  refine wp_sipush (v := 240) dX8_init_237 (by decide) ?_
  refine wn_I (M := 240) (n1 := 127) (kc1 := 32) (ks1 := 809) dX8_init_240 (by decide) (by decide) (by decide) rfl rfl rfl (by decide) (by decide) rfl rfl rfl (by decide) ?_
  refine wn_putR (r1 := 99) dX8_init_242 fl_X8_104 rfl (Or.inr ⟨rfl, rfl, rfl⟩) rfl (by decide) rfl rfl (by decide) ?_
  refine wp_aload_n (i := 0) dX8_init_245 rfl rfl ?_
  refine wp_bipush (v := 60) dX8_init_246 (by decide) ?_
  refine wn_I (M := 60) (n1 := 128) (kc1 := 33) (ks1 := 869) dX8_init_248 (by decide) (by decide) (by decide) rfl rfl rfl (by decide) (by decide) rfl rfl rfl (by decide) ?_
  refine wn_putR (r1 := 100) dX8_init_250 fl_X8_107 rfl (Or.inr ⟨rfl, rfl, rfl⟩) rfl (by decide) rfl rfl (by decide) ?_
  refine wp_aload_n (i := 0) dX8_init_253 rfl rfl ?_
  refine wp_iconst (v := 5) dX8_init_254 (by decide) ?_
  refine wn_putI (k1 := 20) dX8_init_255 fl_X8_110 rfl (Or.inl rfl) rfl (by decide) rfl rfl ?_
  refine wp_aload_n (i := 0) dX8_init_258 rfl rfl ?_
  refine wp_bipush (v := 10) dX8_init_259 (by decide) ?_
  refine wn_putI (k1 := 21) dX8_init_261 fl_X8_114 rfl (Or.inl rfl) rfl (by decide) rfl rfl ?_
  refine wp_iconst (v := nI 0) dX8_init_264 (by decide) ?_
  refine wp_istore_2_1 dX8_init_265 rfl ?_
  refine lq1 _ st_128 4 0 _ rfl ?_
  rw [zI_fil (m := 3) rfl, zI_fil (m := 3) rfl, zI_fil (m := 3) rfl]
  refine wp_iconst (v := nI 0) dX8_init_302 (by decide) ?_
  refine wp_istore_2_1 dX8_init_303 rfl ?_
  refine lq2 _ st_128 40 0 _ rfl ?_
  rw [zI_fil (m := 39) rfl, zI_fil (m := 39) rfl]
  refine wp_iconst (v := nI 0) dX8_init_332 (by decide) ?_
  refine wp_istore_2_1 dX8_init_333 rfl ?_
  refine lq3 _ st_128 32 0 _ rfl ?_
  rw [zI_fil (m := 31) rfl]
  refine wp_iconst (v := nI 0) dX8_init_354 (by decide) ?_
  refine wp_istore_2_1 dX8_init_355 rfl ?_
  refine lq4 _ st_128 4 0 _ rfl ?_
  rw [zI_fil (m := 3) rfl]
  exact wp_retV dX8_init_374 rfl (by decide) (by decide) hq

section INV0
variable {L : Nat} {xs : Nat → Int32}
theorem i0_v (a : Nat) (h1 : 4 ≤ a) (h2 : a < 128) : zI L xs 128 28 a = zV 28 a := zI_v h1 h2 28
theorem i0_z (a : Nat) (h1 : 4 ≤ a) (h2 : a < 128) (h : zN 28 a = true) : zI L xs 128 28 a = fun _ => 0 := by rw [i0_v a h1 h2, zV_no _ h]
theorem i0_fz : FZ (zT L 128) (zI L xs 128 28) L xs := by
  unfold FZ
  rw [zI_lo (a := 0) (by decide) _ (by decide +kernel), zI_lo (a := 1) (by decide) _ (by decide +kernel), zI_lo (a := 2) (by decide) _ (by decide +kernel), zI_lo (a := 3) (by decide) _ (by decide +kernel)]
  exact ⟨zT_z rfl, zT_z rfl, zT_z rfl, zT_z rfl, rfl, rfl, rfl, rfl, rfl, rfl, rfl, rfl, rfl⟩
theorem i0_g : IG 0 (zI L xs 128 28) := by
  unfold IG
  rw [i0_v 4 (by decide) (by decide), i0_v 94 (by decide) (by decide), i0_v 52 (by decide) (by decide)]
  exact ⟨by decide +kernel, by decide +kernel, by decide +kernel, ⟨5, by decide, by decide +kernel⟩, by decide +kernel, by decide +kernel, by decide +kernel⟩
theorem i0_p : IP 0 (zI L xs 128 28) := by
  unfold IP
  rw [i0_v 5 (by decide) (by decide), i0_v 94 (by decide) (by decide)]
  exact ⟨by decide +kernel, by decide +kernel, fun x hx => absurd hx (by omega), fun x hx => absurd hx (by omega), fun a b ha _ => absurd ha (by omega)⟩
theorem i0_a1 {p : Nat} (hp : p < 4) : IA1 (zI L xs 128 28) p := by
  unfold IA1
  rw [i0_v (55 + 10 * p) (by omega) (by omega), i0_v 101 (by decide) (by decide), i0_v 102 (by decide) (by decide), i0_v 103 (by decide) (by decide)]
  rcases (show p = 0 ∨ p = 1 ∨ p = 2 ∨ p = 3 by omega) with rfl | rfl | rfl | rfl <;> exact ⟨⟨by decide +kernel, 0, by decide, by decide +kernel⟩, by decide +kernel, by decide +kernel, 10, by decide, by decide +kernel⟩
theorem i0_a2 {p : Nat} (hp : p < 4) : IA2 (zI L xs 128 28) p := by
  unfold IA2
  rw [i0_v (54 + 10 * p) (by omega) (by omega), i0_v 114 (by decide) (by decide), i0_v 115 (by decide) (by decide), i0_v 116 (by decide) (by decide), i0_v 117 (by decide) (by decide)]
  rcases (show p = 0 ∨ p = 1 ∨ p = 2 ∨ p = 3 by omega) with rfl | rfl | rfl | rfl <;> exact ⟨by decide +kernel, by decide +kernel, Or.inl (by decide +kernel), by decide +kernel, ⟨0, by decide, by decide +kernel⟩, by decide +kernel⟩
theorem i0_a3 {p : Nat} (hp : p < 4) : IA3 0 (zI L xs 128 28) p := by
  unfold IA3
  rw [i0_v (54 + 10 * p) (by omega) (by omega), i0_v (60 + 10 * p) (by omega) (by omega), i0_z 118 (by decide) (by decide) (by decide +kernel), i0_v 119 (by decide) (by decide)]
  rcases (show p = 0 ∨ p = 1 ∨ p = 2 ∨ p = 3 by omega) with rfl | rfl | rfl | rfl
  · refine ⟨0, by decide, by decide +kernel, by decide +kernel, fun i hi => absurd hi (by omega), fun e he => ⟨?_, 0, by decide, rfl, by exact Nat.le_refl 0⟩⟩
    rw [zV_no (n := 60 + 10 * 0) _ (by decide +kernel)]
  · refine ⟨0, by decide, by decide +kernel, by decide +kernel, fun i hi => absurd hi (by omega), fun e he => ⟨?_, 0, by decide, rfl, by exact Nat.le_refl 0⟩⟩
    rw [zV_no (n := 60 + 10 * 1) _ (by decide +kernel)]
  · refine ⟨0, by decide, by decide +kernel, by decide +kernel, fun i hi => absurd hi (by omega), fun e he => ⟨?_, 0, by decide, rfl, by exact Nat.le_refl 0⟩⟩
    rw [zV_no (n := 60 + 10 * 2) _ (by decide +kernel)]
  · refine ⟨0, by decide, by decide +kernel, by decide +kernel, fun i hi => absurd hi (by omega), fun e he => ⟨?_, 0, by decide, rfl, by exact Nat.le_refl 0⟩⟩
    rw [zV_no (n := 60 + 10 * 3) _ (by decide +kernel)]
theorem i0_a4 {p : Nat} (hp : p < 4) : IA4 (zI L xs 128 28) p := by
  unfold IA4
  rw [i0_v (54 + 10 * p) (by omega) (by omega), i0_v (62 + 10 * p) (by omega) (by omega), i0_z 122 (by decide) (by decide) (by decide +kernel), i0_v 121 (by decide) (by decide)]
  rcases (show p = 0 ∨ p = 1 ∨ p = 2 ∨ p = 3 by omega) with rfl | rfl | rfl | rfl
  · refine ⟨0, by decide, by decide +kernel, by decide +kernel, fun i hi => ⟨?_, (by show -99 ≤ (0 : Int32).toInt; decide), (by show (0 : Int32).toInt ≤ 99; decide)⟩⟩
    rw [zV_no (n := 62 + 10 * 0) _ (by decide +kernel)]
  · refine ⟨0, by decide, by decide +kernel, by decide +kernel, fun i hi => ⟨?_, (by show -99 ≤ (0 : Int32).toInt; decide), (by show (0 : Int32).toInt ≤ 99; decide)⟩⟩
    rw [zV_no (n := 62 + 10 * 1) _ (by decide +kernel)]
  · refine ⟨0, by decide, by decide +kernel, by decide +kernel, fun i hi => ⟨?_, (by show -99 ≤ (0 : Int32).toInt; decide), (by show (0 : Int32).toInt ≤ 99; decide)⟩⟩
    rw [zV_no (n := 62 + 10 * 2) _ (by decide +kernel)]
  · refine ⟨0, by decide, by decide +kernel, by decide +kernel, fun i hi => ⟨?_, (by show -99 ≤ (0 : Int32).toInt; decide), (by show (0 : Int32).toInt ≤ 99; decide)⟩⟩
    rw [zV_no (n := 62 + 10 * 3) _ (by decide +kernel)]
theorem i0_a5 {p : Nat} (hp : p < 4) : IA5 (zI L xs 128 28) p := by
  intro q e hq he
  rw [i0_v (63 + 10 * p) (by omega) (by omega), i0_v 123 (by decide) (by decide)]
  refine Or.inl ?_
  rcases (show p = 0 ∨ p = 1 ∨ p = 2 ∨ p = 3 by omega) with rfl | rfl | rfl | rfl
  · exact (show ∀ q, q < 4 → ∀ e, e < 2 → zV 28 (63 + 10 * 0) (e * 4 + q) = -1 ∧ zV 28 123 (8 * 0 + 2 * q + e) = -9 by decide +kernel) q hq e he
  · exact (show ∀ q, q < 4 → ∀ e, e < 2 → zV 28 (63 + 10 * 1) (e * 4 + q) = -1 ∧ zV 28 123 (8 * 1 + 2 * q + e) = -9 by decide +kernel) q hq e he
  · exact (show ∀ q, q < 4 → ∀ e, e < 2 → zV 28 (63 + 10 * 2) (e * 4 + q) = -1 ∧ zV 28 123 (8 * 2 + 2 * q + e) = -9 by decide +kernel) q hq e he
  · exact (show ∀ q, q < 4 → ∀ e, e < 2 → zV 28 (63 + 10 * 3) (e * 4 + q) = -1 ∧ zV 28 123 (8 * 3 + 2 * q + e) = -9 by decide +kernel) q hq e he
theorem bit_0 : ∀ a, a < 10 → ¬ bitAt 0 a := by unfold bitAt; decide
theorem i0_lr {u rp rh p : Nat} (h1 : zI L xs 128 28 u 0 = 0) (h2 : ∀ a, a < 10 → zI L xs 128 28 rp (10 * p + a) = -9) (h3 : zI L xs 128 28 rh p = 0) : LR (zI L xs 128 28) u rp rh p 0 := by
  refine ⟨fun _ => none, fun a ha => Or.inl ⟨rfl, ?_⟩, fun a ha => Or.inl ⟨rfl, h2 a ha⟩, fun a ha => ?_, by decide, Or.inl ⟨h1, h3, fun _ _ => rfl⟩⟩
  · rw [h1]
    exact bit_0 a ha
  · cases ha
theorem i0_9 {p : Nat} (hp : p < 4) : ∀ a, a < 10 → zI L xs 128 28 106 (10 * p + a) = -9 ∧ zI L xs 128 28 107 (10 * p + a) = -9 := by
  rw [i0_v 106 (by decide) (by decide), i0_v 107 (by decide) (by decide)]
  rcases (show p = 0 ∨ p = 1 ∨ p = 2 ∨ p = 3 by omega) with rfl | rfl | rfl | rfl <;> decide +kernel
theorem i0_l {p : Nat} (hp : p < 4) : IL 0 (zI L xs 128 28) (zR 100) p := by
  have g := i0_9 (L := L) (xs := xs) hp
  have z1 : zI L xs 128 28 104 p = 0 := by rw [i0_z 104 (by decide) (by decide) (by decide +kernel)]
  have z2 : zI L xs 128 28 105 p = 0 := by rw [i0_z 105 (by decide) (by decide) (by decide +kernel)]
  have z3 : zI L xs 128 28 (56 + 10 * p) 0 = 0 := by
    rw [i0_v (56 + 10 * p) (by omega) (by omega)]
    rcases (show p = 0 ∨ p = 1 ∨ p = 2 ∨ p = 3 by omega) with rfl | rfl | rfl | rfl <;> decide +kernel
  have z4 : zI L xs 128 28 (58 + 10 * p) 0 = 0 := by
    rw [i0_v (58 + 10 * p) (by omega) (by omega)]
    rcases (show p = 0 ∨ p = 1 ∨ p = 2 ∨ p = 3 by omega) with rfl | rfl | rfl | rfl <;> decide +kernel
  refine ⟨56 + 10 * p, 58 + 10 * p, Or.inl ⟨rfl, rfl⟩, ?_, ?_, i0_lr z3 (fun a ha => (g a ha).1) z1, i0_lr z4 (fun a ha => (g a ha).2) z2, fun _ => z2⟩
  · rcases (show p = 0 ∨ p = 1 ∨ p = 2 ∨ p = 3 by omega) with rfl | rfl | rfl | rfl <;> decide +kernel
  · rcases (show p = 0 ∨ p = 1 ∨ p = 2 ∨ p = 3 by omega) with rfl | rfl | rfl | rfl <;> decide +kernel
theorem r0_53 : ∀ s, s < 4 → zR 100 53 s = none := by decide +kernel
theorem i0_s : IS 128 (zT L 128) (zI L xs 128 28) (zR 100) := by
  refine ⟨fun s hs => Or.inl ⟨r0_53 s hs, ?_⟩, fun s s2 a a2 cc cc2 h1 h2 h3 h4 => ?_⟩
  · rw [i0_v 124 (by decide) (by decide)]
    rcases (show s = 0 ∨ s = 1 ∨ s = 2 ∨ s = 3 by omega) with rfl | rfl | rfl | rfl <;> decide +kernel
  · rw [r0_53 s h1] at h4
    cases h4
theorem inv_0 : Inv 0 128 (zT L 128) (zI L xs 128 28) (zR 100) L xs := ⟨0, 0, by decide, by decide, st_128, i0_fz, i0_g, i0_p, fun _ hp => i0_a1 hp, fun _ hp => i0_a2 hp, fun _ hp => i0_a3 hp, fun _ hp => i0_a4 hp, fun _ hp => i0_a5 hp, fun _ hp => i0_l hp, i0_s⟩
end INV0
