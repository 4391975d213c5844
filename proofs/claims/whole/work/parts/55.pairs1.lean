theorem c_pressNo (d : Nat) {n : Nat} {t : eT} {I : eI} {R : eR} {Q : Int32 → Nat → eT → eI → eR → Prop} (hst : ST n t R) {m : Nat} (hm : I 4 3 = nI m) (hm4 : m ≤ 4) {p : Int32} (hno : ∀ j, j < m → p ≠ nI j) {x y w : Int32} (hq : Q (-1) n t I R) : MC yX7_press cX7_press 6 (some .int) (d + 2) 0 0 [.ref 4, .int p, .int x, .int y, .int w] n t I R (qI Q) := by
  refine mc_intro (L0 := [.ref 4, .int p, .int x, .int y, .int w, vU]) (by decide) rfl (Nat.le_of_ble_eq_true rfl) ?_
  refine wp_aload_n (i := 0) dX7_press_0 rfl rfl ?_
  refine wp_iload_n (i := 1) dX7_press_1 rfl rfl ?_
  refine wp_V1i dX7_press_2 mw_375 mw_377 ms_7 mi_X7_isPerson (Nat.le_of_ble_eq_true rfl) (Nat.le_refl _) (Nat.le_refl _) (st_k hst rfl) (by decide) rfl (c_isPerson _ hst (by exact hm) hm4 (fun j hj e => absurd e (hno j hj)) (fun _ => ?_)) 
  · skip
    refine wp_if_ne0 (tgt := 10) dX7_press_5 (by decide) ?_
    refine wp_iconst (v := (-1)) dX7_press_8 (by decide) ?_
    exact wp_retI dX7_press_9 rfl (Nat.le_refl _) (Nat.le_refl _) hq

theorem c_pressNoM (d : Nat) {n : Nat} {t : eT} {I : eI} {R : eR} {Q : Int32 → Nat → eT → eI → eR → Prop} (hst : ST n t R) {m : Nat} (hmM : I 94 9 = nI m) (hm4 : m ≤ 4) {p : Int32} (hno : ∀ j, j < m → p ≠ nI j) {x y w : Int32} (hq : Q (-1) n t I R) : MC yX8_press cX8_press 14 (some .int) (d + 2) 0 0 [.ref 94, .int p, .int x, .int y, .int w] n t I R (qI Q) := by
  refine mc_intro (L0 := [.ref 94, .int p, .int x, .int y, .int w, vU, vU, vU, vU, vU, vU, vU, vU, vU]) (by decide) rfl (Nat.le_of_ble_eq_true rfl) ?_
  refine wp_aload_n (i := 0) dX8_press_0 rfl rfl ?_
  refine wp_iload_n (i := 1) dX8_press_1 rfl rfl ?_
  refine wp_V1i dX8_press_2 mw_942 mw_944 ms_32 mi_X8_noPerson (Nat.le_of_ble_eq_true rfl) (Nat.le_refl _) (Nat.le_refl _) (st_k hst rfl) (by decide) rfl (c_noPerson _ hst (by exact hmM) hm4 (fun j hj e => absurd e (hno j hj)) (fun _ => ?_)) 
  · skip
    refine wp_if_eq1 (tgt := 10) dX8_press_5 (by decide) ?_
    refine wp_iconst (v := (-1)) dX8_press_8 (by decide) ?_
    exact wp_retI dX8_press_9 rfl (Nat.le_refl _) (Nat.le_refl _) hq

theorem c_confirmNo (d : Nat) {n : Nat} {t : eT} {I : eI} {R : eR} {Q : Int32 → Nat → eT → eI → eR → Prop} (hst : ST n t R) {m : Nat} (hm : I 4 3 = nI m) (hm4 : m ≤ 4) {p : Int32} (hno : ∀ j, j < m → p ≠ nI j) {x : Int32} (hq : Q (-1) n t I R) : MC yX7_confirm cX7_confirm 5 (some .int) (d + 2) 0 0 [.ref 4, .int p, .int x] n t I R (qI Q) := by
  refine mc_intro (L0 := [.ref 4, .int p, .int x, vU, vU]) (by decide) rfl (Nat.le_of_ble_eq_true rfl) ?_
  refine wp_aload_n (i := 0) dX7_confirm_0 rfl rfl ?_
  refine wp_iload_n (i := 1) dX7_confirm_1 rfl rfl ?_
  refine wp_V1i dX7_confirm_2 mw_375 mw_377 ms_7 mi_X7_isPerson (Nat.le_of_ble_eq_true rfl) (Nat.le_refl _) (Nat.le_refl _) (st_k hst rfl) (by decide) rfl (c_isPerson _ hst (by exact hm) hm4 (fun j hj e => absurd e (hno j hj)) (fun _ => ?_)) 
  · skip
    refine wp_if_ne0 (tgt := 10) dX7_confirm_5 (by decide) ?_
    refine wp_iconst (v := (-1)) dX7_confirm_8 (by decide) ?_
    exact wp_retI dX7_confirm_9 rfl (Nat.le_refl _) (Nat.le_refl _) hq

theorem c_confirmNoM (d : Nat) {n : Nat} {t : eT} {I : eI} {R : eR} {Q : Int32 → Nat → eT → eI → eR → Prop} (hst : ST n t R) {m : Nat} (hmM : I 94 9 = nI m) (hm4 : m ≤ 4) {p : Int32} (hno : ∀ j, j < m → p ≠ nI j) {x : Int32} (hq : Q (-1) n t I R) : MC yX8_confirm cX8_confirm 4 (some .int) (d + 2) 0 0 [.ref 94, .int p, .int x] n t I R (qI Q) := by
  refine mc_intro (L0 := [.ref 94, .int p, .int x, vU]) (by decide) rfl (Nat.le_of_ble_eq_true rfl) ?_
  refine wp_aload_n (i := 0) dX8_confirm_0 rfl rfl ?_
  refine wp_iload_n (i := 1) dX8_confirm_1 rfl rfl ?_
  refine wp_V1i dX8_confirm_2 mw_942 mw_944 ms_32 mi_X8_noPerson (Nat.le_of_ble_eq_true rfl) (Nat.le_refl _) (Nat.le_refl _) (st_k hst rfl) (by decide) rfl (c_noPerson _ hst (by exact hmM) hm4 (fun j hj e => absurd e (hno j hj)) (fun _ => ?_)) 
  · skip
    refine wp_if_eq1 (tgt := 10) dX8_confirm_5 (by decide) ?_
    refine wp_iconst (v := (-1)) dX8_confirm_8 (by decide) ?_
    exact wp_retI dX8_confirm_9 rfl (Nat.le_refl _) (Nat.le_refl _) hq

theorem c_worseNo (d : Nat) {n : Nat} {t : eT} {I : eI} {R : eR} {Q : Int64 → Nat → eT → eI → eR → Prop} (hst : ST n t R) {m : Nat} (hm : I 4 3 = nI m) (hm4 : m ≤ 4) {p : Int32} (hno : ∀ j, j < m → p ≠ nI j) {x : Int32} (hq : Q (-9223372036854775808) n t I R) : MC yX7_worse cX7_worse 5 (some .long) (d + 2) 0 0 [.ref 4, .int p, .int x] n t I R (qL Q) := by
  refine mc_intro (L0 := [.ref 4, .int p, .int x, vU, vU]) (by decide) rfl (Nat.le_of_ble_eq_true rfl) ?_
  refine wp_aload_n (i := 0) dX7_worse_0 rfl rfl ?_
  refine wp_iload_n (i := 1) dX7_worse_1 rfl rfl ?_
  refine wp_V1i dX7_worse_2 mw_375 mw_377 ms_7 mi_X7_isPerson (Nat.le_of_ble_eq_true rfl) (Nat.le_refl _) (Nat.le_refl _) (st_k hst rfl) (by decide) rfl (c_isPerson _ hst (by exact hm) hm4 (fun j hj e => absurd e (hno j hj)) (fun _ => ?_)) 
  · skip
    refine wp_if_eq0 (tgt := 17) dX7_worse_5 (by decide) ?_
    refine wp_ldc2 (v := (-9223372036854775808)) dX7_worse_17 mw_614 ?_
    exact wp_retL dX7_worse_20 rfl (Nat.le_refl _) (Nat.le_refl _) hq

theorem c_worseNoM (d : Nat) {n : Nat} {t : eT} {I : eI} {R : eR} {Q : Int64 → Nat → eT → eI → eR → Prop} (hst : ST n t R) {m : Nat} (hmM : I 94 9 = nI m) (hm4 : m ≤ 4) {p : Int32} (hno : ∀ j, j < m → p ≠ nI j) {x : Int32} (hq : Q (-9223372036854775808) n t I R) : MC yX8_worse cX8_worse 10 (some .long) (d + 2) 0 0 [.ref 94, .int p, .int x] n t I R (qL Q) := by
  refine mc_intro (L0 := [.ref 94, .int p, .int x, vU, vU, vU, vU, vU, vU, vU]) (by decide) rfl (Nat.le_of_ble_eq_true rfl) ?_
  refine wp_aload_n (i := 0) dX8_worse_0 rfl rfl ?_
  refine wp_iload_n (i := 1) dX8_worse_1 rfl rfl ?_
  refine wp_V1i dX8_worse_2 mw_942 mw_944 ms_32 mi_X8_noPerson (Nat.le_of_ble_eq_true rfl) (Nat.le_refl _) (Nat.le_refl _) (st_k hst rfl) (by decide) rfl (c_noPerson _ hst (by exact hmM) hm4 (fun j hj e => absurd e (hno j hj)) (fun _ => ?_)) 
  · skip
    refine wp_if_ne1 (tgt := 18) dX8_worse_5 (by decide) ?_
    refine wp_S0l dX8_worse_18 mw_1107 mw_1108 mi_X8_lost (Nat.le_of_ble_eq_true rfl) (Nat.le_refl _) (Nat.le_refl _) (c_lost _ ?_) 
    exact wp_retL dX8_worse_21 rfl (Nat.le_refl _) (Nat.le_refl _) hq

theorem c_oddsNo (d : Nat) {n : Nat} {t : eT} {I : eI} {R : eR} {Q : Int64 → Nat → eT → eI → eR → Prop} (hst : ST n t R) {m : Nat} (hm : I 4 3 = nI m) (hm4 : m ≤ 4) {p : Int32} (hno : ∀ j, j < m → p ≠ nI j) {x : Int32} (hq : Q (-9223372036854775808) n t I R) : MC yX7_odds cX7_odds 5 (some .long) (d + 2) 0 0 [.ref 4, .int p, .int x] n t I R (qL Q) := by
  refine mc_intro (L0 := [.ref 4, .int p, .int x, vU, vU]) (by decide) rfl (Nat.le_of_ble_eq_true rfl) ?_
  refine wp_aload_n (i := 0) dX7_odds_0 rfl rfl ?_
  refine wp_iload_n (i := 1) dX7_odds_1 rfl rfl ?_
  refine wp_V1i dX7_odds_2 mw_375 mw_377 ms_7 mi_X7_isPerson (Nat.le_of_ble_eq_true rfl) (Nat.le_refl _) (Nat.le_refl _) (st_k hst rfl) (by decide) rfl (c_isPerson _ hst (by exact hm) hm4 (fun j hj e => absurd e (hno j hj)) (fun _ => ?_)) 
  · skip
    refine wp_if_eq0 (tgt := 17) dX7_odds_5 (by decide) ?_
    refine wp_ldc2 (v := (-9223372036854775808)) dX7_odds_17 mw_614 ?_
    exact wp_retL dX7_odds_20 rfl (Nat.le_refl _) (Nat.le_refl _) hq

theorem c_oddsNoM (d : Nat) {n : Nat} {t : eT} {I : eI} {R : eR} {Q : Int64 → Nat → eT → eI → eR → Prop} (hst : ST n t R) {m : Nat} (hmM : I 94 9 = nI m) (hm4 : m ≤ 4) {p : Int32} (hno : ∀ j, j < m → p ≠ nI j) {x : Int32} (hq : Q (-9223372036854775808) n t I R) : MC yX8_odds cX8_odds 6 (some .long) (d + 2) 0 0 [.ref 94, .int p, .int x] n t I R (qL Q) := by
  refine mc_intro (L0 := [.ref 94, .int p, .int x, vU, vU, vU]) (by decide) rfl (Nat.le_of_ble_eq_true rfl) ?_
  refine wp_aload_n (i := 0) dX8_odds_0 rfl rfl ?_
  refine wp_iload_n (i := 1) dX8_odds_1 rfl rfl ?_
  refine wp_V1i dX8_odds_2 mw_942 mw_944 ms_32 mi_X8_noPerson (Nat.le_of_ble_eq_true rfl) (Nat.le_refl _) (Nat.le_refl _) (st_k hst rfl) (by decide) rfl (c_noPerson _ hst (by exact hmM) hm4 (fun j hj e => absurd e (hno j hj)) (fun _ => ?_)) 
  · skip
    refine wp_if_ne1 (tgt := 27) dX8_odds_5 (by decide) ?_
    refine wp_S0l dX8_odds_27 mw_1107 mw_1108 mi_X8_lost (Nat.le_of_ble_eq_true rfl) (Nat.le_refl _) (Nat.le_refl _) (c_lost _ ?_) 
    exact wp_retL dX8_odds_30 rfl (Nat.le_refl _) (Nat.le_refl _) hq

theorem c_keptNo (d : Nat) {n : Nat} {t : eT} {I : eI} {R : eR} {Q : Int32 → Nat → eT → eI → eR → Prop} (hst : ST n t R) {m : Nat} (hm : I 4 3 = nI m) (hm4 : m ≤ 4) {p : Int32} (hno : ∀ j, j < m → p ≠ nI j) {x y : Int32} (hq : Q (-1) n t I R) : MC yX7_kept cX7_kept 7 (some .int) (d + 2) 0 0 [.ref 4, .int p, .int x, .int y] n t I R (qI Q) := by
  refine mc_intro (L0 := [.ref 4, .int p, .int x, .int y, vU, vU, vU]) (by decide) rfl (Nat.le_of_ble_eq_true rfl) ?_
  refine wp_aload_n (i := 0) dX7_kept_0 rfl rfl ?_
  refine wp_iload_n (i := 1) dX7_kept_1 rfl rfl ?_
  refine wp_V1i dX7_kept_2 mw_375 mw_377 ms_7 mi_X7_isPerson (Nat.le_of_ble_eq_true rfl) (Nat.le_refl _) (Nat.le_refl _) (st_k hst rfl) (by decide) rfl (c_isPerson _ hst (by exact hm) hm4 (fun j hj e => absurd e (hno j hj)) (fun _ => ?_)) 
  · skip
    refine wp_if_ne0 (tgt := 10) dX7_kept_5 (by decide) ?_
    refine wp_iconst (v := (-1)) dX7_kept_8 (by decide) ?_
    exact wp_retI dX7_kept_9 rfl (Nat.le_refl _) (Nat.le_refl _) hq

theorem c_keptNoM (d : Nat) {n : Nat} {t : eT} {I : eI} {R : eR} {Q : Int32 → Nat → eT → eI → eR → Prop} (hst : ST n t R) {m : Nat} (hmM : I 94 9 = nI m) (hm4 : m ≤ 4) {p : Int32} (hno : ∀ j, j < m → p ≠ nI j) {x y : Int32} (hq : Q (-1) n t I R) : MC yX8_kept cX8_kept 7 (some .int) (d + 2) 0 0 [.ref 94, .int p, .int x, .int y] n t I R (qI Q) := by
  refine mc_intro (L0 := [.ref 94, .int p, .int x, .int y, vU, vU, vU]) (by decide) rfl (Nat.le_of_ble_eq_true rfl) ?_
  refine wp_aload_n (i := 0) dX8_kept_0 rfl rfl ?_
  refine wp_iload_n (i := 1) dX8_kept_1 rfl rfl ?_
  refine wp_V1i dX8_kept_2 mw_942 mw_944 ms_32 mi_X8_noPerson (Nat.le_of_ble_eq_true rfl) (Nat.le_refl _) (Nat.le_refl _) (st_k hst rfl) (by decide) rfl (c_noPerson _ hst (by exact hmM) hm4 (fun j hj e => absurd e (hno j hj)) (fun _ => ?_)) 
  · skip
    refine wp_if_eq1 (tgt := 10) dX8_kept_5 (by decide) ?_
    refine wp_iconst (v := (-1)) dX8_kept_8 (by decide) ?_
    exact wp_retI dX8_kept_9 rfl (Nat.le_refl _) (Nat.le_refl _) hq

theorem c_bestNo (d : Nat) {n : Nat} {t : eT} {I : eI} {R : eR} {Q : Int32 → Nat → eT → eI → eR → Prop} (hst : ST n t R) {m : Nat} (hm : I 4 3 = nI m) (hm4 : m ≤ 4) {p : Int32} (hno : ∀ j, j < m → p ≠ nI j) {x y : Int32} (hq : Q (-1) n t I R) : MC yX7_best cX7_best 5 (some .int) (d + 2) 0 0 [.ref 4, .int p, .int x, .int y] n t I R (qI Q) := by
  refine mc_intro (L0 := [.ref 4, .int p, .int x, .int y, vU]) (by decide) rfl (Nat.le_of_ble_eq_true rfl) ?_
  refine wp_aload_n (i := 0) dX7_best_0 rfl rfl ?_
  refine wp_iload_n (i := 1) dX7_best_1 rfl rfl ?_
  refine wp_V1i dX7_best_2 mw_375 mw_377 ms_7 mi_X7_isPerson (Nat.le_of_ble_eq_true rfl) (Nat.le_refl _) (Nat.le_refl _) (st_k hst rfl) (by decide) rfl (c_isPerson _ hst (by exact hm) hm4 (fun j hj e => absurd e (hno j hj)) (fun _ => ?_)) 
  · skip
    refine wp_if_eq0 (tgt := 16) dX7_best_5 (by decide) ?_
    refine wp_iconst (v := (-1)) dX7_best_16 (by decide) ?_
    exact wp_retI dX7_best_17 rfl (Nat.le_refl _) (Nat.le_refl _) hq

theorem c_bestNoM (d : Nat) {n : Nat} {t : eT} {I : eI} {R : eR} {Q : Int32 → Nat → eT → eI → eR → Prop} (hst : ST n t R) {m : Nat} (hmM : I 94 9 = nI m) (hm4 : m ≤ 4) {p : Int32} (hno : ∀ j, j < m → p ≠ nI j) {x y : Int32} (hq : Q (-1) n t I R) : MC yX8_best cX8_best 6 (some .int) (d + 2) 0 0 [.ref 94, .int p, .int x, .int y] n t I R (qI Q) := by
  refine mc_intro (L0 := [.ref 94, .int p, .int x, .int y, vU, vU]) (by decide) rfl (Nat.le_of_ble_eq_true rfl) ?_
  refine wp_aload_n (i := 0) dX8_best_0 rfl rfl ?_
  refine wp_iload_n (i := 1) dX8_best_1 rfl rfl ?_
  refine wp_V1i dX8_best_2 mw_942 mw_944 ms_32 mi_X8_noPerson (Nat.le_of_ble_eq_true rfl) (Nat.le_refl _) (Nat.le_refl _) (st_k hst rfl) (by decide) rfl (c_noPerson _ hst (by exact hmM) hm4 (fun j hj e => absurd e (hno j hj)) (fun _ => ?_)) 
  · skip
    refine wp_if_ne1 (tgt := 26) dX8_best_5 (by decide) ?_
    refine wp_iconst (v := (-1)) dX8_best_26 (by decide) ?_
    exact wp_retI dX8_best_27 rfl (Nat.le_refl _) (Nat.le_refl _) hq

theorem c_layNo (d : Nat) {n : Nat} {t : eT} {I : eI} {R : eR} {Q : Int32 → Nat → eT → eI → eR → Prop} (hst : ST n t R) {m : Nat} (hm : I 4 3 = nI m) (hm4 : m ≤ 4) {p : Int32} (hno : ∀ j, j < m → p ≠ nI j) {x : Int32} (hq : Q (-1) n t I R) : MC yX7_lay cX7_lay 4 (some .int) (d + 2) 0 0 [.ref 4, .int p, .int x] n t I R (qI Q) := by
  refine mc_intro (L0 := [.ref 4, .int p, .int x, vU]) (by decide) rfl (Nat.le_of_ble_eq_true rfl) ?_
  refine wp_aload_n (i := 0) dX7_lay_0 rfl rfl ?_
  refine wp_iload_n (i := 1) dX7_lay_1 rfl rfl ?_
  refine wp_V1i dX7_lay_2 mw_375 mw_377 ms_7 mi_X7_isPerson (Nat.le_of_ble_eq_true rfl) (Nat.le_refl _) (Nat.le_refl _) (st_k hst rfl) (by decide) rfl (c_isPerson _ hst (by exact hm) hm4 (fun j hj e => absurd e (hno j hj)) (fun _ => ?_)) 
  · skip
    refine wp_if_ne0 (tgt := 10) dX7_lay_5 (by decide) ?_
    refine wp_iconst (v := (-1)) dX7_lay_8 (by decide) ?_
    exact wp_retI dX7_lay_9 rfl (Nat.le_refl _) (Nat.le_refl _) hq

theorem c_layNoM (d : Nat) {n : Nat} {t : eT} {I : eI} {R : eR} {Q : Int32 → Nat → eT → eI → eR → Prop} (hst : ST n t R) {m : Nat} (hmM : I 94 9 = nI m) (hm4 : m ≤ 4) {p : Int32} (hno : ∀ j, j < m → p ≠ nI j) {x : Int32} (hq : Q (-1) n t I R) : MC yX8_lay cX8_lay 3 (some .int) (d + 2) 0 0 [.ref 94, .int p, .int x] n t I R (qI Q) := by
  refine mc_intro (L0 := [.ref 94, .int p, .int x]) (by decide) rfl (Nat.le_of_ble_eq_true rfl) ?_
  refine wp_aload_n (i := 0) dX8_lay_0 rfl rfl ?_
  refine wp_iload_n (i := 1) dX8_lay_1 rfl rfl ?_
  refine wp_V1i dX8_lay_2 mw_942 mw_944 ms_32 mi_X8_noPerson (Nat.le_of_ble_eq_true rfl) (Nat.le_refl _) (Nat.le_refl _) (st_k hst rfl) (by decide) rfl (c_noPerson _ hst (by exact hmM) hm4 (fun j hj e => absurd e (hno j hj)) (fun _ => ?_)) 
  · skip
    refine wp_if_eq1 (tgt := 10) dX8_lay_5 (by decide) ?_
    refine wp_iconst (v := (-1)) dX8_lay_8 (by decide) ?_
    exact wp_retI dX8_lay_9 rfl (Nat.le_refl _) (Nat.le_refl _) hq

theorem c_offerNo (d : Nat) {n : Nat} {t : eT} {I : eI} {R : eR} {Q : Int32 → Nat → eT → eI → eR → Prop} (hst : ST n t R) {m : Nat} (hm : I 4 3 = nI m) (hm4 : m ≤ 4) {p : Int32} (hno : ∀ j, j < m → p ≠ nI j) {x : Int32} (hq : Q (-1) n t I R) : MC yX7_offer cX7_offer 5 (some .int) (d + 2) 0 0 [.ref 4, .int p, .int x] n t I R (qI Q) := by
  refine mc_intro (L0 := [.ref 4, .int p, .int x, vU, vU]) (by decide) rfl (Nat.le_of_ble_eq_true rfl) ?_
  refine wp_aload_n (i := 0) dX7_offer_0 rfl rfl ?_
  refine wp_iload_n (i := 1) dX7_offer_1 rfl rfl ?_
  refine wp_V1i dX7_offer_2 mw_375 mw_377 ms_7 mi_X7_isPerson (Nat.le_of_ble_eq_true rfl) (Nat.le_refl _) (Nat.le_refl _) (st_k hst rfl) (by decide) rfl (c_isPerson _ hst (by exact hm) hm4 (fun j hj e => absurd e (hno j hj)) (fun _ => ?_)) 
  · skip
    refine wp_if_ne0 (tgt := 10) dX7_offer_5 (by decide) ?_
    refine wp_iconst (v := (-1)) dX7_offer_8 (by decide) ?_
    exact wp_retI dX7_offer_9 rfl (Nat.le_refl _) (Nat.le_refl _) hq

theorem c_offerNoM (d : Nat) {n : Nat} {t : eT} {I : eI} {R : eR} {Q : Int32 → Nat → eT → eI → eR → Prop} (hst : ST n t R) {m : Nat} (hmM : I 94 9 = nI m) (hm4 : m ≤ 4) {p : Int32} (hno : ∀ j, j < m → p ≠ nI j) {x : Int32} (hq : Q (-1) n t I R) : MC yX8_offer cX8_offer 3 (some .int) (d + 2) 0 0 [.ref 94, .int p, .int x] n t I R (qI Q) := by
  refine mc_intro (L0 := [.ref 94, .int p, .int x]) (by decide) rfl (Nat.le_of_ble_eq_true rfl) ?_
  refine wp_aload_n (i := 0) dX8_offer_0 rfl rfl ?_
  refine wp_iload_n (i := 1) dX8_offer_1 rfl rfl ?_
  refine wp_V1i dX8_offer_2 mw_942 mw_944 ms_32 mi_X8_noPerson (Nat.le_of_ble_eq_true rfl) (Nat.le_refl _) (Nat.le_refl _) (st_k hst rfl) (by decide) rfl (c_noPerson _ hst (by exact hmM) hm4 (fun j hj e => absurd e (hno j hj)) (fun _ => ?_)) 
  · skip
    refine wp_if_eq1 (tgt := 10) dX8_offer_5 (by decide) ?_
    refine wp_iconst (v := (-1)) dX8_offer_8 (by decide) ?_
    exact wp_retI dX8_offer_9 rfl (Nat.le_refl _) (Nat.le_refl _) hq

def UV (t : eT) (R : eR) (j x : Nat) : Prop := (t x).1 = 0 ∧ R x 1 = some (x + 1) ∧ t (x + 1) = (9, 10) ∧ 53 < x ∧ x ≠ 54 + 10 * j ∧ x + 1 ≠ 54 + 10 * j
theorem UV.of {n : Nat} {t : eT} {R : eR} (hst : ST n t R) {j x : Nat} (hj : j < 4) (h : x = 56 + 10 * j ∨ x = 58 + 10 * j) : UV t R j x := by
  rcases h with rfl | rfl
  · exact ⟨sp_k2 hst hj, (sp_l2 hst hj).trans (congrArg some (by omega)), by rw [show 56 + 10 * j + 1 = 57 + 10 * j by omega]; exact sp_t3 hst hj, by omega, by omega, by omega⟩
  · exact ⟨sp_k4 hst hj, (sp_l4 hst hj).trans (congrArg some (by omega)), by rw [show 58 + 10 * j + 1 = 59 + 10 * j by omega]; exact sp_t5 hst hj, by omega, by omega, by omega⟩
theorem IL.at {k n : Nat} {t : eT} {I : eI} {R : eR} (hst : ST n t R) (h : ∀ p, p < 4 → IL k I R p) : ∀ j, j < 4 → ∃ a pl, R (54 + 10 * j) 1 = some a ∧ (t a).1 = 0 ∧ R a 1 = some pl ∧ t pl = (9, 10) := fun j hj => by
  obtain ⟨u, v, h1, h2, -⟩ := h j hj
  have e := UV.of hst hj (show u = 56 + 10 * j ∨ u = 58 + 10 * j by omega)
  exact ⟨u, u + 1, h2, e.1, e.2.1, e.2.2.1⟩
theorem LR.iff {I : eI} {u rp rh p k : Nat} (h : LR I u rp rh p k) {q : Int32} (hq : 0 ≤ q.toInt) : ∀ y, y < 10 → ((bitAt (I u 0) y ∧ I (u + 1) y = q) ↔ I rp (10 * p + y) = q) ∧ (I rp (10 * p + y) = q → y < k) := by
  obtain ⟨la, h1, h2, h3, -⟩ := h
  intro y hy
  rcases h1 y hy with ⟨e1, b1⟩ | ⟨pl, e0, e1, b1, e2⟩
  · rcases h2 y hy with ⟨e3, e4⟩ | ⟨pl2, e5, e3, e4⟩
    · rw [e4]
      have hne : ¬ (-9 : Int32) = q := fun g => by
        rw [← g] at hq
        exact absurd hq (by decide)
      exact ⟨⟨fun g => absurd g.1 b1, fun g => absurd g hne⟩, fun g => absurd g hne⟩
    · rw [e1] at e3; cases e3
  · rcases h2 y hy with ⟨e3, e4⟩ | ⟨pl2, e5, e3, e4⟩
    · rw [e1] at e3; cases e3
    · rw [e1] at e3
      cases e3
      rw [e4, e2]
      exact ⟨⟨fun g => g.2, fun g => ⟨b1, g⟩⟩, fun _ => h3 y (by rw [e1]; rfl)⟩

theorem pr_at {c n : Nat} {t : eT} {I : eI} {R : eR} {L : Nat} {xs : Nat → Int32} (h : Inv c n t I R L xs) (hc : c ≤ 511) {p q : Int32} : MC yX7_at cX7_at 3 (some .int) 999 0 0 [.ref 4, .int p, .int q] n t I R (qI (fun r n1 t1 I1 R1 => MID t1 I1 L xs ∧ MC yX8_at cX8_at 3 (some .int) 999 0 0 [.ref 94, .int p, .int q] n1 t1 I1 R1 (qI (fun r2 n2 t2 I2 R2 => r2 = r ∧ Inv (c + 1) n2 t2 I2 R2 L xs)))) := by
  obtain ⟨m, k, hv⟩ := h
  obtain ⟨hm4, hk4, hst, hfz, hg, hp, a1, a2, a3, a4, a5, hl, hs⟩ := id hv
  refine c_at 997 hst hg.1 hm4 (IL.at hst hl) (fun h1A => ?_) (fun jA hjA eA h2A => ?_) (fun jA yA plA xA hjA eA q1A q2A h1A h2A hxA h3A h4A h5A => ?_) (fun jA yA plA hjA eA q1A q2A h1A h2A h3A => ?_)
  · refine ⟨hv.mid, c_atM 997 hst hg.2.1 hm4 hp.2.1 hk4 (fun h1B => ?_) (fun jB hjB eB h2B => ?_) (fun jB xB hjB eB q1B q2B hxB h4B h5B => ?_) (fun jB hjB eB q1B q2B h3B => ?_)⟩
    · exact ⟨rfl, m, k, hv.up (by omega)⟩
    · (exfalso; first | assumption | omega | grind)
    · (exfalso; first | assumption | omega | grind)
    · (exfalso; first | assumption | omega | grind)
  · refine ⟨hv.mid, c_atM 997 hst hg.2.1 hm4 hp.2.1 hk4 (fun h1B => ?_) (fun jB hjB eB h2B => ?_) (fun jB xB hjB eB q1B q2B hxB h4B h5B => ?_) (fun jB hjB eB q1B q2B h3B => ?_)⟩
    · (exfalso; first | assumption | omega | grind)
    · exact ⟨rfl, m, k, hv.up (by omega)⟩
    · (exfalso; first | assumption | omega | grind)
    · (exfalso; first | assumption | omega | grind)
  · refine ⟨hv.mid, c_atM 997 hst hg.2.1 hm4 hp.2.1 hk4 (fun h1B => ?_) (fun jB hjB eB h2B => ?_) (fun jB xB hjB eB q1B q2B hxB h4B h5B => ?_) (fun jB hjB eB q1B q2B h3B => ?_)⟩
    · (exfalso; first | assumption | omega | grind)
    · (exfalso; first | assumption | omega | grind)
    · obtain rfl := nI_j hjA hjB (by omega) eA eB
      obtain ⟨u, v, g1, g2, g3, g4, g5, g6⟩ := hl jA (show jA < 4 by omega)
      rw [g2] at h1A
      cases h1A
      rw [(UV.of hst (show jA < 4 by omega) (show yA = 56 + 10 * jA ∨ yA = 58 + 10 * jA by omega)).2.1] at h2A
      cases h2A
      have hif := g4.iff q1A
      rcases Nat.lt_trichotomy xA xB with g | g | g
      · exact absurd ((hif xA hxA).1.mp ⟨h3A, h4A⟩) (h5B xA g)
      · subst g
        exact ⟨rfl, m, k, hv.up (by omega)⟩
      · exact absurd ((hif xB (by omega)).1.mpr h4B) (h5A xB g)
    · obtain rfl := nI_j hjA hjB (by omega) eA eB
      obtain ⟨u, v, g1, g2, g3, g4, g5, g6⟩ := hl jA (show jA < 4 by omega)
      rw [g2] at h1A
      cases h1A
      rw [(UV.of hst (show jA < 4 by omega) (show yA = 56 + 10 * jA ∨ yA = 58 + 10 * jA by omega)).2.1] at h2A
      cases h2A
      have hif := g4.iff q1A
      exact absurd ((hif xA hxA).1.mp ⟨h3A, h4A⟩) (h3B xA ((hif xA hxA).2 ((hif xA hxA).1.mp ⟨h3A, h4A⟩)))
  · refine ⟨hv.mid, c_atM 997 hst hg.2.1 hm4 hp.2.1 hk4 (fun h1B => ?_) (fun jB hjB eB h2B => ?_) (fun jB xB hjB eB q1B q2B hxB h4B h5B => ?_) (fun jB hjB eB q1B q2B h3B => ?_)⟩
    · (exfalso; first | assumption | omega | grind)
    · (exfalso; first | assumption | omega | grind)
    · obtain rfl := nI_j hjA hjB (by omega) eA eB
      obtain ⟨u, v, g1, g2, g3, g4, g5, g6⟩ := hl jA (show jA < 4 by omega)
      rw [g2] at h1A
      cases h1A
      rw [(UV.of hst (show jA < 4 by omega) (show yA = 56 + 10 * jA ∨ yA = 58 + 10 * jA by omega)).2.1] at h2A
      cases h2A
      have hif := g4.iff q1A
      exact absurd ((hif xB (by omega)).1.mpr h4B) (h3A xB (by omega))
    · exact ⟨rfl, m, k, hv.up (by omega)⟩

theorem pr_see {c n : Nat} {t : eT} {I : eI} {R : eR} {L : Nat} {xs : Nat → Int32} (h : Inv c n t I R L xs) (hc : c ≤ 511) {q p g w : Int32} : MC yX7_see cX7_see 5 (some .int) 999 0 0 [.ref 4, .int q, .int p, .int g, .int w] n t I R (qI (fun r n1 t1 I1 R1 => MID t1 I1 L xs ∧ MC yX8_see cX8_see 5 (some .int) 999 0 0 [.ref 94, .int q, .int p, .int g, .int w] n1 t1 I1 R1 (qI (fun r2 n2 t2 I2 R2 => r2 = r ∧ Inv (c + 1) n2 t2 I2 R2 L xs)))) := by
  obtain ⟨m, k, hv⟩ := h
  obtain ⟨hm4, hk4, hst, hfz, hg, hp, a1, a2, a3, a4, a5, hl, hs⟩ := id hv
  refine c_see 996 hst hg.1 hm4 (IL.at hst hl) (fun h1A => ?_) (fun h1A => ?_) (fun h1A => ?_) (fun aA bA haA hbA epA eqA g2A t2A => ?_) (fun aA bA haA hbA epA eqA g2A t2A neA ltA => ?_) (fun aA bA haA hbA epA eqA g2A t2A vA yA plA xA s1A s2A hxA h3A h4A h5A => ?_) (fun aA bA haA hbA epA eqA g2A t2A vA yA plA s1A s2A h3A => ?_)
  · refine ⟨hv.mid, c_seeM 996 hst hg.2.1 hm4 hp.2.1 hk4 (fun h1B => ?_) (fun h1B => ?_) (fun h1B => ?_) (fun aB bB haB hbB epB eqB g2B t2B => ?_) (fun aB bB haB hbB epB eqB g2B t2B neB ltB => ?_) (fun aB bB haB hbB epB eqB g2B t2B vB xB hxB h4B h5B => ?_) (fun aB bB haB hbB epB eqB g2B t2B vB h3B => ?_)⟩
    · exact ⟨rfl, m, k, hv.up (by omega)⟩
    · exact ⟨rfl, m, k, hv.up (by omega)⟩
    · exact ⟨rfl, m, k, hv.up (by omega)⟩
    · (exfalso; first | assumption | omega | grind)
    · (exfalso; first | assumption | omega | grind)
    · (exfalso; first | assumption | omega | grind)
    · (exfalso; first | assumption | omega | grind)
  · refine ⟨hv.mid, c_seeM 996 hst hg.2.1 hm4 hp.2.1 hk4 (fun h1B => ?_) (fun h1B => ?_) (fun h1B => ?_) (fun aB bB haB hbB epB eqB g2B t2B => ?_) (fun aB bB haB hbB epB eqB g2B t2B neB ltB => ?_) (fun aB bB haB hbB epB eqB g2B t2B vB xB hxB h4B h5B => ?_) (fun aB bB haB hbB epB eqB g2B t2B vB h3B => ?_)⟩
    · exact ⟨rfl, m, k, hv.up (by omega)⟩
    · exact ⟨rfl, m, k, hv.up (by omega)⟩
    · exact ⟨rfl, m, k, hv.up (by omega)⟩
    · (exfalso; first | assumption | omega | grind)
    · (exfalso; first | assumption | omega | grind)
    · (exfalso; first | assumption | omega | grind)
    · (exfalso; first | assumption | omega | grind)
  · refine ⟨hv.mid, c_seeM 996 hst hg.2.1 hm4 hp.2.1 hk4 (fun h1B => ?_) (fun h1B => ?_) (fun h1B => ?_) (fun aB bB haB hbB epB eqB g2B t2B => ?_) (fun aB bB haB hbB epB eqB g2B t2B neB ltB => ?_) (fun aB bB haB hbB epB eqB g2B t2B vB xB hxB h4B h5B => ?_) (fun aB bB haB hbB epB eqB g2B t2B vB h3B => ?_)⟩
    · exact ⟨rfl, m, k, hv.up (by omega)⟩
    · exact ⟨rfl, m, k, hv.up (by omega)⟩
    · exact ⟨rfl, m, k, hv.up (by omega)⟩
    · (exfalso; first | assumption | omega | grind)
    · (exfalso; first | assumption | omega | grind)
    · (exfalso; first | assumption | omega | grind)
    · (exfalso; first | assumption | omega | grind)
  · refine ⟨hv.mid, c_seeM 996 hst hg.2.1 hm4 hp.2.1 hk4 (fun h1B => ?_) (fun h1B => ?_) (fun h1B => ?_) (fun aB bB haB hbB epB eqB g2B t2B => ?_) (fun aB bB haB hbB epB eqB g2B t2B neB ltB => ?_) (fun aB bB haB hbB epB eqB g2B t2B vB xB hxB h4B h5B => ?_) (fun aB bB haB hbB epB eqB g2B t2B vB h3B => ?_)⟩
    · (exfalso; first | assumption | omega | grind)
    · (exfalso; first | assumption | omega | grind)
    · (exfalso; first | assumption | omega | grind)
    · exact ⟨rfl, m, k, hv.up (by omega)⟩
    · (exfalso; first | assumption | omega | grind)
    · (exfalso; first | assumption | omega | grind)
    · (exfalso; first | assumption | omega | grind)
  · refine ⟨hv.mid, c_seeM 996 hst hg.2.1 hm4 hp.2.1 hk4 (fun h1B => ?_) (fun h1B => ?_) (fun h1B => ?_) (fun aB bB haB hbB epB eqB g2B t2B => ?_) (fun aB bB haB hbB epB eqB g2B t2B neB ltB => ?_) (fun aB bB haB hbB epB eqB g2B t2B vB xB hxB h4B h5B => ?_) (fun aB bB haB hbB epB eqB g2B t2B vB h3B => ?_)⟩
    · (exfalso; first | assumption | omega | grind)
    · (exfalso; first | assumption | omega | grind)
    · (exfalso; first | assumption | omega | grind)
    · (exfalso; first | assumption | omega | grind)
    · exact ⟨rfl, m, k, hv.up (by omega)⟩
    · obtain rfl := nI_j haA haB (by omega) epA epB
      obtain rfl := nI_j hbA hbB (by omega) eqA eqB
      have hlt := (a5 aA (by omega)).lt (q := bA) (e := 0) (by omega) (by decide) t2A.1
      rw [show 0 * 4 + bA = bA by omega, Nat.add_zero] at hlt
      exact absurd (hlt.mp ltA) (vB.elim (fun g => absurd g neA) id)
    · obtain rfl := nI_j haA haB (by omega) epA epB
      obtain rfl := nI_j hbA hbB (by omega) eqA eqB
      have hlt := (a5 aA (by omega)).lt (q := bA) (e := 0) (by omega) (by decide) t2A.1
      rw [show 0 * 4 + bA = bA by omega, Nat.add_zero] at hlt
      exact absurd (hlt.mp ltA) (vB.elim (fun g => absurd g neA) id)
  · refine ⟨hv.mid, c_seeM 996 hst hg.2.1 hm4 hp.2.1 hk4 (fun h1B => ?_) (fun h1B => ?_) (fun h1B => ?_) (fun aB bB haB hbB epB eqB g2B t2B => ?_) (fun aB bB haB hbB epB eqB g2B t2B neB ltB => ?_) (fun aB bB haB hbB epB eqB g2B t2B vB xB hxB h4B h5B => ?_) (fun aB bB haB hbB epB eqB g2B t2B vB h3B => ?_)⟩
    · (exfalso; first | assumption | omega | grind)
    · (exfalso; first | assumption | omega | grind)
    · (exfalso; first | assumption | omega | grind)
    · (exfalso; first | assumption | omega | grind)
    · obtain rfl := nI_j haA haB (by omega) epA epB
      obtain rfl := nI_j hbA hbB (by omega) eqA eqB
      have hlt := (a5 aA (by omega)).lt (q := bA) (e := 0) (by omega) (by decide) t2A.1
      rw [show 0 * 4 + bA = bA by omega, Nat.add_zero] at hlt
      exact absurd (hlt.mpr ltB) (vA.elim (fun g => absurd g neB) id)
    · obtain rfl := nI_j haA haB (by omega) epA epB
      obtain rfl := nI_j hbA hbB (by omega) eqA eqB
      obtain ⟨u, v, g1, g2, g3, g4, g5, g6⟩ := hl aA (show aA < 4 by omega)
      rw [g2] at s1A
      cases s1A
      rw [(UV.of hst (show aA < 4 by omega) (show yA = 56 + 10 * aA ∨ yA = 58 + 10 * aA by omega)).2.1] at s2A
      cases s2A
      have hif := g4.iff g2A.1
      rcases Nat.lt_trichotomy xA xB with g9 | g9 | g9
      · exact absurd ((hif xA hxA).1.mp ⟨h3A, h4A⟩) (h5B xA g9)
      · subst g9
        exact ⟨rfl, m, k, hv.up (by omega)⟩
      · exact absurd ((hif xB (by omega)).1.mpr h4B) (h5A xB g9)
    · obtain rfl := nI_j haA haB (by omega) epA epB
      obtain rfl := nI_j hbA hbB (by omega) eqA eqB
      obtain ⟨u, v, g1, g2, g3, g4, g5, g6⟩ := hl aA (show aA < 4 by omega)
      rw [g2] at s1A
      cases s1A
      rw [(UV.of hst (show aA < 4 by omega) (show yA = 56 + 10 * aA ∨ yA = 58 + 10 * aA by omega)).2.1] at s2A
      cases s2A
      have hif := g4.iff g2A.1
      exact absurd ((hif xA hxA).1.mp ⟨h3A, h4A⟩) (h3B xA ((hif xA hxA).2 ((hif xA hxA).1.mp ⟨h3A, h4A⟩)))
  · refine ⟨hv.mid, c_seeM 996 hst hg.2.1 hm4 hp.2.1 hk4 (fun h1B => ?_) (fun h1B => ?_) (fun h1B => ?_) (fun aB bB haB hbB epB eqB g2B t2B => ?_) (fun aB bB haB hbB epB eqB g2B t2B neB ltB => ?_) (fun aB bB haB hbB epB eqB g2B t2B vB xB hxB h4B h5B => ?_) (fun aB bB haB hbB epB eqB g2B t2B vB h3B => ?_)⟩
    · (exfalso; first | assumption | omega | grind)
    · (exfalso; first | assumption | omega | grind)
    · (exfalso; first | assumption | omega | grind)
    · (exfalso; first | assumption | omega | grind)
    · obtain rfl := nI_j haA haB (by omega) epA epB
      obtain rfl := nI_j hbA hbB (by omega) eqA eqB
      have hlt := (a5 aA (by omega)).lt (q := bA) (e := 0) (by omega) (by decide) t2A.1
      rw [show 0 * 4 + bA = bA by omega, Nat.add_zero] at hlt
      exact absurd (hlt.mpr ltB) (vA.elim (fun g => absurd g neB) id)
    · obtain rfl := nI_j haA haB (by omega) epA epB
      obtain rfl := nI_j hbA hbB (by omega) eqA eqB
      obtain ⟨u, v, g1, g2, g3, g4, g5, g6⟩ := hl aA (show aA < 4 by omega)
      rw [g2] at s1A
      cases s1A
      rw [(UV.of hst (show aA < 4 by omega) (show yA = 56 + 10 * aA ∨ yA = 58 + 10 * aA by omega)).2.1] at s2A
      cases s2A
      have hif := g4.iff g2A.1
      exact absurd ((hif xB (by omega)).1.mpr h4B) (h3A xB (by omega))
    · exact ⟨rfl, m, k, hv.up (by omega)⟩

