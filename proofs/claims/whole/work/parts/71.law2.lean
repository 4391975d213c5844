theorem law_all : ∀ (L : Nat) (xs : Nat → Int32), L ≤ 3072 → wp yL_law code 4 (some .boolean) 1000 600000 7302249 (qI (fun r _ _ _ _ => r = 1)) 0 0 0 [.ref 3, vU, vU, vU] [] 4 (t_0 L) (I_0 L xs) (fun _ _ => none) := by
  intro L xs hL
  rw [← zT_4, ← zI_4]
  show wp yL_law code 4 (some .boolean) 1000 600000 7302249 (qI (fun r _ _ _ _ => r = 1)) 0 0 0 [.ref 3, vU, vU, vU] [] 4 (zT L 4) (zI L xs 4 0) (zR 0)
  refine wn_new (q := 7) (s0 := 10) (n1 := 5) (kc1 := 1) (ks1 := 10) dL_law_0 (by decide) mw_14 mw_15 mw_1 (by decide +kernel) rfl rfl rfl rfl (by decide) (by decide) rfl rfl rfl (by decide) ?_
  refine wp_dup dL_law_3 rfl ?_
  refine wp_I0vA (K2 := 111) (N2 := 1196) dL_law_4 mw_16 mw_17 rfl rfl mi_X7_init (Nat.le_of_ble_eq_true rfl) (by decide) (by decide) (ci_4 996 ?_)
  refine wn_kc (kc1 := 112) (ks1 := 1206) rfl rfl ?_
  refine wp_astore_4_1 dL_law_7 rfl ?_
  refine wn_new (q := 8) (s0 := 43) (n1 := 117) (kc1 := 113) (ks1 := 1249) dL_law_8 (by decide) mw_742 mw_743 mw_10 (by decide +kernel) rfl rfl rfl rfl (by decide) (by decide) rfl rfl rfl (by decide) ?_
  refine wp_dup dL_law_11 rfl ?_
  refine wp_I0vA (K2 := 33) (N2 := 869) dL_law_12 mw_744 mw_745 rfl rfl mi_X8_init (Nat.le_of_ble_eq_true rfl) (by decide) (by decide) (ci_116 998 ?_)
  refine wn_kc (kc1 := 146) (ks1 := 2118) rfl rfl ?_
  refine wp_astore_4_2 dL_law_15 rfl ?_
  refine wp_iconst (v := nI 0) dL_law_16 (by decide) ?_
  refine wp_istore_4_3 dL_law_17 rfl ?_
  refine wp_rn (s := sgm) (u := tau) (L2 := [.ref 3, .ref 4, .ref 94, .int (nI 0)]) sg_tu tu_sg (fun _ h => sg_lo h) (fun _ h => tu_lo h) (fun _ h => sg_hi h) (fun _ h => tu_hi h) rfl ?_
  exact lp_law hL 512 0 0 150 146 2118 _ _ _ rfl rfl (by decide) (by decide) inv_0
