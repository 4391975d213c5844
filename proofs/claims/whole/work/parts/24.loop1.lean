theorem fill_step {I : eI} {a k len : Nat} {v : Int32} (hk : k < len) : eG (eU I a k v) a (fun x => if k + 1 ≤ x ∧ x < len then v else eU I a k v a x) = eG I a (fun x => if k ≤ x ∧ x < len then v else I a x) := by
  funext x y
  by_cases hx : x = a
  · subst hx
    rw [eG_eq, eG_eq]
    show (if k + 1 ≤ y ∧ y < len then v else eU I x k v x y) = if k ≤ y ∧ y < len then v else I x y
    by_cases h1 : y = k
    · subst h1
      rw [if_neg (by omega), eU_at, if_pos (by omega)]
    · rw [eU_c h1]
      by_cases h2 : k + 1 ≤ y ∧ y < len
      · rw [if_pos h2, if_pos (by omega)]
      · rw [if_neg h2, if_neg (by omega)]
  · rw [eG_ne hx, eG_ne hx, eU_ne hx]

theorem lp_fill (d : Nat) {n : Nat} {t : eT} {R : eR} {Q : Nat → eT → eI → eR → Prop} {a len : Nat} {v : Int32} (ht : t a = (9, len)) (hlen : len < 2 ^ 31) : ∀ (r k : Nat) (I : eI), k + r = len → Q n t (eG I a (fun x => if k ≤ x ∧ x < len then v else I a x)) R → wp yJ7_fill_53178 cJ7_fill_53178 4 none d 0 0 (qV Q) 0 0 5 [.ref a, .int v, .int (nI k), .int (nI len)] [] n t I R := by
  intro r
  induction r with
  | zero =>
    intro k I hk hq
    have e : (eG I a (fun x => if k ≤ x ∧ x < len then v else I a x)) = I := by
      funext x y
      by_cases hx : x = a
      · subst hx; rw [eG_eq]; rw [if_neg (by omega)]
      · rw [eG_ne hx]
    rw [e] at hq
    refine wp_iload_n (i := 2) dJ7_fill_53178_5 rfl rfl ?_
    refine wp_iload_n (i := 3) dJ7_fill_53178_6 rfl rfl ?_
    refine wp_icmp_ge (tgt := 20) dJ7_fill_53178_7 (by decide) (fun zq7 => ?_) (fun zq7 => absurd (nI_le (by omega) (by omega)) zq7) 
    exact wp_retV dJ7_fill_53178_20 rfl (Nat.le_refl _) (Nat.le_refl _) hq
  | succ r ih =>
    intro k I hk hq
    refine wp_iload_n (i := 2) dJ7_fill_53178_5 rfl rfl ?_
    refine wp_iload_n (i := 3) dJ7_fill_53178_6 rfl rfl ?_
    refine wp_icmp_ge (tgt := 20) dJ7_fill_53178_7 (by decide) (fun zq7 => absurd zq7 (nI_ge (by omega) (by omega))) (fun zq7 => ?_) 
    refine wp_aload_n (i := 0) dJ7_fill_53178_10 rfl rfl ?_
    refine wp_iload_n (i := 2) dJ7_fill_53178_11 rfl rfl ?_
    refine wp_iload_n (i := 1) dJ7_fill_53178_12 rfl rfl ?_
    refine wp_ist (j := k) dJ7_fill_53178_13 ht rfl (by omega) ?_
    refine wp_iinc_4_2 (v := nI (k + 1)) dJ7_fill_53178_14 (nI_1 k) ?_
    refine wp_goto (tgt := 5) dJ7_fill_53178_17 (by decide) ?_
    exact ih (k + 1) (eU I a k v) (by omega) (by rw [fill_step (by omega)]; exact hq)

theorem c_fill (d : Nat) {n : Nat} {t : eT} {I : eI} {R : eR} {Q : Nat → eT → eI → eR → Prop} {a len : Nat} {v : Int32} (ht : t a = (9, len)) (hlen : len < 2 ^ 31) (hq : Q n t (eG I a (fun x => if x < len then v else I a x)) R) : MC yJ7_fill_53178 cJ7_fill_53178 4 none d 0 0 [.ref a, .int v] n t I R (qV Q) := by
  refine mc_intro (L0 := [.ref a, .int v, vU, vU]) (by decide) rfl (Nat.le_of_ble_eq_true rfl) ?_
  refine wp_iconst (v := 0) dJ7_fill_53178_0 (by decide) ?_
  refine wp_istore_4_2 dJ7_fill_53178_1 rfl ?_
  refine wp_aload_n (i := 0) dJ7_fill_53178_2 rfl rfl ?_
  refine wp_len dJ7_fill_53178_3 ht ?_
  refine wp_istore_4_3 dJ7_fill_53178_4 rfl ?_
  exact lp_fill d ht hlen len 0 I (by omega) (by simpa using hq)

