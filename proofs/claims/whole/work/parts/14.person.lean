/-! where the four persons' cells stand -/
theorem sp_any {n : Nat} {t : eT} {R : eR} (h : ST n t R) {c : Nat} {v : Nat × Nat} (e : T0 c = some v ∧ T0 (c + 10) = some v ∧ T0 (c + 20) = some v ∧ T0 (c + 30) = some v) {j : Nat} (hj : j < 4) : t (c + 10 * j) = v := by
  obtain ⟨e0, e1, e2, e3⟩ := e
  rcases (show j = 0 ∨ j = 1 ∨ j = 2 ∨ j = 3 by omega) with rfl | rfl | rfl | rfl
  · exact st_t h e0
  · exact st_t h e1
  · exact st_t h e2
  · exact st_t h e3
theorem sp_anyR {n : Nat} {t : eT} {R : eR} (h : ST n t R) {c f b : Nat} (e : R0 c f = some b ∧ R0 (c + 10) f = some (b + 10) ∧ R0 (c + 20) f = some (b + 20) ∧ R0 (c + 30) f = some (b + 30)) {j : Nat} (hj : j < 4) : R (c + 10 * j) f = some (b + 10 * j) := by
  obtain ⟨e0, e1, e2, e3⟩ := e
  rcases (show j = 0 ∨ j = 1 ∨ j = 2 ∨ j = 3 by omega) with rfl | rfl | rfl | rfl
  · exact st_r h e0
  · exact st_r h e1
  · exact st_r h e2
  · exact st_r h e3
theorem sp_34 {n : Nat} {t : eT} {R : eR} (h : ST n t R) {j : Nat} (hj : j < 4) : R 34 j = some (54 + 10 * j) := by
  rcases (show j = 0 ∨ j = 1 ∨ j = 2 ∨ j = 3 by omega) with rfl | rfl | rfl | rfl <;> exact st_r h rfl
theorem sp_t0 {n : Nat} {t : eT} {R : eR} (h : ST n t R) {j : Nat} (hj : j < 4) : t (54 + 10 * j) = (3, 0) := sp_any h (by decide) hj
theorem sp_k0 {n : Nat} {t : eT} {R : eR} (h : ST n t R) {j : Nat} (hj : j < 4) : (t (54 + 10 * j)).1 = 3 := by rw [sp_t0 h hj]
theorem sp_t1 {n : Nat} {t : eT} {R : eR} (h : ST n t R) {j : Nat} (hj : j < 4) : t (55 + 10 * j) = (9, 3) := sp_any h (by decide) hj
theorem sp_k1 {n : Nat} {t : eT} {R : eR} (h : ST n t R) {j : Nat} (hj : j < 4) : (t (55 + 10 * j)).1 = 9 := by rw [sp_t1 h hj]
theorem sp_t2 {n : Nat} {t : eT} {R : eR} (h : ST n t R) {j : Nat} (hj : j < 4) : t (56 + 10 * j) = (0, 0) := sp_any h (by decide) hj
theorem sp_k2 {n : Nat} {t : eT} {R : eR} (h : ST n t R) {j : Nat} (hj : j < 4) : (t (56 + 10 * j)).1 = 0 := by rw [sp_t2 h hj]
theorem sp_t3 {n : Nat} {t : eT} {R : eR} (h : ST n t R) {j : Nat} (hj : j < 4) : t (57 + 10 * j) = (9, 10) := sp_any h (by decide) hj
theorem sp_k3 {n : Nat} {t : eT} {R : eR} (h : ST n t R) {j : Nat} (hj : j < 4) : (t (57 + 10 * j)).1 = 9 := by rw [sp_t3 h hj]
theorem sp_t4 {n : Nat} {t : eT} {R : eR} (h : ST n t R) {j : Nat} (hj : j < 4) : t (58 + 10 * j) = (0, 0) := sp_any h (by decide) hj
theorem sp_k4 {n : Nat} {t : eT} {R : eR} (h : ST n t R) {j : Nat} (hj : j < 4) : (t (58 + 10 * j)).1 = 0 := by rw [sp_t4 h hj]
theorem sp_t5 {n : Nat} {t : eT} {R : eR} (h : ST n t R) {j : Nat} (hj : j < 4) : t (59 + 10 * j) = (9, 10) := sp_any h (by decide) hj
theorem sp_k5 {n : Nat} {t : eT} {R : eR} (h : ST n t R) {j : Nat} (hj : j < 4) : (t (59 + 10 * j)).1 = 9 := by rw [sp_t5 h hj]
theorem sp_t6 {n : Nat} {t : eT} {R : eR} (h : ST n t R) {j : Nat} (hj : j < 4) : t (60 + 10 * j) = (9, 3) := sp_any h (by decide) hj
theorem sp_k6 {n : Nat} {t : eT} {R : eR} (h : ST n t R) {j : Nat} (hj : j < 4) : (t (60 + 10 * j)).1 = 9 := by rw [sp_t6 h hj]
theorem sp_t7 {n : Nat} {t : eT} {R : eR} (h : ST n t R) {j : Nat} (hj : j < 4) : t (61 + 10 * j) = (9, 12) := sp_any h (by decide) hj
theorem sp_k7 {n : Nat} {t : eT} {R : eR} (h : ST n t R) {j : Nat} (hj : j < 4) : (t (61 + 10 * j)).1 = 9 := by rw [sp_t7 h hj]
theorem sp_t8 {n : Nat} {t : eT} {R : eR} (h : ST n t R) {j : Nat} (hj : j < 4) : t (62 + 10 * j) = (9, 10) := sp_any h (by decide) hj
theorem sp_k8 {n : Nat} {t : eT} {R : eR} (h : ST n t R) {j : Nat} (hj : j < 4) : (t (62 + 10 * j)).1 = 9 := by rw [sp_t8 h hj]
theorem sp_t9 {n : Nat} {t : eT} {R : eR} (h : ST n t R) {j : Nat} (hj : j < 4) : t (63 + 10 * j) = (9, 8) := sp_any h (by decide) hj
theorem sp_k9 {n : Nat} {t : eT} {R : eR} (h : ST n t R) {j : Nat} (hj : j < 4) : (t (63 + 10 * j)).1 = 9 := by rw [sp_t9 h hj]
theorem sp_r0 {n : Nat} {t : eT} {R : eR} (h : ST n t R) {j : Nat} (hj : j < 4) : R (54 + 10 * j) 0 = some (55 + 10 * j) := sp_anyR h (by decide) hj
theorem sp_r7 {n : Nat} {t : eT} {R : eR} (h : ST n t R) {j : Nat} (hj : j < 4) : R (54 + 10 * j) 7 = some (60 + 10 * j) := sp_anyR h (by decide) hj
theorem sp_r8 {n : Nat} {t : eT} {R : eR} (h : ST n t R) {j : Nat} (hj : j < 4) : R (54 + 10 * j) 8 = some (61 + 10 * j) := sp_anyR h (by decide) hj
theorem sp_r10 {n : Nat} {t : eT} {R : eR} (h : ST n t R) {j : Nat} (hj : j < 4) : R (54 + 10 * j) 10 = some (62 + 10 * j) := sp_anyR h (by decide) hj
theorem sp_r12 {n : Nat} {t : eT} {R : eR} (h : ST n t R) {j : Nat} (hj : j < 4) : R (54 + 10 * j) 12 = some (63 + 10 * j) := sp_anyR h (by decide) hj
theorem sp_l2 {n : Nat} {t : eT} {R : eR} (h : ST n t R) {j : Nat} (hj : j < 4) : R (56 + 10 * j) 1 = some (57 + 10 * j) := sp_anyR h (by decide) hj
theorem sp_l4 {n : Nat} {t : eT} {R : eR} (h : ST n t R) {j : Nat} (hj : j < 4) : R (58 + 10 * j) 1 = some (59 + 10 * j) := sp_anyR h (by decide) hj
