theorem pn_f {M O : Nat → Nat} {rs fp t n len : Nat} (h : ¬ n < 8) : M = pnM M O rs fp t n len := selM_f (decide_eq_false h)
theorem pnT {M O : Nat → Nat} {t n len : Nat} (h : n < 8) : fdI (fbI M O ((8 + (t + n) % 8) * 16) len 16) (8 * ((t + n) % 8)) (8 + (t + n) % 8) len 8 = pnM M O 0 8 t n len := by
  unfold pnM
  rw [← selM_t (decide_eq_true h), Nat.mul_comm (8 + (t + n) % 8) 16, Nat.zero_add]
theorem zr_fb {M O : Nat → Nat} {b : Nat} : zrI M b 16 = fbI M O b 0 16 := by
  funext j; unfold zrI fbI
  by_cases h : b ≤ j ∧ j < b + 16
  · rw [if_pos h, if_pos h, if_neg (Nat.not_lt_zero _)]
  · rw [if_neg h, if_neg h]
theorem pnR {M O : Nat → Nat} {t n : Nat} (h : n < 8) : fdI (zrI M ((16 + (t + n) % 8) * 16) 16) (64 + 8 * ((t + n) % 8)) (16 + (t + n) % 8) 0 8 = pnM M O 64 16 t n 0 := by
  unfold pnM
  rw [← selM_t (decide_eq_true h), Nat.mul_comm (16 + (t + n) % 8) 16, zr_fb (O := O)]
theorem gbP0_t {M : Nat → Nat} {t p : Nat} (h : M (8 * ((t + p) % 8) + 2) = 0) : gbP M 0 t p = true := gbP_t (by rw [Nat.zero_add]; exact h)
theorem gbP0_f {M : Nat → Nat} {t p : Nat} (h : ¬ M (8 * ((t + p) % 8) + 2) = 0) : gbP M 0 t p = false := gbP_f (by rw [Nat.zero_add]; exact h)
theorem lem_ci {P : Nat → Bool} {cn i n : Nat} (hst : cn = i ∨ cn = n ∨ P cn = false) (hg : P cn = true) (h : cn ≠ n) : cn = i := by
  rcases hst with q | q | q
  · exact q
  · exact absurd q h
  · rw [hg] at q; exact absurd q (by decide)
theorem clM_s0 {M : Nat → Nat} {t k i : Nat} (ht : t < 8) (hk : k ≤ i) (hi : i < 8) : updN (clM M 0 t k i) (8 * ((t + i) % 8) + 2) 0 = clM M 0 t k (i + 1) := by
  have h := clM_s (M := M) (rs := 0) ht hk hi
  rw [Nat.zero_add] at h
  exact h
theorem gv0_t {M : Nat → Nat} {r m : Nat} (hr : r < 8) (h : 0 < m) (h2 : M (64 + 8 * r + 2) = 0) : gvB M 64 r m 0 = true := gvB_t h (by rw [r0 hr]; exact h2)
theorem gv0_f {M : Nat → Nat} {r m : Nat} (hr : r < 8) (h2 : ¬ M (64 + 8 * r + 2) = 0) : gvB M 64 r m 0 = false := gvB_f2 (by rw [r0 hr]; exact h2)
