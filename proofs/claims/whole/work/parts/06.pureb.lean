theorem gvB_t {M : Nat → Nat} {rs t n p : Nat} (h1 : p < n) (h2 : M (rs + 8 * ((t + p) % 8) + 2) = 0) : gvB M rs t n p = true := by
  unfold gvB; rw [gbP_t h2, decide_eq_true h1]; rfl
theorem gvB_f1 {M : Nat → Nat} {rs t n p : Nat} (h : ¬ p < n) : gvB M rs t n p = false := by
  unfold gvB; rw [decide_eq_false h]; rfl
theorem gvB_f2 {M : Nat → Nat} {rs t n p : Nat} (h : ¬ M (rs + 8 * ((t + p) % 8) + 2) = 0) : gvB M rs t n p = false := by
  unfold gvB; rw [gbP_f h]; exact Bool.and_false _
theorem gvB_i {M : Nat → Nat} {rs t n p : Nat} (h : gvB M rs t n p = true) : p < n ∧ gbP M rs t p = true := by
  unfold gvB at h; rw [Bool.and_eq_true] at h; exact ⟨of_decide_eq_true h.1, h.2⟩
theorem gvB_e {M : Nat → Nat} {rs t n p : Nat} (hp : p ≤ n) (h : gvB M rs t n p = false) : p = n ∨ gbP M rs t p = false := by
  rcases Nat.lt_or_ge p n with q | q
  · right
    unfold gvB at h; rw [decide_eq_true q, Bool.true_and] at h; exact h
  · left; omega
theorem gbP_sh {M : Nat → Nat} {rs t i : Nat} : gbP M rs ((t + i) % 8) 0 = gbP M rs t i := by
  unfold gbP; rw [show ((t + i) % 8 + 0) % 8 = (t + i) % 8 from by omega]
theorem gvB_i0 {M : Nat → Nat} {rs t n i : Nat} (h : gvB M rs ((t + i) % 8) (n - i) 0 = true) : i < n ∧ gbP M rs t i = true := by
  have h := gvB_i h
  rw [gbP_sh] at h
  exact ⟨by omega, h.2⟩
theorem gvB_e0 {M : Nat → Nat} {rs t n i : Nat} (hi : i ≤ n) (h : gvB M rs ((t + i) % 8) (n - i) 0 = false) : i = n ∨ gbP M rs t i = false := by
  rcases gvB_e (Nat.zero_le _) h with q | q
  · left; omega
  · right; rw [gbP_sh] at q; exact q
def pnM (M O : Nat → Nat) (rs fp t n len : Nat) : Nat → Nat := selM (decide (n < 8)) (fdI (fbI M O (16 * (fp + (t + n) % 8)) len 16) (rs + 8 * ((t + n) % 8)) (fp + (t + n) % 8) len 8) M
def okL (c : Nat) : Bool := decide (1 ≤ c ∧ c ≤ 16)
theorem okL_s {c : Nat} : decide (0 < selN (decide (1 ≤ c ∧ c ≤ 16)) c 0) = okL c := by
  unfold okL
  by_cases h : 1 ≤ c ∧ c ≤ 16
  · rw [← selN_t (decide_eq_true h), decide_eq_true h]; exact decide_eq_true (by omega)
  · rw [← selN_f (decide_eq_false h), decide_eq_false h]; rfl
theorem r0 {r : Nat} (h : r < 8) : (r + 0) % 8 = r := by omega
theorem cellI (N : Nat) : ∀ cA : ClassId, vp_cell cA (N, .inl (fun _ => (0 : Int32))) = arrV cA N (fun _ => defaultValue .int) := fun _ => rfl
theorem cellB (N : Nat) : ∀ cA : ClassId, vp_cell cA (N, .inl (fun _ => (0 : Int32))) = arrV cA N (fun _ => defaultValue .byte) := fun _ => rfl
theorem cellBo (N : Nat) : ∀ cA : ClassId, vp_cell cA (N, .inl (fun _ => (0 : Int32))) = arrV cA N (fun _ => defaultValue .boolean) := fun _ => rfl
