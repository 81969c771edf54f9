/-! bytes, words, arrays of Nat values -/
theorem W_gen {p : Program} {l : Launch} {e : Env} {R : Room} {s : State} {m : MethodId} {args : Array Value} {below : List Frame} {meth : Method} {c : Code} {H : Heap} {locs : List Loc} {cells slots : Nat} {Q : State → Prop} {g : JFrame} (k : ∀ Q' : State → Prop, Q' = Q → W p l e R s m args below meth c H locs cells slots Q' g) : W p l e R s m args below meth c H locs cells slots Q g := k Q rfl
theorem bp_b (x : Int32) : x.toInt8.toInt32 &&& 255 = x &&& 255 := by
  apply Int32.toBitVec_inj.mp
  rw [Int32.toBitVec_and, Int32.toBitVec_and, Int8.toBitVec_toInt32, Int32.toBitVec_toInt8]
  apply BitVec.eq_of_getLsbD_eq
  intro i hi
  rw [BitVec.getLsbD_and, BitVec.getLsbD_and]
  have hm : ∀ i < 32, 8 ≤ i → (255 : Int32).toBitVec.getLsbD i = false := by decide
  rcases Nat.lt_or_ge i 8 with z | z
  · rw [BitVec.getLsbD_signExtend, BitVec.getLsbD_signExtend, if_pos z, if_pos hi]
    simp only [z, hi, decide_true, Bool.true_and]
  · rw [hm i hi z]; simp
def lo (x : Int32) : Nat := x.toBitVec.toNat % 256
def nM (M : Nat → Nat) : Nat → Int32 := fun j => nI (M j)
def bM (M : Nat → Nat) : Nat → Int32 := fun j => sb_b (M j)
def updN (M : Nat → Nat) (a v : Nat) : Nat → Nat := fun j => if j = a then v else M j
def b01 (c : Bool) : Int32 := if c then nI 1 else nI 0
def sel (c : Bool) (x y : Int32) : Int32 := if c then x else y
def selM (c : Bool) (x y : Nat → Nat) : Nat → Nat := if c then x else y
def selN (c : Bool) (x y : Nat) : Nat := if c then x else y
def opn (fp t n p : Nat) : Bool := decide (fp ≤ p ∧ p < fp + 8 ∧ (p - fp + 8 - t) % 8 < n)
def ropn (fp t n a : Nat) : Bool := decide (a < 128) || opn fp t n (a / 16)
def okA (fp t n a : Nat) : Bool := decide (a < 384) && ropn fp t n a
def rdF (fp t n : Nat) : Nat → Int32 := fun p => b01 (decide (p < 8) || opn fp t n p)
def rdG (fp t k i n : Nat) : Nat → Int32 := fun p => b01 (decide (p < 8 ∨ fp ≤ p ∧ p < fp + 8 ∧ ((p - fp + 8 - t) % 8 < k ∨ i ≤ (p - fp + 8 - t) % 8 ∧ (p - fp + 8 - t) % 8 < n)))
def rdP (k : Nat) : Nat → Int32 := fun p => b01 (decide (p < k))
theorem lo_lt (x : Int32) : lo x < 256 := Nat.mod_lt _ (by decide)
theorem n_and255 (x : Int32) : x &&& nI 255 = nI (lo x) := pk_and x 8 (by decide)
theorem n_and15 (x : Int32) : ∃ j : Nat, j < 16 ∧ x &&& nI 15 = nI j := pk_andE x 4 (by decide)
theorem n_and7 {n : Nat} (h : n < 2 ^ 32) : nI n &&& nI 7 = nI (n % 8) := pk_andN h 3 (by decide)
theorem n_sub7 : ∀ s : Nat, s < 8 → ∀ t : Nat, t < 8 → (nI s - nI t) &&& nI 7 = nI ((s + 8 - t) % 8) := by decide +kernel
theorem n_i2b (x : Int32) : x.toInt8.toInt32 = sb_b (lo x) := by
  refine (sc_eq (b := x.toInt8.toInt32) (by simp) (lo_lt x)).mpr ?_
  rw [bp_b]
  exact n_and255 x
theorem n_i2bN {n : Nat} (h : n < 256) : (nI n).toInt8.toInt32 = sb_b n := rfl
theorem n_bAnd {c : Nat} (h : c < 256) : sb_b c &&& nI 255 = nI c := (sb_byte c h).1
theorem n_b0 : ∀ c : Nat, c < 256 → (sb_b c = 0 ↔ c = 0) := by decide +kernel
theorem n_00 : ∀ c : Nat, c < 2 ^ 31 → (nI c = 0 ↔ c = 0) := fun c h => by
  rw [← nI_0]; exact nI_eq h (by decide)
theorem n_pos : ∀ c : Nat, c < 2 ^ 31 → (0 < nI c ↔ 0 < c) := fun c h => by
  rw [← nI_0]; exact nI_ltI (by decide) h
theorem n_le0 : ∀ c : Nat, c < 2 ^ 31 → (nI c ≤ 0 ↔ c = 0) := fun c h => by
  rw [← nI_0, nI_leI h (by decide)]; omega
theorem rdA (f : Nat → Int32) {a : Nat} (h : a < 2 ^ 31) : f (nI a).toNatClampNeg = f a := by rw [nI_clamp h]
theorem updI {M : Nat → Nat} {a v : Nat} (h : a < 2 ^ 31) : upd (nM M) (nI a).toNatClampNeg (nI v) = nM (updN M a v) := by
  funext j
  rw [nI_clamp h]
  unfold upd nM updN
  by_cases hj : j = a <;> simp [hj]
theorem updB {M : Nat → Nat} {a v : Nat} {x : Int32} (h : a < 2 ^ 31) (hx : vp_nar .byte x = sb_b v) : upd (bM M) (nI a).toNatClampNeg (vp_nar .byte x) = bM (updN M a v) := by
  funext j
  rw [nI_clamp h, hx]
  unfold upd bM updN
  by_cases hj : j = a <;> simp [hj]
theorem nar_sb (v : Nat) : vp_nar .byte (sb_b v) = sb_b v := pk_vb (nI v)
theorem nar_b0 : vp_nar .byte (nI 0) = sb_b 0 := by decide +kernel
theorem nar_b1 : vp_nar .byte (nI 1) = sb_b 1 := by decide +kernel
theorem nar_z0 : vp_nar .boolean (nI 0) = nI 0 := by decide +kernel
theorem nar_z1 : vp_nar .boolean (nI 1) = nI 1 := by decide +kernel
theorem b01_e {c : Bool} (h : b01 c = 0) : c = false := by
  cases c
  · rfl
  · exact absurd h (by decide +kernel)
theorem b01_n {c : Bool} (h : ¬ b01 c = 0) : c = true := by
  cases c
  · exact absurd (by decide +kernel) h
  · rfl
theorem b01_t {c : Bool} (h : c = true) : nI 1 = b01 c := by rw [h]; rfl
theorem b01_f {c : Bool} (h : c = false) : nI 0 = b01 c := by rw [h]; rfl
theorem sel_t {c : Bool} {x y : Int32} (h : c = true) : x = sel c x y := by rw [h]; rfl
theorem sel_f {c : Bool} {x y : Int32} (h : c = false) : y = sel c x y := by rw [h]; rfl
theorem selM_t {c : Bool} {x y : Nat → Nat} (h : c = true) : x = selM c x y := by rw [h]; rfl
theorem selM_f {c : Bool} {x y : Nat → Nat} (h : c = false) : y = selM c x y := by rw [h]; rfl
theorem selN_t {c : Bool} {x y : Nat} (h : c = true) : x = selN c x y := by rw [h]; rfl
theorem selN_f {c : Bool} {x y : Nat} (h : c = false) : y = selN c x y := by rw [h]; rfl
theorem opn_t {fp t n p : Nat} (h : opn fp t n p = true) : fp ≤ p ∧ p < fp + 8 ∧ (p - fp + 8 - t) % 8 < n := of_decide_eq_true h
theorem opn_f {fp t n p : Nat} (h : opn fp t n p = false) : ¬ (fp ≤ p ∧ p < fp + 8 ∧ (p - fp + 8 - t) % 8 < n) := of_decide_eq_false h
theorem opn_y {fp t n p : Nat} (h : fp ≤ p ∧ p < fp + 8 ∧ (p - fp + 8 - t) % 8 < n) : opn fp t n p = true := decide_eq_true h
theorem opn_n {fp t n p : Nat} (h : ¬ (fp ≤ p ∧ p < fp + 8 ∧ (p - fp + 8 - t) % 8 < n)) : opn fp t n p = false := decide_eq_false h
theorem ropn_lo {fp t n a : Nat} (h : a < 128) : ropn fp t n a = true := by unfold ropn; simp [h]
theorem ropn_hi {fp t n a : Nat} (h : 128 ≤ a) : ropn fp t n a = opn fp t n (a / 16) := by unfold ropn; simp [Nat.not_lt.mpr h]
theorem okA_in {fp t n a : Nat} (h : a < 384) : okA fp t n a = ropn fp t n a := by unfold okA; simp [h]
theorem okA_out {fp t n : Nat} : okA fp t n 384 = false := rfl
theorem rdF_at {fp t n a : Nat} : rdF fp t n (a / 16) = b01 (ropn fp t n a) := by
  unfold rdF ropn
  have : decide (a / 16 < 8) = decide (a < 128) := by simp only [decide_eq_decide]; omega
  rw [this]
/-- an index: N stands for 'none' -/
def IX (p : Int32) (N a : Nat) : Prop := (p < 0 ∧ a = N) ∨ ((¬ p < 0 ∧ nI N ≤ p) ∧ a = N) ∨ (a < N ∧ p = nI a)
theorem IX_ex (p : Int32) {N : Nat} (hN : N < 2 ^ 31) : ∃ a, IX p N a := by
  by_cases h : p < 0
  · exact ⟨N, Or.inl ⟨h, rfl⟩⟩
  · rcases pk_ix p hN with h1 | h1 | ⟨j, h1, h2⟩
    · exact absurd h1 h
    · exact ⟨N, Or.inr (Or.inl ⟨⟨h, h1⟩, rfl⟩)⟩
    · exact ⟨j, Or.inr (Or.inr ⟨h1, h2⟩)⟩
/-- a frame's length: 0 stands for 'none' -/
def LX (p : Int32) (k : Nat) : Prop := (p < nI 1 ∧ k = 0) ∨ ((¬ p < nI 1 ∧ nI 16 < p) ∧ k = 0) ∨ ((1 ≤ k ∧ k ≤ 16) ∧ p = nI k)
theorem LX_nI {c : Nat} (h : c < 256) : LX (nI c) (selN (decide (1 ≤ c ∧ c ≤ 16)) c 0) := by
  by_cases h1 : 1 ≤ c ∧ c ≤ 16
  · rw [← selN_t (decide_eq_true h1)]
    exact Or.inr (Or.inr ⟨h1, rfl⟩)
  · rw [← selN_f (decide_eq_false h1)]
    by_cases h2 : c < 1
    · exact Or.inl ⟨nI_lt h2 (by decide), rfl⟩
    · exact Or.inr (Or.inl ⟨⟨nI_nlt (by omega) (by omega), nI_lt (by omega) (by omega)⟩, rfl⟩)
theorem LX_ex (p : Int32) : ∃ k, LX p k := by
  by_cases h : p < nI 1
  · exact ⟨0, Or.inl ⟨h, rfl⟩⟩
  · by_cases h2 : nI 16 < p
    · exact ⟨0, Or.inr (Or.inl ⟨⟨h, h2⟩, rfl⟩)⟩
    · rcases pk_ix p (n := 17) (by decide) with h3 | h3 | ⟨j, h3, h4⟩
      · exact absurd (Int32.lt_trans h3 (by decide)) h
      · exact absurd (Int32.lt_of_lt_of_le (by decide) h3) h2
      · subst h4
        refine ⟨j, Or.inr (Or.inr ⟨⟨?_, by omega⟩, rfl⟩)⟩
        rcases Nat.lt_or_ge j 1 with q | q
        · exact absurd (nI_lt q (by decide)) h
        · exact q
theorem IX_le {p : Int32} {N a : Nat} (h : IX p N a) : a ≤ N := by
  rcases h with ⟨_, h⟩ | ⟨_, h⟩ | ⟨h, _⟩ <;> omega
theorem LX_le {p : Int32} {k : Nat} (h : LX p k) : k ≤ 16 := by
  rcases h with ⟨_, h⟩ | ⟨_, h⟩ | ⟨h, _⟩ <;> omega
/-! how many from the oldest on are given back -/
def lead (P : Nat → Bool) : Nat → Nat
  | 0 => 0
  | n + 1 => if lead P n = n ∧ P n = true then n + 1 else lead P n
theorem lead_le (P : Nat → Bool) (n : Nat) : lead P n ≤ n := by
  induction n with
  | zero => exact Nat.le_refl 0
  | succ n ih => unfold lead; split <;> omega
theorem lead_all (P : Nat → Bool) (n : Nat) : ∀ j, j < lead P n → P j = true := by
  induction n with
  | zero => intro j h; exact absurd h (Nat.not_lt_zero _)
  | succ n ih =>
    intro j h
    unfold lead at h
    split at h
    · rename_i hc
      rcases Nat.lt_or_ge j n with q | q
      · exact ih j (by omega)
      · rw [show j = n by omega]; exact hc.2
    · exact ih j h
theorem lead_eq {P : Nat → Bool} {n k : Nat} (h1 : k ≤ n) (h2 : ∀ j, j < k → P j = true) (h3 : k = n ∨ P k = false) : lead P n = k := by
  induction n with
  | zero => show 0 = k; omega
  | succ n ih =>
    unfold lead
    rcases Nat.lt_or_ge n k with q | q
    · have e : lead P n = n := by
        have : ∀ i, i ≤ n → lead P i = i := by
          intro i
          induction i with
          | zero => intro _; rfl
          | succ i ihi => intro hi; unfold lead; rw [if_pos ⟨ihi (by omega), h2 i (by omega)⟩]
        exact this n (Nat.le_refl n)
      rw [if_pos ⟨e, h2 n q⟩]; omega
    · have h4 : P k = false := by
        rcases h3 with h | h
        · omega
        · exact h
      have e := ih q (Or.inr h4)
      rw [e]
      split
      · rename_i hc
        rw [hc.1] at h4
        rw [h4] at hc
        exact absurd hc.2 (by decide)
      · rfl
def gbP (M : Nat → Nat) (rs t : Nat) : Nat → Bool := fun p => decide (M (rs + 8 * ((t + p) % 8) + 2) = 0)
theorem gbP_t {M : Nat → Nat} {rs t p : Nat} (h : M (rs + 8 * ((t + p) % 8) + 2) = 0) : gbP M rs t p = true := decide_eq_true h
theorem gbP_f {M : Nat → Nat} {rs t p : Nat} (h : ¬ M (rs + 8 * ((t + p) % 8) + 2) = 0) : gbP M rs t p = false := decide_eq_false h
def gvB (M : Nat → Nat) (rs t n p : Nat) : Bool := decide (p < n) && gbP M rs t p
/-! memory after a method -/
def fbI (M O : Nat → Nat) (b len i : Nat) : Nat → Nat := fun j => if b ≤ j ∧ j < b + i then (if j - b < len then O (j - b) else 0) else M j
def fdI (M : Nat → Nat) (d pg len i : Nat) : Nat → Nat := fun j => if d ≤ j ∧ j < d + i then (if j = d then pg else if j = d + 1 then len else if j = d + 2 then 1 else 0) else M j
def zrI (M : Nat → Nat) (d i : Nat) : Nat → Nat := fun j => if d ≤ j ∧ j < d + i then 0 else M j
def clM (M : Nat → Nat) (rs t k i : Nat) : Nat → Nat := fun j => if rs ≤ j ∧ j < rs + 64 ∧ (j - rs) % 8 = 2 ∧ k ≤ ((j - rs) / 8 + 8 - t) % 8 ∧ ((j - rs) / 8 + 8 - t) % 8 < i then 0 else M j
def cpI (I M : Nat → Nat) (b i : Nat) : Nat → Nat := fun j => if j < i then M (b + j) else I j
theorem fbI_0 {M O : Nat → Nat} {b len : Nat} : M = fbI M O b len 0 := by
  funext j; unfold fbI; rw [if_neg (by omega)]
theorem fbI_s1 {M O : Nat → Nat} {b len i : Nat} (h : i < len) : updN (fbI M O b len i) (b + i) (O i) = fbI M O b len (i + 1) := by
  funext j; unfold updN fbI
  by_cases hj : j = b + i
  · subst hj; rw [if_pos rfl, if_pos (by omega), if_pos (by omega), Nat.add_sub_cancel_left]
  · rw [if_neg hj]
    by_cases h1 : b ≤ j ∧ j < b + i
    · have h2 : b ≤ j ∧ j < b + (i + 1) := by omega
      rw [if_pos h1, if_pos h2]
    · have h2 : ¬ (b ≤ j ∧ j < b + (i + 1)) := by omega
      rw [if_neg h1, if_neg h2]
theorem fbI_s0 {M O : Nat → Nat} {b len i : Nat} (h : len ≤ i) : updN (fbI M O b len i) (b + i) 0 = fbI M O b len (i + 1) := by
  funext j; unfold updN fbI
  by_cases hj : j = b + i
  · subst hj; rw [if_pos rfl, if_pos (by omega), if_neg (by omega)]
  · rw [if_neg hj]
    by_cases h1 : b ≤ j ∧ j < b + i
    · have h2 : b ≤ j ∧ j < b + (i + 1) := by omega
      rw [if_pos h1, if_pos h2]
    · have h2 : ¬ (b ≤ j ∧ j < b + (i + 1)) := by omega
      rw [if_neg h1, if_neg h2]
theorem fdI_3 {M : Nat → Nat} {d pg len : Nat} : updN (updN (updN M d pg) (d + 1) len) (d + 2) 1 = fdI M d pg len 3 := by
  funext j; unfold updN fdI
  by_cases h0 : j = d
  · subst h0; rw [if_neg (by omega), if_neg (by omega), if_pos rfl, if_pos (by omega), if_pos rfl]
  · by_cases h1 : j = d + 1
    · subst h1; rw [if_neg (by omega), if_pos rfl, if_pos (by omega), if_neg (by omega), if_pos rfl]
    · by_cases h2 : j = d + 2
      · subst h2; rw [if_pos rfl, if_pos (by omega), if_neg (by omega), if_neg (by omega), if_pos rfl]
      · rw [if_neg h2, if_neg h1, if_neg h0, if_neg (by omega)]
theorem fdI_s {M : Nat → Nat} {d pg len i : Nat} (h : 3 ≤ i) : updN (fdI M d pg len i) (d + i) 0 = fdI M d pg len (i + 1) := by
  funext j; unfold updN fdI
  by_cases hj : j = d + i
  · subst hj; rw [if_pos rfl, if_pos (by omega), if_neg (by omega), if_neg (by omega), if_neg (by omega)]
  · rw [if_neg hj]
    by_cases h1 : d ≤ j ∧ j < d + i
    · have h2 : d ≤ j ∧ j < d + (i + 1) := by omega
      rw [if_pos h1, if_pos h2]
    · have h2 : ¬ (d ≤ j ∧ j < d + (i + 1)) := by omega
      rw [if_neg h1, if_neg h2]
theorem zrI_0 {M : Nat → Nat} {d : Nat} : M = zrI M d 0 := by
  funext j; unfold zrI; rw [if_neg (by omega)]
theorem zrI_s {M : Nat → Nat} {d i : Nat} : updN (zrI M d i) (d + i) 0 = zrI M d (i + 1) := by
  funext j; unfold updN zrI
  by_cases hj : j = d + i
  · subst hj; rw [if_pos rfl, if_pos (by omega)]
  · rw [if_neg hj]
    by_cases h1 : d ≤ j ∧ j < d + i
    · have h2 : d ≤ j ∧ j < d + (i + 1) := by omega
      rw [if_pos h1, if_pos h2]
    · have h2 : ¬ (d ≤ j ∧ j < d + (i + 1)) := by omega
      rw [if_neg h1, if_neg h2]
theorem zrI_8 {M : Nat → Nat} {d pg len : Nat} : updN (updN (updN (zrI M d 8) d pg) (d + 1) len) (d + 2) 1 = fdI M d pg len 8 := by
  funext j; unfold updN fdI zrI
  by_cases h0 : j = d
  · subst h0; rw [if_neg (by omega), if_neg (by omega), if_pos rfl, if_pos (by omega), if_pos rfl]
  · by_cases h1 : j = d + 1
    · subst h1; rw [if_neg (by omega), if_pos rfl, if_pos (by omega), if_neg (by omega), if_pos rfl]
    · by_cases h2 : j = d + 2
      · subst h2; rw [if_pos rfl, if_pos (by omega), if_neg (by omega), if_neg (by omega), if_pos rfl]
      · rw [if_neg h2, if_neg h1, if_neg h0]
        by_cases h3 : d ≤ j ∧ j < d + 8
        · rw [if_pos h3, if_pos h3, if_neg h0, if_neg h1, if_neg h2]
        · rw [if_neg h3, if_neg h3]
theorem clM_0 {M : Nat → Nat} {rs t k : Nat} : M = clM M rs t k k := by
  funext j; unfold clM; rw [if_neg (by omega)]
theorem clM_s {M : Nat → Nat} {rs t k i : Nat} (ht : t < 8) (hk : k ≤ i) (hi : i < 8) : updN (clM M rs t k i) (rs + 8 * ((t + i) % 8) + 2) 0 = clM M rs t k (i + 1) := by
  funext j; unfold updN clM
  by_cases hj : j = rs + 8 * ((t + i) % 8) + 2
  · subst hj; rw [if_pos rfl, if_pos (by omega)]
  · rw [if_neg hj]
    by_cases h1 : rs ≤ j ∧ j < rs + 64 ∧ (j - rs) % 8 = 2 ∧ k ≤ ((j - rs) / 8 + 8 - t) % 8 ∧ ((j - rs) / 8 + 8 - t) % 8 < i
    · rw [if_pos h1, if_pos (by omega)]
    · rw [if_neg h1, if_neg (by omega)]
theorem cpI_0 {I M : Nat → Nat} {b : Nat} : I = cpI I M b 0 := by
  funext j; unfold cpI; rw [if_neg (by omega)]
theorem cpI_s {I M : Nat → Nat} {b i : Nat} : updN (cpI I M b i) i (M (b + i)) = cpI I M b (i + 1) := by
  funext j; unfold updN cpI
  by_cases hj : j = i
  · subst hj; rw [if_pos rfl, if_pos (by omega)]
  · rw [if_neg hj]
    by_cases h1 : j < i
    · rw [if_pos h1, if_pos (by omega)]
    · rw [if_neg h1, if_neg (by omega)]
/-! the reference's open pages -/
theorem b01_cg {c d : Prop} (hc : Decidable c) (hd : Decidable d) (h : c ↔ d) : b01 (decide c) = b01 (decide d) := by
  rw [show decide c = decide d from decide_eq_decide.mpr h]
theorem rdF_eq (fp t n p : Nat) : rdF fp t n p = b01 (decide (p < 8 ∨ fp ≤ p ∧ p < fp + 8 ∧ (p - fp + 8 - t) % 8 < n)) := by
  unfold rdF opn; rw [Bool.decide_or]
theorem rdF_add {fp t n : Nat} (hf : 8 ≤ fp) (hf2 : fp ≤ 16) (ht : t < 8) (hn : n < 8) : upd (rdF fp t n) (nI (fp + (t + n) % 8)).toNatClampNeg (nI 1) = rdF fp t (n + 1) := by
  funext p
  rw [nI_clamp (by omega)]
  unfold upd
  by_cases hp : p = fp + (t + n) % 8
  · rw [if_pos hp]
    rw [rdF_eq]; exact b01_t (decide_eq_true (by omega))
  · rw [if_neg hp]
    rw [rdF_eq, rdF_eq]; exact b01_cg _ _ (by omega)
theorem rdF_del {fp t n : Nat} (hf : 8 ≤ fp) (hf2 : fp ≤ 16) (ht : t < 8) (hn : n ≤ 8) (h0 : 0 < n) : upd (rdF fp t n) (nI (fp + t)).toNatClampNeg (nI 0) = rdF fp ((t + 1) % 8) (n - 1) := by
  funext p
  rw [nI_clamp (by omega)]
  unfold upd
  by_cases hp : p = fp + t
  · rw [if_pos hp]
    rw [rdF_eq]; exact b01_f (decide_eq_false (by omega))
  · rw [if_neg hp]
    rw [rdF_eq, rdF_eq]; exact b01_cg _ _ (by omega)
theorem rdG_0 {fp t k n : Nat} (hk : k ≤ n) : rdF fp t n = rdG fp t k k n := by
  funext p; rw [rdF_eq]; unfold rdG; exact b01_cg _ _ (by omega)
theorem rdG_e {fp t k n : Nat} : rdG fp t k n n = rdF fp t k := by
  funext p; rw [rdF_eq]; unfold rdG; exact b01_cg _ _ (by omega)
theorem rdG_s {fp t k i n : Nat} (hf : 8 ≤ fp) (hf2 : fp ≤ 16) (ht : t < 8) (hk : k ≤ i) (hi : i < n) (hn : n ≤ 8) : upd (rdG fp t k i n) (nI (fp + (t + i) % 8)).toNatClampNeg (nI 0) = rdG fp t k (i + 1) n := by
  funext p
  rw [nI_clamp (by omega)]
  unfold upd
  by_cases hp : p = fp + (t + i) % 8
  · rw [if_pos hp]
    unfold rdG; exact b01_f (decide_eq_false (by omega))
  · rw [if_neg hp]
    unfold rdG; exact b01_cg _ _ (by omega)
theorem rdP_s {i : Nat} (h : i < 8) : upd (rdP i) (nI i).toNatClampNeg (nI 1) = rdP (i + 1) := by
  funext p
  rw [nI_clamp (by omega)]
  unfold upd
  by_cases hp : p = i
  · rw [if_pos hp]
    unfold rdP; exact b01_t (decide_eq_true (by omega))
  · rw [if_neg hp]
    unfold rdP; exact b01_cg _ _ (by omega)
theorem rdP_0 : (fun _ => (0 : Int32)) = rdP 0 := by
  funext p; unfold rdP; rw [← nI_0]; exact b01_f (decide_eq_false (by omega))
theorem rdP_8 (fp t : Nat) : rdP 8 = rdF fp t 0 := by
  funext p; rw [rdF_eq]; unfold rdP; exact b01_cg _ _ (by omega)
theorem M0_n : (fun _ => (0 : Int32)) = nM (fun _ => 0) := by
  funext p; exact nI_0.symm
theorem M0_b : (fun _ => (0 : Int32)) = bM (fun _ => 0) := by
  funext p; exact (by decide +kernel : (0 : Int32) = sb_b 0)
