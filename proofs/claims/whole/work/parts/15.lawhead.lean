/-! THE CLAIM OUT OF ONE WALK OF THE LAW'S BODY. Your part is whole_start (and what it stands on); all else here is the same for every law, but numbers. -/
def R_law : String := "RingDriverLaw"
def lw_P (b : Addr) (xs : List Int32) (args : Array Value) (s : State) : Prop := args = #[.ref b] ∧ s.IntsAt b xs ∧ xs.length ≤ 1536 ∧ (Jvm.Cond.and given_1 narrow_1).before args s = true
def lw_Q (_ : Array Value) (s : State) (o : Outcome) (t : State) : Prop := o = .returned (some (.int 1)) ∧ Framed s o t [] 12 904
def lw_Z (below : List Frame) (a : Array Value) (s : State) : State → Prop := fun t => ∃ o, t.status = .running ∧ Ended t below o ∧ lw_Q a s o t
/-- the law's own end, with 1 on the stack, nothing written that was there before, its room as the claim has it -/
theorem lw_ret {p : Program} {l : Launch} {e : Env} {s : State} {m : MethodId} {below : List Frame} {meth : Method} {c : Code} {b : Nat} (hx : p.tables.exec = Jvm.exec) (hb : c.code = code) (hr : meth.sig.returnType = ret) (hlocks : meth.locks = false) {pc : Nat} {H : Heap} {ls : Array Slot} (hdg : decode code pc = .ok (.ireturn, 1)) : W p l e room_1 s m #[Value.ref b] below meth c H [] 12 904 (lw_Z below #[Value.ref b] s) (F0 m pc ls [.int 1]) := by
  intro T hT X
  obtain ⟨fs, hret, hrun, hended, hW, hframe⟩ := X.leave (v := some (.int 1)) (hlocks := hlocks) (fun h => by rw [hr] at h; cases h)
  have hmeth' : T.vm.method? m = some meth := X.method'
  refine ⟨T.setFrames fs, ?_, .returned (some (.int 1)), hrun, hended, rfl, ⟨_, rfl⟩, hW, hframe⟩
  jvm_step X.here [X.here.top, hx, hb, hdg, hmeth', hr, ret, narrow_b1]
  (try refine ⟨rfl, ?_⟩); (try refine ⟨rfl, ?_⟩)
  first | (intro acts; rw [hret _ acts rfl rfl rfl]) | rw [hret _ _ rfl rfl rfl]
  exact Steps.refl _
/-- what holds at the law's entry: the machine, the code, the tables' words (any of lw_tbl by 'hts w (by decide +kernel)'), the script of L ints xs at the cell b, what the Statement gives of the start (any of its parts by flat_of_before) -/
def lw_At (p : Program) (s : State) (m : MethodId) (meth : Method) (c : Code) (b L : Nat) (xs : Nat → Int32) : Prop :=
  p.tables.exec = Jvm.exec ∧ c.code = code ∧ meth.sig.returnType = ret ∧ c.maxLocals = 4 ∧ s.vm.findClass R_law = some m.cls ∧ (∀ w ∈ lw_tbl, w.before #[Value.ref b] s = true) ∧ va_X b L xs s s.heap ∧ b < s.heap.size ∧ meth.locks = false ∧ (Jvm.Cond.and given_1 narrow_1).before #[Value.ref b] s = true
/-! bounds that the loop keeps -/
theorem selN_le {c : Bool} {x y b : Nat} (hx : x ≤ b) (hy : y ≤ b) : selN c x y ≤ b := by cases c <;> assumption
theorem selN_lt {c : Bool} {x y b : Nat} (hx : x < b) (hy : y < b) : selN c x y < b := by cases c <;> assumption
theorem selM_lt {c : Bool} {f g : Nat → Nat} (hf : ∀ j, f j < 256) (hg : ∀ j, g j < 256) : ∀ j, selM c f g j < 256 := by cases c <;> assumption
theorem updN_lt {f : Nat → Nat} {a v : Nat} (hf : ∀ j, f j < 256) (hv : v < 256) : ∀ j, updN f a v j < 256 := by
  intro j; unfold updN; split
  · exact hv
  · exact hf j
theorem fbI_lt {M O : Nat → Nat} {b len i : Nat} (hM : ∀ j, M j < 256) (hO : ∀ j, O j < 256) : ∀ j, fbI M O b len i j < 256 := by
  intro j; unfold fbI; split
  · split
    · exact hO _
    · decide
  · exact hM j
theorem fdI_lt {M : Nat → Nat} {d pg len i : Nat} (hM : ∀ j, M j < 256) (hp : pg < 256) (hl : len < 256) : ∀ j, fdI M d pg len i j < 256 := by
  intro j; unfold fdI; split
  · split
    · exact hp
    · split
      · exact hl
      · split <;> decide
  · exact hM j
theorem clM_lt {M : Nat → Nat} {rs t k i : Nat} (hM : ∀ j, M j < 256) : ∀ j, clM M rs t k i j < 256 := by
  intro j; unfold clM; split
  · decide
  · exact hM j
theorem cpI_lt {I M : Nat → Nat} {b i : Nat} (hI : ∀ j, I j < 256) (hM : ∀ j, M j < 256) : ∀ j, cpI I M b i j < 256 := by
  intro j; unfold cpI; split
  · exact hM _
  · exact hI j
theorem pnM_lt {M O : Nat → Nat} {rs fp t n len : Nat} (hM : ∀ j, M j < 256) (hO : ∀ j, O j < 256) (hf : fp ≤ 16) (hl : len ≤ 16) : ∀ j, pnM M O rs fp t n len j < 256 := by
  unfold pnM
  exact selM_lt (fdI_lt (fbI_lt hM hO) (by omega) (by omega)) hM
theorem snN {n : Nat} (h : n ≤ 8) : selN (decide (n < 8)) (n + 1) n ≤ 8 := by
  by_cases q : n < 8
  · rw [← selN_t (decide_eq_true q)]; omega
  · rw [← selN_f (decide_eq_false q)]; exact h
theorem law_c {L i : Nat} (hL : L ≤ 1536) (hi : i ≤ L) (h : ¬ nI L - nI 3 < nI i) : i + 3 ≤ L := by
  rcases Nat.lt_or_ge L (i + 3) with q | q
  · refine absurd ?_ h
    rw [Int32.lt_iff_toInt_lt, pk_sub_toInt (by omega) (by omega), nI_toInt (by omega)]
    omega
  · exact q
