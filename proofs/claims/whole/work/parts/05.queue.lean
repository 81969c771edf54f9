set_option maxHeartbeats 4000000 in
set_option maxRecDepth 100000 in
theorem c_X0_init (l : Launch) (dC : Nat → ClassId) (dI : Nat → Nat → Nat) (h0 : Nat) (rs : Nat) (fp : Nat) (sz : Nat)  : Met l yX0_init wsX0_init ({ frames := 1, cells := 0, slots := 0, locals := 12 }) (va_Pc [.ref h0, .int (nI rs), .int (nI fp)] (fun U => U.heap.size = sz ∧ va_P (dC, dI) vwCl [(h0, .inr (0, [.int 0, .int 0, .int 0, .int 0]))] U.heap ∧ va_K (dC, dI) vwCl [] U ∧ va_D (fun _ => True) [(h0, .inr (0, [.int 0, .int 0, .int 0, .int 0]))])) (va_Qv (fun (_ : Unit) => True) (fun _ t => va_P (dC, dI) vwCl [(h0, .inr (0, [.int (nI rs), .int (nI fp), .int (nI 0), .int (nI 0)]))] t.heap ∧ va_K (dC, dI) vwCl [] t ∧ va_D (va_A [(h0, .inr (0, [.int 0, .int 0, .int 0, .int 0]))] sz) [(h0, .inr (0, [.int (nI rs), .int (nI fp), .int (nI 0), .int (nI 0)]))]) (va_A [(h0, .inr (0, [.int 0, .int 0, .int 0, .int 0]))] sz)) 0 0 (va_A [(h0, .inr (0, [.int 0, .int 0, .int 0, .int 0]))] sz) := by
  refine Met.ofW (cc := cX0_init) (maxL := 3) (ret := none) (by decide) rfl ?_
  intro p e s m args below meth c s₁ B hml hv
  obtain ⟨rfl, hsz, hP, hK, hD0⟩ := hv
  have hx := B.exec
  have hb := B.bytes
  have hr := B.returns
  have hts := atoms_spec (ws := wsX0_init) B.pre
  have hown : s.vm.findClass RX0 = some m.cls := findClass_of_methodNamed B.named
  have hlocks := B.notSynchronized
  have hin : meth.name = "<init>" := (name_of_methodNamed B.named B.method).1
  have hI0 : ∀ w ∈ u_ws RX0 TX0 4, w ∈ wsX0_init := by decide +kernel
  subst hsz
  have hD := hD0.self (sz := s.heap.size)
  generalize hAe : va_A [(h0, .inr (0, [.int 0, .int 0, .int 0, .int 0]))] s.heap.size = A at hD ⊢
  have hA : ∀ q : Nat, s.heap.size ≤ q → A q := fun q h => by rw [← hAe]; exact Or.inr h
  have hS : va_S A s.heap s.heap [] := va_S.rf
  have hP : va_P (dC, dI) vwCl [(h0, .inr (0, [.int 0, .int 0, .int 0, .int 0]))] s.heap := hP
  have hl := lv_entry ([.ref h0, .int (nI rs), .int (nI fp)]) (n := 3) (Nat.le_of_ble_eq_true rfl)
  rw [lg_entry_eq]
  generalize (lg_sl ([.ref h0, .int (nI rs), .int (nI fp)]) ++ List.replicate (3 - (lg_sl ([.ref h0, .int (nI rs), .int (nI fp)])).length) Slot.unset).toArray = ls at hl ⊢
  have hl : lv_has ls 3 [(0, .ref h0), (1, .int (nI rs)), (2, .int (nI fp))] := hl
  refine lv_aload_n hx hb dX0_init_0 rfl (lv_at hl 0 rfl) ?_
  refine W.objInit hx hb hown (hts (.methodLink RX0 3 objectInit) (by decide +kernel)) (hts (.instanceMethod objectInit) (by decide +kernel)) (hts (.code objectInit ⟨#[0xb1]⟩ 1 none) (by simp [wsX0_init])) rfl (by rw [hml]; exact hl.1) rfl dX0_init_1 (Nat.le_of_ble_eq_true rfl) (Nat.le_of_ble_eq_true rfl) ?_
  refine W.eq (g2 := F0 m 4 ls []) rfl ?_
  refine lv_aload_n hx hb dX0_init_4 rfl (lv_at hl 0 rfl) ?_
  refine lv_iload_n hx hb dX0_init_5 rfl (lv_at hl 1 rfl) ?_
  refine va_putF (D := (dC, dI)) (ci := 0) (v := .int (nI rs)) (ty := .int) (C := RX0) (T := TX0) (N := 4) hx hb hts hI0 tyX0 tyX0_ok nmX0 hown hK hP hD hS 0 rfl rfl 0 (by decide) (hts (.fieldLink RX0 9 "RingDriver$SlotQueue" "ringStart" "I") (by decide +kernel)) (fun _ h9 => h9) rfl hin rfl (by decide +kernel) rfl rfl (Nat.le_of_ble_eq_true rfl) dX0_init_6 (fun H locs hP hD hS => ?_)
  have hP : va_P (dC, dI) vwCl [(h0, .inr (0, [.int (nI rs), .int 0, .int 0, .int 0]))] H := hP
  have hD : va_D A [(h0, .inr (0, [.int (nI rs), .int 0, .int 0, .int 0]))] := hD
  refine lv_aload_n hx hb dX0_init_9 rfl (lv_at hl 0 rfl) ?_
  refine lv_iload_n hx hb dX0_init_10 rfl (lv_at hl 2 rfl) ?_
  refine va_putF (D := (dC, dI)) (ci := 0) (v := .int (nI fp)) (ty := .int) (C := RX0) (T := TX0) (N := 4) hx hb hts hI0 tyX0 tyX0_ok nmX0 hown hK hP hD hS 0 rfl rfl 1 (by decide) (hts (.fieldLink RX0 15 "RingDriver$SlotQueue" "firstPage" "I") (by decide +kernel)) (fun _ h9 => h9) rfl hin rfl (by decide +kernel) rfl rfl (Nat.le_of_ble_eq_true rfl) dX0_init_11 (fun H locs hP hD hS => ?_)
  have hP : va_P (dC, dI) vwCl [(h0, .inr (0, [.int (nI rs), .int (nI fp), .int 0, .int 0]))] H := hP
  have hD : va_D A [(h0, .inr (0, [.int (nI rs), .int (nI fp), .int 0, .int 0]))] := hD
  refine lv_aload_n hx hb dX0_init_14 rfl (lv_at hl 0 rfl) ?_
  refine lv_iconst (v := nI 0) hx hb dX0_init_15 (by decide +kernel) ?_
  refine va_put (D := (dC, dI)) (ci := 0) (v := .int (nI 0)) (ty := .int) (C := RX0) (T := TX0) (N := 4) hx hb hts hI0 tyX0 tyX0_ok nmX0 hown hK hP hD hS 0 rfl rfl 2 (by decide) (hts (.fieldLink RX0 18 "RingDriver$SlotQueue" "oldest" "I") (by decide +kernel)) (fun _ h9 => h9) rfl (by decide +kernel) rfl rfl (Nat.le_of_ble_eq_true rfl) dX0_init_16 (fun H locs hP hD hS => ?_)
  have hP : va_P (dC, dI) vwCl [(h0, .inr (0, [.int (nI rs), .int (nI fp), .int (nI 0), .int 0]))] H := hP
  have hD : va_D A [(h0, .inr (0, [.int (nI rs), .int (nI fp), .int (nI 0), .int 0]))] := hD
  refine lv_aload_n hx hb dX0_init_19 rfl (lv_at hl 0 rfl) ?_
  refine lv_iconst (v := nI 0) hx hb dX0_init_20 (by decide +kernel) ?_
  refine va_put (D := (dC, dI)) (ci := 0) (v := .int (nI 0)) (ty := .int) (C := RX0) (T := TX0) (N := 4) hx hb hts hI0 tyX0 tyX0_ok nmX0 hown hK hP hD hS 0 rfl rfl 3 (by decide) (hts (.fieldLink RX0 21 "RingDriver$SlotQueue" "posted" "I") (by decide +kernel)) (fun _ h9 => h9) rfl (by decide +kernel) rfl rfl (Nat.le_of_ble_eq_true rfl) dX0_init_21 (fun H locs hP hD hS => ?_)
  have hP : va_P (dC, dI) vwCl [(h0, .inr (0, [.int (nI rs), .int (nI fp), .int (nI 0), .int (nI 0)]))] H := hP
  have hD : va_D A [(h0, .inr (0, [.int (nI rs), .int (nI fp), .int (nI 0), .int (nI 0)]))] := hD
  have hP9 := hP.sub (ws' := [(h0, .inr (0, [.int (nI rs), .int (nI fp), .int (nI 0), .int (nI 0)]))]) [0] rfl
  have hD9 := hD.sub (ws' := [(h0, .inr (0, [.int (nI rs), .int (nI fp), .int (nI 0), .int (nI 0)]))]) [0] (by decide) rfl
  have hK9 := hK.sub (tys' := []) [] rfl
  exact W.vret hx hb hr (fun t ht hW => ⟨⟨(), rfl, trivial, by rw [ht]; exact hP9, va_K.moved hW.alike hK9, hD9⟩, hS.F ht⟩) hS.2.2 dX0_init_24
set_option maxHeartbeats 4000000 in
set_option maxRecDepth 100000 in
theorem c_X0_size (l : Launch) (dC : Nat → ClassId) (dI : Nat → Nat → Nat) (h0 : Nat) (rs : Nat) (fp : Nat) (tq : Nat) (nq : Nat) (sz : Nat)  : Met l yX0_size wsX0_size ({ frames := 0, cells := 0, slots := 0, locals := 0 }) (va_Pc [.ref h0] (fun U => U.heap.size = sz ∧ va_P (dC, dI) vwCl [(h0, .inr (0, [.int (nI rs), .int (nI fp), .int (nI tq), .int (nI nq)]))] U.heap ∧ va_K (dC, dI) vwCl [] U ∧ va_D (fun _ => True) [(h0, .inr (0, [.int (nI rs), .int (nI fp), .int (nI tq), .int (nI nq)]))])) (va_Qi (fun (r9 : Int32) (_ : Unit) => r9 = nI nq) (fun _ t => va_P (dC, dI) vwCl [(h0, .inr (0, [.int (nI rs), .int (nI fp), .int (nI tq), .int (nI nq)]))] t.heap ∧ va_K (dC, dI) vwCl [] t ∧ va_D (va_A [(h0, .inr (0, [.int (nI rs), .int (nI fp), .int (nI tq), .int (nI nq)]))] sz) [(h0, .inr (0, [.int (nI rs), .int (nI fp), .int (nI tq), .int (nI nq)]))]) (va_A [(h0, .inr (0, [.int (nI rs), .int (nI fp), .int (nI tq), .int (nI nq)]))] sz)) 0 0 (va_A [(h0, .inr (0, [.int (nI rs), .int (nI fp), .int (nI tq), .int (nI nq)]))] sz) := by
  refine Met.ofW (cc := cX0_size) (maxL := 1) (ret := (some .int)) (by decide) rfl ?_
  intro p e s m args below meth c s₁ B hml hv
  obtain ⟨rfl, hsz, hP, hK, hD0⟩ := hv
  have hx := B.exec
  have hb := B.bytes
  have hr := B.returns
  have hts := atoms_spec (ws := wsX0_size) B.pre
  have hown : s.vm.findClass RX0 = some m.cls := findClass_of_methodNamed B.named
  have hlocks := B.notSynchronized
  have hI0 : ∀ w ∈ u_ws RX0 TX0 4, w ∈ wsX0_size := by decide +kernel
  subst hsz
  have hD := hD0.self (sz := s.heap.size)
  generalize hAe : va_A [(h0, .inr (0, [.int (nI rs), .int (nI fp), .int (nI tq), .int (nI nq)]))] s.heap.size = A at hD ⊢
  have hA : ∀ q : Nat, s.heap.size ≤ q → A q := fun q h => by rw [← hAe]; exact Or.inr h
  have hS : va_S A s.heap s.heap [] := va_S.rf
  have hP : va_P (dC, dI) vwCl [(h0, .inr (0, [.int (nI rs), .int (nI fp), .int (nI tq), .int (nI nq)]))] s.heap := hP
  have hl := lv_entry ([.ref h0]) (n := 1) (Nat.le_of_ble_eq_true rfl)
  rw [lg_entry_eq]
  generalize (lg_sl ([.ref h0]) ++ List.replicate (1 - (lg_sl ([.ref h0])).length) Slot.unset).toArray = ls at hl ⊢
  have hl : lv_has ls 1 [(0, .ref h0)] := hl
  refine lv_aload_n hx hb dX0_size_0 rfl (lv_at hl 0 rfl) ?_
  refine va_get (D := (dC, dI)) (ci := 0) (v := .int (nI nq)) (C := RX0) (T := TX0) (N := 4) hx hb hts hI0 hown hK hP 0 rfl rfl 3 (by decide) (hts (.fieldLink RX0 21 "RingDriver$SlotQueue" "posted" "I") (by decide +kernel)) (fun _ h9 => h9) rfl dX0_size_1 ?_
  have hP9 := hP.sub (ws' := [(h0, .inr (0, [.int (nI rs), .int (nI fp), .int (nI tq), .int (nI nq)]))]) [0] rfl
  have hD9 := hD.sub (ws' := [(h0, .inr (0, [.int (nI rs), .int (nI fp), .int (nI tq), .int (nI nq)]))]) [0] (by decide) rfl
  have hK9 := hK.sub (tys' := []) [] rfl
  have e_1 : nI nq = nI nq := rfl
  exact W.iret (v := nI nq) hx hb hr (fun t ht hW => ⟨⟨_, (), rfl, e_1, by rw [ht]; exact hP9, va_K.moved hW.alike hK9, hD9⟩, hS.F ht⟩) hS.2.2 dX0_size_4
set_option maxHeartbeats 4000000 in
set_option maxRecDepth 100000 in
theorem c_X0_slotAt (l : Launch) (dC : Nat → ClassId) (dI : Nat → Nat → Nat) (h0 : Nat) (rs : Nat) (fp : Nat) (tq : Nat) (nq : Nat) (pl : Nat) (sz : Nat) (ht : tq < 8) (hp : pl ≤ 8) : Met l yX0_slotAt wsX0_slotAt ({ frames := 0, cells := 0, slots := 0, locals := 0 }) (va_Pc [.ref h0, .int (nI pl)] (fun U => U.heap.size = sz ∧ va_P (dC, dI) vwCl [(h0, .inr (0, [.int (nI rs), .int (nI fp), .int (nI tq), .int (nI nq)]))] U.heap ∧ va_K (dC, dI) vwCl [] U ∧ va_D (fun _ => True) [(h0, .inr (0, [.int (nI rs), .int (nI fp), .int (nI tq), .int (nI nq)]))])) (va_Qi (fun (r9 : Int32) (_ : Unit) => r9 = nI ((tq + pl) % 8)) (fun _ t => va_P (dC, dI) vwCl [(h0, .inr (0, [.int (nI rs), .int (nI fp), .int (nI tq), .int (nI nq)]))] t.heap ∧ va_K (dC, dI) vwCl [] t ∧ va_D (va_A [(h0, .inr (0, [.int (nI rs), .int (nI fp), .int (nI tq), .int (nI nq)]))] sz) [(h0, .inr (0, [.int (nI rs), .int (nI fp), .int (nI tq), .int (nI nq)]))]) (va_A [(h0, .inr (0, [.int (nI rs), .int (nI fp), .int (nI tq), .int (nI nq)]))] sz)) 0 0 (va_A [(h0, .inr (0, [.int (nI rs), .int (nI fp), .int (nI tq), .int (nI nq)]))] sz) := by
  refine Met.ofW (cc := cX0_slotAt) (maxL := 2) (ret := (some .int)) (by decide) rfl ?_
  intro p e s m args below meth c s₁ B hml hv
  obtain ⟨rfl, hsz, hP, hK, hD0⟩ := hv
  have hx := B.exec
  have hb := B.bytes
  have hr := B.returns
  have hts := atoms_spec (ws := wsX0_slotAt) B.pre
  have hown : s.vm.findClass RX0 = some m.cls := findClass_of_methodNamed B.named
  have hlocks := B.notSynchronized
  have hI0 : ∀ w ∈ u_ws RX0 TX0 4, w ∈ wsX0_slotAt := by decide +kernel
  subst hsz
  have hD := hD0.self (sz := s.heap.size)
  generalize hAe : va_A [(h0, .inr (0, [.int (nI rs), .int (nI fp), .int (nI tq), .int (nI nq)]))] s.heap.size = A at hD ⊢
  have hA : ∀ q : Nat, s.heap.size ≤ q → A q := fun q h => by rw [← hAe]; exact Or.inr h
  have hS : va_S A s.heap s.heap [] := va_S.rf
  have hP : va_P (dC, dI) vwCl [(h0, .inr (0, [.int (nI rs), .int (nI fp), .int (nI tq), .int (nI nq)]))] s.heap := hP
  have hl := lv_entry ([.ref h0, .int (nI pl)]) (n := 2) (Nat.le_of_ble_eq_true rfl)
  rw [lg_entry_eq]
  generalize (lg_sl ([.ref h0, .int (nI pl)]) ++ List.replicate (2 - (lg_sl ([.ref h0, .int (nI pl)])).length) Slot.unset).toArray = ls at hl ⊢
  have hl : lv_has ls 2 [(0, .ref h0), (1, .int (nI pl))] := hl
  refine lv_aload_n hx hb dX0_slotAt_0 rfl (lv_at hl 0 rfl) ?_
  refine va_get (D := (dC, dI)) (ci := 0) (v := .int (nI tq)) (C := RX0) (T := TX0) (N := 4) hx hb hts hI0 hown hK hP 0 rfl rfl 2 (by decide) (hts (.fieldLink RX0 18 "RingDriver$SlotQueue" "oldest" "I") (by decide +kernel)) (fun _ h9 => h9) rfl dX0_slotAt_1 ?_
  refine lv_iload_n hx hb dX0_slotAt_4 rfl (lv_at hl 1 rfl) ?_
  refine lv_iadd hx hb dX0_slotAt_5 ?_
  refine lv_topi (fun y_1 ey_1 => ?_)
  obtain rfl := ey_1.trans (nI_add tq pl)
  refine lv_bipush (v := nI 7) hx hb dX0_slotAt_6 (by decide +kernel) ?_
  refine lv_iand hx hb dX0_slotAt_8 ?_
  refine lv_topi (fun y_2 ey_2 => ?_)
  obtain rfl := ey_2.trans (n_and7 (n := tq + pl) (by omega))
  have hP9 := hP.sub (ws' := [(h0, .inr (0, [.int (nI rs), .int (nI fp), .int (nI tq), .int (nI nq)]))]) [0] rfl
  have hD9 := hD.sub (ws' := [(h0, .inr (0, [.int (nI rs), .int (nI fp), .int (nI tq), .int (nI nq)]))]) [0] (by decide) rfl
  have hK9 := hK.sub (tys' := []) [] rfl
  have e_3 : nI ((tq + pl) % 8) = nI ((tq + pl) % 8) := rfl
  exact W.iret (v := nI ((tq + pl) % 8)) hx hb hr (fun t ht hW => ⟨⟨_, (), rfl, e_3, by rw [ht]; exact hP9, va_K.moved hW.alike hK9, hD9⟩, hS.F ht⟩) hS.2.2 dX0_slotAt_9
set_option maxHeartbeats 4000000 in
set_option maxRecDepth 100000 in
theorem c_X0_pageAt (l : Launch) (dC : Nat → ClassId) (dI : Nat → Nat → Nat) (h0 : Nat) (rs : Nat) (fp : Nat) (tq : Nat) (nq : Nat) (pl : Nat) (sz : Nat) (ht : tq < 8) (hp : pl ≤ 8) (hf : fp ≤ 16) : Met l yX0_pageAt wsX0_pageAt ({ frames := 1, cells := 0, slots := 0, locals := 21 }) (va_Pc [.ref h0, .int (nI pl)] (fun U => U.heap.size = sz ∧ va_P (dC, dI) vwCl [(h0, .inr (0, [.int (nI rs), .int (nI fp), .int (nI tq), .int (nI nq)]))] U.heap ∧ va_K (dC, dI) vwCl [] U ∧ va_D (fun _ => True) [(h0, .inr (0, [.int (nI rs), .int (nI fp), .int (nI tq), .int (nI nq)]))])) (va_Qi (fun (r9 : Int32) (_ : Unit) => r9 = nI (fp + (tq + pl) % 8)) (fun _ t => va_P (dC, dI) vwCl [(h0, .inr (0, [.int (nI rs), .int (nI fp), .int (nI tq), .int (nI nq)]))] t.heap ∧ va_K (dC, dI) vwCl [] t ∧ va_D (va_A [(h0, .inr (0, [.int (nI rs), .int (nI fp), .int (nI tq), .int (nI nq)]))] sz) [(h0, .inr (0, [.int (nI rs), .int (nI fp), .int (nI tq), .int (nI nq)]))]) (va_A [(h0, .inr (0, [.int (nI rs), .int (nI fp), .int (nI tq), .int (nI nq)]))] sz)) 0 0 (va_A [(h0, .inr (0, [.int (nI rs), .int (nI fp), .int (nI tq), .int (nI nq)]))] sz) := by
  refine Met.ofW (cc := cX0_pageAt) (maxL := 2) (ret := (some .int)) (by decide) rfl ?_
  intro p e s m args below meth c s₁ B hml hv
  obtain ⟨rfl, hsz, hP, hK, hD0⟩ := hv
  have hx := B.exec
  have hb := B.bytes
  have hr := B.returns
  have hts := atoms_spec (ws := wsX0_pageAt) B.pre
  have hown : s.vm.findClass RX0 = some m.cls := findClass_of_methodNamed B.named
  have hlocks := B.notSynchronized
  have hI0 : ∀ w ∈ u_ws RX0 TX0 4, w ∈ wsX0_pageAt := by decide +kernel
  subst hsz
  have hD := hD0.self (sz := s.heap.size)
  generalize hAe : va_A [(h0, .inr (0, [.int (nI rs), .int (nI fp), .int (nI tq), .int (nI nq)]))] s.heap.size = A at hD ⊢
  have hA : ∀ q : Nat, s.heap.size ≤ q → A q := fun q h => by rw [← hAe]; exact Or.inr h
  have hS : va_S A s.heap s.heap [] := va_S.rf
  have hP : va_P (dC, dI) vwCl [(h0, .inr (0, [.int (nI rs), .int (nI fp), .int (nI tq), .int (nI nq)]))] s.heap := hP
  have hl := lv_entry ([.ref h0, .int (nI pl)]) (n := 2) (Nat.le_of_ble_eq_true rfl)
  rw [lg_entry_eq]
  generalize (lg_sl ([.ref h0, .int (nI pl)]) ++ List.replicate (2 - (lg_sl ([.ref h0, .int (nI pl)])).length) Slot.unset).toArray = ls at hl ⊢
  have hl : lv_has ls 2 [(0, .ref h0), (1, .int (nI pl))] := hl
  refine lv_aload_n hx hb dX0_pageAt_0 rfl (lv_at hl 0 rfl) ?_
  refine va_get (D := (dC, dI)) (ci := 0) (v := .int (nI fp)) (C := RX0) (T := TX0) (N := 4) hx hb hts hI0 hown hK hP 0 rfl rfl 1 (by decide) (hts (.fieldLink RX0 15 "RingDriver$SlotQueue" "firstPage" "I") (by decide +kernel)) (fun _ h9 => h9) rfl dX0_pageAt_1 ?_
  refine lv_aload_n hx hb dX0_pageAt_4 rfl (lv_at hl 0 rfl) ?_
  refine lv_iload_n hx hb dX0_pageAt_5 rfl (lv_at hl 1 rfl) ?_
  have hPc := hP.sub (ws' := [(h0, .inr (0, [.int (nI rs), .int (nI fp), .int (nI tq), .int (nI nq)]))]) [0] rfl
  have hDc := hD.sub (ws' := [(h0, .inr (0, [.int (nI rs), .int (nI fp), .int (nI tq), .int (nI nq)]))]) [0] (by decide) rfl
  have hKc := hK.sub (tys' := []) [] rfl
  have hFc := va_free (wc := [(h0, .inr (0, [.int (nI rs), .int (nI fp), .int (nI tq), .int (nI nq)]))]) hD hS hA [0] rfl
  refine va_calli (va_runV (As := [.int (nI pl)]) (rest := [.int (nI fp)]) ⟨hx, hb, hml, hown, hts⟩ (c_X0_slotAt l dC dI h0 rs fp tq nq pl s.heap.size (by omega) (by omega)) (cwV 1 hts gX0_pageAt_X0_slotAt rfl rfl rfl (by decide +kernel) ⟨Nat.le_of_ble_eq_true rfl, Nat.le_of_ble_eq_true rfl⟩) ⟨fun a U g mk q => by obtain ⟨q0, q1, qP, qK, qD⟩ := q; exact ⟨q0, q1, qP, va_K.moved (u := U) (U := U.calling g mk a) (Vm.Alike.refl U.vm) qK, qD⟩, va_recv hKc hPc (ci := 0) (q0 := 0) rfl rfl, fun U hU hW => ⟨rfl, by rw [hU], by rw [hU]; exact hPc, va_K.moved hW.alike hKc, hDc.weaken (fun _ _ _ _ => trivial)⟩⟩ rfl rfl hl.1 rfl (lv_room (Nat.le_of_ble_eq_true rfl)) dX0_pageAt_6 ⟨Nat.le_of_ble_eq_true rfl, Nat.le_of_ble_eq_true rfl⟩) hS (fun q _ h => hFc q h) hFc (fun r_1 u t H1 locs ht hvm hw hB hz1 hk1 hS => ?_)
  obtain ⟨hP1, hK1, hD1⟩ := hB
  rw [ht] at hP1
  have hK1 := va_K.moved hvm.symm hK1
  obtain ⟨hP, hD⟩ := va_join (wr := []) (w1 := [(h0, .inr (0, [.int (nI rs), .int (nI fp), .int (nI tq), .int (nI nq)]))]) hP hD [0] [] rfl rfl (by decide) (by decide) hk1 hFc hP1 hD1
  have hK := (hK.sub (tys' := []) [] rfl).app hK1
  generalize H1 = H at hP hS ⊢
  have hP : va_P (dC, dI) vwCl [(h0, .inr (0, [.int (nI rs), .int (nI fp), .int (nI tq), .int (nI nq)]))] H := hP
  have hD : va_D A [(h0, .inr (0, [.int (nI rs), .int (nI fp), .int (nI tq), .int (nI nq)]))] := hD
  have hK : va_K (dC, dI) vwCl [] s := hK
  obtain rfl : r_1 = nI ((tq + pl) % 8) := hw
  refine lv_iadd hx hb dX0_pageAt_9 ?_
  refine lv_topi (fun y_2 ey_2 => ?_)
  obtain rfl := ey_2.trans (nI_add fp ((tq + pl) % 8))
  have hP9 := hP.sub (ws' := [(h0, .inr (0, [.int (nI rs), .int (nI fp), .int (nI tq), .int (nI nq)]))]) [0] rfl
  have hD9 := hD.sub (ws' := [(h0, .inr (0, [.int (nI rs), .int (nI fp), .int (nI tq), .int (nI nq)]))]) [0] (by decide) rfl
  have hK9 := hK.sub (tys' := []) [] rfl
  have e_3 : nI (fp + ((tq + pl) % 8)) = nI (fp + (tq + pl) % 8) := congrArg nI (by omega)
  exact W.iret (v := nI (fp + ((tq + pl) % 8))) hx hb hr (fun t ht hW => ⟨⟨_, (), rfl, e_3, by rw [ht]; exact hP9, va_K.moved hW.alike hK9, hD9⟩, hS.F ht⟩) hS.2.2 dX0_pageAt_10
set_option maxHeartbeats 4000000 in
set_option maxRecDepth 100000 in
theorem c_X0_bufferAt (l : Launch) (dC : Nat → ClassId) (dI : Nat → Nat → Nat) (h0 : Nat) (rs : Nat) (fp : Nat) (tq : Nat) (nq : Nat) (pl : Nat) (sz : Nat) (ht : tq < 8) (hp : pl ≤ 8) (hf : fp ≤ 16) : Met l yX0_bufferAt wsX0_bufferAt ({ frames := 2, cells := 0, slots := 0, locals := 42 }) (va_Pc [.ref h0, .int (nI pl)] (fun U => U.heap.size = sz ∧ va_P (dC, dI) vwCl [(h0, .inr (0, [.int (nI rs), .int (nI fp), .int (nI tq), .int (nI nq)]))] U.heap ∧ va_K (dC, dI) vwCl [] U ∧ va_D (fun _ => True) [(h0, .inr (0, [.int (nI rs), .int (nI fp), .int (nI tq), .int (nI nq)]))])) (va_Qi (fun (r9 : Int32) (_ : Unit) => r9 = nI (16 * (fp + (tq + pl) % 8))) (fun _ t => va_P (dC, dI) vwCl [(h0, .inr (0, [.int (nI rs), .int (nI fp), .int (nI tq), .int (nI nq)]))] t.heap ∧ va_K (dC, dI) vwCl [] t ∧ va_D (va_A [(h0, .inr (0, [.int (nI rs), .int (nI fp), .int (nI tq), .int (nI nq)]))] sz) [(h0, .inr (0, [.int (nI rs), .int (nI fp), .int (nI tq), .int (nI nq)]))]) (va_A [(h0, .inr (0, [.int (nI rs), .int (nI fp), .int (nI tq), .int (nI nq)]))] sz)) 0 0 (va_A [(h0, .inr (0, [.int (nI rs), .int (nI fp), .int (nI tq), .int (nI nq)]))] sz) := by
  refine Met.ofW (cc := cX0_bufferAt) (maxL := 2) (ret := (some .int)) (by decide) rfl ?_
  intro p e s m args below meth c s₁ B hml hv
  obtain ⟨rfl, hsz, hP, hK, hD0⟩ := hv
  have hx := B.exec
  have hb := B.bytes
  have hr := B.returns
  have hts := atoms_spec (ws := wsX0_bufferAt) B.pre
  have hown : s.vm.findClass RX0 = some m.cls := findClass_of_methodNamed B.named
  have hlocks := B.notSynchronized
  subst hsz
  have hD := hD0.self (sz := s.heap.size)
  generalize hAe : va_A [(h0, .inr (0, [.int (nI rs), .int (nI fp), .int (nI tq), .int (nI nq)]))] s.heap.size = A at hD ⊢
  have hA : ∀ q : Nat, s.heap.size ≤ q → A q := fun q h => by rw [← hAe]; exact Or.inr h
  have hS : va_S A s.heap s.heap [] := va_S.rf
  have hP : va_P (dC, dI) vwCl [(h0, .inr (0, [.int (nI rs), .int (nI fp), .int (nI tq), .int (nI nq)]))] s.heap := hP
  have hl := lv_entry ([.ref h0, .int (nI pl)]) (n := 2) (Nat.le_of_ble_eq_true rfl)
  rw [lg_entry_eq]
  generalize (lg_sl ([.ref h0, .int (nI pl)]) ++ List.replicate (2 - (lg_sl ([.ref h0, .int (nI pl)])).length) Slot.unset).toArray = ls at hl ⊢
  have hl : lv_has ls 2 [(0, .ref h0), (1, .int (nI pl))] := hl
  refine lv_bipush (v := nI 16) hx hb dX0_bufferAt_0 (by decide +kernel) ?_
  refine lv_aload_n hx hb dX0_bufferAt_2 rfl (lv_at hl 0 rfl) ?_
  refine lv_iload_n hx hb dX0_bufferAt_3 rfl (lv_at hl 1 rfl) ?_
  have hPc := hP.sub (ws' := [(h0, .inr (0, [.int (nI rs), .int (nI fp), .int (nI tq), .int (nI nq)]))]) [0] rfl
  have hDc := hD.sub (ws' := [(h0, .inr (0, [.int (nI rs), .int (nI fp), .int (nI tq), .int (nI nq)]))]) [0] (by decide) rfl
  have hKc := hK.sub (tys' := []) [] rfl
  have hFc := va_free (wc := [(h0, .inr (0, [.int (nI rs), .int (nI fp), .int (nI tq), .int (nI nq)]))]) hD hS hA [0] rfl
  refine va_calli (va_runV (As := [.int (nI pl)]) (rest := [.int (nI 16)]) ⟨hx, hb, hml, hown, hts⟩ (c_X0_pageAt l dC dI h0 rs fp tq nq pl s.heap.size (by omega) (by omega) (by omega)) (cwV 1 hts gX0_bufferAt_X0_pageAt rfl rfl rfl (by decide +kernel) ⟨Nat.le_of_ble_eq_true rfl, Nat.le_of_ble_eq_true rfl⟩) ⟨fun a U g mk q => by obtain ⟨q0, q1, qP, qK, qD⟩ := q; exact ⟨q0, q1, qP, va_K.moved (u := U) (U := U.calling g mk a) (Vm.Alike.refl U.vm) qK, qD⟩, va_recv hKc hPc (ci := 0) (q0 := 0) rfl rfl, fun U hU hW => ⟨rfl, by rw [hU], by rw [hU]; exact hPc, va_K.moved hW.alike hKc, hDc.weaken (fun _ _ _ _ => trivial)⟩⟩ rfl rfl hl.1 rfl (lv_room (Nat.le_of_ble_eq_true rfl)) dX0_bufferAt_4 ⟨Nat.le_of_ble_eq_true rfl, Nat.le_of_ble_eq_true rfl⟩) hS (fun q _ h => hFc q h) hFc (fun r_1 u t H1 locs ht hvm hw hB hz1 hk1 hS => ?_)
  obtain ⟨hP1, hK1, hD1⟩ := hB
  rw [ht] at hP1
  have hK1 := va_K.moved hvm.symm hK1
  obtain ⟨hP, hD⟩ := va_join (wr := []) (w1 := [(h0, .inr (0, [.int (nI rs), .int (nI fp), .int (nI tq), .int (nI nq)]))]) hP hD [0] [] rfl rfl (by decide) (by decide) hk1 hFc hP1 hD1
  have hK := (hK.sub (tys' := []) [] rfl).app hK1
  generalize H1 = H at hP hS ⊢
  have hP : va_P (dC, dI) vwCl [(h0, .inr (0, [.int (nI rs), .int (nI fp), .int (nI tq), .int (nI nq)]))] H := hP
  have hD : va_D A [(h0, .inr (0, [.int (nI rs), .int (nI fp), .int (nI tq), .int (nI nq)]))] := hD
  have hK : va_K (dC, dI) vwCl [] s := hK
  obtain rfl : r_1 = nI (fp + (tq + pl) % 8) := hw
  refine lv_imul hx hb dX0_bufferAt_7 ?_
  refine lv_topi (fun y_2 ey_2 => ?_)
  obtain rfl := ey_2.trans (pk_mul 16 (fp + (tq + pl) % 8))
  have hP9 := hP.sub (ws' := [(h0, .inr (0, [.int (nI rs), .int (nI fp), .int (nI tq), .int (nI nq)]))]) [0] rfl
  have hD9 := hD.sub (ws' := [(h0, .inr (0, [.int (nI rs), .int (nI fp), .int (nI tq), .int (nI nq)]))]) [0] (by decide) rfl
  have hK9 := hK.sub (tys' := []) [] rfl
  have e_3 : nI (16 * (fp + (tq + pl) % 8)) = nI (16 * (fp + (tq + pl) % 8)) := rfl
  exact W.iret (v := nI (16 * (fp + (tq + pl) % 8))) hx hb hr (fun t ht hW => ⟨⟨_, (), rfl, e_3, by rw [ht]; exact hP9, va_K.moved hW.alike hK9, hD9⟩, hS.F ht⟩) hS.2.2 dX0_bufferAt_8
set_option maxHeartbeats 4000000 in
set_option maxRecDepth 100000 in
theorem c_X0_descriptorAt (l : Launch) (dC : Nat → ClassId) (dI : Nat → Nat → Nat) (h0 : Nat) (rs : Nat) (fp : Nat) (tq : Nat) (nq : Nat) (pl : Nat) (sz : Nat) (ht : tq < 8) (hp : pl ≤ 8) (hrs : rs ≤ 64) : Met l yX0_descriptorAt wsX0_descriptorAt ({ frames := 1, cells := 0, slots := 0, locals := 21 }) (va_Pc [.ref h0, .int (nI pl)] (fun U => U.heap.size = sz ∧ va_P (dC, dI) vwCl [(h0, .inr (0, [.int (nI rs), .int (nI fp), .int (nI tq), .int (nI nq)]))] U.heap ∧ va_K (dC, dI) vwCl [] U ∧ va_D (fun _ => True) [(h0, .inr (0, [.int (nI rs), .int (nI fp), .int (nI tq), .int (nI nq)]))])) (va_Qi (fun (r9 : Int32) (_ : Unit) => r9 = nI (rs + 8 * ((tq + pl) % 8))) (fun _ t => va_P (dC, dI) vwCl [(h0, .inr (0, [.int (nI rs), .int (nI fp), .int (nI tq), .int (nI nq)]))] t.heap ∧ va_K (dC, dI) vwCl [] t ∧ va_D (va_A [(h0, .inr (0, [.int (nI rs), .int (nI fp), .int (nI tq), .int (nI nq)]))] sz) [(h0, .inr (0, [.int (nI rs), .int (nI fp), .int (nI tq), .int (nI nq)]))]) (va_A [(h0, .inr (0, [.int (nI rs), .int (nI fp), .int (nI tq), .int (nI nq)]))] sz)) 0 0 (va_A [(h0, .inr (0, [.int (nI rs), .int (nI fp), .int (nI tq), .int (nI nq)]))] sz) := by
  refine Met.ofW (cc := cX0_descriptorAt) (maxL := 2) (ret := (some .int)) (by decide) rfl ?_
  intro p e s m args below meth c s₁ B hml hv
  obtain ⟨rfl, hsz, hP, hK, hD0⟩ := hv
  have hx := B.exec
  have hb := B.bytes
  have hr := B.returns
  have hts := atoms_spec (ws := wsX0_descriptorAt) B.pre
  have hown : s.vm.findClass RX0 = some m.cls := findClass_of_methodNamed B.named
  have hlocks := B.notSynchronized
  have hI0 : ∀ w ∈ u_ws RX0 TX0 4, w ∈ wsX0_descriptorAt := by decide +kernel
  subst hsz
  have hD := hD0.self (sz := s.heap.size)
  generalize hAe : va_A [(h0, .inr (0, [.int (nI rs), .int (nI fp), .int (nI tq), .int (nI nq)]))] s.heap.size = A at hD ⊢
  have hA : ∀ q : Nat, s.heap.size ≤ q → A q := fun q h => by rw [← hAe]; exact Or.inr h
  have hS : va_S A s.heap s.heap [] := va_S.rf
  have hP : va_P (dC, dI) vwCl [(h0, .inr (0, [.int (nI rs), .int (nI fp), .int (nI tq), .int (nI nq)]))] s.heap := hP
  have hl := lv_entry ([.ref h0, .int (nI pl)]) (n := 2) (Nat.le_of_ble_eq_true rfl)
  rw [lg_entry_eq]
  generalize (lg_sl ([.ref h0, .int (nI pl)]) ++ List.replicate (2 - (lg_sl ([.ref h0, .int (nI pl)])).length) Slot.unset).toArray = ls at hl ⊢
  have hl : lv_has ls 2 [(0, .ref h0), (1, .int (nI pl))] := hl
  refine lv_aload_n hx hb dX0_descriptorAt_0 rfl (lv_at hl 0 rfl) ?_
  refine va_get (D := (dC, dI)) (ci := 0) (v := .int (nI rs)) (C := RX0) (T := TX0) (N := 4) hx hb hts hI0 hown hK hP 0 rfl rfl 0 (by decide) (hts (.fieldLink RX0 9 "RingDriver$SlotQueue" "ringStart" "I") (by decide +kernel)) (fun _ h9 => h9) rfl dX0_descriptorAt_1 ?_
  refine lv_bipush (v := nI 8) hx hb dX0_descriptorAt_4 (by decide +kernel) ?_
  refine lv_aload_n hx hb dX0_descriptorAt_6 rfl (lv_at hl 0 rfl) ?_
  refine lv_iload_n hx hb dX0_descriptorAt_7 rfl (lv_at hl 1 rfl) ?_
  have hPc := hP.sub (ws' := [(h0, .inr (0, [.int (nI rs), .int (nI fp), .int (nI tq), .int (nI nq)]))]) [0] rfl
  have hDc := hD.sub (ws' := [(h0, .inr (0, [.int (nI rs), .int (nI fp), .int (nI tq), .int (nI nq)]))]) [0] (by decide) rfl
  have hKc := hK.sub (tys' := []) [] rfl
  have hFc := va_free (wc := [(h0, .inr (0, [.int (nI rs), .int (nI fp), .int (nI tq), .int (nI nq)]))]) hD hS hA [0] rfl
  refine va_calli (va_runV (As := [.int (nI pl)]) (rest := [.int (nI 8), .int (nI rs)]) ⟨hx, hb, hml, hown, hts⟩ (c_X0_slotAt l dC dI h0 rs fp tq nq pl s.heap.size (by omega) (by omega)) (cwV 1 hts gX0_descriptorAt_X0_slotAt rfl rfl rfl (by decide +kernel) ⟨Nat.le_of_ble_eq_true rfl, Nat.le_of_ble_eq_true rfl⟩) ⟨fun a U g mk q => by obtain ⟨q0, q1, qP, qK, qD⟩ := q; exact ⟨q0, q1, qP, va_K.moved (u := U) (U := U.calling g mk a) (Vm.Alike.refl U.vm) qK, qD⟩, va_recv hKc hPc (ci := 0) (q0 := 0) rfl rfl, fun U hU hW => ⟨rfl, by rw [hU], by rw [hU]; exact hPc, va_K.moved hW.alike hKc, hDc.weaken (fun _ _ _ _ => trivial)⟩⟩ rfl rfl hl.1 rfl (lv_room (Nat.le_of_ble_eq_true rfl)) dX0_descriptorAt_8 ⟨Nat.le_of_ble_eq_true rfl, Nat.le_of_ble_eq_true rfl⟩) hS (fun q _ h => hFc q h) hFc (fun r_1 u t H1 locs ht hvm hw hB hz1 hk1 hS => ?_)
  obtain ⟨hP1, hK1, hD1⟩ := hB
  rw [ht] at hP1
  have hK1 := va_K.moved hvm.symm hK1
  obtain ⟨hP, hD⟩ := va_join (wr := []) (w1 := [(h0, .inr (0, [.int (nI rs), .int (nI fp), .int (nI tq), .int (nI nq)]))]) hP hD [0] [] rfl rfl (by decide) (by decide) hk1 hFc hP1 hD1
  have hK := (hK.sub (tys' := []) [] rfl).app hK1
  generalize H1 = H at hP hS ⊢
  have hP : va_P (dC, dI) vwCl [(h0, .inr (0, [.int (nI rs), .int (nI fp), .int (nI tq), .int (nI nq)]))] H := hP
  have hD : va_D A [(h0, .inr (0, [.int (nI rs), .int (nI fp), .int (nI tq), .int (nI nq)]))] := hD
  have hK : va_K (dC, dI) vwCl [] s := hK
  obtain rfl : r_1 = nI ((tq + pl) % 8) := hw
  refine lv_imul hx hb dX0_descriptorAt_11 ?_
  refine lv_topi (fun y_2 ey_2 => ?_)
  obtain rfl := ey_2.trans (pk_mul 8 ((tq + pl) % 8))
  refine lv_iadd hx hb dX0_descriptorAt_12 ?_
  refine lv_topi (fun y_3 ey_3 => ?_)
  obtain rfl := ey_3.trans (nI_add rs (8 * ((tq + pl) % 8)))
  have hP9 := hP.sub (ws' := [(h0, .inr (0, [.int (nI rs), .int (nI fp), .int (nI tq), .int (nI nq)]))]) [0] rfl
  have hD9 := hD.sub (ws' := [(h0, .inr (0, [.int (nI rs), .int (nI fp), .int (nI tq), .int (nI nq)]))]) [0] (by decide) rfl
  have hK9 := hK.sub (tys' := []) [] rfl
  have e_4 : nI (rs + (8 * ((tq + pl) % 8))) = nI (rs + 8 * ((tq + pl) % 8)) := congrArg nI (by omega)
  exact W.iret (v := nI (rs + (8 * ((tq + pl) % 8)))) hx hb hr (fun t ht hW => ⟨⟨_, (), rfl, e_4, by rw [ht]; exact hP9, va_K.moved hW.alike hK9, hD9⟩, hS.F ht⟩) hS.2.2 dX0_descriptorAt_13
set_option maxHeartbeats 4000000 in
set_option maxRecDepth 100000 in
theorem c_X0_hasPostedPage (l : Launch) (dC : Nat → ClassId) (dI : Nat → Nat → Nat) (h0 : Nat) (rs : Nat) (fp : Nat) (tq : Nat) (nq : Nat) (pg : Nat) (sz : Nat) (ht : tq < 8) (hn : nq ≤ 8) (hf : fp ≤ 16) (hg : pg < 24) : Met l yX0_hasPostedPage wsX0_hasPostedPage ({ frames := 0, cells := 0, slots := 0, locals := 0 }) (va_Pc [.ref h0, .int (nI pg)] (fun U => U.heap.size = sz ∧ va_P (dC, dI) vwCl [(h0, .inr (0, [.int (nI rs), .int (nI fp), .int (nI tq), .int (nI nq)]))] U.heap ∧ va_K (dC, dI) vwCl [] U ∧ va_D (fun _ => True) [(h0, .inr (0, [.int (nI rs), .int (nI fp), .int (nI tq), .int (nI nq)]))])) (va_Qi (fun (r9 : Int32) (_ : Unit) => r9 = b01 (opn fp tq nq pg)) (fun _ t => va_P (dC, dI) vwCl [(h0, .inr (0, [.int (nI rs), .int (nI fp), .int (nI tq), .int (nI nq)]))] t.heap ∧ va_K (dC, dI) vwCl [] t ∧ va_D (va_A [(h0, .inr (0, [.int (nI rs), .int (nI fp), .int (nI tq), .int (nI nq)]))] sz) [(h0, .inr (0, [.int (nI rs), .int (nI fp), .int (nI tq), .int (nI nq)]))]) (va_A [(h0, .inr (0, [.int (nI rs), .int (nI fp), .int (nI tq), .int (nI nq)]))] sz)) 0 0 (va_A [(h0, .inr (0, [.int (nI rs), .int (nI fp), .int (nI tq), .int (nI nq)]))] sz) := by
  refine Met.ofW (cc := cX0_hasPostedPage) (maxL := 3) (ret := (some .boolean)) (by decide) rfl ?_
  intro p e s m args below meth c s₁ B hml hv
  obtain ⟨rfl, hsz, hP, hK, hD0⟩ := hv
  have hx := B.exec
  have hb := B.bytes
  have hr := B.returns
  have hts := atoms_spec (ws := wsX0_hasPostedPage) B.pre
  have hown : s.vm.findClass RX0 = some m.cls := findClass_of_methodNamed B.named
  have hlocks := B.notSynchronized
  have hI0 : ∀ w ∈ u_ws RX0 TX0 4, w ∈ wsX0_hasPostedPage := by decide +kernel
  subst hsz
  have hD := hD0.self (sz := s.heap.size)
  generalize hAe : va_A [(h0, .inr (0, [.int (nI rs), .int (nI fp), .int (nI tq), .int (nI nq)]))] s.heap.size = A at hD ⊢
  have hA : ∀ q : Nat, s.heap.size ≤ q → A q := fun q h => by rw [← hAe]; exact Or.inr h
  have hS : va_S A s.heap s.heap [] := va_S.rf
  have hP : va_P (dC, dI) vwCl [(h0, .inr (0, [.int (nI rs), .int (nI fp), .int (nI tq), .int (nI nq)]))] s.heap := hP
  have hl := lv_entry ([.ref h0, .int (nI pg)]) (n := 3) (Nat.le_of_ble_eq_true rfl)
  rw [lg_entry_eq]
  generalize (lg_sl ([.ref h0, .int (nI pg)]) ++ List.replicate (3 - (lg_sl ([.ref h0, .int (nI pg)])).length) Slot.unset).toArray = ls at hl ⊢
  have hl : lv_has ls 3 [(0, .ref h0), (1, .int (nI pg))] := hl
  rcases Nat.lt_or_ge pg fp with hlo | hlo
  · refine lv_iload_n hx hb dX0_hasPostedPage_0 rfl (lv_at hl 1 rfl) ?_
    refine lv_aload_n hx hb dX0_hasPostedPage_1 rfl (lv_at hl 0 rfl) ?_
    refine va_get (D := (dC, dI)) (ci := 0) (v := .int (nI fp)) (C := RX0) (T := TX0) (N := 4) hx hb hts hI0 hown hK hP 0 rfl rfl 1 (by decide) (hts (.fieldLink RX0 15 "RingDriver$SlotQueue" "firstPage" "I") (by decide +kernel)) (fun _ h9 => h9) rfl dX0_hasPostedPage_2 ?_
    refine lv_isub hx hb dX0_hasPostedPage_5 ?_
    refine lv_topi (fun y_1 ey_1 => ?_)
    obtain rfl := ey_1.trans (rfl)
    refine lv_istore_n (lv' := [(2, .int ((nI pg - nI fp))), (0, .ref h0), (1, .int (nI pg))]) hx hb dX0_hasPostedPage_6 rfl hl (by decide) rfl (fun ls hl => ?_)
    refine lv_iload_n hx hb dX0_hasPostedPage_7 rfl (lv_at hl 0 rfl) ?_
    refine lv_if_lt (tgt := 37) hx hb dX0_hasPostedPage_8 (by decide) (fun c_2 => ?_) (fun c_2 => ?_)
    · refine lv_iconst (v := nI 0) hx hb dX0_hasPostedPage_37 (by decide +kernel) ?_
      have hP9 := hP.sub (ws' := [(h0, .inr (0, [.int (nI rs), .int (nI fp), .int (nI tq), .int (nI nq)]))]) [0] rfl
      have hD9 := hD.sub (ws' := [(h0, .inr (0, [.int (nI rs), .int (nI fp), .int (nI tq), .int (nI nq)]))]) [0] (by decide) rfl
      have hK9 := hK.sub (tys' := []) [] rfl
      have e_3 : nI 0 = b01 (opn fp tq nq pg) := b01_f (opn_n (by omega))
      exact W.zret (v := nI 0) (ty := .boolean) hx hb hr (by decide +kernel) (fun t ht hW => ⟨⟨_, (), rfl, e_3, by rw [ht]; exact hP9, va_K.moved hW.alike hK9, hD9⟩, hS.F ht⟩) hS.2.2 dX0_hasPostedPage_38
    · exact absurd (pk_sneg (by omega) hlo) c_2
  · refine lv_iload_n hx hb dX0_hasPostedPage_0 rfl (lv_at hl 1 rfl) ?_
    refine lv_aload_n hx hb dX0_hasPostedPage_1 rfl (lv_at hl 0 rfl) ?_
    refine va_get (D := (dC, dI)) (ci := 0) (v := .int (nI fp)) (C := RX0) (T := TX0) (N := 4) hx hb hts hI0 hown hK hP 0 rfl rfl 1 (by decide) (hts (.fieldLink RX0 15 "RingDriver$SlotQueue" "firstPage" "I") (by decide +kernel)) (fun _ h9 => h9) rfl dX0_hasPostedPage_2 ?_
    refine lv_isub hx hb dX0_hasPostedPage_5 ?_
    refine lv_topi (fun y_4 ey_4 => ?_)
    obtain rfl := ey_4.trans (pk_sub (a := pg) (b := fp) (by omega))
    refine lv_istore_n (lv' := [(2, .int (nI (pg - fp))), (0, .ref h0), (1, .int (nI pg))]) hx hb dX0_hasPostedPage_6 rfl hl (by decide) rfl (fun ls hl => ?_)
    refine lv_iload_n hx hb dX0_hasPostedPage_7 rfl (lv_at hl 0 rfl) ?_
    refine lv_if_lt (tgt := 37) hx hb dX0_hasPostedPage_8 (by decide) (fun c_5 => ?_) (fun c_5 => ?_)
    · exact absurd c_5 (nI_pos (by omega))
    · refine lv_iload_n hx hb dX0_hasPostedPage_11 rfl (lv_at hl 0 rfl) ?_
      refine lv_bipush (v := nI 8) hx hb dX0_hasPostedPage_12 (by decide +kernel) ?_
      refine lv_icmp_ge (tgt := 37) hx hb dX0_hasPostedPage_14 (by decide) (fun c_6 => ?_) (fun c_6 => ?_)
      · have c_6 : 8 ≤ (pg - fp) := (nI_leI (a := 8) (b := (pg - fp)) (by omega) (by omega)).mp c_6
        refine lv_iconst (v := nI 0) hx hb dX0_hasPostedPage_37 (by decide +kernel) ?_
        have hP9 := hP.sub (ws' := [(h0, .inr (0, [.int (nI rs), .int (nI fp), .int (nI tq), .int (nI nq)]))]) [0] rfl
        have hD9 := hD.sub (ws' := [(h0, .inr (0, [.int (nI rs), .int (nI fp), .int (nI tq), .int (nI nq)]))]) [0] (by decide) rfl
        have hK9 := hK.sub (tys' := []) [] rfl
        have e_7 : nI 0 = b01 (opn fp tq nq pg) := b01_f (opn_n (by omega))
        exact W.zret (v := nI 0) (ty := .boolean) hx hb hr (by decide +kernel) (fun t ht hW => ⟨⟨_, (), rfl, e_7, by rw [ht]; exact hP9, va_K.moved hW.alike hK9, hD9⟩, hS.F ht⟩) hS.2.2 dX0_hasPostedPage_38
      · have c_6 : ¬ (8 ≤ (pg - fp)) := fun h9 => c_6 ((nI_leI (a := 8) (b := (pg - fp)) (by omega) (by omega)).mpr h9)
        refine lv_iload_n hx hb dX0_hasPostedPage_17 rfl (lv_at hl 0 rfl) ?_
        refine lv_aload_n hx hb dX0_hasPostedPage_18 rfl (lv_at hl 1 rfl) ?_
        refine va_get (D := (dC, dI)) (ci := 0) (v := .int (nI tq)) (C := RX0) (T := TX0) (N := 4) hx hb hts hI0 hown hK hP 0 rfl rfl 2 (by decide) (hts (.fieldLink RX0 18 "RingDriver$SlotQueue" "oldest" "I") (by decide +kernel)) (fun _ h9 => h9) rfl dX0_hasPostedPage_19 ?_
        refine lv_isub hx hb dX0_hasPostedPage_22 ?_
        refine lv_topi (fun y_8 ey_8 => ?_)
        obtain rfl := ey_8.trans (rfl)
        refine lv_bipush (v := nI 7) hx hb dX0_hasPostedPage_23 (by decide +kernel) ?_
        refine lv_iand hx hb dX0_hasPostedPage_25 ?_
        refine lv_topi (fun y_9 ey_9 => ?_)
        obtain rfl := ey_9.trans (n_sub7 (pg - fp) (by omega) tq (by omega))
        refine lv_aload_n hx hb dX0_hasPostedPage_26 rfl (lv_at hl 1 rfl) ?_
        refine va_get (D := (dC, dI)) (ci := 0) (v := .int (nI nq)) (C := RX0) (T := TX0) (N := 4) hx hb hts hI0 hown hK hP 0 rfl rfl 3 (by decide) (hts (.fieldLink RX0 21 "RingDriver$SlotQueue" "posted" "I") (by decide +kernel)) (fun _ h9 => h9) rfl dX0_hasPostedPage_27 ?_
        refine lv_icmp_ge (tgt := 37) hx hb dX0_hasPostedPage_30 (by decide) (fun c_10 => ?_) (fun c_10 => ?_)
        · have c_10 : nq ≤ ((pg - fp + 8 - tq) % 8) := (nI_leI (a := nq) (b := ((pg - fp + 8 - tq) % 8)) (by omega) (by omega)).mp c_10
          refine lv_iconst (v := nI 0) hx hb dX0_hasPostedPage_37 (by decide +kernel) ?_
          have hP9 := hP.sub (ws' := [(h0, .inr (0, [.int (nI rs), .int (nI fp), .int (nI tq), .int (nI nq)]))]) [0] rfl
          have hD9 := hD.sub (ws' := [(h0, .inr (0, [.int (nI rs), .int (nI fp), .int (nI tq), .int (nI nq)]))]) [0] (by decide) rfl
          have hK9 := hK.sub (tys' := []) [] rfl
          have e_11 : nI 0 = b01 (opn fp tq nq pg) := b01_f (opn_n (by omega))
          exact W.zret (v := nI 0) (ty := .boolean) hx hb hr (by decide +kernel) (fun t ht hW => ⟨⟨_, (), rfl, e_11, by rw [ht]; exact hP9, va_K.moved hW.alike hK9, hD9⟩, hS.F ht⟩) hS.2.2 dX0_hasPostedPage_38
        · have c_10 : ¬ (nq ≤ ((pg - fp + 8 - tq) % 8)) := fun h9 => c_10 ((nI_leI (a := nq) (b := ((pg - fp + 8 - tq) % 8)) (by omega) (by omega)).mpr h9)
          refine lv_iconst (v := nI 1) hx hb dX0_hasPostedPage_33 (by decide +kernel) ?_
          refine lv_goto (tgt := 38) hx hb dX0_hasPostedPage_34 (by decide) ?_
          have hP9 := hP.sub (ws' := [(h0, .inr (0, [.int (nI rs), .int (nI fp), .int (nI tq), .int (nI nq)]))]) [0] rfl
          have hD9 := hD.sub (ws' := [(h0, .inr (0, [.int (nI rs), .int (nI fp), .int (nI tq), .int (nI nq)]))]) [0] (by decide) rfl
          have hK9 := hK.sub (tys' := []) [] rfl
          have e_12 : nI 1 = b01 (opn fp tq nq pg) := b01_t (opn_y (by omega))
          exact W.zret (v := nI 1) (ty := .boolean) hx hb hr (by decide +kernel) (fun t ht hW => ⟨⟨_, (), rfl, e_12, by rw [ht]; exact hP9, va_K.moved hW.alike hK9, hD9⟩, hS.F ht⟩) hS.2.2 dX0_hasPostedPage_38
set_option maxHeartbeats 4000000 in
set_option maxRecDepth 100000 in
theorem c_X0_addNext (l : Launch) (dC : Nat → ClassId) (dI : Nat → Nat → Nat) (h0 : Nat) (rs : Nat) (fp : Nat) (tq : Nat) (nq : Nat) (sz : Nat) (hn : nq < 8) : Met l yX0_addNext wsX0_addNext ({ frames := 0, cells := 0, slots := 0, locals := 0 }) (va_Pc [.ref h0] (fun U => U.heap.size = sz ∧ va_P (dC, dI) vwCl [(h0, .inr (0, [.int (nI rs), .int (nI fp), .int (nI tq), .int (nI nq)]))] U.heap ∧ va_K (dC, dI) vwCl [] U ∧ va_D (fun _ => True) [(h0, .inr (0, [.int (nI rs), .int (nI fp), .int (nI tq), .int (nI nq)]))])) (va_Qv (fun (_ : Unit) => True) (fun _ t => va_P (dC, dI) vwCl [(h0, .inr (0, [.int (nI rs), .int (nI fp), .int (nI tq), .int (nI (nq + 1))]))] t.heap ∧ va_K (dC, dI) vwCl [] t ∧ va_D (va_A [(h0, .inr (0, [.int (nI rs), .int (nI fp), .int (nI tq), .int (nI nq)]))] sz) [(h0, .inr (0, [.int (nI rs), .int (nI fp), .int (nI tq), .int (nI (nq + 1))]))]) (va_A [(h0, .inr (0, [.int (nI rs), .int (nI fp), .int (nI tq), .int (nI nq)]))] sz)) 0 0 (va_A [(h0, .inr (0, [.int (nI rs), .int (nI fp), .int (nI tq), .int (nI nq)]))] sz) := by
  refine Met.ofW (cc := cX0_addNext) (maxL := 1) (ret := none) (by decide) rfl ?_
  intro p e s m args below meth c s₁ B hml hv
  obtain ⟨rfl, hsz, hP, hK, hD0⟩ := hv
  have hx := B.exec
  have hb := B.bytes
  have hr := B.returns
  have hts := atoms_spec (ws := wsX0_addNext) B.pre
  have hown : s.vm.findClass RX0 = some m.cls := findClass_of_methodNamed B.named
  have hlocks := B.notSynchronized
  have hI0 : ∀ w ∈ u_ws RX0 TX0 4, w ∈ wsX0_addNext := by decide +kernel
  subst hsz
  have hD := hD0.self (sz := s.heap.size)
  generalize hAe : va_A [(h0, .inr (0, [.int (nI rs), .int (nI fp), .int (nI tq), .int (nI nq)]))] s.heap.size = A at hD ⊢
  have hA : ∀ q : Nat, s.heap.size ≤ q → A q := fun q h => by rw [← hAe]; exact Or.inr h
  have hS : va_S A s.heap s.heap [] := va_S.rf
  have hP : va_P (dC, dI) vwCl [(h0, .inr (0, [.int (nI rs), .int (nI fp), .int (nI tq), .int (nI nq)]))] s.heap := hP
  have hl := lv_entry ([.ref h0]) (n := 1) (Nat.le_of_ble_eq_true rfl)
  rw [lg_entry_eq]
  generalize (lg_sl ([.ref h0]) ++ List.replicate (1 - (lg_sl ([.ref h0])).length) Slot.unset).toArray = ls at hl ⊢
  have hl : lv_has ls 1 [(0, .ref h0)] := hl
  refine lv_aload_n hx hb dX0_addNext_0 rfl (lv_at hl 0 rfl) ?_
  refine lv_dup hx hb dX0_addNext_1 rfl ?_
  refine va_get (D := (dC, dI)) (ci := 0) (v := .int (nI nq)) (C := RX0) (T := TX0) (N := 4) hx hb hts hI0 hown hK hP 0 rfl rfl 3 (by decide) (hts (.fieldLink RX0 21 "RingDriver$SlotQueue" "posted" "I") (by decide +kernel)) (fun _ h9 => h9) rfl dX0_addNext_2 ?_
  refine lv_iconst (v := nI 1) hx hb dX0_addNext_5 (by decide +kernel) ?_
  refine lv_iadd hx hb dX0_addNext_6 ?_
  refine lv_topi (fun y_1 ey_1 => ?_)
  obtain rfl := ey_1.trans (nI_add nq 1)
  refine va_put (D := (dC, dI)) (ci := 0) (v := .int (nI (nq + 1))) (ty := .int) (C := RX0) (T := TX0) (N := 4) hx hb hts hI0 tyX0 tyX0_ok nmX0 hown hK hP hD hS 0 rfl rfl 3 (by decide) (hts (.fieldLink RX0 21 "RingDriver$SlotQueue" "posted" "I") (by decide +kernel)) (fun _ h9 => h9) rfl (by decide +kernel) rfl rfl (Nat.le_of_ble_eq_true rfl) dX0_addNext_7 (fun H locs hP hD hS => ?_)
  have hP : va_P (dC, dI) vwCl [(h0, .inr (0, [.int (nI rs), .int (nI fp), .int (nI tq), .int (nI (nq + 1))]))] H := hP
  have hD : va_D A [(h0, .inr (0, [.int (nI rs), .int (nI fp), .int (nI tq), .int (nI (nq + 1))]))] := hD
  have hP9 := hP.sub (ws' := [(h0, .inr (0, [.int (nI rs), .int (nI fp), .int (nI tq), .int (nI (nq + 1))]))]) [0] rfl
  have hD9 := hD.sub (ws' := [(h0, .inr (0, [.int (nI rs), .int (nI fp), .int (nI tq), .int (nI (nq + 1))]))]) [0] (by decide) rfl
  have hK9 := hK.sub (tys' := []) [] rfl
  exact W.vret hx hb hr (fun t ht hW => ⟨⟨(), rfl, trivial, by rw [ht]; exact hP9, va_K.moved hW.alike hK9, hD9⟩, hS.F ht⟩) hS.2.2 dX0_addNext_10
set_option maxHeartbeats 4000000 in
set_option maxRecDepth 100000 in
theorem c_X0_removeOldest (l : Launch) (dC : Nat → ClassId) (dI : Nat → Nat → Nat) (h0 : Nat) (rs : Nat) (fp : Nat) (tq : Nat) (nq : Nat) (sz : Nat) (ht : tq < 8) (hn : 0 < nq) (hn8 : nq ≤ 8) : Met l yX0_removeOldest wsX0_removeOldest ({ frames := 1, cells := 0, slots := 0, locals := 21 }) (va_Pc [.ref h0] (fun U => U.heap.size = sz ∧ va_P (dC, dI) vwCl [(h0, .inr (0, [.int (nI rs), .int (nI fp), .int (nI tq), .int (nI nq)]))] U.heap ∧ va_K (dC, dI) vwCl [] U ∧ va_D (fun _ => True) [(h0, .inr (0, [.int (nI rs), .int (nI fp), .int (nI tq), .int (nI nq)]))])) (va_Qv (fun (_ : Unit) => True) (fun _ t => va_P (dC, dI) vwCl [(h0, .inr (0, [.int (nI rs), .int (nI fp), .int (nI ((tq + 1) % 8)), .int (nI (nq - 1))]))] t.heap ∧ va_K (dC, dI) vwCl [] t ∧ va_D (va_A [(h0, .inr (0, [.int (nI rs), .int (nI fp), .int (nI tq), .int (nI nq)]))] sz) [(h0, .inr (0, [.int (nI rs), .int (nI fp), .int (nI ((tq + 1) % 8)), .int (nI (nq - 1))]))]) (va_A [(h0, .inr (0, [.int (nI rs), .int (nI fp), .int (nI tq), .int (nI nq)]))] sz)) 0 0 (va_A [(h0, .inr (0, [.int (nI rs), .int (nI fp), .int (nI tq), .int (nI nq)]))] sz) := by
  refine Met.ofW (cc := cX0_removeOldest) (maxL := 1) (ret := none) (by decide) rfl ?_
  intro p e s m args below meth c s₁ B hml hv
  obtain ⟨rfl, hsz, hP, hK, hD0⟩ := hv
  have hx := B.exec
  have hb := B.bytes
  have hr := B.returns
  have hts := atoms_spec (ws := wsX0_removeOldest) B.pre
  have hown : s.vm.findClass RX0 = some m.cls := findClass_of_methodNamed B.named
  have hlocks := B.notSynchronized
  have hI0 : ∀ w ∈ u_ws RX0 TX0 4, w ∈ wsX0_removeOldest := by decide +kernel
  subst hsz
  have hD := hD0.self (sz := s.heap.size)
  generalize hAe : va_A [(h0, .inr (0, [.int (nI rs), .int (nI fp), .int (nI tq), .int (nI nq)]))] s.heap.size = A at hD ⊢
  have hA : ∀ q : Nat, s.heap.size ≤ q → A q := fun q h => by rw [← hAe]; exact Or.inr h
  have hS : va_S A s.heap s.heap [] := va_S.rf
  have hP : va_P (dC, dI) vwCl [(h0, .inr (0, [.int (nI rs), .int (nI fp), .int (nI tq), .int (nI nq)]))] s.heap := hP
  have hl := lv_entry ([.ref h0]) (n := 1) (Nat.le_of_ble_eq_true rfl)
  rw [lg_entry_eq]
  generalize (lg_sl ([.ref h0]) ++ List.replicate (1 - (lg_sl ([.ref h0])).length) Slot.unset).toArray = ls at hl ⊢
  have hl : lv_has ls 1 [(0, .ref h0)] := hl
  refine lv_aload_n hx hb dX0_removeOldest_0 rfl (lv_at hl 0 rfl) ?_
  refine lv_aload_n hx hb dX0_removeOldest_1 rfl (lv_at hl 0 rfl) ?_
  refine lv_iconst (v := nI 1) hx hb dX0_removeOldest_2 (by decide +kernel) ?_
  have hPc := hP.sub (ws' := [(h0, .inr (0, [.int (nI rs), .int (nI fp), .int (nI tq), .int (nI nq)]))]) [0] rfl
  have hDc := hD.sub (ws' := [(h0, .inr (0, [.int (nI rs), .int (nI fp), .int (nI tq), .int (nI nq)]))]) [0] (by decide) rfl
  have hKc := hK.sub (tys' := []) [] rfl
  have hFc := va_free (wc := [(h0, .inr (0, [.int (nI rs), .int (nI fp), .int (nI tq), .int (nI nq)]))]) hD hS hA [0] rfl
  refine va_calli (va_runV (As := [.int (nI 1)]) (rest := [.ref h0]) ⟨hx, hb, hml, hown, hts⟩ (c_X0_slotAt l dC dI h0 rs fp tq nq 1 s.heap.size (by omega) (by omega)) (cwV 1 hts gX0_removeOldest_X0_slotAt rfl rfl rfl (by decide +kernel) ⟨Nat.le_of_ble_eq_true rfl, Nat.le_of_ble_eq_true rfl⟩) ⟨fun a U g mk q => by obtain ⟨q0, q1, qP, qK, qD⟩ := q; exact ⟨q0, q1, qP, va_K.moved (u := U) (U := U.calling g mk a) (Vm.Alike.refl U.vm) qK, qD⟩, va_recv hKc hPc (ci := 0) (q0 := 0) rfl rfl, fun U hU hW => ⟨rfl, by rw [hU], by rw [hU]; exact hPc, va_K.moved hW.alike hKc, hDc.weaken (fun _ _ _ _ => trivial)⟩⟩ rfl rfl hl.1 rfl (lv_room (Nat.le_of_ble_eq_true rfl)) dX0_removeOldest_3 ⟨Nat.le_of_ble_eq_true rfl, Nat.le_of_ble_eq_true rfl⟩) hS (fun q _ h => hFc q h) hFc (fun r_1 u t H1 locs ht hvm hw hB hz1 hk1 hS => ?_)
  obtain ⟨hP1, hK1, hD1⟩ := hB
  rw [ht] at hP1
  have hK1 := va_K.moved hvm.symm hK1
  obtain ⟨hP, hD⟩ := va_join (wr := []) (w1 := [(h0, .inr (0, [.int (nI rs), .int (nI fp), .int (nI tq), .int (nI nq)]))]) hP hD [0] [] rfl rfl (by decide) (by decide) hk1 hFc hP1 hD1
  have hK := (hK.sub (tys' := []) [] rfl).app hK1
  generalize H1 = H at hP hS ⊢
  have hP : va_P (dC, dI) vwCl [(h0, .inr (0, [.int (nI rs), .int (nI fp), .int (nI tq), .int (nI nq)]))] H := hP
  have hD : va_D A [(h0, .inr (0, [.int (nI rs), .int (nI fp), .int (nI tq), .int (nI nq)]))] := hD
  have hK : va_K (dC, dI) vwCl [] s := hK
  obtain rfl : r_1 = nI ((tq + 1) % 8) := hw
  refine va_put (D := (dC, dI)) (ci := 0) (v := .int (nI ((tq + 1) % 8))) (ty := .int) (C := RX0) (T := TX0) (N := 4) hx hb hts hI0 tyX0 tyX0_ok nmX0 hown hK hP hD hS 0 rfl rfl 2 (by decide) (hts (.fieldLink RX0 18 "RingDriver$SlotQueue" "oldest" "I") (by decide +kernel)) (fun _ h9 => h9) rfl (by decide +kernel) rfl rfl (Nat.le_of_ble_eq_true rfl) dX0_removeOldest_6 (fun H locs hP hD hS => ?_)
  have hP : va_P (dC, dI) vwCl [(h0, .inr (0, [.int (nI rs), .int (nI fp), .int (nI ((tq + 1) % 8)), .int (nI nq)]))] H := hP
  have hD : va_D A [(h0, .inr (0, [.int (nI rs), .int (nI fp), .int (nI ((tq + 1) % 8)), .int (nI nq)]))] := hD
  refine lv_aload_n hx hb dX0_removeOldest_9 rfl (lv_at hl 0 rfl) ?_
  refine lv_dup hx hb dX0_removeOldest_10 rfl ?_
  refine va_get (D := (dC, dI)) (ci := 0) (v := .int (nI nq)) (C := RX0) (T := TX0) (N := 4) hx hb hts hI0 hown hK hP 0 rfl rfl 3 (by decide) (hts (.fieldLink RX0 21 "RingDriver$SlotQueue" "posted" "I") (by decide +kernel)) (fun _ h9 => h9) rfl dX0_removeOldest_11 ?_
  refine lv_iconst (v := nI 1) hx hb dX0_removeOldest_14 (by decide +kernel) ?_
  refine lv_isub hx hb dX0_removeOldest_15 ?_
  refine lv_topi (fun y_2 ey_2 => ?_)
  obtain rfl := ey_2.trans (pk_sub (a := nq) (b := 1) (by omega))
  refine va_put (D := (dC, dI)) (ci := 0) (v := .int (nI (nq - 1))) (ty := .int) (C := RX0) (T := TX0) (N := 4) hx hb hts hI0 tyX0 tyX0_ok nmX0 hown hK hP hD hS 0 rfl rfl 3 (by decide) (hts (.fieldLink RX0 21 "RingDriver$SlotQueue" "posted" "I") (by decide +kernel)) (fun _ h9 => h9) rfl (by decide +kernel) rfl rfl (Nat.le_of_ble_eq_true rfl) dX0_removeOldest_16 (fun H locs hP hD hS => ?_)
  have hP : va_P (dC, dI) vwCl [(h0, .inr (0, [.int (nI rs), .int (nI fp), .int (nI ((tq + 1) % 8)), .int (nI (nq - 1))]))] H := hP
  have hD : va_D A [(h0, .inr (0, [.int (nI rs), .int (nI fp), .int (nI ((tq + 1) % 8)), .int (nI (nq - 1))]))] := hD
  have hP9 := hP.sub (ws' := [(h0, .inr (0, [.int (nI rs), .int (nI fp), .int (nI ((tq + 1) % 8)), .int (nI (nq - 1))]))]) [0] rfl
  have hD9 := hD.sub (ws' := [(h0, .inr (0, [.int (nI rs), .int (nI fp), .int (nI ((tq + 1) % 8)), .int (nI (nq - 1))]))]) [0] (by decide) rfl
  have hK9 := hK.sub (tys' := []) [] rfl
  exact W.vret hx hb hr (fun t ht hW => ⟨⟨(), rfl, trivial, by rw [ht]; exact hP9, va_K.moved hW.alike hK9, hD9⟩, hS.F ht⟩) hS.2.2 dX0_removeOldest_19
set_option maxHeartbeats 4000000 in
set_option maxRecDepth 100000 in
theorem c_X0_keepOldest (l : Launch) (dC : Nat → ClassId) (dI : Nat → Nat → Nat) (h0 : Nat) (rs : Nat) (fp : Nat) (tq : Nat) (nq : Nat) (pl : Nat) (sz : Nat)  : Met l yX0_keepOldest wsX0_keepOldest ({ frames := 0, cells := 0, slots := 0, locals := 0 }) (va_Pc [.ref h0, .int (nI pl)] (fun U => U.heap.size = sz ∧ va_P (dC, dI) vwCl [(h0, .inr (0, [.int (nI rs), .int (nI fp), .int (nI tq), .int (nI nq)]))] U.heap ∧ va_K (dC, dI) vwCl [] U ∧ va_D (fun _ => True) [(h0, .inr (0, [.int (nI rs), .int (nI fp), .int (nI tq), .int (nI nq)]))])) (va_Qv (fun (_ : Unit) => True) (fun _ t => va_P (dC, dI) vwCl [(h0, .inr (0, [.int (nI rs), .int (nI fp), .int (nI tq), .int (nI pl)]))] t.heap ∧ va_K (dC, dI) vwCl [] t ∧ va_D (va_A [(h0, .inr (0, [.int (nI rs), .int (nI fp), .int (nI tq), .int (nI nq)]))] sz) [(h0, .inr (0, [.int (nI rs), .int (nI fp), .int (nI tq), .int (nI pl)]))]) (va_A [(h0, .inr (0, [.int (nI rs), .int (nI fp), .int (nI tq), .int (nI nq)]))] sz)) 0 0 (va_A [(h0, .inr (0, [.int (nI rs), .int (nI fp), .int (nI tq), .int (nI nq)]))] sz) := by
  refine Met.ofW (cc := cX0_keepOldest) (maxL := 2) (ret := none) (by decide) rfl ?_
  intro p e s m args below meth c s₁ B hml hv
  obtain ⟨rfl, hsz, hP, hK, hD0⟩ := hv
  have hx := B.exec
  have hb := B.bytes
  have hr := B.returns
  have hts := atoms_spec (ws := wsX0_keepOldest) B.pre
  have hown : s.vm.findClass RX0 = some m.cls := findClass_of_methodNamed B.named
  have hlocks := B.notSynchronized
  have hI0 : ∀ w ∈ u_ws RX0 TX0 4, w ∈ wsX0_keepOldest := by decide +kernel
  subst hsz
  have hD := hD0.self (sz := s.heap.size)
  generalize hAe : va_A [(h0, .inr (0, [.int (nI rs), .int (nI fp), .int (nI tq), .int (nI nq)]))] s.heap.size = A at hD ⊢
  have hA : ∀ q : Nat, s.heap.size ≤ q → A q := fun q h => by rw [← hAe]; exact Or.inr h
  have hS : va_S A s.heap s.heap [] := va_S.rf
  have hP : va_P (dC, dI) vwCl [(h0, .inr (0, [.int (nI rs), .int (nI fp), .int (nI tq), .int (nI nq)]))] s.heap := hP
  have hl := lv_entry ([.ref h0, .int (nI pl)]) (n := 2) (Nat.le_of_ble_eq_true rfl)
  rw [lg_entry_eq]
  generalize (lg_sl ([.ref h0, .int (nI pl)]) ++ List.replicate (2 - (lg_sl ([.ref h0, .int (nI pl)])).length) Slot.unset).toArray = ls at hl ⊢
  have hl : lv_has ls 2 [(0, .ref h0), (1, .int (nI pl))] := hl
  refine lv_aload_n hx hb dX0_keepOldest_0 rfl (lv_at hl 0 rfl) ?_
  refine lv_iload_n hx hb dX0_keepOldest_1 rfl (lv_at hl 1 rfl) ?_
  refine va_put (D := (dC, dI)) (ci := 0) (v := .int (nI pl)) (ty := .int) (C := RX0) (T := TX0) (N := 4) hx hb hts hI0 tyX0 tyX0_ok nmX0 hown hK hP hD hS 0 rfl rfl 3 (by decide) (hts (.fieldLink RX0 21 "RingDriver$SlotQueue" "posted" "I") (by decide +kernel)) (fun _ h9 => h9) rfl (by decide +kernel) rfl rfl (Nat.le_of_ble_eq_true rfl) dX0_keepOldest_2 (fun H locs hP hD hS => ?_)
  have hP : va_P (dC, dI) vwCl [(h0, .inr (0, [.int (nI rs), .int (nI fp), .int (nI tq), .int (nI pl)]))] H := hP
  have hD : va_D A [(h0, .inr (0, [.int (nI rs), .int (nI fp), .int (nI tq), .int (nI pl)]))] := hD
  have hP9 := hP.sub (ws' := [(h0, .inr (0, [.int (nI rs), .int (nI fp), .int (nI tq), .int (nI pl)]))]) [0] rfl
  have hD9 := hD.sub (ws' := [(h0, .inr (0, [.int (nI rs), .int (nI fp), .int (nI tq), .int (nI pl)]))]) [0] (by decide) rfl
  have hK9 := hK.sub (tys' := []) [] rfl
  exact W.vret hx hb hr (fun t ht hW => ⟨⟨(), rfl, trivial, by rw [ht]; exact hP9, va_K.moved hW.alike hK9, hD9⟩, hS.F ht⟩) hS.2.2 dX0_keepOldest_5
