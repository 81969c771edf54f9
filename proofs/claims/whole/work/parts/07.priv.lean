set_option maxHeartbeats 4000000 in
set_option maxRecDepth 100000 in
theorem c_X1_fault (l : Launch) (dC : Nat → ClassId) (dI : Nat → Nat → Nat) (aR : Nat) (aM : Nat) (aO : Nat) (aI : Nat) (aT : Nat) (aE : Nat) (ff : Int32) (sz : Nat)  : Met l yX1_fault wsX1_fault ({ frames := 0, cells := 0, slots := 0, locals := 0 }) (va_Pc [.ref aR] (fun U => U.heap.size = sz ∧ va_P (dC, dI) vwCl [(aR, .inr (1, [.ref aM, .ref aO, .ref aI, .ref aT, .ref aE, .int ff]))] U.heap ∧ va_K (dC, dI) vwCl [] U ∧ va_D (fun _ => True) [(aR, .inr (1, [.ref aM, .ref aO, .ref aI, .ref aT, .ref aE, .int ff]))])) (va_Qi (fun (r9 : Int32) (_ : Unit) => r9 = (-1)) (fun _ t => va_P (dC, dI) vwCl [(aR, .inr (1, [.ref aM, .ref aO, .ref aI, .ref aT, .ref aE, .int ((ff + nI 1))]))] t.heap ∧ va_K (dC, dI) vwCl [] t ∧ va_D (va_A [(aR, .inr (1, [.ref aM, .ref aO, .ref aI, .ref aT, .ref aE, .int ff]))] sz) [(aR, .inr (1, [.ref aM, .ref aO, .ref aI, .ref aT, .ref aE, .int ((ff + nI 1))]))]) (va_A [(aR, .inr (1, [.ref aM, .ref aO, .ref aI, .ref aT, .ref aE, .int ff]))] sz)) 0 0 (va_A [(aR, .inr (1, [.ref aM, .ref aO, .ref aI, .ref aT, .ref aE, .int ff]))] sz) := by
  refine Met.ofW (cc := cX1_fault) (maxL := 1) (ret := (some .int)) (by decide) rfl ?_
  intro p e s m args below meth c s₁ B hml hv
  obtain ⟨rfl, hsz, hP, hK, hD0⟩ := hv
  have hx := B.exec
  have hb := B.bytes
  have hr := B.returns
  have hts := atoms_spec (ws := wsX1_fault) B.pre
  have hown : s.vm.findClass RX1 = some m.cls := findClass_of_methodNamed B.named
  have hlocks := B.notSynchronized
  have hI1 : ∀ w ∈ u_ws RX1 TX1 6, w ∈ wsX1_fault := by decide +kernel
  subst hsz
  have hD := hD0.self (sz := s.heap.size)
  generalize hAe : va_A [(aR, .inr (1, [.ref aM, .ref aO, .ref aI, .ref aT, .ref aE, .int ff]))] s.heap.size = A at hD ⊢
  have hA : ∀ q : Nat, s.heap.size ≤ q → A q := fun q h => by rw [← hAe]; exact Or.inr h
  have hS : va_S A s.heap s.heap [] := va_S.rf
  have hP : va_P (dC, dI) vwCl [(aR, .inr (1, [.ref aM, .ref aO, .ref aI, .ref aT, .ref aE, .int ff]))] s.heap := hP
  have hl := lv_entry ([.ref aR]) (n := 1) (Nat.le_of_ble_eq_true rfl)
  rw [lg_entry_eq]
  generalize (lg_sl ([.ref aR]) ++ List.replicate (1 - (lg_sl ([.ref aR])).length) Slot.unset).toArray = ls at hl ⊢
  have hl : lv_has ls 1 [(0, .ref aR)] := hl
  refine lv_aload_n hx hb dX1_fault_0 rfl (lv_at hl 0 rfl) ?_
  refine lv_dup hx hb dX1_fault_1 rfl ?_
  refine va_get (D := (dC, dI)) (ci := 1) (v := .int ff) (C := RX1) (T := TX1) (N := 6) hx hb hts hI1 hown hK hP 0 rfl rfl 5 (by decide) (hts (.fieldLink RX1 31 "RingDriver" "faultCount" "I") (by decide +kernel)) (fun _ h9 => h9) rfl dX1_fault_2 ?_
  refine lv_iconst (v := nI 1) hx hb dX1_fault_5 (by decide +kernel) ?_
  refine lv_iadd hx hb dX1_fault_6 ?_
  refine lv_topi (fun y_1 ey_1 => ?_)
  obtain rfl := ey_1.trans (rfl)
  refine va_put (D := (dC, dI)) (ci := 1) (v := .int ((ff + nI 1))) (ty := .int) (C := RX1) (T := TX1) (N := 6) hx hb hts hI1 tyX1 tyX1_ok nmX1 hown hK hP hD hS 0 rfl rfl 5 (by decide) (hts (.fieldLink RX1 31 "RingDriver" "faultCount" "I") (by decide +kernel)) (fun _ h9 => h9) rfl (by decide +kernel) rfl rfl (Nat.le_of_ble_eq_true rfl) dX1_fault_7 (fun H locs hP hD hS => ?_)
  have hP : va_P (dC, dI) vwCl [(aR, .inr (1, [.ref aM, .ref aO, .ref aI, .ref aT, .ref aE, .int ((ff + nI 1))]))] H := hP
  have hD : va_D A [(aR, .inr (1, [.ref aM, .ref aO, .ref aI, .ref aT, .ref aE, .int ((ff + nI 1))]))] := hD
  refine lv_iconst (v := (-1)) hx hb dX1_fault_10 (by decide +kernel) ?_
  have hP9 := hP.sub (ws' := [(aR, .inr (1, [.ref aM, .ref aO, .ref aI, .ref aT, .ref aE, .int ((ff + nI 1))]))]) [0] rfl
  have hD9 := hD.sub (ws' := [(aR, .inr (1, [.ref aM, .ref aO, .ref aI, .ref aT, .ref aE, .int ((ff + nI 1))]))]) [0] (by decide) rfl
  have hK9 := hK.sub (tys' := []) [] rfl
  have e_2 : ((-1) : Int32) = (-1) := rfl
  exact W.iret (v := (-1)) hx hb hr (fun t ht hW => ⟨⟨_, (), rfl, e_2, by rw [ht]; exact hP9, va_K.moved hW.alike hK9, hD9⟩, hS.F ht⟩) hS.2.2 dX1_fault_11
set_option maxHeartbeats 4000000 in
set_option maxRecDepth 100000 in
theorem c_X1_isOpen (l : Launch) (dC : Nat → ClassId) (dI : Nat → Nat → Nat) (aQ : Nat) (rs : Nat) (fp : Nat) (tq : Nat) (nq : Nat) (aa : Nat) (sz : Nat) (hht : tq < 8) (hhn : nq ≤ 8) (hhf : fp ≤ 16) (haa : aa < 384) : Met l yX1_isOpen wsX1_isOpen ({ frames := 1, cells := 0, slots := 0, locals := 22 }) (va_Pc [.int (nI aa), .ref aQ] (fun U => U.heap.size = sz ∧ va_P (dC, dI) vwCl [(aQ, .inr (0, [.int (nI rs), .int (nI fp), .int (nI tq), .int (nI nq)]))] U.heap ∧ va_K (dC, dI) vwCl [] U ∧ va_D (fun _ => True) [(aQ, .inr (0, [.int (nI rs), .int (nI fp), .int (nI tq), .int (nI nq)]))])) (va_Qi (fun (r9 : Int32) (_ : Unit) => r9 = b01 (ropn fp tq nq aa)) (fun _ t => va_P (dC, dI) vwCl [(aQ, .inr (0, [.int (nI rs), .int (nI fp), .int (nI tq), .int (nI nq)]))] t.heap ∧ va_K (dC, dI) vwCl [] t ∧ va_D (va_A [(aQ, .inr (0, [.int (nI rs), .int (nI fp), .int (nI tq), .int (nI nq)]))] sz) [(aQ, .inr (0, [.int (nI rs), .int (nI fp), .int (nI tq), .int (nI nq)]))]) (va_A [(aQ, .inr (0, [.int (nI rs), .int (nI fp), .int (nI tq), .int (nI nq)]))] sz)) 0 0 (va_A [(aQ, .inr (0, [.int (nI rs), .int (nI fp), .int (nI tq), .int (nI nq)]))] sz) := by
  refine Met.ofW (cc := cX1_isOpen) (maxL := 2) (ret := (some .boolean)) (by decide) rfl ?_
  intro p e s m args below meth c s₁ B hml hv
  obtain ⟨rfl, hsz, hP, hK, hD0⟩ := hv
  have hx := B.exec
  have hb := B.bytes
  have hr := B.returns
  have hts := atoms_spec (ws := wsX1_isOpen) B.pre
  have hown : s.vm.findClass RX1 = some m.cls := findClass_of_methodNamed B.named
  have hlocks := B.notSynchronized
  subst hsz
  have hD := hD0.self (sz := s.heap.size)
  generalize hAe : va_A [(aQ, .inr (0, [.int (nI rs), .int (nI fp), .int (nI tq), .int (nI nq)]))] s.heap.size = A at hD ⊢
  have hA : ∀ q : Nat, s.heap.size ≤ q → A q := fun q h => by rw [← hAe]; exact Or.inr h
  have hS : va_S A s.heap s.heap [] := va_S.rf
  have hP : va_P (dC, dI) vwCl [(aQ, .inr (0, [.int (nI rs), .int (nI fp), .int (nI tq), .int (nI nq)]))] s.heap := hP
  have hl := lv_entry ([.int (nI aa), .ref aQ]) (n := 2) (Nat.le_of_ble_eq_true rfl)
  rw [lg_entry_eq]
  generalize (lg_sl ([.int (nI aa), .ref aQ]) ++ List.replicate (2 - (lg_sl ([.int (nI aa), .ref aQ])).length) Slot.unset).toArray = ls at hl ⊢
  have hl : lv_has ls 2 [(0, .int (nI aa)), (1, .ref aQ)] := hl
  refine lv_iload_n hx hb dX1_isOpen_0 rfl (lv_at hl 0 rfl) ?_
  refine lv_sipush (v := nI 128) hx hb dX1_isOpen_1 (by decide +kernel) ?_
  refine lv_icmp_lt (tgt := 18) hx hb dX1_isOpen_4 (by decide) (fun c_1 => ?_) (fun c_1 => ?_)
  · have c_1 : aa < 128 := (nI_ltI (a := aa) (b := 128) (by omega) (by omega)).mp c_1
    refine lv_iconst (v := nI 1) hx hb dX1_isOpen_18 (by decide +kernel) ?_
    refine lv_goto (tgt := 23) hx hb dX1_isOpen_19 (by decide) ?_
    have hP9 := hP.sub (ws' := [(aQ, .inr (0, [.int (nI rs), .int (nI fp), .int (nI tq), .int (nI nq)]))]) [0] rfl
    have hD9 := hD.sub (ws' := [(aQ, .inr (0, [.int (nI rs), .int (nI fp), .int (nI tq), .int (nI nq)]))]) [0] (by decide) rfl
    have hK9 := hK.sub (tys' := []) [] rfl
    have e_2 : (nI 1 : Int32) = b01 (ropn fp tq nq aa) := b01_t (by first | exact ropn_lo (by omega) | exact (ropn_hi (by omega)).trans (by assumption))
    exact W.zret (v := nI 1) (ty := .boolean) hx hb hr (by decide +kernel) (fun t ht hW => ⟨⟨_, (), rfl, e_2, by rw [ht]; exact hP9, va_K.moved hW.alike hK9, hD9⟩, hS.F ht⟩) hS.2.2 dX1_isOpen_23
  · have c_1 : ¬ (aa < 128) := fun h9 => c_1 ((nI_ltI (a := aa) (b := 128) (by omega) (by omega)).mpr h9)
    refine lv_aload_n hx hb dX1_isOpen_7 rfl (lv_at hl 1 rfl) ?_
    refine lv_iload_n hx hb dX1_isOpen_8 rfl (lv_at hl 0 rfl) ?_
    refine lv_bipush (v := nI 16) hx hb dX1_isOpen_9 (by decide +kernel) ?_
    refine lv_idiv hx hb dX1_isOpen_11 (by decide +kernel) ?_
    refine lv_topi (fun y_3 ey_3 => ?_)
    obtain rfl := ey_3.trans (pk_div (a := aa) (d := 16) (by omega) (by decide) (by decide))
    have hPc := hP.sub (ws' := [(aQ, .inr (0, [.int (nI rs), .int (nI fp), .int (nI tq), .int (nI nq)]))]) [0] rfl
    have hDc := hD.sub (ws' := [(aQ, .inr (0, [.int (nI rs), .int (nI fp), .int (nI tq), .int (nI nq)]))]) [0] (by decide) rfl
    have hKc := hK.sub (tys' := []) [] rfl
    have hFc := va_free (wc := [(aQ, .inr (0, [.int (nI rs), .int (nI fp), .int (nI tq), .int (nI nq)]))]) hD hS hA [0] rfl
    refine va_calli (va_runV (As := [.int (nI (aa / 16))]) (rest := []) ⟨hx, hb, hml, hown, hts⟩ (c_X0_hasPostedPage l dC dI aQ rs fp tq nq (aa / 16) s.heap.size (by omega) (by omega) (by omega) (by omega)) (cwV 1 hts gX1_isOpen_X0_hasPostedPage rfl rfl rfl (by decide +kernel) ⟨Nat.le_of_ble_eq_true rfl, Nat.le_of_ble_eq_true rfl⟩) ⟨fun a U g mk q => by obtain ⟨q0, q1, qP, qK, qD⟩ := q; exact ⟨q0, q1, qP, va_K.moved (u := U) (U := U.calling g mk a) (Vm.Alike.refl U.vm) qK, qD⟩, va_recv hKc hPc (ci := 0) (q0 := 0) rfl rfl, fun U hU hW => ⟨rfl, by rw [hU], by rw [hU]; exact hPc, va_K.moved hW.alike hKc, hDc.weaken (fun _ _ _ _ => trivial)⟩⟩ rfl rfl hl.1 rfl (lv_room (Nat.le_of_ble_eq_true rfl)) dX1_isOpen_12 ⟨Nat.le_of_ble_eq_true rfl, Nat.le_of_ble_eq_true rfl⟩) hS (fun q _ h => hFc q h) hFc (fun r_4 u t H1 locs ht hvm hw hB hz1 hk1 hS => ?_)
    obtain ⟨hP1, hK1, hD1⟩ := hB
    rw [ht] at hP1
    have hK1 := va_K.moved hvm.symm hK1
    obtain ⟨hP, hD⟩ := va_join (wr := []) (w1 := [(aQ, .inr (0, [.int (nI rs), .int (nI fp), .int (nI tq), .int (nI nq)]))]) hP hD [0] [] rfl rfl (by decide) (by decide) hk1 hFc hP1 hD1
    have hK := (hK.sub (tys' := []) [] rfl).app hK1
    generalize H1 = H at hP hS ⊢
    have hP : va_P (dC, dI) vwCl [(aQ, .inr (0, [.int (nI rs), .int (nI fp), .int (nI tq), .int (nI nq)]))] H := hP
    have hD : va_D A [(aQ, .inr (0, [.int (nI rs), .int (nI fp), .int (nI tq), .int (nI nq)]))] := hD
    have hK : va_K (dC, dI) vwCl [] s := hK
    obtain rfl : r_4 = b01 (opn fp tq nq (aa / 16)) := hw
    refine lv_if_eq (tgt := 22) hx hb dX1_isOpen_15 (by decide) (fun c_5 => ?_) (fun c_5 => ?_)
    · have c_5 := b01_e c_5
      refine lv_iconst (v := nI 0) hx hb dX1_isOpen_22 (by decide +kernel) ?_
      have hP9 := hP.sub (ws' := [(aQ, .inr (0, [.int (nI rs), .int (nI fp), .int (nI tq), .int (nI nq)]))]) [0] rfl
      have hD9 := hD.sub (ws' := [(aQ, .inr (0, [.int (nI rs), .int (nI fp), .int (nI tq), .int (nI nq)]))]) [0] (by decide) rfl
      have hK9 := hK.sub (tys' := []) [] rfl
      have e_6 : (nI 0 : Int32) = b01 (ropn fp tq nq aa) := b01_f ((ropn_hi (by omega)).trans (by assumption))
      exact W.zret (v := nI 0) (ty := .boolean) hx hb hr (by decide +kernel) (fun t ht hW => ⟨⟨_, (), rfl, e_6, by rw [ht]; exact hP9, va_K.moved hW.alike hK9, hD9⟩, hS.F ht⟩) hS.2.2 dX1_isOpen_23
    · have c_5 := b01_n c_5
      refine lv_iconst (v := nI 1) hx hb dX1_isOpen_18 (by decide +kernel) ?_
      refine lv_goto (tgt := 23) hx hb dX1_isOpen_19 (by decide) ?_
      have hP9 := hP.sub (ws' := [(aQ, .inr (0, [.int (nI rs), .int (nI fp), .int (nI tq), .int (nI nq)]))]) [0] rfl
      have hD9 := hD.sub (ws' := [(aQ, .inr (0, [.int (nI rs), .int (nI fp), .int (nI tq), .int (nI nq)]))]) [0] (by decide) rfl
      have hK9 := hK.sub (tys' := []) [] rfl
      have e_7 : (nI 1 : Int32) = b01 (ropn fp tq nq aa) := b01_t (by first | exact ropn_lo (by omega) | exact (ropn_hi (by omega)).trans (by assumption))
      exact W.zret (v := nI 1) (ty := .boolean) hx hb hr (by decide +kernel) (fun t ht hW => ⟨⟨_, (), rfl, e_7, by rw [ht]; exact hP9, va_K.moved hW.alike hK9, hD9⟩, hS.F ht⟩) hS.2.2 dX1_isOpen_23
set_option maxHeartbeats 4000000 in
set_option maxRecDepth 100000 in
theorem c_X1_isFrameLength (l : Launch) (dC : Nat → ClassId) (dI : Nat → Nat → Nat) (p0 : Int32) (k : Nat) (sz : Nat) (hk : LX p0 k) : Met l yX1_isFrameLength wsX1_isFrameLength ({ frames := 0, cells := 0, slots := 0, locals := 0 }) (va_Pc [.int p0] (fun U => U.heap.size = sz ∧ va_P (dC, dI) vwCl [] U.heap ∧ va_K (dC, dI) vwCl [] U ∧ va_D (fun _ => True) [])) (va_Qi (fun (r9 : Int32) (_ : Unit) => r9 = b01 (decide (0 < k))) (fun _ t => va_P (dC, dI) vwCl [] t.heap ∧ va_K (dC, dI) vwCl [] t ∧ va_D (va_A [] sz) []) (va_A [] sz)) 0 0 (va_A [] sz) := by
  refine Met.ofW (cc := cX1_isFrameLength) (maxL := 1) (ret := (some .boolean)) (by decide) rfl ?_
  intro p e s m args below meth c s₁ B hml hv
  obtain ⟨rfl, hsz, hP, hK, hD0⟩ := hv
  have hx := B.exec
  have hb := B.bytes
  have hr := B.returns
  have hts := atoms_spec (ws := wsX1_isFrameLength) B.pre
  have hown : s.vm.findClass RX1 = some m.cls := findClass_of_methodNamed B.named
  have hlocks := B.notSynchronized
  subst hsz
  have hD := hD0.self (sz := s.heap.size)
  generalize hAe : va_A [] s.heap.size = A at hD ⊢
  have hA : ∀ q : Nat, s.heap.size ≤ q → A q := fun q h => by rw [← hAe]; exact Or.inr h
  have hS : va_S A s.heap s.heap [] := va_S.rf
  have hP : va_P (dC, dI) vwCl [] s.heap := hP
  have hl := lv_entry ([.int p0]) (n := 1) (Nat.le_of_ble_eq_true rfl)
  rw [lg_entry_eq]
  generalize (lg_sl ([.int p0]) ++ List.replicate (1 - (lg_sl ([.int p0])).length) Slot.unset).toArray = ls at hl ⊢
  have hl : lv_has ls 1 [(0, .int p0)] := hl
  rcases hk with ⟨hlo, rfl⟩ | ⟨hhi, rfl⟩ | ⟨hkk, rfl⟩
  · refine lv_iload_n hx hb dX1_isFrameLength_0 rfl (lv_at hl 0 rfl) ?_
    refine lv_iconst (v := nI 1) hx hb dX1_isFrameLength_1 (by decide +kernel) ?_
    refine lv_icmp_lt (tgt := 15) hx hb dX1_isFrameLength_2 (by decide) (fun c_1 => ?_) (fun c_1 => ?_)
    · refine lv_iconst (v := nI 0) hx hb dX1_isFrameLength_15 (by decide +kernel) ?_
      have hP9 := hP.sub (ws' := []) [] rfl
      have hD9 := hD.sub (ws' := []) [] (by decide) rfl
      have hK9 := hK.sub (tys' := []) [] rfl
      have e_2 : (nI 0 : Int32) = b01 (decide (0 < 0)) := b01_f (decide_eq_false (by omega))
      exact W.zret (v := nI 0) (ty := .boolean) hx hb hr (by decide +kernel) (fun t ht hW => ⟨⟨_, (), rfl, e_2, by rw [ht]; exact hP9, va_K.moved hW.alike hK9, hD9⟩, hS.F ht⟩) hS.2.2 dX1_isFrameLength_16
    · exact absurd hlo c_1
  · refine lv_iload_n hx hb dX1_isFrameLength_0 rfl (lv_at hl 0 rfl) ?_
    refine lv_iconst (v := nI 1) hx hb dX1_isFrameLength_1 (by decide +kernel) ?_
    refine lv_icmp_lt (tgt := 15) hx hb dX1_isFrameLength_2 (by decide) (fun c_3 => ?_) (fun c_3 => ?_)
    · exact absurd c_3 hhi.1
    · refine lv_iload_n hx hb dX1_isFrameLength_5 rfl (lv_at hl 0 rfl) ?_
      refine lv_bipush (v := nI 16) hx hb dX1_isFrameLength_6 (by decide +kernel) ?_
      refine lv_icmp_gt (tgt := 15) hx hb dX1_isFrameLength_8 (by decide) (fun c_4 => ?_) (fun c_4 => ?_)
      · refine lv_iconst (v := nI 0) hx hb dX1_isFrameLength_15 (by decide +kernel) ?_
        have hP9 := hP.sub (ws' := []) [] rfl
        have hD9 := hD.sub (ws' := []) [] (by decide) rfl
        have hK9 := hK.sub (tys' := []) [] rfl
        have e_5 : (nI 0 : Int32) = b01 (decide (0 < 0)) := b01_f (decide_eq_false (by omega))
        exact W.zret (v := nI 0) (ty := .boolean) hx hb hr (by decide +kernel) (fun t ht hW => ⟨⟨_, (), rfl, e_5, by rw [ht]; exact hP9, va_K.moved hW.alike hK9, hD9⟩, hS.F ht⟩) hS.2.2 dX1_isFrameLength_16
      · exact absurd hhi.2 c_4
  · refine lv_iload_n hx hb dX1_isFrameLength_0 rfl (lv_at hl 0 rfl) ?_
    refine lv_iconst (v := nI 1) hx hb dX1_isFrameLength_1 (by decide +kernel) ?_
    refine lv_icmp_lt (tgt := 15) hx hb dX1_isFrameLength_2 (by decide) (fun c_6 => ?_) (fun c_6 => ?_)
    · have c_6 : k < 1 := (nI_ltI (a := k) (b := 1) (by omega) (by omega)).mp c_6
      exact absurd c_6 (by omega)
    · have c_6 : ¬ (k < 1) := fun h9 => c_6 ((nI_ltI (a := k) (b := 1) (by omega) (by omega)).mpr h9)
      refine lv_iload_n hx hb dX1_isFrameLength_5 rfl (lv_at hl 0 rfl) ?_
      refine lv_bipush (v := nI 16) hx hb dX1_isFrameLength_6 (by decide +kernel) ?_
      refine lv_icmp_gt (tgt := 15) hx hb dX1_isFrameLength_8 (by decide) (fun c_7 => ?_) (fun c_7 => ?_)
      · have c_7 : 16 < k := (nI_ltI (a := 16) (b := k) (by omega) (by omega)).mp c_7
        exact absurd c_7 (by omega)
      · have c_7 : ¬ (16 < k) := fun h9 => c_7 ((nI_ltI (a := 16) (b := k) (by omega) (by omega)).mpr h9)
        refine lv_iconst (v := nI 1) hx hb dX1_isFrameLength_11 (by decide +kernel) ?_
        refine lv_goto (tgt := 16) hx hb dX1_isFrameLength_12 (by decide) ?_
        have hP9 := hP.sub (ws' := []) [] rfl
        have hD9 := hD.sub (ws' := []) [] (by decide) rfl
        have hK9 := hK.sub (tys' := []) [] rfl
        have e_8 : (nI 1 : Int32) = b01 (decide (0 < k)) := b01_t (decide_eq_true (by omega))
        exact W.zret (v := nI 1) (ty := .boolean) hx hb hr (by decide +kernel) (fun t ht hW => ⟨⟨_, (), rfl, e_8, by rw [ht]; exact hP9, va_K.moved hW.alike hK9, hD9⟩, hS.F ht⟩) hS.2.2 dX1_isFrameLength_16
set_option maxHeartbeats 4000000 in
set_option maxRecDepth 100000 in
theorem c_X1_isGivenBack (l : Launch) (dC : Nat → ClassId) (dI : Nat → Nat → Nat) (aR : Nat) (aM : Nat) (aO : Nat) (aI : Nat) (aT : Nat) (aE : Nat) (ff : Int32) (kM : ClassId) (Mm : Nat → Nat) (aQ : Nat) (rs : Nat) (fp : Nat) (tq : Nat) (nq : Nat) (pl : Nat) (sz : Nat) (hht : tq < 8) (hhn : nq ≤ 8) (hhrs : rs ≤ 64) (hhp : pl ≤ 8) (hM : ∀ j, Mm j < 256) : Met l yX1_isGivenBack wsX1_isGivenBack ({ frames := 2, cells := 0, slots := 0, locals := 42 }) (va_Pc [.ref aR, .ref aQ, .int (nI pl)] (fun U => U.heap.size = sz ∧ va_P (dC, dI) vwCl [(aR, .inr (1, [.ref aM, .ref aO, .ref aI, .ref aT, .ref aE, .int ff])), (aM, .inl (kM, 384, .inl (nM Mm))), (aQ, .inr (0, [.int (nI rs), .int (nI fp), .int (nI tq), .int (nI nq)]))] U.heap ∧ va_K (dC, dI) vwCl [(kM, .int)] U ∧ va_D (fun _ => True) [(aR, .inr (1, [.ref aM, .ref aO, .ref aI, .ref aT, .ref aE, .int ff])), (aM, .inl (kM, 384, .inl (nM Mm))), (aQ, .inr (0, [.int (nI rs), .int (nI fp), .int (nI tq), .int (nI nq)]))])) (va_Qi (fun (r9 : Int32) (_ : Unit) => r9 = b01 (gvB Mm rs tq nq pl)) (fun _ t => va_P (dC, dI) vwCl [(aR, .inr (1, [.ref aM, .ref aO, .ref aI, .ref aT, .ref aE, .int ff])), (aM, .inl (kM, 384, .inl (nM Mm))), (aQ, .inr (0, [.int (nI rs), .int (nI fp), .int (nI tq), .int (nI nq)]))] t.heap ∧ va_K (dC, dI) vwCl [(kM, .int)] t ∧ va_D (va_A [(aR, .inr (1, [.ref aM, .ref aO, .ref aI, .ref aT, .ref aE, .int ff])), (aM, .inl (kM, 384, .inl (nM Mm))), (aQ, .inr (0, [.int (nI rs), .int (nI fp), .int (nI tq), .int (nI nq)]))] sz) [(aR, .inr (1, [.ref aM, .ref aO, .ref aI, .ref aT, .ref aE, .int ff])), (aM, .inl (kM, 384, .inl (nM Mm))), (aQ, .inr (0, [.int (nI rs), .int (nI fp), .int (nI tq), .int (nI nq)]))]) (va_A [(aR, .inr (1, [.ref aM, .ref aO, .ref aI, .ref aT, .ref aE, .int ff])), (aM, .inl (kM, 384, .inl (nM Mm))), (aQ, .inr (0, [.int (nI rs), .int (nI fp), .int (nI tq), .int (nI nq)]))] sz)) 0 0 (va_A [(aR, .inr (1, [.ref aM, .ref aO, .ref aI, .ref aT, .ref aE, .int ff])), (aM, .inl (kM, 384, .inl (nM Mm))), (aQ, .inr (0, [.int (nI rs), .int (nI fp), .int (nI tq), .int (nI nq)]))] sz) := by
  refine Met.ofW (cc := cX1_isGivenBack) (maxL := 3) (ret := (some .boolean)) (by decide) rfl ?_
  intro p e s m args below meth c s₁ B hml hv
  obtain ⟨rfl, hsz, hP, hK, hD0⟩ := hv
  have hx := B.exec
  have hb := B.bytes
  have hr := B.returns
  have hts := atoms_spec (ws := wsX1_isGivenBack) B.pre
  have hown : s.vm.findClass RX1 = some m.cls := findClass_of_methodNamed B.named
  have hlocks := B.notSynchronized
  have hI1 : ∀ w ∈ u_ws RX1 TX1 6, w ∈ wsX1_isGivenBack := by decide +kernel
  subst hsz
  have hD := hD0.self (sz := s.heap.size)
  generalize hAe : va_A [(aR, .inr (1, [.ref aM, .ref aO, .ref aI, .ref aT, .ref aE, .int ff])), (aM, .inl (kM, 384, .inl (nM Mm))), (aQ, .inr (0, [.int (nI rs), .int (nI fp), .int (nI tq), .int (nI nq)]))] s.heap.size = A at hD ⊢
  have hA : ∀ q : Nat, s.heap.size ≤ q → A q := fun q h => by rw [← hAe]; exact Or.inr h
  have hS : va_S A s.heap s.heap [] := va_S.rf
  have hP : va_P (dC, dI) vwCl [(aR, .inr (1, [.ref aM, .ref aO, .ref aI, .ref aT, .ref aE, .int ff])), (aM, .inl (kM, 384, .inl (nM Mm))), (aQ, .inr (0, [.int (nI rs), .int (nI fp), .int (nI tq), .int (nI nq)]))] s.heap := hP
  have hl := lv_entry ([.ref aR, .ref aQ, .int (nI pl)]) (n := 3) (Nat.le_of_ble_eq_true rfl)
  rw [lg_entry_eq]
  generalize (lg_sl ([.ref aR, .ref aQ, .int (nI pl)]) ++ List.replicate (3 - (lg_sl ([.ref aR, .ref aQ, .int (nI pl)])).length) Slot.unset).toArray = ls at hl ⊢
  have hl : lv_has ls 3 [(0, .ref aR), (1, .ref aQ), (2, .int (nI pl))] := hl
  refine lv_iload_n hx hb dX1_isGivenBack_0 rfl (lv_at hl 2 rfl) ?_
  refine lv_aload_n hx hb dX1_isGivenBack_1 rfl (lv_at hl 1 rfl) ?_
  have hPc := hP.sub (ws' := [(aQ, .inr (0, [.int (nI rs), .int (nI fp), .int (nI tq), .int (nI nq)]))]) [2] rfl
  have hDc := hD.sub (ws' := [(aQ, .inr (0, [.int (nI rs), .int (nI fp), .int (nI tq), .int (nI nq)]))]) [2] (by decide) rfl
  have hKc := hK.sub (tys' := []) [] rfl
  have hFc := va_free (wc := [(aQ, .inr (0, [.int (nI rs), .int (nI fp), .int (nI tq), .int (nI nq)]))]) hD hS hA [2] rfl
  refine va_calli (va_runV (As := []) (rest := [.int (nI pl)]) ⟨hx, hb, hml, hown, hts⟩ (c_X0_size l dC dI aQ rs fp tq nq s.heap.size ) (cwV 0 hts gX1_isGivenBack_X0_size rfl rfl rfl (by decide +kernel) ⟨Nat.le_of_ble_eq_true rfl, Nat.le_of_ble_eq_true rfl⟩) ⟨fun a U g mk q => by obtain ⟨q0, q1, qP, qK, qD⟩ := q; exact ⟨q0, q1, qP, va_K.moved (u := U) (U := U.calling g mk a) (Vm.Alike.refl U.vm) qK, qD⟩, va_recv hKc hPc (ci := 0) (q0 := 0) rfl rfl, fun U hU hW => ⟨rfl, by rw [hU], by rw [hU]; exact hPc, va_K.moved hW.alike hKc, hDc.weaken (fun _ _ _ _ => trivial)⟩⟩ rfl rfl hl.1 rfl (lv_room (Nat.le_of_ble_eq_true rfl)) dX1_isGivenBack_2 ⟨Nat.le_of_ble_eq_true rfl, Nat.le_of_ble_eq_true rfl⟩) hS (fun q _ h => hFc q h) hFc (fun r_1 u t H1 locs ht hvm hw hB hz1 hk1 hS => ?_)
  obtain ⟨hP1, hK1, hD1⟩ := hB
  rw [ht] at hP1
  have hK1 := va_K.moved hvm.symm hK1
  obtain ⟨hP, hD⟩ := va_join (wr := [(aR, .inr (1, [.ref aM, .ref aO, .ref aI, .ref aT, .ref aE, .int ff])), (aM, .inl (kM, 384, .inl (nM Mm)))]) (w1 := [(aQ, .inr (0, [.int (nI rs), .int (nI fp), .int (nI tq), .int (nI nq)]))]) hP hD [2] [0, 1] rfl rfl (by decide) (by decide) hk1 hFc hP1 hD1
  have hK := (hK.sub (tys' := [(kM, .int)]) [0] rfl).app hK1
  generalize H1 = H at hP hS ⊢
  have hP : va_P (dC, dI) vwCl [(aR, .inr (1, [.ref aM, .ref aO, .ref aI, .ref aT, .ref aE, .int ff])), (aM, .inl (kM, 384, .inl (nM Mm))), (aQ, .inr (0, [.int (nI rs), .int (nI fp), .int (nI tq), .int (nI nq)]))] H := hP
  have hD : va_D A [(aR, .inr (1, [.ref aM, .ref aO, .ref aI, .ref aT, .ref aE, .int ff])), (aM, .inl (kM, 384, .inl (nM Mm))), (aQ, .inr (0, [.int (nI rs), .int (nI fp), .int (nI tq), .int (nI nq)]))] := hD
  have hK : va_K (dC, dI) vwCl [(kM, .int)] s := hK
  obtain rfl : r_1 = nI nq := hw
  refine lv_icmp_ge (tgt := 27) hx hb dX1_isGivenBack_5 (by decide) (fun c_2 => ?_) (fun c_2 => ?_)
  · have c_2 : nq ≤ pl := (nI_leI (a := nq) (b := pl) (by omega) (by omega)).mp c_2
    refine lv_iconst (v := nI 0) hx hb dX1_isGivenBack_27 (by decide +kernel) ?_
    have hP9 := hP.sub (ws' := [(aR, .inr (1, [.ref aM, .ref aO, .ref aI, .ref aT, .ref aE, .int ff])), (aM, .inl (kM, 384, .inl (nM Mm))), (aQ, .inr (0, [.int (nI rs), .int (nI fp), .int (nI tq), .int (nI nq)]))]) [0, 1, 2] rfl
    have hD9 := hD.sub (ws' := [(aR, .inr (1, [.ref aM, .ref aO, .ref aI, .ref aT, .ref aE, .int ff])), (aM, .inl (kM, 384, .inl (nM Mm))), (aQ, .inr (0, [.int (nI rs), .int (nI fp), .int (nI tq), .int (nI nq)]))]) [0, 1, 2] (by decide) rfl
    have hK9 := hK.sub (tys' := [(kM, .int)]) [0] rfl
    have e_3 : (nI 0 : Int32) = b01 (gvB Mm rs tq nq pl) := b01_f (by first | exact gvB_f1 (by omega) | exact gvB_f2 (by assumption))
    exact W.zret (v := nI 0) (ty := .boolean) hx hb hr (by decide +kernel) (fun t ht hW => ⟨⟨_, (), rfl, e_3, by rw [ht]; exact hP9, va_K.moved hW.alike hK9, hD9⟩, hS.F ht⟩) hS.2.2 dX1_isGivenBack_28
  · have c_2 : ¬ (nq ≤ pl) := fun h9 => c_2 ((nI_leI (a := nq) (b := pl) (by omega) (by omega)).mpr h9)
    refine lv_aload_n hx hb dX1_isGivenBack_8 rfl (lv_at hl 0 rfl) ?_
    refine va_get (D := (dC, dI)) (ci := 1) (v := .ref aM) (C := RX1) (T := TX1) (N := 6) hx hb hts hI1 hown hK hP 0 rfl rfl 0 (by decide) (hts (.fieldLink RX1 9 "RingDriver" "memory" "[I") (by decide +kernel)) (fun _ h9 => h9) rfl dX1_isGivenBack_9 ?_
    refine lv_aload_n hx hb dX1_isGivenBack_12 rfl (lv_at hl 1 rfl) ?_
    refine lv_iload_n hx hb dX1_isGivenBack_13 rfl (lv_at hl 2 rfl) ?_
    have hPc := hP.sub (ws' := [(aQ, .inr (0, [.int (nI rs), .int (nI fp), .int (nI tq), .int (nI nq)]))]) [2] rfl
    have hDc := hD.sub (ws' := [(aQ, .inr (0, [.int (nI rs), .int (nI fp), .int (nI tq), .int (nI nq)]))]) [2] (by decide) rfl
    have hKc := hK.sub (tys' := []) [] rfl
    have hFc := va_free (wc := [(aQ, .inr (0, [.int (nI rs), .int (nI fp), .int (nI tq), .int (nI nq)]))]) hD hS hA [2] rfl
    refine va_calli (va_runV (As := [.int (nI pl)]) (rest := [.ref aM]) ⟨hx, hb, hml, hown, hts⟩ (c_X0_descriptorAt l dC dI aQ rs fp tq nq pl H.size (by omega) (by omega) (by omega)) (cwV 1 hts gX1_isGivenBack_X0_descriptorAt rfl rfl rfl (by decide +kernel) ⟨Nat.le_of_ble_eq_true rfl, Nat.le_of_ble_eq_true rfl⟩) ⟨fun a U g mk q => by obtain ⟨q0, q1, qP, qK, qD⟩ := q; exact ⟨q0, q1, qP, va_K.moved (u := U) (U := U.calling g mk a) (Vm.Alike.refl U.vm) qK, qD⟩, va_recv hKc hPc (ci := 0) (q0 := 0) rfl rfl, fun U hU hW => ⟨rfl, by rw [hU], by rw [hU]; exact hPc, va_K.moved hW.alike hKc, hDc.weaken (fun _ _ _ _ => trivial)⟩⟩ rfl rfl hl.1 rfl (lv_room (Nat.le_of_ble_eq_true rfl)) dX1_isGivenBack_14 ⟨Nat.le_of_ble_eq_true rfl, Nat.le_of_ble_eq_true rfl⟩) hS (fun q _ h => hFc q h) hFc (fun r_4 u t H1 locs ht hvm hw hB hz1 hk1 hS => ?_)
    obtain ⟨hP1, hK1, hD1⟩ := hB
    rw [ht] at hP1
    have hK1 := va_K.moved hvm.symm hK1
    obtain ⟨hP, hD⟩ := va_join (wr := [(aR, .inr (1, [.ref aM, .ref aO, .ref aI, .ref aT, .ref aE, .int ff])), (aM, .inl (kM, 384, .inl (nM Mm)))]) (w1 := [(aQ, .inr (0, [.int (nI rs), .int (nI fp), .int (nI tq), .int (nI nq)]))]) hP hD [2] [0, 1] rfl rfl (by decide) (by decide) hk1 hFc hP1 hD1
    have hK := (hK.sub (tys' := [(kM, .int)]) [0] rfl).app hK1
    generalize H1 = H at hP hS ⊢
    have hP : va_P (dC, dI) vwCl [(aR, .inr (1, [.ref aM, .ref aO, .ref aI, .ref aT, .ref aE, .int ff])), (aM, .inl (kM, 384, .inl (nM Mm))), (aQ, .inr (0, [.int (nI rs), .int (nI fp), .int (nI tq), .int (nI nq)]))] H := hP
    have hD : va_D A [(aR, .inr (1, [.ref aM, .ref aO, .ref aI, .ref aT, .ref aE, .int ff])), (aM, .inl (kM, 384, .inl (nM Mm))), (aQ, .inr (0, [.int (nI rs), .int (nI fp), .int (nI tq), .int (nI nq)]))] := hD
    have hK : va_K (dC, dI) vwCl [(kM, .int)] s := hK
    obtain rfl : r_4 = nI (rs + 8 * ((tq + pl) % 8)) := hw
    refine lv_iconst (v := nI 2) hx hb dX1_isGivenBack_17 (by decide +kernel) ?_
    refine lv_iadd hx hb dX1_isGivenBack_18 ?_
    refine lv_topi (fun y_5 ey_5 => ?_)
    obtain rfl := ey_5.trans (nI_add (rs + 8 * ((tq + pl) % 8)) 2)
    refine va_iald hx hb hK hP 1 0 rfl rfl (vp_in_nI (n := rs + 8 * ((tq + pl) % 8) + 2) (N := 384) (by omega) (by decide)) dX1_isGivenBack_19 ?_
    have h9 : rs + 8 * ((tq + pl) % 8) + 2 < 2 ^ 31 := Nat.lt_trans (m := 384) (by omega) (by decide)
    refine lv_topi (fun y_6 ey_6 => ?_)
    obtain rfl : y_6 = nI (Mm (rs + 8 * ((tq + pl) % 8) + 2)) := ey_6.trans (rdA (nM Mm) h9)
    refine lv_if_ne (tgt := 27) hx hb dX1_isGivenBack_20 (by decide) (fun c_7 => ?_) (fun c_7 => ?_)
    · have c_7 : ¬ (Mm (rs + 8 * ((tq + pl) % 8) + 2)) = 0 := fun h9 => c_7 ((n_00 (Mm (rs + 8 * ((tq + pl) % 8) + 2)) (Nat.lt_trans (hM _) (by decide))).mpr h9)
      refine lv_iconst (v := nI 0) hx hb dX1_isGivenBack_27 (by decide +kernel) ?_
      have hP9 := hP.sub (ws' := [(aR, .inr (1, [.ref aM, .ref aO, .ref aI, .ref aT, .ref aE, .int ff])), (aM, .inl (kM, 384, .inl (nM Mm))), (aQ, .inr (0, [.int (nI rs), .int (nI fp), .int (nI tq), .int (nI nq)]))]) [0, 1, 2] rfl
      have hD9 := hD.sub (ws' := [(aR, .inr (1, [.ref aM, .ref aO, .ref aI, .ref aT, .ref aE, .int ff])), (aM, .inl (kM, 384, .inl (nM Mm))), (aQ, .inr (0, [.int (nI rs), .int (nI fp), .int (nI tq), .int (nI nq)]))]) [0, 1, 2] (by decide) rfl
      have hK9 := hK.sub (tys' := [(kM, .int)]) [0] rfl
      have e_8 : (nI 0 : Int32) = b01 (gvB Mm rs tq nq pl) := b01_f (by first | exact gvB_f1 (by omega) | exact gvB_f2 (by assumption))
      exact W.zret (v := nI 0) (ty := .boolean) hx hb hr (by decide +kernel) (fun t ht hW => ⟨⟨_, (), rfl, e_8, by rw [ht]; exact hP9, va_K.moved hW.alike hK9, hD9⟩, hS.F ht⟩) hS.2.2 dX1_isGivenBack_28
    · have c_7 : (Mm (rs + 8 * ((tq + pl) % 8) + 2)) = 0 := (n_00 (Mm (rs + 8 * ((tq + pl) % 8) + 2)) (Nat.lt_trans (hM _) (by decide))).mp c_7
      refine lv_iconst (v := nI 1) hx hb dX1_isGivenBack_23 (by decide +kernel) ?_
      refine lv_goto (tgt := 28) hx hb dX1_isGivenBack_24 (by decide) ?_
      have hP9 := hP.sub (ws' := [(aR, .inr (1, [.ref aM, .ref aO, .ref aI, .ref aT, .ref aE, .int ff])), (aM, .inl (kM, 384, .inl (nM Mm))), (aQ, .inr (0, [.int (nI rs), .int (nI fp), .int (nI tq), .int (nI nq)]))]) [0, 1, 2] rfl
      have hD9 := hD.sub (ws' := [(aR, .inr (1, [.ref aM, .ref aO, .ref aI, .ref aT, .ref aE, .int ff])), (aM, .inl (kM, 384, .inl (nM Mm))), (aQ, .inr (0, [.int (nI rs), .int (nI fp), .int (nI tq), .int (nI nq)]))]) [0, 1, 2] (by decide) rfl
      have hK9 := hK.sub (tys' := [(kM, .int)]) [0] rfl
      have e_9 : (nI 1 : Int32) = b01 (gvB Mm rs tq nq pl) := b01_t (gvB_t (by omega) (by assumption))
      exact W.zret (v := nI 1) (ty := .boolean) hx hb hr (by decide +kernel) (fun t ht hW => ⟨⟨_, (), rfl, e_9, by rw [ht]; exact hP9, va_K.moved hW.alike hK9, hD9⟩, hS.F ht⟩) hS.2.2 dX1_isGivenBack_28
set_option maxHeartbeats 4000000 in
set_option maxRecDepth 100000 in
theorem c_X1_fillBuffer (l : Launch) (dC : Nat → ClassId) (dI : Nat → Nat → Nat) (aR : Nat) (aM : Nat) (aO : Nat) (aI : Nat) (aT : Nat) (aE : Nat) (ff : Int32) (kM : ClassId) (Mm : Nat → Nat) (kO : ClassId) (Ob : Nat → Nat) (bu : Nat) (len : Nat) (sz : Nat) (hbu : bu + 16 ≤ 384) (hle : len ≤ 16) : Met l yX1_fillBuffer wsX1_fillBuffer ({ frames := 0, cells := 0, slots := 0, locals := 0 }) (va_Pc [.ref aR, .int (nI bu), .int (nI len)] (fun U => U.heap.size = sz ∧ va_P (dC, dI) vwCl [(aR, .inr (1, [.ref aM, .ref aO, .ref aI, .ref aT, .ref aE, .int ff])), (aM, .inl (kM, 384, .inl (nM Mm))), (aO, .inl (kO, 16, .inl (nM Ob)))] U.heap ∧ va_K (dC, dI) vwCl [(kM, .int), (kO, .int)] U ∧ va_D (fun _ => True) [(aR, .inr (1, [.ref aM, .ref aO, .ref aI, .ref aT, .ref aE, .int ff])), (aM, .inl (kM, 384, .inl (nM Mm))), (aO, .inl (kO, 16, .inl (nM Ob)))])) (va_Qv (fun (_ : Unit) => True) (fun _ t => va_P (dC, dI) vwCl [(aR, .inr (1, [.ref aM, .ref aO, .ref aI, .ref aT, .ref aE, .int ff])), (aM, .inl (kM, 384, .inl (nM (fbI Mm Ob bu len 16)))), (aO, .inl (kO, 16, .inl (nM Ob)))] t.heap ∧ va_K (dC, dI) vwCl [(kM, .int), (kO, .int)] t ∧ va_D (va_A [(aR, .inr (1, [.ref aM, .ref aO, .ref aI, .ref aT, .ref aE, .int ff])), (aM, .inl (kM, 384, .inl (nM Mm))), (aO, .inl (kO, 16, .inl (nM Ob)))] sz) [(aR, .inr (1, [.ref aM, .ref aO, .ref aI, .ref aT, .ref aE, .int ff])), (aM, .inl (kM, 384, .inl (nM (fbI Mm Ob bu len 16)))), (aO, .inl (kO, 16, .inl (nM Ob)))]) (va_A [(aR, .inr (1, [.ref aM, .ref aO, .ref aI, .ref aT, .ref aE, .int ff])), (aM, .inl (kM, 384, .inl (nM Mm))), (aO, .inl (kO, 16, .inl (nM Ob)))] sz)) 0 0 (va_A [(aR, .inr (1, [.ref aM, .ref aO, .ref aI, .ref aT, .ref aE, .int ff])), (aM, .inl (kM, 384, .inl (nM Mm))), (aO, .inl (kO, 16, .inl (nM Ob)))] sz) := by
  refine Met.ofW (cc := cX1_fillBuffer) (maxL := 4) (ret := none) (by decide) rfl ?_
  intro p e s m args below meth c s₁ B hml hv
  obtain ⟨rfl, hsz, hP, hK, hD0⟩ := hv
  have hx := B.exec
  have hb := B.bytes
  have hr := B.returns
  have hts := atoms_spec (ws := wsX1_fillBuffer) B.pre
  have hown : s.vm.findClass RX1 = some m.cls := findClass_of_methodNamed B.named
  have hlocks := B.notSynchronized
  have hI1 : ∀ w ∈ u_ws RX1 TX1 6, w ∈ wsX1_fillBuffer := by decide +kernel
  subst hsz
  have hD := hD0.self (sz := s.heap.size)
  generalize hAe : va_A [(aR, .inr (1, [.ref aM, .ref aO, .ref aI, .ref aT, .ref aE, .int ff])), (aM, .inl (kM, 384, .inl (nM Mm))), (aO, .inl (kO, 16, .inl (nM Ob)))] s.heap.size = A at hD ⊢
  have hA : ∀ q : Nat, s.heap.size ≤ q → A q := fun q h => by rw [← hAe]; exact Or.inr h
  have hS : va_S A s.heap s.heap [] := va_S.rf
  have hP : va_P (dC, dI) vwCl [(aR, .inr (1, [.ref aM, .ref aO, .ref aI, .ref aT, .ref aE, .int ff])), (aM, .inl (kM, 384, .inl (nM Mm))), (aO, .inl (kO, 16, .inl (nM Ob)))] s.heap := hP
  have hl := lv_entry ([.ref aR, .int (nI bu), .int (nI len)]) (n := 4) (Nat.le_of_ble_eq_true rfl)
  rw [lg_entry_eq]
  generalize (lg_sl ([.ref aR, .int (nI bu), .int (nI len)]) ++ List.replicate (4 - (lg_sl ([.ref aR, .int (nI bu), .int (nI len)])).length) Slot.unset).toArray = ls at hl ⊢
  have hl : lv_has ls 4 [(0, .ref aR), (1, .int (nI bu)), (2, .int (nI len))] := hl
  refine W_gen (fun Q eQ => ?_)
  refine lv_iconst (v := nI 0) hx hb dX1_fillBuffer_0 (by decide +kernel) ?_
  refine lv_istore_n (lv' := [(3, .int (nI 0)), (0, .ref aR), (1, .int (nI bu)), (2, .int (nI len))]) hx hb dX1_fillBuffer_1 rfl hl (by decide) rfl (fun ls hl => ?_)
  have loop_1 : ∀ (fuel : Nat) (i : Nat), (i ≤ 16) → 16 - i < fuel → ∀ (H : Heap) (locs : List Loc) (ls : Array Slot), va_P (dC, dI) vwCl [(aR, .inr (1, [.ref aM, .ref aO, .ref aI, .ref aT, .ref aE, .int ff])), (aM, .inl (kM, 384, .inl (nM (fbI Mm Ob bu len i)))), (aO, .inl (kO, 16, .inl (nM Ob)))] H → va_D A [(aR, .inr (1, [.ref aM, .ref aO, .ref aI, .ref aT, .ref aE, .int ff])), (aM, .inl (kM, 384, .inl (nM (fbI Mm Ob bu len i)))), (aO, .inl (kO, 16, .inl (nM Ob)))] → va_S A s.heap H locs → lv_has ls 4 [(0, .ref aR), (1, .int (nI bu)), (2, .int (nI len)), (3, .int (nI i))] → W p l e (headSpec wsX1_fillBuffer ({ frames := 0, cells := 0, slots := 0, locals := 0 })).room s m ([.ref aR, .int (nI bu), .int (nI len)] : List Value).toArray below meth c H locs 0 0 Q (F0 m 2 ls []) := by
    intro fuel
    induction fuel with
    | zero =>
      intro i hi hfu
      exact absurd hfu (Nat.not_lt_zero _)
    | succ fuel ih =>
      intro i hi hfu H locs ls hP hD hS hl
      refine lv_iload_n hx hb dX1_fillBuffer_2 rfl (lv_at hl 3 rfl) ?_
      refine lv_bipush (v := nI 16) hx hb dX1_fillBuffer_3 (by decide +kernel) ?_
      refine lv_icmp_ge (tgt := 37) hx hb dX1_fillBuffer_5 (by decide) (fun c_2 => ?_) (fun c_2 => ?_)
      · have c_2 : 16 ≤ i := (nI_leI (a := 16) (b := i) (by omega) (by omega)).mp c_2
        have hP9 := hP.sub (ws' := [(aR, .inr (1, [.ref aM, .ref aO, .ref aI, .ref aT, .ref aE, .int ff])), (aM, .inl (kM, 384, .inl (nM (fbI Mm Ob bu len i)))), (aO, .inl (kO, 16, .inl (nM Ob)))]) [0, 1, 2] rfl
        have hD9 := hD.sub (ws' := [(aR, .inr (1, [.ref aM, .ref aO, .ref aI, .ref aT, .ref aE, .int ff])), (aM, .inl (kM, 384, .inl (nM (fbI Mm Ob bu len i)))), (aO, .inl (kO, 16, .inl (nM Ob)))]) [0, 1, 2] (by decide) rfl
        have hK9 := hK.sub (tys' := [(kM, .int), (kO, .int)]) [0, 1] rfl
        have e_3 : (nM (fbI Mm Ob bu len i)) = nM (fbI Mm Ob bu len 16) := by rw [show i = 16 from by omega]
        have hP9 : va_P (dC, dI) vwCl [(aR, .inr (1, [.ref aM, .ref aO, .ref aI, .ref aT, .ref aE, .int ff])), (aM, .inl (kM, 384, .inl (nM (fbI Mm Ob bu len 16)))), (aO, .inl (kO, 16, .inl (nM Ob)))] H := Eq.mp (congrArg (fun (z1 : Nat → Int32) => va_P (dC, dI) vwCl [(aR, .inr (1, [.ref aM, .ref aO, .ref aI, .ref aT, .ref aE, .int ff])), (aM, .inl (kM, 384, .inl z1)), (aO, .inl (kO, 16, .inl (nM Ob)))] H) e_3) hP9
        have hD9 : va_D A [(aR, .inr (1, [.ref aM, .ref aO, .ref aI, .ref aT, .ref aE, .int ff])), (aM, .inl (kM, 384, .inl (nM (fbI Mm Ob bu len 16)))), (aO, .inl (kO, 16, .inl (nM Ob)))] := Eq.mp (congrArg (fun (z1 : Nat → Int32) => va_D A [(aR, .inr (1, [.ref aM, .ref aO, .ref aI, .ref aT, .ref aE, .int ff])), (aM, .inl (kM, 384, .inl z1)), (aO, .inl (kO, 16, .inl (nM Ob)))]) e_3) hD9
        subst eQ
        exact W.vret hx hb hr (fun t ht hW => ⟨⟨(), rfl, trivial, by rw [ht]; exact hP9, va_K.moved hW.alike hK9, hD9⟩, hS.F ht⟩) hS.2.2 dX1_fillBuffer_37
      · have c_2 : ¬ (16 ≤ i) := fun h9 => c_2 ((nI_leI (a := 16) (b := i) (by omega) (by omega)).mpr h9)
        refine lv_aload_n hx hb dX1_fillBuffer_8 rfl (lv_at hl 0 rfl) ?_
        refine va_get (D := (dC, dI)) (ci := 1) (v := .ref aM) (C := RX1) (T := TX1) (N := 6) hx hb hts hI1 hown hK hP 0 rfl rfl 0 (by decide) (hts (.fieldLink RX1 9 "RingDriver" "memory" "[I") (by decide +kernel)) (fun _ h9 => h9) rfl dX1_fillBuffer_9 ?_
        refine lv_iload_n hx hb dX1_fillBuffer_12 rfl (lv_at hl 1 rfl) ?_
        refine lv_iload_n hx hb dX1_fillBuffer_13 rfl (lv_at hl 3 rfl) ?_
        refine lv_iadd hx hb dX1_fillBuffer_14 ?_
        refine lv_topi (fun y_4 ey_4 => ?_)
        obtain rfl := ey_4.trans (nI_add bu i)
        refine lv_iload_n hx hb dX1_fillBuffer_15 rfl (lv_at hl 3 rfl) ?_
        refine lv_iload_n hx hb dX1_fillBuffer_16 rfl (lv_at hl 2 rfl) ?_
        refine lv_icmp_ge (tgt := 29) hx hb dX1_fillBuffer_17 (by decide) (fun c_5 => ?_) (fun c_5 => ?_)
        · have c_5 : len ≤ i := (nI_leI (a := len) (b := i) (by omega) (by omega)).mp c_5
          refine lv_iconst (v := nI 0) hx hb dX1_fillBuffer_29 (by decide +kernel) ?_
          refine va_iast (x := nI 0) hx hb hK hP hD hS 1 0 rfl rfl (vp_in_nI (n := bu + i) (N := 384) (by omega) (by decide)) dX1_fillBuffer_30 (fun H locs hP hD hS => ?_)
          have h9 : bu + i < 2 ^ 31 := Nat.lt_trans (m := 384) (by omega) (by decide)
          have hP : va_P (dC, dI) vwCl [(aR, .inr (1, [.ref aM, .ref aO, .ref aI, .ref aT, .ref aE, .int ff])), (aM, .inl (kM, 384, .inl (upd (nM (fbI Mm Ob bu len i)) (nI (bu + i)).toNatClampNeg (nI 0)))), (aO, .inl (kO, 16, .inl (nM Ob)))] H := hP
          have hD : va_D A [(aR, .inr (1, [.ref aM, .ref aO, .ref aI, .ref aT, .ref aE, .int ff])), (aM, .inl (kM, 384, .inl (upd (nM (fbI Mm Ob bu len i)) (nI (bu + i)).toNatClampNeg (nI 0)))), (aO, .inl (kO, 16, .inl (nM Ob)))] := hD
          have e_6 : upd (nM (fbI Mm Ob bu len i)) (nI (bu + i)).toNatClampNeg (nI 0) = nM (updN (fbI Mm Ob bu len i) (bu + i) 0) := updI h9
          have hP : va_P (dC, dI) vwCl [(aR, .inr (1, [.ref aM, .ref aO, .ref aI, .ref aT, .ref aE, .int ff])), (aM, .inl (kM, 384, .inl (nM (updN (fbI Mm Ob bu len i) (bu + i) 0)))), (aO, .inl (kO, 16, .inl (nM Ob)))] H := Eq.mp (congrArg (fun (z1 : Nat → Int32) => va_P (dC, dI) vwCl [(aR, .inr (1, [.ref aM, .ref aO, .ref aI, .ref aT, .ref aE, .int ff])), (aM, .inl (kM, 384, .inl z1)), (aO, .inl (kO, 16, .inl (nM Ob)))] H) e_6) hP
          have hD : va_D A [(aR, .inr (1, [.ref aM, .ref aO, .ref aI, .ref aT, .ref aE, .int ff])), (aM, .inl (kM, 384, .inl (nM (updN (fbI Mm Ob bu len i) (bu + i) 0)))), (aO, .inl (kO, 16, .inl (nM Ob)))] := Eq.mp (congrArg (fun (z1 : Nat → Int32) => va_D A [(aR, .inr (1, [.ref aM, .ref aO, .ref aI, .ref aT, .ref aE, .int ff])), (aM, .inl (kM, 384, .inl z1)), (aO, .inl (kO, 16, .inl (nM Ob)))]) e_6) hD
          refine lv_iinc (v := nI (i + 1)) (lv' := [(3, .int (nI (i + 1))), (0, .ref aR), (1, .int (nI bu)), (2, .int (nI len))]) hx hb dX1_fillBuffer_31 hl (k := 3) rfl (show nI i + Int32.ofInt 1 = nI (i + 1) from nI_1 i) (by decide) rfl (fun ls hl => ?_)
          refine lv_goto (tgt := 2) hx hb dX1_fillBuffer_34 (by decide) ?_
          have hP9 := hP.sub (ws' := [(aR, .inr (1, [.ref aM, .ref aO, .ref aI, .ref aT, .ref aE, .int ff])), (aM, .inl (kM, 384, .inl (nM (updN (fbI Mm Ob bu len i) (bu + i) 0)))), (aO, .inl (kO, 16, .inl (nM Ob)))]) [0, 1, 2] rfl
          have hD9 := hD.sub (ws' := [(aR, .inr (1, [.ref aM, .ref aO, .ref aI, .ref aT, .ref aE, .int ff])), (aM, .inl (kM, 384, .inl (nM (updN (fbI Mm Ob bu len i) (bu + i) 0)))), (aO, .inl (kO, 16, .inl (nM Ob)))]) [0, 1, 2] (by decide) rfl
          have e_7 : (nM (updN (fbI Mm Ob bu len i) (bu + i) 0)) = nM (fbI Mm Ob bu len (i + 1)) := (by first | exact congrArg nM (fbI_s0 (by omega)) | exact congrArg nM (fbI_s1 (by omega)))
          have hP9 : va_P (dC, dI) vwCl [(aR, .inr (1, [.ref aM, .ref aO, .ref aI, .ref aT, .ref aE, .int ff])), (aM, .inl (kM, 384, .inl (nM (fbI Mm Ob bu len (i + 1))))), (aO, .inl (kO, 16, .inl (nM Ob)))] H := Eq.mp (congrArg (fun (z1 : Nat → Int32) => va_P (dC, dI) vwCl [(aR, .inr (1, [.ref aM, .ref aO, .ref aI, .ref aT, .ref aE, .int ff])), (aM, .inl (kM, 384, .inl z1)), (aO, .inl (kO, 16, .inl (nM Ob)))] H) e_7) hP9
          have hD9 : va_D A [(aR, .inr (1, [.ref aM, .ref aO, .ref aI, .ref aT, .ref aE, .int ff])), (aM, .inl (kM, 384, .inl (nM (fbI Mm Ob bu len (i + 1))))), (aO, .inl (kO, 16, .inl (nM Ob)))] := Eq.mp (congrArg (fun (z1 : Nat → Int32) => va_D A [(aR, .inr (1, [.ref aM, .ref aO, .ref aI, .ref aT, .ref aE, .int ff])), (aM, .inl (kM, 384, .inl z1)), (aO, .inl (kO, 16, .inl (nM Ob)))]) e_7) hD9
          have hl9 : lv_has ls 4 [(0, .ref aR), (1, .int (nI bu)), (2, .int (nI len)), (3, .int (nI (i + 1)))] := lv_sub hl [1, 2, 3, 0] rfl
          exact ih (i + 1) (by omega) (by omega) _ _ _ hP9 hD9 hS hl9
        · have c_5 : ¬ (len ≤ i) := fun h9 => c_5 ((nI_leI (a := len) (b := i) (by omega) (by omega)).mpr h9)
          refine lv_aload_n hx hb dX1_fillBuffer_20 rfl (lv_at hl 0 rfl) ?_
          refine va_get (D := (dC, dI)) (ci := 1) (v := .ref aO) (C := RX1) (T := TX1) (N := 6) hx hb hts hI1 hown hK hP 0 rfl rfl 1 (by decide) (hts (.fieldLink RX1 13 "RingDriver" "outBox" "[I") (by decide +kernel)) (fun _ h9 => h9) rfl dX1_fillBuffer_21 ?_
          refine lv_iload_n hx hb dX1_fillBuffer_24 rfl (lv_at hl 3 rfl) ?_
          refine va_iald hx hb hK hP 2 1 rfl rfl (vp_in_nI (n := i) (N := 16) (by omega) (by decide)) dX1_fillBuffer_25 ?_
          have h9 : i < 2 ^ 31 := Nat.lt_trans (m := 16) (by omega) (by decide)
          refine lv_topi (fun y_8 ey_8 => ?_)
          obtain rfl : y_8 = nI (Ob i) := ey_8.trans (rdA (nM Ob) h9)
          refine lv_goto (tgt := 30) hx hb dX1_fillBuffer_26 (by decide) ?_
          refine va_iast (x := nI (Ob i)) hx hb hK hP hD hS 1 0 rfl rfl (vp_in_nI (n := bu + i) (N := 384) (by omega) (by decide)) dX1_fillBuffer_30 (fun H locs hP hD hS => ?_)
          have h9 : bu + i < 2 ^ 31 := Nat.lt_trans (m := 384) (by omega) (by decide)
          have hP : va_P (dC, dI) vwCl [(aR, .inr (1, [.ref aM, .ref aO, .ref aI, .ref aT, .ref aE, .int ff])), (aM, .inl (kM, 384, .inl (upd (nM (fbI Mm Ob bu len i)) (nI (bu + i)).toNatClampNeg (nI (Ob i))))), (aO, .inl (kO, 16, .inl (nM Ob)))] H := hP
          have hD : va_D A [(aR, .inr (1, [.ref aM, .ref aO, .ref aI, .ref aT, .ref aE, .int ff])), (aM, .inl (kM, 384, .inl (upd (nM (fbI Mm Ob bu len i)) (nI (bu + i)).toNatClampNeg (nI (Ob i))))), (aO, .inl (kO, 16, .inl (nM Ob)))] := hD
          have e_9 : upd (nM (fbI Mm Ob bu len i)) (nI (bu + i)).toNatClampNeg (nI (Ob i)) = nM (updN (fbI Mm Ob bu len i) (bu + i) (Ob i)) := updI h9
          have hP : va_P (dC, dI) vwCl [(aR, .inr (1, [.ref aM, .ref aO, .ref aI, .ref aT, .ref aE, .int ff])), (aM, .inl (kM, 384, .inl (nM (updN (fbI Mm Ob bu len i) (bu + i) (Ob i))))), (aO, .inl (kO, 16, .inl (nM Ob)))] H := Eq.mp (congrArg (fun (z1 : Nat → Int32) => va_P (dC, dI) vwCl [(aR, .inr (1, [.ref aM, .ref aO, .ref aI, .ref aT, .ref aE, .int ff])), (aM, .inl (kM, 384, .inl z1)), (aO, .inl (kO, 16, .inl (nM Ob)))] H) e_9) hP
          have hD : va_D A [(aR, .inr (1, [.ref aM, .ref aO, .ref aI, .ref aT, .ref aE, .int ff])), (aM, .inl (kM, 384, .inl (nM (updN (fbI Mm Ob bu len i) (bu + i) (Ob i))))), (aO, .inl (kO, 16, .inl (nM Ob)))] := Eq.mp (congrArg (fun (z1 : Nat → Int32) => va_D A [(aR, .inr (1, [.ref aM, .ref aO, .ref aI, .ref aT, .ref aE, .int ff])), (aM, .inl (kM, 384, .inl z1)), (aO, .inl (kO, 16, .inl (nM Ob)))]) e_9) hD
          refine lv_iinc (v := nI (i + 1)) (lv' := [(3, .int (nI (i + 1))), (0, .ref aR), (1, .int (nI bu)), (2, .int (nI len))]) hx hb dX1_fillBuffer_31 hl (k := 3) rfl (show nI i + Int32.ofInt 1 = nI (i + 1) from nI_1 i) (by decide) rfl (fun ls hl => ?_)
          refine lv_goto (tgt := 2) hx hb dX1_fillBuffer_34 (by decide) ?_
          have hP9 := hP.sub (ws' := [(aR, .inr (1, [.ref aM, .ref aO, .ref aI, .ref aT, .ref aE, .int ff])), (aM, .inl (kM, 384, .inl (nM (updN (fbI Mm Ob bu len i) (bu + i) (Ob i))))), (aO, .inl (kO, 16, .inl (nM Ob)))]) [0, 1, 2] rfl
          have hD9 := hD.sub (ws' := [(aR, .inr (1, [.ref aM, .ref aO, .ref aI, .ref aT, .ref aE, .int ff])), (aM, .inl (kM, 384, .inl (nM (updN (fbI Mm Ob bu len i) (bu + i) (Ob i))))), (aO, .inl (kO, 16, .inl (nM Ob)))]) [0, 1, 2] (by decide) rfl
          have e_10 : (nM (updN (fbI Mm Ob bu len i) (bu + i) (Ob i))) = nM (fbI Mm Ob bu len (i + 1)) := (by first | exact congrArg nM (fbI_s0 (by omega)) | exact congrArg nM (fbI_s1 (by omega)))
          have hP9 : va_P (dC, dI) vwCl [(aR, .inr (1, [.ref aM, .ref aO, .ref aI, .ref aT, .ref aE, .int ff])), (aM, .inl (kM, 384, .inl (nM (fbI Mm Ob bu len (i + 1))))), (aO, .inl (kO, 16, .inl (nM Ob)))] H := Eq.mp (congrArg (fun (z1 : Nat → Int32) => va_P (dC, dI) vwCl [(aR, .inr (1, [.ref aM, .ref aO, .ref aI, .ref aT, .ref aE, .int ff])), (aM, .inl (kM, 384, .inl z1)), (aO, .inl (kO, 16, .inl (nM Ob)))] H) e_10) hP9
          have hD9 : va_D A [(aR, .inr (1, [.ref aM, .ref aO, .ref aI, .ref aT, .ref aE, .int ff])), (aM, .inl (kM, 384, .inl (nM (fbI Mm Ob bu len (i + 1))))), (aO, .inl (kO, 16, .inl (nM Ob)))] := Eq.mp (congrArg (fun (z1 : Nat → Int32) => va_D A [(aR, .inr (1, [.ref aM, .ref aO, .ref aI, .ref aT, .ref aE, .int ff])), (aM, .inl (kM, 384, .inl z1)), (aO, .inl (kO, 16, .inl (nM Ob)))]) e_10) hD9
          have hl9 : lv_has ls 4 [(0, .ref aR), (1, .int (nI bu)), (2, .int (nI len)), (3, .int (nI (i + 1)))] := lv_sub hl [1, 2, 3, 0] rfl
          exact ih (i + 1) (by omega) (by omega) _ _ _ hP9 hD9 hS hl9
  have hP9 := hP.sub (ws' := [(aR, .inr (1, [.ref aM, .ref aO, .ref aI, .ref aT, .ref aE, .int ff])), (aM, .inl (kM, 384, .inl (nM Mm))), (aO, .inl (kO, 16, .inl (nM Ob)))]) [0, 1, 2] rfl
  have hD9 := hD.sub (ws' := [(aR, .inr (1, [.ref aM, .ref aO, .ref aI, .ref aT, .ref aE, .int ff])), (aM, .inl (kM, 384, .inl (nM Mm))), (aO, .inl (kO, 16, .inl (nM Ob)))]) [0, 1, 2] (by decide) rfl
  have e_11 : (nM Mm) = nM (fbI Mm Ob bu len 0) := congrArg nM fbI_0
  have hP9 : va_P (dC, dI) vwCl [(aR, .inr (1, [.ref aM, .ref aO, .ref aI, .ref aT, .ref aE, .int ff])), (aM, .inl (kM, 384, .inl (nM (fbI Mm Ob bu len 0)))), (aO, .inl (kO, 16, .inl (nM Ob)))] s.heap := Eq.mp (congrArg (fun (z1 : Nat → Int32) => va_P (dC, dI) vwCl [(aR, .inr (1, [.ref aM, .ref aO, .ref aI, .ref aT, .ref aE, .int ff])), (aM, .inl (kM, 384, .inl z1)), (aO, .inl (kO, 16, .inl (nM Ob)))] s.heap) e_11) hP9
  have hD9 : va_D A [(aR, .inr (1, [.ref aM, .ref aO, .ref aI, .ref aT, .ref aE, .int ff])), (aM, .inl (kM, 384, .inl (nM (fbI Mm Ob bu len 0)))), (aO, .inl (kO, 16, .inl (nM Ob)))] := Eq.mp (congrArg (fun (z1 : Nat → Int32) => va_D A [(aR, .inr (1, [.ref aM, .ref aO, .ref aI, .ref aT, .ref aE, .int ff])), (aM, .inl (kM, 384, .inl z1)), (aO, .inl (kO, 16, .inl (nM Ob)))]) e_11) hD9
  have hl9 : lv_has ls 4 [(0, .ref aR), (1, .int (nI bu)), (2, .int (nI len)), (3, .int (nI 0))] := lv_sub hl [1, 2, 3, 0] rfl
  exact loop_1 (16 + 1) 0 (by omega) (by omega) _ _ _ hP9 hD9 hS hl9
set_option maxHeartbeats 4000000 in
set_option maxRecDepth 100000 in
theorem c_X1_fillDescriptor (l : Launch) (dC : Nat → ClassId) (dI : Nat → Nat → Nat) (aR : Nat) (aM : Nat) (aO : Nat) (aI : Nat) (aT : Nat) (aE : Nat) (ff : Int32) (kM : ClassId) (Mm : Nat → Nat) (dd : Nat) (pg : Nat) (len : Nat) (sz : Nat) (hdd : dd + 8 ≤ 384) : Met l yX1_fillDescriptor wsX1_fillDescriptor ({ frames := 0, cells := 0, slots := 0, locals := 0 }) (va_Pc [.ref aR, .int (nI dd), .int (nI pg), .int (nI len)] (fun U => U.heap.size = sz ∧ va_P (dC, dI) vwCl [(aR, .inr (1, [.ref aM, .ref aO, .ref aI, .ref aT, .ref aE, .int ff])), (aM, .inl (kM, 384, .inl (nM Mm)))] U.heap ∧ va_K (dC, dI) vwCl [(kM, .int)] U ∧ va_D (fun _ => True) [(aR, .inr (1, [.ref aM, .ref aO, .ref aI, .ref aT, .ref aE, .int ff])), (aM, .inl (kM, 384, .inl (nM Mm)))])) (va_Qv (fun (_ : Unit) => True) (fun _ t => va_P (dC, dI) vwCl [(aR, .inr (1, [.ref aM, .ref aO, .ref aI, .ref aT, .ref aE, .int ff])), (aM, .inl (kM, 384, .inl (nM (fdI Mm dd pg len 8))))] t.heap ∧ va_K (dC, dI) vwCl [(kM, .int)] t ∧ va_D (va_A [(aR, .inr (1, [.ref aM, .ref aO, .ref aI, .ref aT, .ref aE, .int ff])), (aM, .inl (kM, 384, .inl (nM Mm)))] sz) [(aR, .inr (1, [.ref aM, .ref aO, .ref aI, .ref aT, .ref aE, .int ff])), (aM, .inl (kM, 384, .inl (nM (fdI Mm dd pg len 8))))]) (va_A [(aR, .inr (1, [.ref aM, .ref aO, .ref aI, .ref aT, .ref aE, .int ff])), (aM, .inl (kM, 384, .inl (nM Mm)))] sz)) 0 0 (va_A [(aR, .inr (1, [.ref aM, .ref aO, .ref aI, .ref aT, .ref aE, .int ff])), (aM, .inl (kM, 384, .inl (nM Mm)))] sz) := by
  refine Met.ofW (cc := cX1_fillDescriptor) (maxL := 5) (ret := none) (by decide) rfl ?_
  intro p e s m args below meth c s₁ B hml hv
  obtain ⟨rfl, hsz, hP, hK, hD0⟩ := hv
  have hx := B.exec
  have hb := B.bytes
  have hr := B.returns
  have hts := atoms_spec (ws := wsX1_fillDescriptor) B.pre
  have hown : s.vm.findClass RX1 = some m.cls := findClass_of_methodNamed B.named
  have hlocks := B.notSynchronized
  have hI1 : ∀ w ∈ u_ws RX1 TX1 6, w ∈ wsX1_fillDescriptor := by decide +kernel
  subst hsz
  have hD := hD0.self (sz := s.heap.size)
  generalize hAe : va_A [(aR, .inr (1, [.ref aM, .ref aO, .ref aI, .ref aT, .ref aE, .int ff])), (aM, .inl (kM, 384, .inl (nM Mm)))] s.heap.size = A at hD ⊢
  have hA : ∀ q : Nat, s.heap.size ≤ q → A q := fun q h => by rw [← hAe]; exact Or.inr h
  have hS : va_S A s.heap s.heap [] := va_S.rf
  have hP : va_P (dC, dI) vwCl [(aR, .inr (1, [.ref aM, .ref aO, .ref aI, .ref aT, .ref aE, .int ff])), (aM, .inl (kM, 384, .inl (nM Mm)))] s.heap := hP
  have hl := lv_entry ([.ref aR, .int (nI dd), .int (nI pg), .int (nI len)]) (n := 5) (Nat.le_of_ble_eq_true rfl)
  rw [lg_entry_eq]
  generalize (lg_sl ([.ref aR, .int (nI dd), .int (nI pg), .int (nI len)]) ++ List.replicate (5 - (lg_sl ([.ref aR, .int (nI dd), .int (nI pg), .int (nI len)])).length) Slot.unset).toArray = ls at hl ⊢
  have hl : lv_has ls 5 [(0, .ref aR), (1, .int (nI dd)), (2, .int (nI pg)), (3, .int (nI len))] := hl
  refine W_gen (fun Q eQ => ?_)
  refine lv_aload_n hx hb dX1_fillDescriptor_0 rfl (lv_at hl 0 rfl) ?_
  refine va_get (D := (dC, dI)) (ci := 1) (v := .ref aM) (C := RX1) (T := TX1) (N := 6) hx hb hts hI1 hown hK hP 0 rfl rfl 0 (by decide) (hts (.fieldLink RX1 9 "RingDriver" "memory" "[I") (by decide +kernel)) (fun _ h9 => h9) rfl dX1_fillDescriptor_1 ?_
  refine lv_iload_n hx hb dX1_fillDescriptor_4 rfl (lv_at hl 1 rfl) ?_
  refine lv_iload_n hx hb dX1_fillDescriptor_5 rfl (lv_at hl 2 rfl) ?_
  refine va_iast (x := nI pg) hx hb hK hP hD hS 1 0 rfl rfl (vp_in_nI (n := dd) (N := 384) (by omega) (by decide)) dX1_fillDescriptor_6 (fun H locs hP hD hS => ?_)
  have h9 : dd < 2 ^ 31 := Nat.lt_trans (m := 384) (by omega) (by decide)
  have hP : va_P (dC, dI) vwCl [(aR, .inr (1, [.ref aM, .ref aO, .ref aI, .ref aT, .ref aE, .int ff])), (aM, .inl (kM, 384, .inl (upd (nM Mm) (nI dd).toNatClampNeg (nI pg))))] H := hP
  have hD : va_D A [(aR, .inr (1, [.ref aM, .ref aO, .ref aI, .ref aT, .ref aE, .int ff])), (aM, .inl (kM, 384, .inl (upd (nM Mm) (nI dd).toNatClampNeg (nI pg))))] := hD
  have e_1 : upd (nM Mm) (nI dd).toNatClampNeg (nI pg) = nM (updN Mm dd pg) := updI h9
  have hP : va_P (dC, dI) vwCl [(aR, .inr (1, [.ref aM, .ref aO, .ref aI, .ref aT, .ref aE, .int ff])), (aM, .inl (kM, 384, .inl (nM (updN Mm dd pg))))] H := Eq.mp (congrArg (fun (z1 : Nat → Int32) => va_P (dC, dI) vwCl [(aR, .inr (1, [.ref aM, .ref aO, .ref aI, .ref aT, .ref aE, .int ff])), (aM, .inl (kM, 384, .inl z1))] H) e_1) hP
  have hD : va_D A [(aR, .inr (1, [.ref aM, .ref aO, .ref aI, .ref aT, .ref aE, .int ff])), (aM, .inl (kM, 384, .inl (nM (updN Mm dd pg))))] := Eq.mp (congrArg (fun (z1 : Nat → Int32) => va_D A [(aR, .inr (1, [.ref aM, .ref aO, .ref aI, .ref aT, .ref aE, .int ff])), (aM, .inl (kM, 384, .inl z1))]) e_1) hD
  refine lv_aload_n hx hb dX1_fillDescriptor_7 rfl (lv_at hl 0 rfl) ?_
  refine va_get (D := (dC, dI)) (ci := 1) (v := .ref aM) (C := RX1) (T := TX1) (N := 6) hx hb hts hI1 hown hK hP 0 rfl rfl 0 (by decide) (hts (.fieldLink RX1 9 "RingDriver" "memory" "[I") (by decide +kernel)) (fun _ h9 => h9) rfl dX1_fillDescriptor_8 ?_
  refine lv_iload_n hx hb dX1_fillDescriptor_11 rfl (lv_at hl 1 rfl) ?_
  refine lv_iconst (v := nI 1) hx hb dX1_fillDescriptor_12 (by decide +kernel) ?_
  refine lv_iadd hx hb dX1_fillDescriptor_13 ?_
  refine lv_topi (fun y_2 ey_2 => ?_)
  obtain rfl := ey_2.trans (nI_add dd 1)
  refine lv_iload_n hx hb dX1_fillDescriptor_14 rfl (lv_at hl 3 rfl) ?_
  refine va_iast (x := nI len) hx hb hK hP hD hS 1 0 rfl rfl (vp_in_nI (n := dd + 1) (N := 384) (by omega) (by decide)) dX1_fillDescriptor_15 (fun H locs hP hD hS => ?_)
  have h9 : dd + 1 < 2 ^ 31 := Nat.lt_trans (m := 384) (by omega) (by decide)
  have hP : va_P (dC, dI) vwCl [(aR, .inr (1, [.ref aM, .ref aO, .ref aI, .ref aT, .ref aE, .int ff])), (aM, .inl (kM, 384, .inl (upd (nM (updN Mm dd pg)) (nI (dd + 1)).toNatClampNeg (nI len))))] H := hP
  have hD : va_D A [(aR, .inr (1, [.ref aM, .ref aO, .ref aI, .ref aT, .ref aE, .int ff])), (aM, .inl (kM, 384, .inl (upd (nM (updN Mm dd pg)) (nI (dd + 1)).toNatClampNeg (nI len))))] := hD
  have e_3 : upd (nM (updN Mm dd pg)) (nI (dd + 1)).toNatClampNeg (nI len) = nM (updN (updN Mm dd pg) (dd + 1) len) := updI h9
  have hP : va_P (dC, dI) vwCl [(aR, .inr (1, [.ref aM, .ref aO, .ref aI, .ref aT, .ref aE, .int ff])), (aM, .inl (kM, 384, .inl (nM (updN (updN Mm dd pg) (dd + 1) len))))] H := Eq.mp (congrArg (fun (z1 : Nat → Int32) => va_P (dC, dI) vwCl [(aR, .inr (1, [.ref aM, .ref aO, .ref aI, .ref aT, .ref aE, .int ff])), (aM, .inl (kM, 384, .inl z1))] H) e_3) hP
  have hD : va_D A [(aR, .inr (1, [.ref aM, .ref aO, .ref aI, .ref aT, .ref aE, .int ff])), (aM, .inl (kM, 384, .inl (nM (updN (updN Mm dd pg) (dd + 1) len))))] := Eq.mp (congrArg (fun (z1 : Nat → Int32) => va_D A [(aR, .inr (1, [.ref aM, .ref aO, .ref aI, .ref aT, .ref aE, .int ff])), (aM, .inl (kM, 384, .inl z1))]) e_3) hD
  refine lv_aload_n hx hb dX1_fillDescriptor_16 rfl (lv_at hl 0 rfl) ?_
  refine va_get (D := (dC, dI)) (ci := 1) (v := .ref aM) (C := RX1) (T := TX1) (N := 6) hx hb hts hI1 hown hK hP 0 rfl rfl 0 (by decide) (hts (.fieldLink RX1 9 "RingDriver" "memory" "[I") (by decide +kernel)) (fun _ h9 => h9) rfl dX1_fillDescriptor_17 ?_
  refine lv_iload_n hx hb dX1_fillDescriptor_20 rfl (lv_at hl 1 rfl) ?_
  refine lv_iconst (v := nI 2) hx hb dX1_fillDescriptor_21 (by decide +kernel) ?_
  refine lv_iadd hx hb dX1_fillDescriptor_22 ?_
  refine lv_topi (fun y_4 ey_4 => ?_)
  obtain rfl := ey_4.trans (nI_add dd 2)
  refine lv_iconst (v := nI 1) hx hb dX1_fillDescriptor_23 (by decide +kernel) ?_
  refine va_iast (x := nI 1) hx hb hK hP hD hS 1 0 rfl rfl (vp_in_nI (n := dd + 2) (N := 384) (by omega) (by decide)) dX1_fillDescriptor_24 (fun H locs hP hD hS => ?_)
  have h9 : dd + 2 < 2 ^ 31 := Nat.lt_trans (m := 384) (by omega) (by decide)
  have hP : va_P (dC, dI) vwCl [(aR, .inr (1, [.ref aM, .ref aO, .ref aI, .ref aT, .ref aE, .int ff])), (aM, .inl (kM, 384, .inl (upd (nM (updN (updN Mm dd pg) (dd + 1) len)) (nI (dd + 2)).toNatClampNeg (nI 1))))] H := hP
  have hD : va_D A [(aR, .inr (1, [.ref aM, .ref aO, .ref aI, .ref aT, .ref aE, .int ff])), (aM, .inl (kM, 384, .inl (upd (nM (updN (updN Mm dd pg) (dd + 1) len)) (nI (dd + 2)).toNatClampNeg (nI 1))))] := hD
  have e_5 : upd (nM (updN (updN Mm dd pg) (dd + 1) len)) (nI (dd + 2)).toNatClampNeg (nI 1) = nM (updN (updN (updN Mm dd pg) (dd + 1) len) (dd + 2) 1) := updI h9
  have hP : va_P (dC, dI) vwCl [(aR, .inr (1, [.ref aM, .ref aO, .ref aI, .ref aT, .ref aE, .int ff])), (aM, .inl (kM, 384, .inl (nM (updN (updN (updN Mm dd pg) (dd + 1) len) (dd + 2) 1))))] H := Eq.mp (congrArg (fun (z1 : Nat → Int32) => va_P (dC, dI) vwCl [(aR, .inr (1, [.ref aM, .ref aO, .ref aI, .ref aT, .ref aE, .int ff])), (aM, .inl (kM, 384, .inl z1))] H) e_5) hP
  have hD : va_D A [(aR, .inr (1, [.ref aM, .ref aO, .ref aI, .ref aT, .ref aE, .int ff])), (aM, .inl (kM, 384, .inl (nM (updN (updN (updN Mm dd pg) (dd + 1) len) (dd + 2) 1))))] := Eq.mp (congrArg (fun (z1 : Nat → Int32) => va_D A [(aR, .inr (1, [.ref aM, .ref aO, .ref aI, .ref aT, .ref aE, .int ff])), (aM, .inl (kM, 384, .inl z1))]) e_5) hD
  refine lv_iconst (v := nI 3) hx hb dX1_fillDescriptor_25 (by decide +kernel) ?_
  refine lv_istore (lv' := [(4, .int (nI 3)), (0, .ref aR), (1, .int (nI dd)), (2, .int (nI pg)), (3, .int (nI len))]) hx hb dX1_fillDescriptor_26 hl (by decide) rfl (fun ls hl => ?_)
  have loop_6 : ∀ (fuel : Nat) (i : Nat), (3 ≤ i) → (i ≤ 8) → 8 - i < fuel → ∀ (H : Heap) (locs : List Loc) (ls : Array Slot), va_P (dC, dI) vwCl [(aR, .inr (1, [.ref aM, .ref aO, .ref aI, .ref aT, .ref aE, .int ff])), (aM, .inl (kM, 384, .inl (nM (fdI Mm dd pg len i))))] H → va_D A [(aR, .inr (1, [.ref aM, .ref aO, .ref aI, .ref aT, .ref aE, .int ff])), (aM, .inl (kM, 384, .inl (nM (fdI Mm dd pg len i))))] → va_S A s.heap H locs → lv_has ls 5 [(0, .ref aR), (1, .int (nI dd)), (2, .int (nI pg)), (3, .int (nI len)), (4, .int (nI i))] → W p l e (headSpec wsX1_fillDescriptor ({ frames := 0, cells := 0, slots := 0, locals := 0 })).room s m ([.ref aR, .int (nI dd), .int (nI pg), .int (nI len)] : List Value).toArray below meth c H locs 0 0 Q (F0 m 28 ls []) := by
    intro fuel
    induction fuel with
    | zero =>
      intro i hi3 hi hfu
      exact absurd hfu (Nat.not_lt_zero _)
    | succ fuel ih =>
      intro i hi3 hi hfu H locs ls hP hD hS hl
      refine lv_iload hx hb dX1_fillDescriptor_28 (lv_at hl 4 rfl) ?_
      refine lv_bipush (v := nI 8) hx hb dX1_fillDescriptor_30 (by decide +kernel) ?_
      refine lv_icmp_ge (tgt := 51) hx hb dX1_fillDescriptor_32 (by decide) (fun c_7 => ?_) (fun c_7 => ?_)
      · have c_7 : 8 ≤ i := (nI_leI (a := 8) (b := i) (by omega) (by omega)).mp c_7
        have hP9 := hP.sub (ws' := [(aR, .inr (1, [.ref aM, .ref aO, .ref aI, .ref aT, .ref aE, .int ff])), (aM, .inl (kM, 384, .inl (nM (fdI Mm dd pg len i))))]) [0, 1] rfl
        have hD9 := hD.sub (ws' := [(aR, .inr (1, [.ref aM, .ref aO, .ref aI, .ref aT, .ref aE, .int ff])), (aM, .inl (kM, 384, .inl (nM (fdI Mm dd pg len i))))]) [0, 1] (by decide) rfl
        have hK9 := hK.sub (tys' := [(kM, .int)]) [0] rfl
        have e_8 : (nM (fdI Mm dd pg len i)) = nM (fdI Mm dd pg len 8) := by rw [show i = 8 from by omega]
        have hP9 : va_P (dC, dI) vwCl [(aR, .inr (1, [.ref aM, .ref aO, .ref aI, .ref aT, .ref aE, .int ff])), (aM, .inl (kM, 384, .inl (nM (fdI Mm dd pg len 8))))] H := Eq.mp (congrArg (fun (z1 : Nat → Int32) => va_P (dC, dI) vwCl [(aR, .inr (1, [.ref aM, .ref aO, .ref aI, .ref aT, .ref aE, .int ff])), (aM, .inl (kM, 384, .inl z1))] H) e_8) hP9
        have hD9 : va_D A [(aR, .inr (1, [.ref aM, .ref aO, .ref aI, .ref aT, .ref aE, .int ff])), (aM, .inl (kM, 384, .inl (nM (fdI Mm dd pg len 8))))] := Eq.mp (congrArg (fun (z1 : Nat → Int32) => va_D A [(aR, .inr (1, [.ref aM, .ref aO, .ref aI, .ref aT, .ref aE, .int ff])), (aM, .inl (kM, 384, .inl z1))]) e_8) hD9
        subst eQ
        exact W.vret hx hb hr (fun t ht hW => ⟨⟨(), rfl, trivial, by rw [ht]; exact hP9, va_K.moved hW.alike hK9, hD9⟩, hS.F ht⟩) hS.2.2 dX1_fillDescriptor_51
      · have c_7 : ¬ (8 ≤ i) := fun h9 => c_7 ((nI_leI (a := 8) (b := i) (by omega) (by omega)).mpr h9)
        refine lv_aload_n hx hb dX1_fillDescriptor_35 rfl (lv_at hl 0 rfl) ?_
        refine va_get (D := (dC, dI)) (ci := 1) (v := .ref aM) (C := RX1) (T := TX1) (N := 6) hx hb hts hI1 hown hK hP 0 rfl rfl 0 (by decide) (hts (.fieldLink RX1 9 "RingDriver" "memory" "[I") (by decide +kernel)) (fun _ h9 => h9) rfl dX1_fillDescriptor_36 ?_
        refine lv_iload_n hx hb dX1_fillDescriptor_39 rfl (lv_at hl 1 rfl) ?_
        refine lv_iload hx hb dX1_fillDescriptor_40 (lv_at hl 4 rfl) ?_
        refine lv_iadd hx hb dX1_fillDescriptor_42 ?_
        refine lv_topi (fun y_9 ey_9 => ?_)
        obtain rfl := ey_9.trans (nI_add dd i)
        refine lv_iconst (v := nI 0) hx hb dX1_fillDescriptor_43 (by decide +kernel) ?_
        refine va_iast (x := nI 0) hx hb hK hP hD hS 1 0 rfl rfl (vp_in_nI (n := dd + i) (N := 384) (by omega) (by decide)) dX1_fillDescriptor_44 (fun H locs hP hD hS => ?_)
        have h9 : dd + i < 2 ^ 31 := Nat.lt_trans (m := 384) (by omega) (by decide)
        have hP : va_P (dC, dI) vwCl [(aR, .inr (1, [.ref aM, .ref aO, .ref aI, .ref aT, .ref aE, .int ff])), (aM, .inl (kM, 384, .inl (upd (nM (fdI Mm dd pg len i)) (nI (dd + i)).toNatClampNeg (nI 0))))] H := hP
        have hD : va_D A [(aR, .inr (1, [.ref aM, .ref aO, .ref aI, .ref aT, .ref aE, .int ff])), (aM, .inl (kM, 384, .inl (upd (nM (fdI Mm dd pg len i)) (nI (dd + i)).toNatClampNeg (nI 0))))] := hD
        have e_10 : upd (nM (fdI Mm dd pg len i)) (nI (dd + i)).toNatClampNeg (nI 0) = nM (updN (fdI Mm dd pg len i) (dd + i) 0) := updI h9
        have hP : va_P (dC, dI) vwCl [(aR, .inr (1, [.ref aM, .ref aO, .ref aI, .ref aT, .ref aE, .int ff])), (aM, .inl (kM, 384, .inl (nM (updN (fdI Mm dd pg len i) (dd + i) 0))))] H := Eq.mp (congrArg (fun (z1 : Nat → Int32) => va_P (dC, dI) vwCl [(aR, .inr (1, [.ref aM, .ref aO, .ref aI, .ref aT, .ref aE, .int ff])), (aM, .inl (kM, 384, .inl z1))] H) e_10) hP
        have hD : va_D A [(aR, .inr (1, [.ref aM, .ref aO, .ref aI, .ref aT, .ref aE, .int ff])), (aM, .inl (kM, 384, .inl (nM (updN (fdI Mm dd pg len i) (dd + i) 0))))] := Eq.mp (congrArg (fun (z1 : Nat → Int32) => va_D A [(aR, .inr (1, [.ref aM, .ref aO, .ref aI, .ref aT, .ref aE, .int ff])), (aM, .inl (kM, 384, .inl z1))]) e_10) hD
        refine lv_iinc (v := nI (i + 1)) (lv' := [(4, .int (nI (i + 1))), (0, .ref aR), (1, .int (nI dd)), (2, .int (nI pg)), (3, .int (nI len))]) hx hb dX1_fillDescriptor_45 hl (k := 4) rfl (show nI i + Int32.ofInt 1 = nI (i + 1) from nI_1 i) (by decide) rfl (fun ls hl => ?_)
        refine lv_goto (tgt := 28) hx hb dX1_fillDescriptor_48 (by decide) ?_
        have hP9 := hP.sub (ws' := [(aR, .inr (1, [.ref aM, .ref aO, .ref aI, .ref aT, .ref aE, .int ff])), (aM, .inl (kM, 384, .inl (nM (updN (fdI Mm dd pg len i) (dd + i) 0))))]) [0, 1] rfl
        have hD9 := hD.sub (ws' := [(aR, .inr (1, [.ref aM, .ref aO, .ref aI, .ref aT, .ref aE, .int ff])), (aM, .inl (kM, 384, .inl (nM (updN (fdI Mm dd pg len i) (dd + i) 0))))]) [0, 1] (by decide) rfl
        have e_11 : (nM (updN (fdI Mm dd pg len i) (dd + i) 0)) = nM (fdI Mm dd pg len (i + 1)) := congrArg nM (fdI_s (by omega))
        have hP9 : va_P (dC, dI) vwCl [(aR, .inr (1, [.ref aM, .ref aO, .ref aI, .ref aT, .ref aE, .int ff])), (aM, .inl (kM, 384, .inl (nM (fdI Mm dd pg len (i + 1)))))] H := Eq.mp (congrArg (fun (z1 : Nat → Int32) => va_P (dC, dI) vwCl [(aR, .inr (1, [.ref aM, .ref aO, .ref aI, .ref aT, .ref aE, .int ff])), (aM, .inl (kM, 384, .inl z1))] H) e_11) hP9
        have hD9 : va_D A [(aR, .inr (1, [.ref aM, .ref aO, .ref aI, .ref aT, .ref aE, .int ff])), (aM, .inl (kM, 384, .inl (nM (fdI Mm dd pg len (i + 1)))))] := Eq.mp (congrArg (fun (z1 : Nat → Int32) => va_D A [(aR, .inr (1, [.ref aM, .ref aO, .ref aI, .ref aT, .ref aE, .int ff])), (aM, .inl (kM, 384, .inl z1))]) e_11) hD9
        have hl9 : lv_has ls 5 [(0, .ref aR), (1, .int (nI dd)), (2, .int (nI pg)), (3, .int (nI len)), (4, .int (nI (i + 1)))] := lv_sub hl [1, 2, 3, 4, 0] rfl
        exact ih (i + 1) (by omega) (by omega) (by omega) _ _ _ hP9 hD9 hS hl9
  have hP9 := hP.sub (ws' := [(aR, .inr (1, [.ref aM, .ref aO, .ref aI, .ref aT, .ref aE, .int ff])), (aM, .inl (kM, 384, .inl (nM (updN (updN (updN Mm dd pg) (dd + 1) len) (dd + 2) 1))))]) [0, 1] rfl
  have hD9 := hD.sub (ws' := [(aR, .inr (1, [.ref aM, .ref aO, .ref aI, .ref aT, .ref aE, .int ff])), (aM, .inl (kM, 384, .inl (nM (updN (updN (updN Mm dd pg) (dd + 1) len) (dd + 2) 1))))]) [0, 1] (by decide) rfl
  have e_12 : (nM (updN (updN (updN Mm dd pg) (dd + 1) len) (dd + 2) 1)) = nM (fdI Mm dd pg len 3) := congrArg nM fdI_3
  have hP9 : va_P (dC, dI) vwCl [(aR, .inr (1, [.ref aM, .ref aO, .ref aI, .ref aT, .ref aE, .int ff])), (aM, .inl (kM, 384, .inl (nM (fdI Mm dd pg len 3))))] H := Eq.mp (congrArg (fun (z1 : Nat → Int32) => va_P (dC, dI) vwCl [(aR, .inr (1, [.ref aM, .ref aO, .ref aI, .ref aT, .ref aE, .int ff])), (aM, .inl (kM, 384, .inl z1))] H) e_12) hP9
  have hD9 : va_D A [(aR, .inr (1, [.ref aM, .ref aO, .ref aI, .ref aT, .ref aE, .int ff])), (aM, .inl (kM, 384, .inl (nM (fdI Mm dd pg len 3))))] := Eq.mp (congrArg (fun (z1 : Nat → Int32) => va_D A [(aR, .inr (1, [.ref aM, .ref aO, .ref aI, .ref aT, .ref aE, .int ff])), (aM, .inl (kM, 384, .inl z1))]) e_12) hD9
  have hl9 : lv_has ls 5 [(0, .ref aR), (1, .int (nI dd)), (2, .int (nI pg)), (3, .int (nI len)), (4, .int (nI 3))] := lv_sub hl [1, 2, 3, 4, 0] rfl
  exact loop_6 (8 + 1) 3 (by omega) (by omega) (by omega) _ _ _ hP9 hD9 hS hl9
set_option maxHeartbeats 4000000 in
set_option maxRecDepth 100000 in
theorem c_X1_closeAllBehind (l : Launch) (dC : Nat → ClassId) (dI : Nat → Nat → Nat) (aR : Nat) (aM : Nat) (aO : Nat) (aI : Nat) (aT : Nat) (aE : Nat) (ff : Int32) (kM : ClassId) (Mm : Nat → Nat) (aQ : Nat) (rs : Nat) (fp : Nat) (tq : Nat) (nq : Nat) (pl : Nat) (sz : Nat) (hht : tq < 8) (hhn : nq ≤ 8) (hhrs : rs ≤ 64) (hhk : pl ≤ nq) : Met l yX1_closeAllBehind wsX1_closeAllBehind ({ frames := 2, cells := 0, slots := 0, locals := 42 }) (va_Pc [.ref aR, .ref aQ, .int (nI pl)] (fun U => U.heap.size = sz ∧ va_P (dC, dI) vwCl [(aR, .inr (1, [.ref aM, .ref aO, .ref aI, .ref aT, .ref aE, .int ff])), (aM, .inl (kM, 384, .inl (nM Mm))), (aQ, .inr (0, [.int (nI rs), .int (nI fp), .int (nI tq), .int (nI nq)]))] U.heap ∧ va_K (dC, dI) vwCl [(kM, .int)] U ∧ va_D (fun _ => True) [(aR, .inr (1, [.ref aM, .ref aO, .ref aI, .ref aT, .ref aE, .int ff])), (aM, .inl (kM, 384, .inl (nM Mm))), (aQ, .inr (0, [.int (nI rs), .int (nI fp), .int (nI tq), .int (nI nq)]))])) (va_Qi (fun (r9 : Int32) (_ : Unit) => r9 = nI (nq - pl)) (fun _ t => va_P (dC, dI) vwCl [(aR, .inr (1, [.ref aM, .ref aO, .ref aI, .ref aT, .ref aE, .int ff])), (aM, .inl (kM, 384, .inl (nM (clM Mm rs tq pl nq)))), (aQ, .inr (0, [.int (nI rs), .int (nI fp), .int (nI tq), .int (nI pl)]))] t.heap ∧ va_K (dC, dI) vwCl [(kM, .int)] t ∧ va_D (va_A [(aR, .inr (1, [.ref aM, .ref aO, .ref aI, .ref aT, .ref aE, .int ff])), (aM, .inl (kM, 384, .inl (nM Mm))), (aQ, .inr (0, [.int (nI rs), .int (nI fp), .int (nI tq), .int (nI nq)]))] sz) [(aR, .inr (1, [.ref aM, .ref aO, .ref aI, .ref aT, .ref aE, .int ff])), (aM, .inl (kM, 384, .inl (nM (clM Mm rs tq pl nq)))), (aQ, .inr (0, [.int (nI rs), .int (nI fp), .int (nI tq), .int (nI pl)]))]) (va_A [(aR, .inr (1, [.ref aM, .ref aO, .ref aI, .ref aT, .ref aE, .int ff])), (aM, .inl (kM, 384, .inl (nM Mm))), (aQ, .inr (0, [.int (nI rs), .int (nI fp), .int (nI tq), .int (nI nq)]))] sz)) 0 0 (va_A [(aR, .inr (1, [.ref aM, .ref aO, .ref aI, .ref aT, .ref aE, .int ff])), (aM, .inl (kM, 384, .inl (nM Mm))), (aQ, .inr (0, [.int (nI rs), .int (nI fp), .int (nI tq), .int (nI nq)]))] sz) := by
  refine Met.ofW (cc := cX1_closeAllBehind) (maxL := 5) (ret := (some .int)) (by decide) rfl ?_
  intro p e s m args below meth c s₁ B hml hv
  obtain ⟨rfl, hsz, hP, hK, hD0⟩ := hv
  have hx := B.exec
  have hb := B.bytes
  have hr := B.returns
  have hts := atoms_spec (ws := wsX1_closeAllBehind) B.pre
  have hown : s.vm.findClass RX1 = some m.cls := findClass_of_methodNamed B.named
  have hlocks := B.notSynchronized
  have hI1 : ∀ w ∈ u_ws RX1 TX1 6, w ∈ wsX1_closeAllBehind := by decide +kernel
  subst hsz
  have hD := hD0.self (sz := s.heap.size)
  generalize hAe : va_A [(aR, .inr (1, [.ref aM, .ref aO, .ref aI, .ref aT, .ref aE, .int ff])), (aM, .inl (kM, 384, .inl (nM Mm))), (aQ, .inr (0, [.int (nI rs), .int (nI fp), .int (nI tq), .int (nI nq)]))] s.heap.size = A at hD ⊢
  have hA : ∀ q : Nat, s.heap.size ≤ q → A q := fun q h => by rw [← hAe]; exact Or.inr h
  have hS : va_S A s.heap s.heap [] := va_S.rf
  have hP : va_P (dC, dI) vwCl [(aR, .inr (1, [.ref aM, .ref aO, .ref aI, .ref aT, .ref aE, .int ff])), (aM, .inl (kM, 384, .inl (nM Mm))), (aQ, .inr (0, [.int (nI rs), .int (nI fp), .int (nI tq), .int (nI nq)]))] s.heap := hP
  have hl := lv_entry ([.ref aR, .ref aQ, .int (nI pl)]) (n := 5) (Nat.le_of_ble_eq_true rfl)
  rw [lg_entry_eq]
  generalize (lg_sl ([.ref aR, .ref aQ, .int (nI pl)]) ++ List.replicate (5 - (lg_sl ([.ref aR, .ref aQ, .int (nI pl)])).length) Slot.unset).toArray = ls at hl ⊢
  have hl : lv_has ls 5 [(0, .ref aR), (1, .ref aQ), (2, .int (nI pl))] := hl
  refine W_gen (fun Q eQ => ?_)
  refine lv_aload_n hx hb dX1_closeAllBehind_0 rfl (lv_at hl 1 rfl) ?_
  have hPc := hP.sub (ws' := [(aQ, .inr (0, [.int (nI rs), .int (nI fp), .int (nI tq), .int (nI nq)]))]) [2] rfl
  have hDc := hD.sub (ws' := [(aQ, .inr (0, [.int (nI rs), .int (nI fp), .int (nI tq), .int (nI nq)]))]) [2] (by decide) rfl
  have hKc := hK.sub (tys' := []) [] rfl
  have hFc := va_free (wc := [(aQ, .inr (0, [.int (nI rs), .int (nI fp), .int (nI tq), .int (nI nq)]))]) hD hS hA [2] rfl
  refine va_calli (va_runV (As := []) (rest := []) ⟨hx, hb, hml, hown, hts⟩ (c_X0_size l dC dI aQ rs fp tq nq s.heap.size ) (cwV 0 hts gX1_closeAllBehind_X0_size rfl rfl rfl (by decide +kernel) ⟨Nat.le_of_ble_eq_true rfl, Nat.le_of_ble_eq_true rfl⟩) ⟨fun a U g mk q => by obtain ⟨q0, q1, qP, qK, qD⟩ := q; exact ⟨q0, q1, qP, va_K.moved (u := U) (U := U.calling g mk a) (Vm.Alike.refl U.vm) qK, qD⟩, va_recv hKc hPc (ci := 0) (q0 := 0) rfl rfl, fun U hU hW => ⟨rfl, by rw [hU], by rw [hU]; exact hPc, va_K.moved hW.alike hKc, hDc.weaken (fun _ _ _ _ => trivial)⟩⟩ rfl rfl hl.1 rfl (lv_room (Nat.le_of_ble_eq_true rfl)) dX1_closeAllBehind_1 ⟨Nat.le_of_ble_eq_true rfl, Nat.le_of_ble_eq_true rfl⟩) hS (fun q _ h => hFc q h) hFc (fun r_1 u t H1 locs ht hvm hw hB hz1 hk1 hS => ?_)
  obtain ⟨hP1, hK1, hD1⟩ := hB
  rw [ht] at hP1
  have hK1 := va_K.moved hvm.symm hK1
  obtain ⟨hP, hD⟩ := va_join (wr := [(aR, .inr (1, [.ref aM, .ref aO, .ref aI, .ref aT, .ref aE, .int ff])), (aM, .inl (kM, 384, .inl (nM Mm)))]) (w1 := [(aQ, .inr (0, [.int (nI rs), .int (nI fp), .int (nI tq), .int (nI nq)]))]) hP hD [2] [0, 1] rfl rfl (by decide) (by decide) hk1 hFc hP1 hD1
  have hK := (hK.sub (tys' := [(kM, .int)]) [0] rfl).app hK1
  generalize H1 = H at hP hS ⊢
  have hP : va_P (dC, dI) vwCl [(aR, .inr (1, [.ref aM, .ref aO, .ref aI, .ref aT, .ref aE, .int ff])), (aM, .inl (kM, 384, .inl (nM Mm))), (aQ, .inr (0, [.int (nI rs), .int (nI fp), .int (nI tq), .int (nI nq)]))] H := hP
  have hD : va_D A [(aR, .inr (1, [.ref aM, .ref aO, .ref aI, .ref aT, .ref aE, .int ff])), (aM, .inl (kM, 384, .inl (nM Mm))), (aQ, .inr (0, [.int (nI rs), .int (nI fp), .int (nI tq), .int (nI nq)]))] := hD
  have hK : va_K (dC, dI) vwCl [(kM, .int)] s := hK
  obtain rfl : r_1 = nI nq := hw
  refine lv_istore_n (lv' := [(3, .int (nI nq)), (0, .ref aR), (1, .ref aQ), (2, .int (nI pl))]) hx hb dX1_closeAllBehind_4 rfl hl (by decide) rfl (fun ls hl => ?_)
  refine lv_iload_n hx hb dX1_closeAllBehind_5 rfl (lv_at hl 3 rfl) ?_
  refine lv_istore (lv' := [(4, .int (nI pl)), (3, .int (nI nq)), (0, .ref aR), (1, .ref aQ), (2, .int (nI pl))]) hx hb dX1_closeAllBehind_6 hl (by decide) rfl (fun ls hl => ?_)
  have loop_2 : ∀ (fuel : Nat) (i : Nat), (pl ≤ i) → (i ≤ nq) → nq - i < fuel → ∀ (H : Heap) (locs : List Loc) (ls : Array Slot), va_P (dC, dI) vwCl [(aR, .inr (1, [.ref aM, .ref aO, .ref aI, .ref aT, .ref aE, .int ff])), (aM, .inl (kM, 384, .inl (nM (clM Mm rs tq pl i)))), (aQ, .inr (0, [.int (nI rs), .int (nI fp), .int (nI tq), .int (nI nq)]))] H → va_D A [(aR, .inr (1, [.ref aM, .ref aO, .ref aI, .ref aT, .ref aE, .int ff])), (aM, .inl (kM, 384, .inl (nM (clM Mm rs tq pl i)))), (aQ, .inr (0, [.int (nI rs), .int (nI fp), .int (nI tq), .int (nI nq)]))] → va_S A s.heap H locs → lv_has ls 5 [(0, .ref aR), (1, .ref aQ), (2, .int (nI pl)), (3, .int (nI nq)), (4, .int (nI i))] → W p l e (headSpec wsX1_closeAllBehind ({ frames := 2, cells := 0, slots := 0, locals := 42 })).room s m ([.ref aR, .ref aQ, .int (nI pl)] : List Value).toArray below meth c H locs 0 0 Q (F0 m 8 ls []) := by
    intro fuel
    induction fuel with
    | zero =>
      intro i hip hi hfu
      exact absurd hfu (Nat.not_lt_zero _)
    | succ fuel ih =>
      intro i hip hi hfu H locs ls hP hD hS hl
      refine lv_iload hx hb dX1_closeAllBehind_8 (lv_at hl 4 rfl) ?_
      refine lv_iload_n hx hb dX1_closeAllBehind_10 rfl (lv_at hl 3 rfl) ?_
      refine lv_icmp_ge (tgt := 34) hx hb dX1_closeAllBehind_11 (by decide) (fun c_3 => ?_) (fun c_3 => ?_)
      · have c_3 : nq ≤ i := (nI_leI (a := nq) (b := i) (by omega) (by omega)).mp c_3
        refine lv_aload_n hx hb dX1_closeAllBehind_34 rfl (lv_at hl 1 rfl) ?_
        refine lv_iload_n hx hb dX1_closeAllBehind_35 rfl (lv_at hl 2 rfl) ?_
        have hPc := hP.sub (ws' := [(aQ, .inr (0, [.int (nI rs), .int (nI fp), .int (nI tq), .int (nI nq)]))]) [2] rfl
        have hDc := hD.sub (ws' := [(aQ, .inr (0, [.int (nI rs), .int (nI fp), .int (nI tq), .int (nI nq)]))]) [2] (by decide) rfl
        have hKc := hK.sub (tys' := []) [] rfl
        have hFc := va_free (wc := [(aQ, .inr (0, [.int (nI rs), .int (nI fp), .int (nI tq), .int (nI nq)]))]) hD hS hA [2] rfl
        refine va_callv (va_runV (As := [.int (nI pl)]) (rest := []) ⟨hx, hb, hml, hown, hts⟩ (c_X0_keepOldest l dC dI aQ rs fp tq nq pl H.size ) (cwV 1 hts gX1_closeAllBehind_X0_keepOldest rfl rfl rfl (by decide +kernel) ⟨Nat.le_of_ble_eq_true rfl, Nat.le_of_ble_eq_true rfl⟩) ⟨fun a U g mk q => by obtain ⟨q0, q1, qP, qK, qD⟩ := q; exact ⟨q0, q1, qP, va_K.moved (u := U) (U := U.calling g mk a) (Vm.Alike.refl U.vm) qK, qD⟩, va_recv hKc hPc (ci := 0) (q0 := 0) rfl rfl, fun U hU hW => ⟨rfl, by rw [hU], by rw [hU]; exact hPc, va_K.moved hW.alike hKc, hDc.weaken (fun _ _ _ _ => trivial)⟩⟩ rfl rfl hl.1 rfl (lv_room (Nat.le_of_ble_eq_true rfl)) dX1_closeAllBehind_36 ⟨Nat.le_of_ble_eq_true rfl, Nat.le_of_ble_eq_true rfl⟩) hS (fun q _ h => hFc q h) hFc (fun u t H1 locs ht hvm hw hB hz1 hk1 hS => ?_)
        obtain ⟨hP1, hK1, hD1⟩ := hB
        rw [ht] at hP1
        have hK1 := va_K.moved hvm.symm hK1
        obtain ⟨hP, hD⟩ := va_join (wr := [(aR, .inr (1, [.ref aM, .ref aO, .ref aI, .ref aT, .ref aE, .int ff])), (aM, .inl (kM, 384, .inl (nM (clM Mm rs tq pl i))))]) (w1 := [(aQ, .inr (0, [.int (nI rs), .int (nI fp), .int (nI tq), .int (nI pl)]))]) hP hD [2] [0, 1] rfl rfl (by decide) (by decide) hk1 hFc hP1 hD1
        have hK := (hK.sub (tys' := [(kM, .int)]) [0] rfl).app hK1
        generalize H1 = H at hP hS ⊢
        have hP : va_P (dC, dI) vwCl [(aR, .inr (1, [.ref aM, .ref aO, .ref aI, .ref aT, .ref aE, .int ff])), (aM, .inl (kM, 384, .inl (nM (clM Mm rs tq pl i)))), (aQ, .inr (0, [.int (nI rs), .int (nI fp), .int (nI tq), .int (nI pl)]))] H := hP
        have hD : va_D A [(aR, .inr (1, [.ref aM, .ref aO, .ref aI, .ref aT, .ref aE, .int ff])), (aM, .inl (kM, 384, .inl (nM (clM Mm rs tq pl i)))), (aQ, .inr (0, [.int (nI rs), .int (nI fp), .int (nI tq), .int (nI pl)]))] := hD
        have hK : va_K (dC, dI) vwCl [(kM, .int)] s := hK
        refine lv_iload_n hx hb dX1_closeAllBehind_39 rfl (lv_at hl 3 rfl) ?_
        refine lv_iload_n hx hb dX1_closeAllBehind_40 rfl (lv_at hl 2 rfl) ?_
        refine lv_isub hx hb dX1_closeAllBehind_41 ?_
        refine lv_topi (fun y_5 ey_5 => ?_)
        obtain rfl := ey_5.trans (pk_sub (a := nq) (b := pl) (by omega))
        have hP9 := hP.sub (ws' := [(aR, .inr (1, [.ref aM, .ref aO, .ref aI, .ref aT, .ref aE, .int ff])), (aM, .inl (kM, 384, .inl (nM (clM Mm rs tq pl i)))), (aQ, .inr (0, [.int (nI rs), .int (nI fp), .int (nI tq), .int (nI pl)]))]) [0, 1, 2] rfl
        have hD9 := hD.sub (ws' := [(aR, .inr (1, [.ref aM, .ref aO, .ref aI, .ref aT, .ref aE, .int ff])), (aM, .inl (kM, 384, .inl (nM (clM Mm rs tq pl i)))), (aQ, .inr (0, [.int (nI rs), .int (nI fp), .int (nI tq), .int (nI pl)]))]) [0, 1, 2] (by decide) rfl
        have hK9 := hK.sub (tys' := [(kM, .int)]) [0] rfl
        have e_6 : (nM (clM Mm rs tq pl i)) = nM (clM Mm rs tq pl nq) := by rw [show i = nq from by omega]
        have hP9 : va_P (dC, dI) vwCl [(aR, .inr (1, [.ref aM, .ref aO, .ref aI, .ref aT, .ref aE, .int ff])), (aM, .inl (kM, 384, .inl (nM (clM Mm rs tq pl nq)))), (aQ, .inr (0, [.int (nI rs), .int (nI fp), .int (nI tq), .int (nI pl)]))] H := Eq.mp (congrArg (fun (z1 : Nat → Int32) => va_P (dC, dI) vwCl [(aR, .inr (1, [.ref aM, .ref aO, .ref aI, .ref aT, .ref aE, .int ff])), (aM, .inl (kM, 384, .inl z1)), (aQ, .inr (0, [.int (nI rs), .int (nI fp), .int (nI tq), .int (nI pl)]))] H) e_6) hP9
        have hD9 : va_D A [(aR, .inr (1, [.ref aM, .ref aO, .ref aI, .ref aT, .ref aE, .int ff])), (aM, .inl (kM, 384, .inl (nM (clM Mm rs tq pl nq)))), (aQ, .inr (0, [.int (nI rs), .int (nI fp), .int (nI tq), .int (nI pl)]))] := Eq.mp (congrArg (fun (z1 : Nat → Int32) => va_D A [(aR, .inr (1, [.ref aM, .ref aO, .ref aI, .ref aT, .ref aE, .int ff])), (aM, .inl (kM, 384, .inl z1)), (aQ, .inr (0, [.int (nI rs), .int (nI fp), .int (nI tq), .int (nI pl)]))]) e_6) hD9
        subst eQ
        have e_7 : (nI (nq - pl) : Int32) = nI (nq - pl) := rfl
        exact W.iret (v := nI (nq - pl)) hx hb hr (fun t ht hW => ⟨⟨_, (), rfl, e_7, by rw [ht]; exact hP9, va_K.moved hW.alike hK9, hD9⟩, hS.F ht⟩) hS.2.2 dX1_closeAllBehind_42
      · have c_3 : ¬ (nq ≤ i) := fun h9 => c_3 ((nI_leI (a := nq) (b := i) (by omega) (by omega)).mpr h9)
        refine lv_aload_n hx hb dX1_closeAllBehind_14 rfl (lv_at hl 0 rfl) ?_
        refine va_get (D := (dC, dI)) (ci := 1) (v := .ref aM) (C := RX1) (T := TX1) (N := 6) hx hb hts hI1 hown hK hP 0 rfl rfl 0 (by decide) (hts (.fieldLink RX1 9 "RingDriver" "memory" "[I") (by decide +kernel)) (fun _ h9 => h9) rfl dX1_closeAllBehind_15 ?_
        refine lv_aload_n hx hb dX1_closeAllBehind_18 rfl (lv_at hl 1 rfl) ?_
        refine lv_iload hx hb dX1_closeAllBehind_19 (lv_at hl 4 rfl) ?_
        have hPc := hP.sub (ws' := [(aQ, .inr (0, [.int (nI rs), .int (nI fp), .int (nI tq), .int (nI nq)]))]) [2] rfl
        have hDc := hD.sub (ws' := [(aQ, .inr (0, [.int (nI rs), .int (nI fp), .int (nI tq), .int (nI nq)]))]) [2] (by decide) rfl
        have hKc := hK.sub (tys' := []) [] rfl
        have hFc := va_free (wc := [(aQ, .inr (0, [.int (nI rs), .int (nI fp), .int (nI tq), .int (nI nq)]))]) hD hS hA [2] rfl
        refine va_calli (va_runV (As := [.int (nI i)]) (rest := [.ref aM]) ⟨hx, hb, hml, hown, hts⟩ (c_X0_descriptorAt l dC dI aQ rs fp tq nq i H.size (by omega) (by omega) (by omega)) (cwV 1 hts gX1_closeAllBehind_X0_descriptorAt rfl rfl rfl (by decide +kernel) ⟨Nat.le_of_ble_eq_true rfl, Nat.le_of_ble_eq_true rfl⟩) ⟨fun a U g mk q => by obtain ⟨q0, q1, qP, qK, qD⟩ := q; exact ⟨q0, q1, qP, va_K.moved (u := U) (U := U.calling g mk a) (Vm.Alike.refl U.vm) qK, qD⟩, va_recv hKc hPc (ci := 0) (q0 := 0) rfl rfl, fun U hU hW => ⟨rfl, by rw [hU], by rw [hU]; exact hPc, va_K.moved hW.alike hKc, hDc.weaken (fun _ _ _ _ => trivial)⟩⟩ rfl rfl hl.1 rfl (lv_room (Nat.le_of_ble_eq_true rfl)) dX1_closeAllBehind_21 ⟨Nat.le_of_ble_eq_true rfl, Nat.le_of_ble_eq_true rfl⟩) hS (fun q _ h => hFc q h) hFc (fun r_8 u t H1 locs ht hvm hw hB hz1 hk1 hS => ?_)
        obtain ⟨hP1, hK1, hD1⟩ := hB
        rw [ht] at hP1
        have hK1 := va_K.moved hvm.symm hK1
        obtain ⟨hP, hD⟩ := va_join (wr := [(aR, .inr (1, [.ref aM, .ref aO, .ref aI, .ref aT, .ref aE, .int ff])), (aM, .inl (kM, 384, .inl (nM (clM Mm rs tq pl i))))]) (w1 := [(aQ, .inr (0, [.int (nI rs), .int (nI fp), .int (nI tq), .int (nI nq)]))]) hP hD [2] [0, 1] rfl rfl (by decide) (by decide) hk1 hFc hP1 hD1
        have hK := (hK.sub (tys' := [(kM, .int)]) [0] rfl).app hK1
        generalize H1 = H at hP hS ⊢
        have hP : va_P (dC, dI) vwCl [(aR, .inr (1, [.ref aM, .ref aO, .ref aI, .ref aT, .ref aE, .int ff])), (aM, .inl (kM, 384, .inl (nM (clM Mm rs tq pl i)))), (aQ, .inr (0, [.int (nI rs), .int (nI fp), .int (nI tq), .int (nI nq)]))] H := hP
        have hD : va_D A [(aR, .inr (1, [.ref aM, .ref aO, .ref aI, .ref aT, .ref aE, .int ff])), (aM, .inl (kM, 384, .inl (nM (clM Mm rs tq pl i)))), (aQ, .inr (0, [.int (nI rs), .int (nI fp), .int (nI tq), .int (nI nq)]))] := hD
        have hK : va_K (dC, dI) vwCl [(kM, .int)] s := hK
        obtain rfl : r_8 = nI (rs + 8 * ((tq + i) % 8)) := hw
        refine lv_iconst (v := nI 2) hx hb dX1_closeAllBehind_24 (by decide +kernel) ?_
        refine lv_iadd hx hb dX1_closeAllBehind_25 ?_
        refine lv_topi (fun y_9 ey_9 => ?_)
        obtain rfl := ey_9.trans (nI_add (rs + 8 * ((tq + i) % 8)) 2)
        refine lv_iconst (v := nI 0) hx hb dX1_closeAllBehind_26 (by decide +kernel) ?_
        refine va_iast (x := nI 0) hx hb hK hP hD hS 1 0 rfl rfl (vp_in_nI (n := rs + 8 * ((tq + i) % 8) + 2) (N := 384) (by omega) (by decide)) dX1_closeAllBehind_27 (fun H locs hP hD hS => ?_)
        have h9 : rs + 8 * ((tq + i) % 8) + 2 < 2 ^ 31 := Nat.lt_trans (m := 384) (by omega) (by decide)
        have hP : va_P (dC, dI) vwCl [(aR, .inr (1, [.ref aM, .ref aO, .ref aI, .ref aT, .ref aE, .int ff])), (aM, .inl (kM, 384, .inl (upd (nM (clM Mm rs tq pl i)) (nI (rs + 8 * ((tq + i) % 8) + 2)).toNatClampNeg (nI 0)))), (aQ, .inr (0, [.int (nI rs), .int (nI fp), .int (nI tq), .int (nI nq)]))] H := hP
        have hD : va_D A [(aR, .inr (1, [.ref aM, .ref aO, .ref aI, .ref aT, .ref aE, .int ff])), (aM, .inl (kM, 384, .inl (upd (nM (clM Mm rs tq pl i)) (nI (rs + 8 * ((tq + i) % 8) + 2)).toNatClampNeg (nI 0)))), (aQ, .inr (0, [.int (nI rs), .int (nI fp), .int (nI tq), .int (nI nq)]))] := hD
        have e_10 : upd (nM (clM Mm rs tq pl i)) (nI (rs + 8 * ((tq + i) % 8) + 2)).toNatClampNeg (nI 0) = nM (updN (clM Mm rs tq pl i) (rs + 8 * ((tq + i) % 8) + 2) 0) := updI h9
        have hP : va_P (dC, dI) vwCl [(aR, .inr (1, [.ref aM, .ref aO, .ref aI, .ref aT, .ref aE, .int ff])), (aM, .inl (kM, 384, .inl (nM (updN (clM Mm rs tq pl i) (rs + 8 * ((tq + i) % 8) + 2) 0)))), (aQ, .inr (0, [.int (nI rs), .int (nI fp), .int (nI tq), .int (nI nq)]))] H := Eq.mp (congrArg (fun (z1 : Nat → Int32) => va_P (dC, dI) vwCl [(aR, .inr (1, [.ref aM, .ref aO, .ref aI, .ref aT, .ref aE, .int ff])), (aM, .inl (kM, 384, .inl z1)), (aQ, .inr (0, [.int (nI rs), .int (nI fp), .int (nI tq), .int (nI nq)]))] H) e_10) hP
        have hD : va_D A [(aR, .inr (1, [.ref aM, .ref aO, .ref aI, .ref aT, .ref aE, .int ff])), (aM, .inl (kM, 384, .inl (nM (updN (clM Mm rs tq pl i) (rs + 8 * ((tq + i) % 8) + 2) 0)))), (aQ, .inr (0, [.int (nI rs), .int (nI fp), .int (nI tq), .int (nI nq)]))] := Eq.mp (congrArg (fun (z1 : Nat → Int32) => va_D A [(aR, .inr (1, [.ref aM, .ref aO, .ref aI, .ref aT, .ref aE, .int ff])), (aM, .inl (kM, 384, .inl z1)), (aQ, .inr (0, [.int (nI rs), .int (nI fp), .int (nI tq), .int (nI nq)]))]) e_10) hD
        refine lv_iinc (v := nI (i + 1)) (lv' := [(4, .int (nI (i + 1))), (0, .ref aR), (1, .ref aQ), (2, .int (nI pl)), (3, .int (nI nq))]) hx hb dX1_closeAllBehind_28 hl (k := 4) rfl (show nI i + Int32.ofInt 1 = nI (i + 1) from nI_1 i) (by decide) rfl (fun ls hl => ?_)
        refine lv_goto (tgt := 8) hx hb dX1_closeAllBehind_31 (by decide) ?_
        have hP9 := hP.sub (ws' := [(aR, .inr (1, [.ref aM, .ref aO, .ref aI, .ref aT, .ref aE, .int ff])), (aM, .inl (kM, 384, .inl (nM (updN (clM Mm rs tq pl i) (rs + 8 * ((tq + i) % 8) + 2) 0)))), (aQ, .inr (0, [.int (nI rs), .int (nI fp), .int (nI tq), .int (nI nq)]))]) [0, 1, 2] rfl
        have hD9 := hD.sub (ws' := [(aR, .inr (1, [.ref aM, .ref aO, .ref aI, .ref aT, .ref aE, .int ff])), (aM, .inl (kM, 384, .inl (nM (updN (clM Mm rs tq pl i) (rs + 8 * ((tq + i) % 8) + 2) 0)))), (aQ, .inr (0, [.int (nI rs), .int (nI fp), .int (nI tq), .int (nI nq)]))]) [0, 1, 2] (by decide) rfl
        have e_11 : (nM (updN (clM Mm rs tq pl i) (rs + 8 * ((tq + i) % 8) + 2) 0)) = nM (clM Mm rs tq pl (i + 1)) := congrArg nM (clM_s hht hip (by omega))
        have hP9 : va_P (dC, dI) vwCl [(aR, .inr (1, [.ref aM, .ref aO, .ref aI, .ref aT, .ref aE, .int ff])), (aM, .inl (kM, 384, .inl (nM (clM Mm rs tq pl (i + 1))))), (aQ, .inr (0, [.int (nI rs), .int (nI fp), .int (nI tq), .int (nI nq)]))] H := Eq.mp (congrArg (fun (z1 : Nat → Int32) => va_P (dC, dI) vwCl [(aR, .inr (1, [.ref aM, .ref aO, .ref aI, .ref aT, .ref aE, .int ff])), (aM, .inl (kM, 384, .inl z1)), (aQ, .inr (0, [.int (nI rs), .int (nI fp), .int (nI tq), .int (nI nq)]))] H) e_11) hP9
        have hD9 : va_D A [(aR, .inr (1, [.ref aM, .ref aO, .ref aI, .ref aT, .ref aE, .int ff])), (aM, .inl (kM, 384, .inl (nM (clM Mm rs tq pl (i + 1))))), (aQ, .inr (0, [.int (nI rs), .int (nI fp), .int (nI tq), .int (nI nq)]))] := Eq.mp (congrArg (fun (z1 : Nat → Int32) => va_D A [(aR, .inr (1, [.ref aM, .ref aO, .ref aI, .ref aT, .ref aE, .int ff])), (aM, .inl (kM, 384, .inl z1)), (aQ, .inr (0, [.int (nI rs), .int (nI fp), .int (nI tq), .int (nI nq)]))]) e_11) hD9
        have hl9 : lv_has ls 5 [(0, .ref aR), (1, .ref aQ), (2, .int (nI pl)), (3, .int (nI nq)), (4, .int (nI (i + 1)))] := lv_sub hl [1, 2, 3, 4, 0] rfl
        exact ih (i + 1) (by omega) (by omega) (by omega) _ _ _ hP9 hD9 hS hl9
  have hP9 := hP.sub (ws' := [(aR, .inr (1, [.ref aM, .ref aO, .ref aI, .ref aT, .ref aE, .int ff])), (aM, .inl (kM, 384, .inl (nM Mm))), (aQ, .inr (0, [.int (nI rs), .int (nI fp), .int (nI tq), .int (nI nq)]))]) [0, 1, 2] rfl
  have hD9 := hD.sub (ws' := [(aR, .inr (1, [.ref aM, .ref aO, .ref aI, .ref aT, .ref aE, .int ff])), (aM, .inl (kM, 384, .inl (nM Mm))), (aQ, .inr (0, [.int (nI rs), .int (nI fp), .int (nI tq), .int (nI nq)]))]) [0, 1, 2] (by decide) rfl
  have e_12 : (nM Mm) = nM (clM Mm rs tq pl pl) := congrArg nM clM_0
  have hP9 : va_P (dC, dI) vwCl [(aR, .inr (1, [.ref aM, .ref aO, .ref aI, .ref aT, .ref aE, .int ff])), (aM, .inl (kM, 384, .inl (nM (clM Mm rs tq pl pl)))), (aQ, .inr (0, [.int (nI rs), .int (nI fp), .int (nI tq), .int (nI nq)]))] H := Eq.mp (congrArg (fun (z1 : Nat → Int32) => va_P (dC, dI) vwCl [(aR, .inr (1, [.ref aM, .ref aO, .ref aI, .ref aT, .ref aE, .int ff])), (aM, .inl (kM, 384, .inl z1)), (aQ, .inr (0, [.int (nI rs), .int (nI fp), .int (nI tq), .int (nI nq)]))] H) e_12) hP9
  have hD9 : va_D A [(aR, .inr (1, [.ref aM, .ref aO, .ref aI, .ref aT, .ref aE, .int ff])), (aM, .inl (kM, 384, .inl (nM (clM Mm rs tq pl pl)))), (aQ, .inr (0, [.int (nI rs), .int (nI fp), .int (nI tq), .int (nI nq)]))] := Eq.mp (congrArg (fun (z1 : Nat → Int32) => va_D A [(aR, .inr (1, [.ref aM, .ref aO, .ref aI, .ref aT, .ref aE, .int ff])), (aM, .inl (kM, 384, .inl z1)), (aQ, .inr (0, [.int (nI rs), .int (nI fp), .int (nI tq), .int (nI nq)]))]) e_12) hD9
  have hl9 : lv_has ls 5 [(0, .ref aR), (1, .ref aQ), (2, .int (nI pl)), (3, .int (nI nq)), (4, .int (nI pl))] := lv_sub hl [2, 3, 4, 1, 0] rfl
  exact loop_2 (nq + 1) pl (by omega) (by omega) (by omega) _ _ _ hP9 hD9 hS hl9
set_option maxHeartbeats 4000000 in
set_option maxRecDepth 100000 in
theorem c_X1_postNext (l : Launch) (dC : Nat → ClassId) (dI : Nat → Nat → Nat) (aR : Nat) (aM : Nat) (aO : Nat) (aI : Nat) (aT : Nat) (aE : Nat) (ff : Int32) (kM : ClassId) (Mm : Nat → Nat) (kO : ClassId) (Ob : Nat → Nat) (aQ : Nat) (rs : Nat) (fp : Nat) (tq : Nat) (nq : Nat) (len : Nat) (sz : Nat) (hht : tq < 8) (hhn : nq ≤ 8) (hhf : fp ≤ 16) (hhrs : rs ≤ 64) (hle : len ≤ 16) : Met l yX1_postNext wsX1_postNext ({ frames := 3, cells := 0, slots := 0, locals := 63 }) (va_Pc [.ref aR, .ref aQ, .int (nI len)] (fun U => U.heap.size = sz ∧ va_P (dC, dI) vwCl [(aR, .inr (1, [.ref aM, .ref aO, .ref aI, .ref aT, .ref aE, .int ff])), (aM, .inl (kM, 384, .inl (nM Mm))), (aO, .inl (kO, 16, .inl (nM Ob))), (aQ, .inr (0, [.int (nI rs), .int (nI fp), .int (nI tq), .int (nI nq)]))] U.heap ∧ va_K (dC, dI) vwCl [(kM, .int), (kO, .int)] U ∧ va_D (fun _ => True) [(aR, .inr (1, [.ref aM, .ref aO, .ref aI, .ref aT, .ref aE, .int ff])), (aM, .inl (kM, 384, .inl (nM Mm))), (aO, .inl (kO, 16, .inl (nM Ob))), (aQ, .inr (0, [.int (nI rs), .int (nI fp), .int (nI tq), .int (nI nq)]))])) (va_Qi (fun (r9 : Int32) (_ : Unit) => r9 = sel (decide (nq < 8)) (nI ((tq + nq) % 8)) (-1)) (fun _ t => va_P (dC, dI) vwCl [(aR, .inr (1, [.ref aM, .ref aO, .ref aI, .ref aT, .ref aE, .int ff])), (aM, .inl (kM, 384, .inl (nM (pnM Mm Ob rs fp tq nq len)))), (aO, .inl (kO, 16, .inl (nM Ob))), (aQ, .inr (0, [.int (nI rs), .int (nI fp), .int (nI tq), .int (nI (selN (decide (nq < 8)) (nq + 1) nq))]))] t.heap ∧ va_K (dC, dI) vwCl [(kM, .int), (kO, .int)] t ∧ va_D (va_A [(aR, .inr (1, [.ref aM, .ref aO, .ref aI, .ref aT, .ref aE, .int ff])), (aM, .inl (kM, 384, .inl (nM Mm))), (aO, .inl (kO, 16, .inl (nM Ob))), (aQ, .inr (0, [.int (nI rs), .int (nI fp), .int (nI tq), .int (nI nq)]))] sz) [(aR, .inr (1, [.ref aM, .ref aO, .ref aI, .ref aT, .ref aE, .int ff])), (aM, .inl (kM, 384, .inl (nM (pnM Mm Ob rs fp tq nq len)))), (aO, .inl (kO, 16, .inl (nM Ob))), (aQ, .inr (0, [.int (nI rs), .int (nI fp), .int (nI tq), .int (nI (selN (decide (nq < 8)) (nq + 1) nq))]))]) (va_A [(aR, .inr (1, [.ref aM, .ref aO, .ref aI, .ref aT, .ref aE, .int ff])), (aM, .inl (kM, 384, .inl (nM Mm))), (aO, .inl (kO, 16, .inl (nM Ob))), (aQ, .inr (0, [.int (nI rs), .int (nI fp), .int (nI tq), .int (nI nq)]))] sz)) 0 0 (va_A [(aR, .inr (1, [.ref aM, .ref aO, .ref aI, .ref aT, .ref aE, .int ff])), (aM, .inl (kM, 384, .inl (nM Mm))), (aO, .inl (kO, 16, .inl (nM Ob))), (aQ, .inr (0, [.int (nI rs), .int (nI fp), .int (nI tq), .int (nI nq)]))] sz) := by
  refine Met.ofW (cc := cX1_postNext) (maxL := 4) (ret := (some .int)) (by decide) rfl ?_
  intro p e s m args below meth c s₁ B hml hv
  obtain ⟨rfl, hsz, hP, hK, hD0⟩ := hv
  have hx := B.exec
  have hb := B.bytes
  have hr := B.returns
  have hts := atoms_spec (ws := wsX1_postNext) B.pre
  have hown : s.vm.findClass RX1 = some m.cls := findClass_of_methodNamed B.named
  have hlocks := B.notSynchronized
  subst hsz
  have hD := hD0.self (sz := s.heap.size)
  generalize hAe : va_A [(aR, .inr (1, [.ref aM, .ref aO, .ref aI, .ref aT, .ref aE, .int ff])), (aM, .inl (kM, 384, .inl (nM Mm))), (aO, .inl (kO, 16, .inl (nM Ob))), (aQ, .inr (0, [.int (nI rs), .int (nI fp), .int (nI tq), .int (nI nq)]))] s.heap.size = A at hD ⊢
  have hA : ∀ q : Nat, s.heap.size ≤ q → A q := fun q h => by rw [← hAe]; exact Or.inr h
  have hS : va_S A s.heap s.heap [] := va_S.rf
  have hP : va_P (dC, dI) vwCl [(aR, .inr (1, [.ref aM, .ref aO, .ref aI, .ref aT, .ref aE, .int ff])), (aM, .inl (kM, 384, .inl (nM Mm))), (aO, .inl (kO, 16, .inl (nM Ob))), (aQ, .inr (0, [.int (nI rs), .int (nI fp), .int (nI tq), .int (nI nq)]))] s.heap := hP
  have hl := lv_entry ([.ref aR, .ref aQ, .int (nI len)]) (n := 4) (Nat.le_of_ble_eq_true rfl)
  rw [lg_entry_eq]
  generalize (lg_sl ([.ref aR, .ref aQ, .int (nI len)]) ++ List.replicate (4 - (lg_sl ([.ref aR, .ref aQ, .int (nI len)])).length) Slot.unset).toArray = ls at hl ⊢
  have hl : lv_has ls 4 [(0, .ref aR), (1, .ref aQ), (2, .int (nI len))] := hl
  refine lv_aload_n hx hb dX1_postNext_0 rfl (lv_at hl 1 rfl) ?_
  have hPc := hP.sub (ws' := [(aQ, .inr (0, [.int (nI rs), .int (nI fp), .int (nI tq), .int (nI nq)]))]) [3] rfl
  have hDc := hD.sub (ws' := [(aQ, .inr (0, [.int (nI rs), .int (nI fp), .int (nI tq), .int (nI nq)]))]) [3] (by decide) rfl
  have hKc := hK.sub (tys' := []) [] rfl
  have hFc := va_free (wc := [(aQ, .inr (0, [.int (nI rs), .int (nI fp), .int (nI tq), .int (nI nq)]))]) hD hS hA [3] rfl
  refine va_calli (va_runV (As := []) (rest := []) ⟨hx, hb, hml, hown, hts⟩ (c_X0_size l dC dI aQ rs fp tq nq s.heap.size ) (cwV 0 hts gX1_postNext_X0_size rfl rfl rfl (by decide +kernel) ⟨Nat.le_of_ble_eq_true rfl, Nat.le_of_ble_eq_true rfl⟩) ⟨fun a U g mk q => by obtain ⟨q0, q1, qP, qK, qD⟩ := q; exact ⟨q0, q1, qP, va_K.moved (u := U) (U := U.calling g mk a) (Vm.Alike.refl U.vm) qK, qD⟩, va_recv hKc hPc (ci := 0) (q0 := 0) rfl rfl, fun U hU hW => ⟨rfl, by rw [hU], by rw [hU]; exact hPc, va_K.moved hW.alike hKc, hDc.weaken (fun _ _ _ _ => trivial)⟩⟩ rfl rfl hl.1 rfl (lv_room (Nat.le_of_ble_eq_true rfl)) dX1_postNext_1 ⟨Nat.le_of_ble_eq_true rfl, Nat.le_of_ble_eq_true rfl⟩) hS (fun q _ h => hFc q h) hFc (fun r_1 u t H1 locs ht hvm hw hB hz1 hk1 hS => ?_)
  obtain ⟨hP1, hK1, hD1⟩ := hB
  rw [ht] at hP1
  have hK1 := va_K.moved hvm.symm hK1
  obtain ⟨hP, hD⟩ := va_join (wr := [(aR, .inr (1, [.ref aM, .ref aO, .ref aI, .ref aT, .ref aE, .int ff])), (aM, .inl (kM, 384, .inl (nM Mm))), (aO, .inl (kO, 16, .inl (nM Ob)))]) (w1 := [(aQ, .inr (0, [.int (nI rs), .int (nI fp), .int (nI tq), .int (nI nq)]))]) hP hD [3] [0, 1, 2] rfl rfl (by decide) (by decide) hk1 hFc hP1 hD1
  have hK := (hK.sub (tys' := [(kM, .int), (kO, .int)]) [0, 1] rfl).app hK1
  generalize H1 = H at hP hS ⊢
  have hP : va_P (dC, dI) vwCl [(aR, .inr (1, [.ref aM, .ref aO, .ref aI, .ref aT, .ref aE, .int ff])), (aM, .inl (kM, 384, .inl (nM Mm))), (aO, .inl (kO, 16, .inl (nM Ob))), (aQ, .inr (0, [.int (nI rs), .int (nI fp), .int (nI tq), .int (nI nq)]))] H := hP
  have hD : va_D A [(aR, .inr (1, [.ref aM, .ref aO, .ref aI, .ref aT, .ref aE, .int ff])), (aM, .inl (kM, 384, .inl (nM Mm))), (aO, .inl (kO, 16, .inl (nM Ob))), (aQ, .inr (0, [.int (nI rs), .int (nI fp), .int (nI tq), .int (nI nq)]))] := hD
  have hK : va_K (dC, dI) vwCl [(kM, .int), (kO, .int)] s := hK
  obtain rfl : r_1 = nI nq := hw
  refine lv_istore_n (lv' := [(3, .int (nI nq)), (0, .ref aR), (1, .ref aQ), (2, .int (nI len))]) hx hb dX1_postNext_4 rfl hl (by decide) rfl (fun ls hl => ?_)
  refine lv_iload_n hx hb dX1_postNext_5 rfl (lv_at hl 0 rfl) ?_
  refine lv_bipush (v := nI 8) hx hb dX1_postNext_6 (by decide +kernel) ?_
  refine lv_icmp_lt (tgt := 13) hx hb dX1_postNext_8 (by decide) (fun c_2 => ?_) (fun c_2 => ?_)
  · have c_2 : nq < 8 := (nI_ltI (a := nq) (b := 8) (by omega) (by omega)).mp c_2
    refine lv_aload_n hx hb dX1_postNext_13 rfl (lv_at hl 1 rfl) ?_
    refine lv_aload_n hx hb dX1_postNext_14 rfl (lv_at hl 2 rfl) ?_
    refine lv_iload_n hx hb dX1_postNext_15 rfl (lv_at hl 0 rfl) ?_
    have hPc := hP.sub (ws' := [(aQ, .inr (0, [.int (nI rs), .int (nI fp), .int (nI tq), .int (nI nq)]))]) [3] rfl
    have hDc := hD.sub (ws' := [(aQ, .inr (0, [.int (nI rs), .int (nI fp), .int (nI tq), .int (nI nq)]))]) [3] (by decide) rfl
    have hKc := hK.sub (tys' := []) [] rfl
    have hFc := va_free (wc := [(aQ, .inr (0, [.int (nI rs), .int (nI fp), .int (nI tq), .int (nI nq)]))]) hD hS hA [3] rfl
    refine va_calli (va_runV (As := [.int (nI nq)]) (rest := [.ref aR]) ⟨hx, hb, hml, hown, hts⟩ (c_X0_bufferAt l dC dI aQ rs fp tq nq nq H.size (by omega) (by omega) (by omega)) (cwV 1 hts gX1_postNext_X0_bufferAt rfl rfl rfl (by decide +kernel) ⟨Nat.le_of_ble_eq_true rfl, Nat.le_of_ble_eq_true rfl⟩) ⟨fun a U g mk q => by obtain ⟨q0, q1, qP, qK, qD⟩ := q; exact ⟨q0, q1, qP, va_K.moved (u := U) (U := U.calling g mk a) (Vm.Alike.refl U.vm) qK, qD⟩, va_recv hKc hPc (ci := 0) (q0 := 0) rfl rfl, fun U hU hW => ⟨rfl, by rw [hU], by rw [hU]; exact hPc, va_K.moved hW.alike hKc, hDc.weaken (fun _ _ _ _ => trivial)⟩⟩ rfl rfl hl.1 rfl (lv_room (Nat.le_of_ble_eq_true rfl)) dX1_postNext_16 ⟨Nat.le_of_ble_eq_true rfl, Nat.le_of_ble_eq_true rfl⟩) hS (fun q _ h => hFc q h) hFc (fun r_3 u t H1 locs ht hvm hw hB hz1 hk1 hS => ?_)
    obtain ⟨hP1, hK1, hD1⟩ := hB
    rw [ht] at hP1
    have hK1 := va_K.moved hvm.symm hK1
    obtain ⟨hP, hD⟩ := va_join (wr := [(aR, .inr (1, [.ref aM, .ref aO, .ref aI, .ref aT, .ref aE, .int ff])), (aM, .inl (kM, 384, .inl (nM Mm))), (aO, .inl (kO, 16, .inl (nM Ob)))]) (w1 := [(aQ, .inr (0, [.int (nI rs), .int (nI fp), .int (nI tq), .int (nI nq)]))]) hP hD [3] [0, 1, 2] rfl rfl (by decide) (by decide) hk1 hFc hP1 hD1
    have hK := (hK.sub (tys' := [(kM, .int), (kO, .int)]) [0, 1] rfl).app hK1
    generalize H1 = H at hP hS ⊢
    have hP : va_P (dC, dI) vwCl [(aR, .inr (1, [.ref aM, .ref aO, .ref aI, .ref aT, .ref aE, .int ff])), (aM, .inl (kM, 384, .inl (nM Mm))), (aO, .inl (kO, 16, .inl (nM Ob))), (aQ, .inr (0, [.int (nI rs), .int (nI fp), .int (nI tq), .int (nI nq)]))] H := hP
    have hD : va_D A [(aR, .inr (1, [.ref aM, .ref aO, .ref aI, .ref aT, .ref aE, .int ff])), (aM, .inl (kM, 384, .inl (nM Mm))), (aO, .inl (kO, 16, .inl (nM Ob))), (aQ, .inr (0, [.int (nI rs), .int (nI fp), .int (nI tq), .int (nI nq)]))] := hD
    have hK : va_K (dC, dI) vwCl [(kM, .int), (kO, .int)] s := hK
    obtain rfl : r_3 = nI (16 * (fp + (tq + nq) % 8)) := hw
    refine lv_iload_n hx hb dX1_postNext_19 rfl (lv_at hl 3 rfl) ?_
    have hPc := hP.sub (ws' := [(aR, .inr (1, [.ref aM, .ref aO, .ref aI, .ref aT, .ref aE, .int ff])), (aM, .inl (kM, 384, .inl (nM Mm))), (aO, .inl (kO, 16, .inl (nM Ob)))]) [0, 1, 2] rfl
    have hDc := hD.sub (ws' := [(aR, .inr (1, [.ref aM, .ref aO, .ref aI, .ref aT, .ref aE, .int ff])), (aM, .inl (kM, 384, .inl (nM Mm))), (aO, .inl (kO, 16, .inl (nM Ob)))]) [0, 1, 2] (by decide) rfl
    have hKc := hK.sub (tys' := [(kM, .int), (kO, .int)]) [0, 1] rfl
    have hFc := va_free (wc := [(aR, .inr (1, [.ref aM, .ref aO, .ref aI, .ref aT, .ref aE, .int ff])), (aM, .inl (kM, 384, .inl (nM Mm))), (aO, .inl (kO, 16, .inl (nM Ob)))]) hD hS hA [0, 1, 2] rfl
    refine va_callv (va_runV (As := [.int (nI (16 * (fp + (tq + nq) % 8))), .int (nI len)]) (rest := []) ⟨hx, hb, hml, hown, hts⟩ (c_X1_fillBuffer l dC dI aR aM aO aI aT aE ff kM Mm kO Ob (16 * (fp + (tq + nq) % 8)) len H.size (by omega) (by omega)) (cwV 2 hts gX1_postNext_X1_fillBuffer rfl rfl rfl (by decide +kernel) ⟨Nat.le_of_ble_eq_true rfl, Nat.le_of_ble_eq_true rfl⟩) ⟨fun a U g mk q => by obtain ⟨q0, q1, qP, qK, qD⟩ := q; exact ⟨q0, q1, qP, va_K.moved (u := U) (U := U.calling g mk a) (Vm.Alike.refl U.vm) qK, qD⟩, va_recv hKc hPc (ci := 1) (q0 := 0) rfl rfl, fun U hU hW => ⟨rfl, by rw [hU], by rw [hU]; exact hPc, va_K.moved hW.alike hKc, hDc.weaken (fun _ _ _ _ => trivial)⟩⟩ rfl rfl hl.1 rfl (lv_room (Nat.le_of_ble_eq_true rfl)) dX1_postNext_20 ⟨Nat.le_of_ble_eq_true rfl, Nat.le_of_ble_eq_true rfl⟩) hS (fun q _ h => hFc q h) hFc (fun u t H1 locs ht hvm hw hB hz1 hk1 hS => ?_)
    obtain ⟨hP1, hK1, hD1⟩ := hB
    rw [ht] at hP1
    have hK1 := va_K.moved hvm.symm hK1
    obtain ⟨hP, hD⟩ := va_join (wr := [(aQ, .inr (0, [.int (nI rs), .int (nI fp), .int (nI tq), .int (nI nq)]))]) (w1 := [(aR, .inr (1, [.ref aM, .ref aO, .ref aI, .ref aT, .ref aE, .int ff])), (aM, .inl (kM, 384, .inl (nM (fbI Mm Ob (16 * (fp + (tq + nq) % 8)) len 16)))), (aO, .inl (kO, 16, .inl (nM Ob)))]) hP hD [0, 1, 2] [3] rfl rfl (by decide) (by decide) hk1 hFc hP1 hD1
    have hK := (hK.sub (tys' := []) [] rfl).app hK1
    generalize H1 = H at hP hS ⊢
    have hP : va_P (dC, dI) vwCl [(aQ, .inr (0, [.int (nI rs), .int (nI fp), .int (nI tq), .int (nI nq)])), (aR, .inr (1, [.ref aM, .ref aO, .ref aI, .ref aT, .ref aE, .int ff])), (aM, .inl (kM, 384, .inl (nM (fbI Mm Ob (16 * (fp + (tq + nq) % 8)) len 16)))), (aO, .inl (kO, 16, .inl (nM Ob)))] H := hP
    have hD : va_D A [(aQ, .inr (0, [.int (nI rs), .int (nI fp), .int (nI tq), .int (nI nq)])), (aR, .inr (1, [.ref aM, .ref aO, .ref aI, .ref aT, .ref aE, .int ff])), (aM, .inl (kM, 384, .inl (nM (fbI Mm Ob (16 * (fp + (tq + nq) % 8)) len 16)))), (aO, .inl (kO, 16, .inl (nM Ob)))] := hD
    have hK : va_K (dC, dI) vwCl [(kM, .int), (kO, .int)] s := hK
    refine lv_aload_n hx hb dX1_postNext_23 rfl (lv_at hl 1 rfl) ?_
    refine lv_aload_n hx hb dX1_postNext_24 rfl (lv_at hl 2 rfl) ?_
    refine lv_iload_n hx hb dX1_postNext_25 rfl (lv_at hl 0 rfl) ?_
    have hPc := hP.sub (ws' := [(aQ, .inr (0, [.int (nI rs), .int (nI fp), .int (nI tq), .int (nI nq)]))]) [0] rfl
    have hDc := hD.sub (ws' := [(aQ, .inr (0, [.int (nI rs), .int (nI fp), .int (nI tq), .int (nI nq)]))]) [0] (by decide) rfl
    have hKc := hK.sub (tys' := []) [] rfl
    have hFc := va_free (wc := [(aQ, .inr (0, [.int (nI rs), .int (nI fp), .int (nI tq), .int (nI nq)]))]) hD hS hA [0] rfl
    refine va_calli (va_runV (As := [.int (nI nq)]) (rest := [.ref aR]) ⟨hx, hb, hml, hown, hts⟩ (c_X0_descriptorAt l dC dI aQ rs fp tq nq nq H.size (by omega) (by omega) (by omega)) (cwV 1 hts gX1_postNext_X0_descriptorAt rfl rfl rfl (by decide +kernel) ⟨Nat.le_of_ble_eq_true rfl, Nat.le_of_ble_eq_true rfl⟩) ⟨fun a U g mk q => by obtain ⟨q0, q1, qP, qK, qD⟩ := q; exact ⟨q0, q1, qP, va_K.moved (u := U) (U := U.calling g mk a) (Vm.Alike.refl U.vm) qK, qD⟩, va_recv hKc hPc (ci := 0) (q0 := 0) rfl rfl, fun U hU hW => ⟨rfl, by rw [hU], by rw [hU]; exact hPc, va_K.moved hW.alike hKc, hDc.weaken (fun _ _ _ _ => trivial)⟩⟩ rfl rfl hl.1 rfl (lv_room (Nat.le_of_ble_eq_true rfl)) dX1_postNext_26 ⟨Nat.le_of_ble_eq_true rfl, Nat.le_of_ble_eq_true rfl⟩) hS (fun q _ h => hFc q h) hFc (fun r_5 u t H1 locs ht hvm hw hB hz1 hk1 hS => ?_)
    obtain ⟨hP1, hK1, hD1⟩ := hB
    rw [ht] at hP1
    have hK1 := va_K.moved hvm.symm hK1
    obtain ⟨hP, hD⟩ := va_join (wr := [(aR, .inr (1, [.ref aM, .ref aO, .ref aI, .ref aT, .ref aE, .int ff])), (aM, .inl (kM, 384, .inl (nM (fbI Mm Ob (16 * (fp + (tq + nq) % 8)) len 16)))), (aO, .inl (kO, 16, .inl (nM Ob)))]) (w1 := [(aQ, .inr (0, [.int (nI rs), .int (nI fp), .int (nI tq), .int (nI nq)]))]) hP hD [0] [1, 2, 3] rfl rfl (by decide) (by decide) hk1 hFc hP1 hD1
    have hK := (hK.sub (tys' := [(kM, .int), (kO, .int)]) [0, 1] rfl).app hK1
    generalize H1 = H at hP hS ⊢
    have hP : va_P (dC, dI) vwCl [(aR, .inr (1, [.ref aM, .ref aO, .ref aI, .ref aT, .ref aE, .int ff])), (aM, .inl (kM, 384, .inl (nM (fbI Mm Ob (16 * (fp + (tq + nq) % 8)) len 16)))), (aO, .inl (kO, 16, .inl (nM Ob))), (aQ, .inr (0, [.int (nI rs), .int (nI fp), .int (nI tq), .int (nI nq)]))] H := hP
    have hD : va_D A [(aR, .inr (1, [.ref aM, .ref aO, .ref aI, .ref aT, .ref aE, .int ff])), (aM, .inl (kM, 384, .inl (nM (fbI Mm Ob (16 * (fp + (tq + nq) % 8)) len 16)))), (aO, .inl (kO, 16, .inl (nM Ob))), (aQ, .inr (0, [.int (nI rs), .int (nI fp), .int (nI tq), .int (nI nq)]))] := hD
    have hK : va_K (dC, dI) vwCl [(kM, .int), (kO, .int)] s := hK
    obtain rfl : r_5 = nI (rs + 8 * ((tq + nq) % 8)) := hw
    refine lv_aload_n hx hb dX1_postNext_29 rfl (lv_at hl 2 rfl) ?_
    refine lv_iload_n hx hb dX1_postNext_30 rfl (lv_at hl 0 rfl) ?_
    have hPc := hP.sub (ws' := [(aQ, .inr (0, [.int (nI rs), .int (nI fp), .int (nI tq), .int (nI nq)]))]) [3] rfl
    have hDc := hD.sub (ws' := [(aQ, .inr (0, [.int (nI rs), .int (nI fp), .int (nI tq), .int (nI nq)]))]) [3] (by decide) rfl
    have hKc := hK.sub (tys' := []) [] rfl
    have hFc := va_free (wc := [(aQ, .inr (0, [.int (nI rs), .int (nI fp), .int (nI tq), .int (nI nq)]))]) hD hS hA [3] rfl
    refine va_calli (va_runV (As := [.int (nI nq)]) (rest := [.int (nI (rs + 8 * ((tq + nq) % 8))), .ref aR]) ⟨hx, hb, hml, hown, hts⟩ (c_X0_pageAt l dC dI aQ rs fp tq nq nq H.size (by omega) (by omega) (by omega)) (cwV 1 hts gX1_postNext_X0_pageAt rfl rfl rfl (by decide +kernel) ⟨Nat.le_of_ble_eq_true rfl, Nat.le_of_ble_eq_true rfl⟩) ⟨fun a U g mk q => by obtain ⟨q0, q1, qP, qK, qD⟩ := q; exact ⟨q0, q1, qP, va_K.moved (u := U) (U := U.calling g mk a) (Vm.Alike.refl U.vm) qK, qD⟩, va_recv hKc hPc (ci := 0) (q0 := 0) rfl rfl, fun U hU hW => ⟨rfl, by rw [hU], by rw [hU]; exact hPc, va_K.moved hW.alike hKc, hDc.weaken (fun _ _ _ _ => trivial)⟩⟩ rfl rfl hl.1 rfl (lv_room (Nat.le_of_ble_eq_true rfl)) dX1_postNext_31 ⟨Nat.le_of_ble_eq_true rfl, Nat.le_of_ble_eq_true rfl⟩) hS (fun q _ h => hFc q h) hFc (fun r_6 u t H1 locs ht hvm hw hB hz1 hk1 hS => ?_)
    obtain ⟨hP1, hK1, hD1⟩ := hB
    rw [ht] at hP1
    have hK1 := va_K.moved hvm.symm hK1
    obtain ⟨hP, hD⟩ := va_join (wr := [(aR, .inr (1, [.ref aM, .ref aO, .ref aI, .ref aT, .ref aE, .int ff])), (aM, .inl (kM, 384, .inl (nM (fbI Mm Ob (16 * (fp + (tq + nq) % 8)) len 16)))), (aO, .inl (kO, 16, .inl (nM Ob)))]) (w1 := [(aQ, .inr (0, [.int (nI rs), .int (nI fp), .int (nI tq), .int (nI nq)]))]) hP hD [3] [0, 1, 2] rfl rfl (by decide) (by decide) hk1 hFc hP1 hD1
    have hK := (hK.sub (tys' := [(kM, .int), (kO, .int)]) [0, 1] rfl).app hK1
    generalize H1 = H at hP hS ⊢
    have hP : va_P (dC, dI) vwCl [(aR, .inr (1, [.ref aM, .ref aO, .ref aI, .ref aT, .ref aE, .int ff])), (aM, .inl (kM, 384, .inl (nM (fbI Mm Ob (16 * (fp + (tq + nq) % 8)) len 16)))), (aO, .inl (kO, 16, .inl (nM Ob))), (aQ, .inr (0, [.int (nI rs), .int (nI fp), .int (nI tq), .int (nI nq)]))] H := hP
    have hD : va_D A [(aR, .inr (1, [.ref aM, .ref aO, .ref aI, .ref aT, .ref aE, .int ff])), (aM, .inl (kM, 384, .inl (nM (fbI Mm Ob (16 * (fp + (tq + nq) % 8)) len 16)))), (aO, .inl (kO, 16, .inl (nM Ob))), (aQ, .inr (0, [.int (nI rs), .int (nI fp), .int (nI tq), .int (nI nq)]))] := hD
    have hK : va_K (dC, dI) vwCl [(kM, .int), (kO, .int)] s := hK
    obtain rfl : r_6 = nI (fp + (tq + nq) % 8) := hw
    refine lv_iload_n hx hb dX1_postNext_34 rfl (lv_at hl 3 rfl) ?_
    have hPc := hP.sub (ws' := [(aR, .inr (1, [.ref aM, .ref aO, .ref aI, .ref aT, .ref aE, .int ff])), (aM, .inl (kM, 384, .inl (nM (fbI Mm Ob (16 * (fp + (tq + nq) % 8)) len 16))))]) [0, 1] rfl
    have hDc := hD.sub (ws' := [(aR, .inr (1, [.ref aM, .ref aO, .ref aI, .ref aT, .ref aE, .int ff])), (aM, .inl (kM, 384, .inl (nM (fbI Mm Ob (16 * (fp + (tq + nq) % 8)) len 16))))]) [0, 1] (by decide) rfl
    have hKc := hK.sub (tys' := [(kM, .int)]) [0] rfl
    have hFc := va_free (wc := [(aR, .inr (1, [.ref aM, .ref aO, .ref aI, .ref aT, .ref aE, .int ff])), (aM, .inl (kM, 384, .inl (nM (fbI Mm Ob (16 * (fp + (tq + nq) % 8)) len 16))))]) hD hS hA [0, 1] rfl
    refine va_callv (va_runV (As := [.int (nI (rs + 8 * ((tq + nq) % 8))), .int (nI (fp + (tq + nq) % 8)), .int (nI len)]) (rest := []) ⟨hx, hb, hml, hown, hts⟩ (c_X1_fillDescriptor l dC dI aR aM aO aI aT aE ff kM (fbI Mm Ob (16 * (fp + (tq + nq) % 8)) len 16) (rs + 8 * ((tq + nq) % 8)) (fp + (tq + nq) % 8) len H.size (by omega)) (cwV 3 hts gX1_postNext_X1_fillDescriptor rfl rfl rfl (by decide +kernel) ⟨Nat.le_of_ble_eq_true rfl, Nat.le_of_ble_eq_true rfl⟩) ⟨fun a U g mk q => by obtain ⟨q0, q1, qP, qK, qD⟩ := q; exact ⟨q0, q1, qP, va_K.moved (u := U) (U := U.calling g mk a) (Vm.Alike.refl U.vm) qK, qD⟩, va_recv hKc hPc (ci := 1) (q0 := 0) rfl rfl, fun U hU hW => ⟨rfl, by rw [hU], by rw [hU]; exact hPc, va_K.moved hW.alike hKc, hDc.weaken (fun _ _ _ _ => trivial)⟩⟩ rfl rfl hl.1 rfl (lv_room (Nat.le_of_ble_eq_true rfl)) dX1_postNext_35 ⟨Nat.le_of_ble_eq_true rfl, Nat.le_of_ble_eq_true rfl⟩) hS (fun q _ h => hFc q h) hFc (fun u t H1 locs ht hvm hw hB hz1 hk1 hS => ?_)
    obtain ⟨hP1, hK1, hD1⟩ := hB
    rw [ht] at hP1
    have hK1 := va_K.moved hvm.symm hK1
    obtain ⟨hP, hD⟩ := va_join (wr := [(aO, .inl (kO, 16, .inl (nM Ob))), (aQ, .inr (0, [.int (nI rs), .int (nI fp), .int (nI tq), .int (nI nq)]))]) (w1 := [(aR, .inr (1, [.ref aM, .ref aO, .ref aI, .ref aT, .ref aE, .int ff])), (aM, .inl (kM, 384, .inl (nM (fdI (fbI Mm Ob (16 * (fp + (tq + nq) % 8)) len 16) (rs + 8 * ((tq + nq) % 8)) (fp + (tq + nq) % 8) len 8))))]) hP hD [0, 1] [2, 3] rfl rfl (by decide) (by decide) hk1 hFc hP1 hD1
    have hK := (hK.sub (tys' := [(kO, .int)]) [1] rfl).app hK1
    generalize H1 = H at hP hS ⊢
    have hP : va_P (dC, dI) vwCl [(aO, .inl (kO, 16, .inl (nM Ob))), (aQ, .inr (0, [.int (nI rs), .int (nI fp), .int (nI tq), .int (nI nq)])), (aR, .inr (1, [.ref aM, .ref aO, .ref aI, .ref aT, .ref aE, .int ff])), (aM, .inl (kM, 384, .inl (nM (fdI (fbI Mm Ob (16 * (fp + (tq + nq) % 8)) len 16) (rs + 8 * ((tq + nq) % 8)) (fp + (tq + nq) % 8) len 8))))] H := hP
    have hD : va_D A [(aO, .inl (kO, 16, .inl (nM Ob))), (aQ, .inr (0, [.int (nI rs), .int (nI fp), .int (nI tq), .int (nI nq)])), (aR, .inr (1, [.ref aM, .ref aO, .ref aI, .ref aT, .ref aE, .int ff])), (aM, .inl (kM, 384, .inl (nM (fdI (fbI Mm Ob (16 * (fp + (tq + nq) % 8)) len 16) (rs + 8 * ((tq + nq) % 8)) (fp + (tq + nq) % 8) len 8))))] := hD
    have hK : va_K (dC, dI) vwCl [(kO, .int), (kM, .int)] s := hK
    refine lv_aload_n hx hb dX1_postNext_38 rfl (lv_at hl 2 rfl) ?_
    have hPc := hP.sub (ws' := [(aQ, .inr (0, [.int (nI rs), .int (nI fp), .int (nI tq), .int (nI nq)]))]) [1] rfl
    have hDc := hD.sub (ws' := [(aQ, .inr (0, [.int (nI rs), .int (nI fp), .int (nI tq), .int (nI nq)]))]) [1] (by decide) rfl
    have hKc := hK.sub (tys' := []) [] rfl
    have hFc := va_free (wc := [(aQ, .inr (0, [.int (nI rs), .int (nI fp), .int (nI tq), .int (nI nq)]))]) hD hS hA [1] rfl
    refine va_callv (va_runV (As := []) (rest := []) ⟨hx, hb, hml, hown, hts⟩ (c_X0_addNext l dC dI aQ rs fp tq nq H.size (by omega)) (cwV 0 hts gX1_postNext_X0_addNext rfl rfl rfl (by decide +kernel) ⟨Nat.le_of_ble_eq_true rfl, Nat.le_of_ble_eq_true rfl⟩) ⟨fun a U g mk q => by obtain ⟨q0, q1, qP, qK, qD⟩ := q; exact ⟨q0, q1, qP, va_K.moved (u := U) (U := U.calling g mk a) (Vm.Alike.refl U.vm) qK, qD⟩, va_recv hKc hPc (ci := 0) (q0 := 0) rfl rfl, fun U hU hW => ⟨rfl, by rw [hU], by rw [hU]; exact hPc, va_K.moved hW.alike hKc, hDc.weaken (fun _ _ _ _ => trivial)⟩⟩ rfl rfl hl.1 rfl (lv_room (Nat.le_of_ble_eq_true rfl)) dX1_postNext_39 ⟨Nat.le_of_ble_eq_true rfl, Nat.le_of_ble_eq_true rfl⟩) hS (fun q _ h => hFc q h) hFc (fun u t H1 locs ht hvm hw hB hz1 hk1 hS => ?_)
    obtain ⟨hP1, hK1, hD1⟩ := hB
    rw [ht] at hP1
    have hK1 := va_K.moved hvm.symm hK1
    obtain ⟨hP, hD⟩ := va_join (wr := [(aO, .inl (kO, 16, .inl (nM Ob))), (aR, .inr (1, [.ref aM, .ref aO, .ref aI, .ref aT, .ref aE, .int ff])), (aM, .inl (kM, 384, .inl (nM (fdI (fbI Mm Ob (16 * (fp + (tq + nq) % 8)) len 16) (rs + 8 * ((tq + nq) % 8)) (fp + (tq + nq) % 8) len 8))))]) (w1 := [(aQ, .inr (0, [.int (nI rs), .int (nI fp), .int (nI tq), .int (nI (nq + 1))]))]) hP hD [1] [0, 2, 3] rfl rfl (by decide) (by decide) hk1 hFc hP1 hD1
    have hK := (hK.sub (tys' := [(kO, .int), (kM, .int)]) [0, 1] rfl).app hK1
    generalize H1 = H at hP hS ⊢
    have hP : va_P (dC, dI) vwCl [(aO, .inl (kO, 16, .inl (nM Ob))), (aR, .inr (1, [.ref aM, .ref aO, .ref aI, .ref aT, .ref aE, .int ff])), (aM, .inl (kM, 384, .inl (nM (fdI (fbI Mm Ob (16 * (fp + (tq + nq) % 8)) len 16) (rs + 8 * ((tq + nq) % 8)) (fp + (tq + nq) % 8) len 8)))), (aQ, .inr (0, [.int (nI rs), .int (nI fp), .int (nI tq), .int (nI (nq + 1))]))] H := hP
    have hD : va_D A [(aO, .inl (kO, 16, .inl (nM Ob))), (aR, .inr (1, [.ref aM, .ref aO, .ref aI, .ref aT, .ref aE, .int ff])), (aM, .inl (kM, 384, .inl (nM (fdI (fbI Mm Ob (16 * (fp + (tq + nq) % 8)) len 16) (rs + 8 * ((tq + nq) % 8)) (fp + (tq + nq) % 8) len 8)))), (aQ, .inr (0, [.int (nI rs), .int (nI fp), .int (nI tq), .int (nI (nq + 1))]))] := hD
    have hK : va_K (dC, dI) vwCl [(kO, .int), (kM, .int)] s := hK
    refine lv_aload_n hx hb dX1_postNext_42 rfl (lv_at hl 2 rfl) ?_
    refine lv_iload_n hx hb dX1_postNext_43 rfl (lv_at hl 0 rfl) ?_
    have hPc := hP.sub (ws' := [(aQ, .inr (0, [.int (nI rs), .int (nI fp), .int (nI tq), .int (nI (nq + 1))]))]) [3] rfl
    have hDc := hD.sub (ws' := [(aQ, .inr (0, [.int (nI rs), .int (nI fp), .int (nI tq), .int (nI (nq + 1))]))]) [3] (by decide) rfl
    have hKc := hK.sub (tys' := []) [] rfl
    have hFc := va_free (wc := [(aQ, .inr (0, [.int (nI rs), .int (nI fp), .int (nI tq), .int (nI (nq + 1))]))]) hD hS hA [3] rfl
    refine va_calli (va_runV (As := [.int (nI nq)]) (rest := []) ⟨hx, hb, hml, hown, hts⟩ (c_X0_slotAt l dC dI aQ rs fp tq (nq + 1) nq H.size (by omega) (by omega)) (cwV 1 hts gX1_postNext_X0_slotAt rfl rfl rfl (by decide +kernel) ⟨Nat.le_of_ble_eq_true rfl, Nat.le_of_ble_eq_true rfl⟩) ⟨fun a U g mk q => by obtain ⟨q0, q1, qP, qK, qD⟩ := q; exact ⟨q0, q1, qP, va_K.moved (u := U) (U := U.calling g mk a) (Vm.Alike.refl U.vm) qK, qD⟩, va_recv hKc hPc (ci := 0) (q0 := 0) rfl rfl, fun U hU hW => ⟨rfl, by rw [hU], by rw [hU]; exact hPc, va_K.moved hW.alike hKc, hDc.weaken (fun _ _ _ _ => trivial)⟩⟩ rfl rfl hl.1 rfl (lv_room (Nat.le_of_ble_eq_true rfl)) dX1_postNext_44 ⟨Nat.le_of_ble_eq_true rfl, Nat.le_of_ble_eq_true rfl⟩) hS (fun q _ h => hFc q h) hFc (fun r_9 u t H1 locs ht hvm hw hB hz1 hk1 hS => ?_)
    obtain ⟨hP1, hK1, hD1⟩ := hB
    rw [ht] at hP1
    have hK1 := va_K.moved hvm.symm hK1
    obtain ⟨hP, hD⟩ := va_join (wr := [(aO, .inl (kO, 16, .inl (nM Ob))), (aR, .inr (1, [.ref aM, .ref aO, .ref aI, .ref aT, .ref aE, .int ff])), (aM, .inl (kM, 384, .inl (nM (fdI (fbI Mm Ob (16 * (fp + (tq + nq) % 8)) len 16) (rs + 8 * ((tq + nq) % 8)) (fp + (tq + nq) % 8) len 8))))]) (w1 := [(aQ, .inr (0, [.int (nI rs), .int (nI fp), .int (nI tq), .int (nI (nq + 1))]))]) hP hD [3] [0, 1, 2] rfl rfl (by decide) (by decide) hk1 hFc hP1 hD1
    have hK := (hK.sub (tys' := [(kO, .int), (kM, .int)]) [0, 1] rfl).app hK1
    generalize H1 = H at hP hS ⊢
    have hP : va_P (dC, dI) vwCl [(aO, .inl (kO, 16, .inl (nM Ob))), (aR, .inr (1, [.ref aM, .ref aO, .ref aI, .ref aT, .ref aE, .int ff])), (aM, .inl (kM, 384, .inl (nM (fdI (fbI Mm Ob (16 * (fp + (tq + nq) % 8)) len 16) (rs + 8 * ((tq + nq) % 8)) (fp + (tq + nq) % 8) len 8)))), (aQ, .inr (0, [.int (nI rs), .int (nI fp), .int (nI tq), .int (nI (nq + 1))]))] H := hP
    have hD : va_D A [(aO, .inl (kO, 16, .inl (nM Ob))), (aR, .inr (1, [.ref aM, .ref aO, .ref aI, .ref aT, .ref aE, .int ff])), (aM, .inl (kM, 384, .inl (nM (fdI (fbI Mm Ob (16 * (fp + (tq + nq) % 8)) len 16) (rs + 8 * ((tq + nq) % 8)) (fp + (tq + nq) % 8) len 8)))), (aQ, .inr (0, [.int (nI rs), .int (nI fp), .int (nI tq), .int (nI (nq + 1))]))] := hD
    have hK : va_K (dC, dI) vwCl [(kO, .int), (kM, .int)] s := hK
    obtain rfl : r_9 = nI ((tq + nq) % 8) := hw
    have hP9 := hP.sub (ws' := [(aR, .inr (1, [.ref aM, .ref aO, .ref aI, .ref aT, .ref aE, .int ff])), (aM, .inl (kM, 384, .inl (nM (fdI (fbI Mm Ob (16 * (fp + (tq + nq) % 8)) len 16) (rs + 8 * ((tq + nq) % 8)) (fp + (tq + nq) % 8) len 8)))), (aO, .inl (kO, 16, .inl (nM Ob))), (aQ, .inr (0, [.int (nI rs), .int (nI fp), .int (nI tq), .int (nI (nq + 1))]))]) [1, 2, 0, 3] rfl
    have hD9 := hD.sub (ws' := [(aR, .inr (1, [.ref aM, .ref aO, .ref aI, .ref aT, .ref aE, .int ff])), (aM, .inl (kM, 384, .inl (nM (fdI (fbI Mm Ob (16 * (fp + (tq + nq) % 8)) len 16) (rs + 8 * ((tq + nq) % 8)) (fp + (tq + nq) % 8) len 8)))), (aO, .inl (kO, 16, .inl (nM Ob))), (aQ, .inr (0, [.int (nI rs), .int (nI fp), .int (nI tq), .int (nI (nq + 1))]))]) [1, 2, 0, 3] (by decide) rfl
    have hK9 := hK.sub (tys' := [(kM, .int), (kO, .int)]) [1, 0] rfl
    have e_10 : (nM (fdI (fbI Mm Ob (16 * (fp + (tq + nq) % 8)) len 16) (rs + 8 * ((tq + nq) % 8)) (fp + (tq + nq) % 8) len 8)) = nM (pnM Mm Ob rs fp tq nq len) := congrArg nM (selM_t (decide_eq_true (by omega)))
    have e_11 : (nI (nq + 1) : Int32) = nI (selN (decide (nq < 8)) (nq + 1) nq) := congrArg nI (selN_t (decide_eq_true (by omega)))
    have hP9 : va_P (dC, dI) vwCl [(aR, .inr (1, [.ref aM, .ref aO, .ref aI, .ref aT, .ref aE, .int ff])), (aM, .inl (kM, 384, .inl (nM (pnM Mm Ob rs fp tq nq len)))), (aO, .inl (kO, 16, .inl (nM Ob))), (aQ, .inr (0, [.int (nI rs), .int (nI fp), .int (nI tq), .int (nI (nq + 1))]))] H := Eq.mp (congrArg (fun (z1 : Nat → Int32) => va_P (dC, dI) vwCl [(aR, .inr (1, [.ref aM, .ref aO, .ref aI, .ref aT, .ref aE, .int ff])), (aM, .inl (kM, 384, .inl z1)), (aO, .inl (kO, 16, .inl (nM Ob))), (aQ, .inr (0, [.int (nI rs), .int (nI fp), .int (nI tq), .int (nI (nq + 1))]))] H) e_10) hP9
    have hD9 : va_D A [(aR, .inr (1, [.ref aM, .ref aO, .ref aI, .ref aT, .ref aE, .int ff])), (aM, .inl (kM, 384, .inl (nM (pnM Mm Ob rs fp tq nq len)))), (aO, .inl (kO, 16, .inl (nM Ob))), (aQ, .inr (0, [.int (nI rs), .int (nI fp), .int (nI tq), .int (nI (nq + 1))]))] := Eq.mp (congrArg (fun (z1 : Nat → Int32) => va_D A [(aR, .inr (1, [.ref aM, .ref aO, .ref aI, .ref aT, .ref aE, .int ff])), (aM, .inl (kM, 384, .inl z1)), (aO, .inl (kO, 16, .inl (nM Ob))), (aQ, .inr (0, [.int (nI rs), .int (nI fp), .int (nI tq), .int (nI (nq + 1))]))]) e_10) hD9
    have hP9 : va_P (dC, dI) vwCl [(aR, .inr (1, [.ref aM, .ref aO, .ref aI, .ref aT, .ref aE, .int ff])), (aM, .inl (kM, 384, .inl (nM (pnM Mm Ob rs fp tq nq len)))), (aO, .inl (kO, 16, .inl (nM Ob))), (aQ, .inr (0, [.int (nI rs), .int (nI fp), .int (nI tq), .int (nI (selN (decide (nq < 8)) (nq + 1) nq))]))] H := Eq.mp (congrArg (fun (z1 : Int32) => va_P (dC, dI) vwCl [(aR, .inr (1, [.ref aM, .ref aO, .ref aI, .ref aT, .ref aE, .int ff])), (aM, .inl (kM, 384, .inl (nM (pnM Mm Ob rs fp tq nq len)))), (aO, .inl (kO, 16, .inl (nM Ob))), (aQ, .inr (0, [.int (nI rs), .int (nI fp), .int (nI tq), .int z1]))] H) e_11) hP9
    have hD9 : va_D A [(aR, .inr (1, [.ref aM, .ref aO, .ref aI, .ref aT, .ref aE, .int ff])), (aM, .inl (kM, 384, .inl (nM (pnM Mm Ob rs fp tq nq len)))), (aO, .inl (kO, 16, .inl (nM Ob))), (aQ, .inr (0, [.int (nI rs), .int (nI fp), .int (nI tq), .int (nI (selN (decide (nq < 8)) (nq + 1) nq))]))] := Eq.mp (congrArg (fun (z1 : Int32) => va_D A [(aR, .inr (1, [.ref aM, .ref aO, .ref aI, .ref aT, .ref aE, .int ff])), (aM, .inl (kM, 384, .inl (nM (pnM Mm Ob rs fp tq nq len)))), (aO, .inl (kO, 16, .inl (nM Ob))), (aQ, .inr (0, [.int (nI rs), .int (nI fp), .int (nI tq), .int z1]))]) e_11) hD9
    have e_12 : (nI ((tq + nq) % 8) : Int32) = sel (decide (nq < 8)) (nI ((tq + nq) % 8)) (-1) := sel_t (decide_eq_true (by omega))
    exact W.iret (v := nI ((tq + nq) % 8)) hx hb hr (fun t ht hW => ⟨⟨_, (), rfl, e_12, by rw [ht]; exact hP9, va_K.moved hW.alike hK9, hD9⟩, hS.F ht⟩) hS.2.2 dX1_postNext_47
  · have c_2 : ¬ (nq < 8) := fun h9 => c_2 ((nI_ltI (a := nq) (b := 8) (by omega) (by omega)).mpr h9)
    refine lv_iconst (v := (-1)) hx hb dX1_postNext_11 (by decide +kernel) ?_
    have hP9 := hP.sub (ws' := [(aR, .inr (1, [.ref aM, .ref aO, .ref aI, .ref aT, .ref aE, .int ff])), (aM, .inl (kM, 384, .inl (nM Mm))), (aO, .inl (kO, 16, .inl (nM Ob))), (aQ, .inr (0, [.int (nI rs), .int (nI fp), .int (nI tq), .int (nI nq)]))]) [0, 1, 2, 3] rfl
    have hD9 := hD.sub (ws' := [(aR, .inr (1, [.ref aM, .ref aO, .ref aI, .ref aT, .ref aE, .int ff])), (aM, .inl (kM, 384, .inl (nM Mm))), (aO, .inl (kO, 16, .inl (nM Ob))), (aQ, .inr (0, [.int (nI rs), .int (nI fp), .int (nI tq), .int (nI nq)]))]) [0, 1, 2, 3] (by decide) rfl
    have hK9 := hK.sub (tys' := [(kM, .int), (kO, .int)]) [0, 1] rfl
    have e_13 : (nM Mm) = nM (pnM Mm Ob rs fp tq nq len) := congrArg nM (selM_f (decide_eq_false (by omega)))
    have e_14 : (nI nq : Int32) = nI (selN (decide (nq < 8)) (nq + 1) nq) := congrArg nI (selN_f (decide_eq_false (by omega)))
    have hP9 : va_P (dC, dI) vwCl [(aR, .inr (1, [.ref aM, .ref aO, .ref aI, .ref aT, .ref aE, .int ff])), (aM, .inl (kM, 384, .inl (nM (pnM Mm Ob rs fp tq nq len)))), (aO, .inl (kO, 16, .inl (nM Ob))), (aQ, .inr (0, [.int (nI rs), .int (nI fp), .int (nI tq), .int (nI nq)]))] H := Eq.mp (congrArg (fun (z1 : Nat → Int32) => va_P (dC, dI) vwCl [(aR, .inr (1, [.ref aM, .ref aO, .ref aI, .ref aT, .ref aE, .int ff])), (aM, .inl (kM, 384, .inl z1)), (aO, .inl (kO, 16, .inl (nM Ob))), (aQ, .inr (0, [.int (nI rs), .int (nI fp), .int (nI tq), .int (nI nq)]))] H) e_13) hP9
    have hD9 : va_D A [(aR, .inr (1, [.ref aM, .ref aO, .ref aI, .ref aT, .ref aE, .int ff])), (aM, .inl (kM, 384, .inl (nM (pnM Mm Ob rs fp tq nq len)))), (aO, .inl (kO, 16, .inl (nM Ob))), (aQ, .inr (0, [.int (nI rs), .int (nI fp), .int (nI tq), .int (nI nq)]))] := Eq.mp (congrArg (fun (z1 : Nat → Int32) => va_D A [(aR, .inr (1, [.ref aM, .ref aO, .ref aI, .ref aT, .ref aE, .int ff])), (aM, .inl (kM, 384, .inl z1)), (aO, .inl (kO, 16, .inl (nM Ob))), (aQ, .inr (0, [.int (nI rs), .int (nI fp), .int (nI tq), .int (nI nq)]))]) e_13) hD9
    have hP9 : va_P (dC, dI) vwCl [(aR, .inr (1, [.ref aM, .ref aO, .ref aI, .ref aT, .ref aE, .int ff])), (aM, .inl (kM, 384, .inl (nM (pnM Mm Ob rs fp tq nq len)))), (aO, .inl (kO, 16, .inl (nM Ob))), (aQ, .inr (0, [.int (nI rs), .int (nI fp), .int (nI tq), .int (nI (selN (decide (nq < 8)) (nq + 1) nq))]))] H := Eq.mp (congrArg (fun (z1 : Int32) => va_P (dC, dI) vwCl [(aR, .inr (1, [.ref aM, .ref aO, .ref aI, .ref aT, .ref aE, .int ff])), (aM, .inl (kM, 384, .inl (nM (pnM Mm Ob rs fp tq nq len)))), (aO, .inl (kO, 16, .inl (nM Ob))), (aQ, .inr (0, [.int (nI rs), .int (nI fp), .int (nI tq), .int z1]))] H) e_14) hP9
    have hD9 : va_D A [(aR, .inr (1, [.ref aM, .ref aO, .ref aI, .ref aT, .ref aE, .int ff])), (aM, .inl (kM, 384, .inl (nM (pnM Mm Ob rs fp tq nq len)))), (aO, .inl (kO, 16, .inl (nM Ob))), (aQ, .inr (0, [.int (nI rs), .int (nI fp), .int (nI tq), .int (nI (selN (decide (nq < 8)) (nq + 1) nq))]))] := Eq.mp (congrArg (fun (z1 : Int32) => va_D A [(aR, .inr (1, [.ref aM, .ref aO, .ref aI, .ref aT, .ref aE, .int ff])), (aM, .inl (kM, 384, .inl (nM (pnM Mm Ob rs fp tq nq len)))), (aO, .inl (kO, 16, .inl (nM Ob))), (aQ, .inr (0, [.int (nI rs), .int (nI fp), .int (nI tq), .int z1]))]) e_14) hD9
    have e_15 : ((-1) : Int32) = sel (decide (nq < 8)) (nI ((tq + nq) % 8)) (-1) := sel_f (decide_eq_false (by omega))
    exact W.iret (v := (-1)) hx hb hr (fun t ht hW => ⟨⟨_, (), rfl, e_15, by rw [ht]; exact hP9, va_K.moved hW.alike hK9, hD9⟩, hS.F ht⟩) hS.2.2 dX1_postNext_12
