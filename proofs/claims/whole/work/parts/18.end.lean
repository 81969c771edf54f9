set_option maxHeartbeats 4000000 in
set_option maxRecDepth 100000 in
theorem law_loop {p : Program} {l : Launch} {e : Env} {s : State} {m : MethodId} {below : List Frame} {meth : Method} {c : Code} {dC : Nat → ClassId} {dI : Nat → Nat → Nat} {b L : Nat} {xs : Nat → Int32} (hL : L ≤ 1536) (C0 : lw_At p s m meth c b L xs) (aR aM aO aI aT aE eR eM eA eW eO eI : Nat) (kM kO kI jM jA jW jO jI : ClassId) (hK : va_K (dC, dI) vwCl [(kM, .int), (kO, .int), (kI, .int), (jM, .byte), (jA, .boolean), (jW, .boolean), (jO, .byte), (jI, .byte)] s) : ∀ (fuel i : Nat), i ≤ L → L + 1 ≤ i + fuel → LH p l e s m below meth c dC dI b aR aM aO aI aT aE eR eM eA eW eO eI kM kO kI jM jA jW jO jI i := by
  obtain ⟨hx, hb, hr, hml, hown, hts, hX, hbl, hlocks, hgv⟩ := id C0
  have hts := fun w h => hts w (wsL_law_in w h)
  have hown : s.vm.findClass RL = some m.cls := hown
  have hA : ∀ q : Nat, s.heap.size ≤ q → (fun q : Nat => s.heap.size ≤ q) q := fun _ h => h
  have hbA : ¬ (fun q : Nat => s.heap.size ≤ q) b := Nat.not_le.mpr hbl
  intro fuel
  induction fuel with
  | zero =>
    intro i h1 h2
    exact absurd h2 (by omega)
  | succ fuel ih =>
    intro i hi hfu Mm Ob Ib tx nx rx mx ff htx hnx hrx hmx hM hO hIb H locs ls hP hD hS hl
    refine lv_iload_n hx hb dL_law_18 rfl (lv_at hl 3 rfl) ?_
    refine lv_aload_n hx hb dL_law_19 rfl (lv_at hl 0 rfl) ?_
    refine va_slen hx hb hX hbl hbA hS dL_law_20 ?_
    refine lv_iconst (v := nI 3) hx hb dL_law_21 (by decide +kernel) ?_
    refine lv_isub hx hb dL_law_22 ?_
    refine lv_icmp_gt (tgt := 345) hx hb dL_law_23 (by decide) (fun c_1 => ?_) (fun c_1 => ?_)
    · refine lv_iconst (v := 1) hx hb dL_law_345 (by decide) ?_
      refine va_forget (fun q hq => hS.2.2 q hq) ?_
      exact lw_ret hx hb hr hlocks dL_law_346
    · have hi3 : i + 3 ≤ L := law_c hL hi c_1
      have hn : LH p l e s m below meth c dC dI b aR aM aO aI aT aE eR eM eA eW eO eI kM kO kI jM jA jW jO jI (i + 3) := ih (i + 3) hi3 (by omega)
      refine lv_aload_n hx hb dL_law_26 rfl (lv_at hl 0 rfl) ?_
      refine lv_iload_n hx hb dL_law_27 rfl (lv_at hl 3 rfl) ?_
      refine va_sld hx hb hX hbl hbA hS (vp_in_nI (n := i) (N := L) (by omega) (by omega)) dL_law_28 ?_
      refine lv_bipush (v := nI 15) hx hb dL_law_29 (by decide +kernel) ?_
      refine lv_iand hx hb dL_law_31 ?_
      refine lv_topi (fun y ey => ?_)
      obtain ⟨j, hj, hje⟩ := n_and15 (xs (nI i).toNatClampNeg)
      obtain rfl := ey.trans hje
      rcases (show j = 0 ∨ j = 1 ∨ j = 2 ∨ j = 3 ∨ j = 4 ∨ j = 5 ∨ j = 6 ∨ j = 7 ∨ j = 8 ∨ j = 9 ∨ j = 10 ∨ j = 11 ∨ j = 12 ∨ j = 13 ∨ j = 14 ∨ j = 15 by omega) with rfl | rfl | rfl | rfl | rfl | rfl | rfl | rfl | rfl | rfl | rfl | rfl | rfl | rfl | rfl | rfl
      · refine lv_tableIn (off := 68) (tgt := 100) hx hb dL_law_32 (by decide +kernel) (by decide +kernel) (by decide +kernel) (by decide) ?_
        exact law_0 hL C0 aR aM aO aI aT aE eR eM eA eW eO eI kM kO kI jM jA jW jO jI hK i hi3 hn Mm Ob Ib tx nx rx mx ff htx hnx hrx hmx hM hO hIb H locs ls hP hD hS hl
      · refine lv_tableIn (off := 91) (tgt := 123) hx hb dL_law_32 (by decide +kernel) (by decide +kernel) (by decide +kernel) (by decide) ?_
        exact law_1 hL C0 aR aM aO aI aT aE eR eM eA eW eO eI kM kO kI jM jA jW jO jI hK i hi3 hn Mm Ob Ib tx nx rx mx ff htx hnx hrx hmx hM hO hIb H locs ls hP hD hS hl
      · refine lv_tableIn (off := 124) (tgt := 156) hx hb dL_law_32 (by decide +kernel) (by decide +kernel) (by decide +kernel) (by decide) ?_
        exact law_2 hL C0 aR aM aO aI aT aE eR eM eA eW eO eI kM kO kI jM jA jW jO jI hK i hi3 hn Mm Ob Ib tx nx rx mx ff htx hnx hrx hmx hM hO hIb H locs ls hP hD hS hl
      · refine lv_tableIn (off := 137) (tgt := 169) hx hb dL_law_32 (by decide +kernel) (by decide +kernel) (by decide +kernel) (by decide) ?_
        exact law_3 hL C0 aR aM aO aI aT aE eR eM eA eW eO eI kM kO kI jM jA jW jO jI hK i hi3 hn Mm Ob Ib tx nx rx mx ff htx hnx hrx hmx hM hO hIb H locs ls hP hD hS hl
      · refine lv_tableIn (off := 170) (tgt := 202) hx hb dL_law_32 (by decide +kernel) (by decide +kernel) (by decide +kernel) (by decide) ?_
        exact law_4 hL C0 aR aM aO aI aT aE eR eM eA eW eO eI kM kO kI jM jA jW jO jI hK i hi3 hn Mm Ob Ib tx nx rx mx ff htx hnx hrx hmx hM hO hIb H locs ls hP hD hS hl
      · refine lv_tableIn (off := 193) (tgt := 225) hx hb dL_law_32 (by decide +kernel) (by decide +kernel) (by decide +kernel) (by decide) ?_
        exact law_5 hL C0 aR aM aO aI aT aE eR eM eA eW eO eI kM kO kI jM jA jW jO jI hK i hi3 hn Mm Ob Ib tx nx rx mx ff htx hnx hrx hmx hM hO hIb H locs ls hP hD hS hl
      · refine lv_tableIn (off := 206) (tgt := 238) hx hb dL_law_32 (by decide +kernel) (by decide +kernel) (by decide +kernel) (by decide) ?_
        exact law_6 hL C0 aR aM aO aI aT aE eR eM eA eW eO eI kM kO kI jM jA jW jO jI hK i hi3 hn Mm Ob Ib tx nx rx mx ff htx hnx hrx hmx hM hO hIb H locs ls hP hD hS hl
      · refine lv_tableIn (off := 219) (tgt := 251) hx hb dL_law_32 (by decide +kernel) (by decide +kernel) (by decide +kernel) (by decide) ?_
        exact law_7 hL C0 aR aM aO aI aT aE eR eM eA eW eO eI kM kO kI jM jA jW jO jI hK i hi3 hn Mm Ob Ib tx nx rx mx ff htx hnx hrx hmx hM hO hIb H locs ls hP hD hS hl
      · refine lv_tableIn (off := 232) (tgt := 264) hx hb dL_law_32 (by decide +kernel) (by decide +kernel) (by decide +kernel) (by decide) ?_
        exact law_8 hL C0 aR aM aO aI aT aE eR eM eA eW eO eI kM kO kI jM jA jW jO jI hK i hi3 hn Mm Ob Ib tx nx rx mx ff htx hnx hrx hmx hM hO hIb H locs ls hP hD hS hl
      · refine lv_tableIn (off := 245) (tgt := 277) hx hb dL_law_32 (by decide +kernel) (by decide +kernel) (by decide +kernel) (by decide) ?_
        exact law_9 hL C0 aR aM aO aI aT aE eR eM eA eW eO eI kM kO kI jM jA jW jO jI hK i hi3 hn Mm Ob Ib tx nx rx mx ff htx hnx hrx hmx hM hO hIb H locs ls hP hD hS hl
      · refine lv_tableIn (off := 268) (tgt := 300) hx hb dL_law_32 (by decide +kernel) (by decide +kernel) (by decide +kernel) (by decide) ?_
        exact law_10 hL C0 aR aM aO aI aT aE eR eM eA eW eO eI kM kO kI jM jA jW jO jI hK i hi3 hn Mm Ob Ib tx nx rx mx ff htx hnx hrx hmx hM hO hIb H locs ls hP hD hS hl
      · refine lv_tableIn (off := 281) (tgt := 313) hx hb dL_law_32 (by decide +kernel) (by decide +kernel) (by decide +kernel) (by decide) ?_
        exact law_11 hL C0 aR aM aO aI aT aE eR eM eA eW eO eI kM kO kI jM jA jW jO jI hK i hi3 hn Mm Ob Ib tx nx rx mx ff htx hnx hrx hmx hM hO hIb H locs ls hP hD hS hl
      · refine lv_tableIn (off := 294) (tgt := 326) hx hb dL_law_32 (by decide +kernel) (by decide +kernel) (by decide +kernel) (by decide) ?_
        exact law_12 hL C0 aR aM aO aI aT aE eR eM eA eW eO eI kM kO kI jM jA jW jO jI hK i hi3 hn Mm Ob Ib tx nx rx mx ff htx hnx hrx hmx hM hO hIb H locs ls hP hD hS hl
      · refine lv_tableOut (tgt := 339) hx hb dL_law_32 (by decide +kernel) (by decide) ?_
        refine lv_iinc (v := nI (i + 3)) (lv' := [(3, .int (nI (i + 3))), (0, .ref b), (1, .ref aR), (2, .ref eR)]) hx hb dL_law_339 hl (k := 3) rfl (show nI i + Int32.ofInt 3 = nI (i + 3) from nI_add i 3) (by decide) rfl (fun ls hl => ?_)
        refine lv_goto (tgt := 18) hx hb dL_law_342 (by decide) ?_
        exact hn Mm Ob Ib tx nx rx mx ff htx hnx hrx hmx hM hO hIb H locs ls hP hD hS (lv_sub hl [1, 2, 3, 0] rfl)
      · refine lv_tableOut (tgt := 339) hx hb dL_law_32 (by decide +kernel) (by decide) ?_
        refine lv_iinc (v := nI (i + 3)) (lv' := [(3, .int (nI (i + 3))), (0, .ref b), (1, .ref aR), (2, .ref eR)]) hx hb dL_law_339 hl (k := 3) rfl (show nI i + Int32.ofInt 3 = nI (i + 3) from nI_add i 3) (by decide) rfl (fun ls hl => ?_)
        refine lv_goto (tgt := 18) hx hb dL_law_342 (by decide) ?_
        exact hn Mm Ob Ib tx nx rx mx ff htx hnx hrx hmx hM hO hIb H locs ls hP hD hS (lv_sub hl [1, 2, 3, 0] rfl)
      · refine lv_tableOut (tgt := 339) hx hb dL_law_32 (by decide +kernel) (by decide) ?_
        refine lv_iinc (v := nI (i + 3)) (lv' := [(3, .int (nI (i + 3))), (0, .ref b), (1, .ref aR), (2, .ref eR)]) hx hb dL_law_339 hl (k := 3) rfl (show nI i + Int32.ofInt 3 = nI (i + 3) from nI_add i 3) (by decide) rfl (fun ls hl => ?_)
        refine lv_goto (tgt := 18) hx hb dL_law_342 (by decide) ?_
        exact hn Mm Ob Ib tx nx rx mx ff htx hnx hrx hmx hM hO hIb H locs ls hP hD hS (lv_sub hl [1, 2, 3, 0] rfl)
set_option maxHeartbeats 4000000 in
set_option maxRecDepth 100000 in
theorem whole_start {p : Program} {e : Env} {s : State} {m : MethodId} {below : List Frame} {meth : Method} {c : Code} (l : Launch) {b L : Nat} {xs : Nat → Int32} (hL : L ≤ 1536) (C0 : lw_At p s m meth c b L xs) : W p l e room_1 s m #[Value.ref b] below meth c s.heap [] 0 0 (lw_Z below #[Value.ref b] s) (entryFrame m ([Value.ref b] : List Value).toArray 4) := by
  obtain ⟨hx, hb, hr, hml, hown, hts, hX, hbl, hlocks, hgv⟩ := id C0
  have hts := fun w h => hts w (wsL_law_in w h)
  have hown : s.vm.findClass RL = some m.cls := hown
  have hA : ∀ q : Nat, s.heap.size ≤ q → (fun q : Nat => s.heap.size ≤ q) q := fun _ h => h
  have hbA : ¬ (fun q : Nat => s.heap.size ≤ q) b := Nat.not_le.mpr hbl
  obtain ⟨c0, iS0, hKn0⟩ := u_known (C := RX0) (T := TX0) (N := 4) (n := 4) hts inlX0 (hts (.instantiable RX0 4) (by decide +kernel))
  obtain ⟨c1, iS1, hKn1⟩ := u_known (C := RX1) (T := TX1) (N := 6) (n := 6) hts inlX1 (hts (.instantiable RX1 6) (by decide +kernel))
  obtain ⟨c2, iS2, hKn2⟩ := u_known (C := RX2) (T := TX2) (N := 10) (n := 10) hts inlX2 (hts (.instantiable RX2 10) (by decide +kernel))
  obtain ⟨dC, dI, hKc⟩ : ∃ (dC : Nat → ClassId) (dI : Nat → Nat → Nat), ∀ (k : Nat) (q : vw_C), vwCl[k]? = some q → u_Kn s q.1 q.2.1 q.2.2 (dC k) (dI k) := by
    refine ⟨fun k => if k = 0 then c0 else if k = 1 then c1 else c2, fun k => if k = 0 then iS0 else if k = 1 then iS1 else iS2, ?_⟩
    intro k q hq
    match k, hq with
    | 0, hq => cases hq; exact hKn0
    | 1, hq => cases hq; exact hKn1
    | 2, hq => cases hq; exact hKn2
    | k + 3, hq => simp [vwCl] at hq
  have hS : va_S (fun q : Nat => s.heap.size ≤ q) s.heap s.heap [] := va_S.rf
  have hK : va_K (dC, dI) vwCl [] s := ⟨hKc, fun k q h => by simp at h⟩
  have hP : va_P (dC, dI) vwCl [] s.heap := fun k q h => by simp at h
  have hD : va_D (fun q : Nat => s.heap.size ≤ q) [] := ⟨fun i j p q h => by simp at h, fun k q h => by simp at h⟩
  have hl := lv_entry ([.ref b]) (n := 4) (Nat.le_of_ble_eq_true rfl)
  rw [lg_entry_eq]
  generalize (lg_sl ([.ref b]) ++ List.replicate (4 - (lg_sl ([.ref b])).length) Slot.unset).toArray = ls at hl ⊢
  have hl : lv_has ls 4 [(0, .ref b)] := hl
  refine va_new (ci := 1) (fs := [.null, .null, .null, .null, .null, .int 0]) (C := RX1) (T := TX1) (N := 6) hx hb hts inlX1 tyX1 tyX1_ok hown (hts (.classLink RL 7 RX1) (by decide +kernel)) (hts (.instantiable RX1 6) (by decide +kernel)) (hts (.initialized RX1) (by decide +kernel)) hK hP hD hS hA rfl (fun j hj => by rcases (show j = 0 ∨ j = 1 ∨ j = 2 ∨ j = 3 ∨ j = 4 ∨ j = 5 by omega) with rfl | rfl | rfl | rfl | rfl | rfl <;> rfl) (Nat.le_of_ble_eq_true rfl) (Nat.le_of_ble_eq_true rfl) dL_law_0 (fun q_1 H hP hD hS => ?_)
  have hP : va_P (dC, dI) vwCl [(q_1, .inr (1, [.null, .null, .null, .null, .null, .int 0]))] H := hP
  have hD : va_D (fun q : Nat => s.heap.size ≤ q) [(q_1, .inr (1, [.null, .null, .null, .null, .null, .int 0]))] := hD
  refine W.widen (k := 1) (n := 6) (by omega) (by omega) ?_
  refine lv_dup hx hb dL_law_3 rfl ?_
  have hPc := hP.sub (ws' := [(q_1, .inr (1, [.null, .null, .null, .null, .null, .int 0]))]) [0] rfl
  have hDc := hD.sub (ws' := [(q_1, .inr (1, [.null, .null, .null, .null, .null, .int 0]))]) [0] (by decide) rfl
  have hKc := hK.sub (tys' := []) [] rfl
  have hFc := va_free (wc := [(q_1, .inr (1, [.null, .null, .null, .null, .null, .int 0]))]) hD hS hA [0] rfl
  refine va_callv (va_runI (As := []) (rest := [.ref q_1]) ⟨hx, hb, hml, hown, hts⟩ (c_X1_init l dC dI q_1 H.size ) (cwI 0 hts gL_law_X1_init rfl rfl rfl (hts (.initialized RX1) (by decide +kernel)) (hts (.methodLink RL 9 yX1_init) (by decide +kernel)) (hts (.instanceMethod yX1_init) (by decide +kernel)) rfl (by decide +kernel) ⟨Nat.le_of_ble_eq_true rfl, Nat.le_of_ble_eq_true rfl⟩) ⟨fun a U g mk q => by obtain ⟨q0, q1, qP, qK, qD⟩ := q; exact ⟨q0, q1, qP, va_K.moved (u := U) (U := U.calling g mk a) (Vm.Alike.refl U.vm) qK, qD⟩, fun U hU hW => ⟨rfl, by rw [hU], by rw [hU]; exact hPc, va_K.moved hW.alike hKc, hDc.weaken (fun _ _ _ _ => trivial)⟩⟩ rfl rfl hl.1 rfl (lv_room (Nat.le_of_ble_eq_true rfl)) dL_law_4 ⟨Nat.le_of_ble_eq_true rfl, Nat.le_of_ble_eq_true rfl⟩) hS (fun q _ h => hFc q h) hFc (fun u t H1 locs ht hvm hw hB hz1 hk1 hS => ?_)
  obtain ⟨x_3, x_4, x_5, x_6, x_7, x_8, x_9, x_10⟩ := u
  obtain ⟨hP1, hK1, hD1⟩ := hB
  rw [ht] at hP1
  have hK1 := va_K.moved hvm.symm hK1
  obtain ⟨hP, hD⟩ := va_join (wr := []) (w1 := [(q_1, .inr (1, [.ref x_3, .ref x_4, .ref x_5, .ref x_6, .ref x_7, .int (nI 0)])), (x_3, .inl (x_8, 384, .inl (nM ((fun _ => 0))))), (x_4, .inl (x_9, 16, .inl (nM ((fun _ => 0))))), (x_5, .inl (x_10, 16, .inl (nM ((fun _ => 0))))), (x_6, .inr (0, [.int (nI 0), .int (nI 8), .int (nI 0), .int (nI 0)])), (x_7, .inr (0, [.int (nI 64), .int (nI 16), .int (nI 0), .int (nI 0)]))]) hP hD [0] [] rfl rfl (by decide) (by decide) hk1 hFc hP1 hD1
  have hK := (hK.sub (tys' := []) [] rfl).app hK1
  generalize H1 = H at hP hS ⊢
  have hP : va_P (dC, dI) vwCl [(q_1, .inr (1, [.ref x_3, .ref x_4, .ref x_5, .ref x_6, .ref x_7, .int (nI 0)])), (x_3, .inl (x_8, 384, .inl (nM ((fun _ => 0))))), (x_4, .inl (x_9, 16, .inl (nM ((fun _ => 0))))), (x_5, .inl (x_10, 16, .inl (nM ((fun _ => 0))))), (x_6, .inr (0, [.int (nI 0), .int (nI 8), .int (nI 0), .int (nI 0)])), (x_7, .inr (0, [.int (nI 64), .int (nI 16), .int (nI 0), .int (nI 0)]))] H := hP
  have hD : va_D (fun q : Nat => s.heap.size ≤ q) [(q_1, .inr (1, [.ref x_3, .ref x_4, .ref x_5, .ref x_6, .ref x_7, .int (nI 0)])), (x_3, .inl (x_8, 384, .inl (nM ((fun _ => 0))))), (x_4, .inl (x_9, 16, .inl (nM ((fun _ => 0))))), (x_5, .inl (x_10, 16, .inl (nM ((fun _ => 0))))), (x_6, .inr (0, [.int (nI 0), .int (nI 8), .int (nI 0), .int (nI 0)])), (x_7, .inr (0, [.int (nI 64), .int (nI 16), .int (nI 0), .int (nI 0)]))] := hD
  have hK : va_K (dC, dI) vwCl [(x_8, .int), (x_9, .int), (x_10, .int)] s := hK
  refine W.widen (k := 6) (n := 430) (by omega) (by omega) ?_
  refine lv_astore_n (lv' := [(1, .ref q_1), (0, .ref b)]) hx hb dL_law_7 rfl hl (by decide) rfl (fun ls hl => ?_)
  refine va_new (ci := 2) (fs := [.null, .null, .null, .null, .null, .int 0, .int 0, .int 0, .int 0, .int 0]) (C := RX2) (T := TX2) (N := 10) hx hb hts inlX2 tyX2 tyX2_ok hown (hts (.classLink RL 10 RX2) (by decide +kernel)) (hts (.instantiable RX2 10) (by decide +kernel)) (hts (.initialized RX2) (by decide +kernel)) hK hP hD hS hA rfl (fun j hj => by rcases (show j = 0 ∨ j = 1 ∨ j = 2 ∨ j = 3 ∨ j = 4 ∨ j = 5 ∨ j = 6 ∨ j = 7 ∨ j = 8 ∨ j = 9 by omega) with rfl | rfl | rfl | rfl | rfl | rfl | rfl | rfl | rfl | rfl <;> rfl) (Nat.le_of_ble_eq_true rfl) (Nat.le_of_ble_eq_true rfl) dL_law_8 (fun q_11 H hP hD hS => ?_)
  have hP : va_P (dC, dI) vwCl [(q_1, .inr (1, [.ref x_3, .ref x_4, .ref x_5, .ref x_6, .ref x_7, .int (nI 0)])), (x_3, .inl (x_8, 384, .inl (nM ((fun _ => 0))))), (x_4, .inl (x_9, 16, .inl (nM ((fun _ => 0))))), (x_5, .inl (x_10, 16, .inl (nM ((fun _ => 0))))), (x_6, .inr (0, [.int (nI 0), .int (nI 8), .int (nI 0), .int (nI 0)])), (x_7, .inr (0, [.int (nI 64), .int (nI 16), .int (nI 0), .int (nI 0)])), (q_11, .inr (2, [.null, .null, .null, .null, .null, .int 0, .int 0, .int 0, .int 0, .int 0]))] H := hP
  have hD : va_D (fun q : Nat => s.heap.size ≤ q) [(q_1, .inr (1, [.ref x_3, .ref x_4, .ref x_5, .ref x_6, .ref x_7, .int (nI 0)])), (x_3, .inl (x_8, 384, .inl (nM ((fun _ => 0))))), (x_4, .inl (x_9, 16, .inl (nM ((fun _ => 0))))), (x_5, .inl (x_10, 16, .inl (nM ((fun _ => 0))))), (x_6, .inr (0, [.int (nI 0), .int (nI 8), .int (nI 0), .int (nI 0)])), (x_7, .inr (0, [.int (nI 64), .int (nI 16), .int (nI 0), .int (nI 0)])), (q_11, .inr (2, [.null, .null, .null, .null, .null, .int 0, .int 0, .int 0, .int 0, .int 0]))] := hD
  refine W.widen (k := 7) (n := 440) (by omega) (by omega) ?_
  refine lv_dup hx hb dL_law_11 rfl ?_
  have hPc := hP.sub (ws' := [(q_11, .inr (2, [.null, .null, .null, .null, .null, .int 0, .int 0, .int 0, .int 0, .int 0]))]) [6] rfl
  have hDc := hD.sub (ws' := [(q_11, .inr (2, [.null, .null, .null, .null, .null, .int 0, .int 0, .int 0, .int 0, .int 0]))]) [6] (by decide) rfl
  have hKc := hK.sub (tys' := []) [] rfl
  have hFc := va_free (wc := [(q_11, .inr (2, [.null, .null, .null, .null, .null, .int 0, .int 0, .int 0, .int 0, .int 0]))]) hD hS hA [6] rfl
  refine va_callv (va_runI (As := []) (rest := [.ref q_11]) ⟨hx, hb, hml, hown, hts⟩ (c_X2_init l dC dI q_11 H.size ) (cwI 0 hts gL_law_X2_init rfl rfl rfl (hts (.initialized RX2) (by decide +kernel)) (hts (.methodLink RL 12 yX2_init) (by decide +kernel)) (hts (.instanceMethod yX2_init) (by decide +kernel)) rfl (by decide +kernel) ⟨Nat.le_of_ble_eq_true rfl, Nat.le_of_ble_eq_true rfl⟩) ⟨fun a U g mk q => by obtain ⟨q0, q1, qP, qK, qD⟩ := q; exact ⟨q0, q1, qP, va_K.moved (u := U) (U := U.calling g mk a) (Vm.Alike.refl U.vm) qK, qD⟩, fun U hU hW => ⟨rfl, by rw [hU], by rw [hU]; exact hPc, va_K.moved hW.alike hKc, hDc.weaken (fun _ _ _ _ => trivial)⟩⟩ rfl rfl hl.1 rfl (lv_room (Nat.le_of_ble_eq_true rfl)) dL_law_12 ⟨Nat.le_of_ble_eq_true rfl, Nat.le_of_ble_eq_true rfl⟩) hS (fun q _ h => hFc q h) hFc (fun u t H1 locs ht hvm hw hB hz1 hk1 hS => ?_)
  obtain ⟨x_13, x_14, x_15, x_16, x_17, x_18, x_19, x_20, x_21, x_22⟩ := u
  obtain ⟨hP1, hK1, hD1⟩ := hB
  rw [ht] at hP1
  have hK1 := va_K.moved hvm.symm hK1
  obtain ⟨hP, hD⟩ := va_join (wr := [(q_1, .inr (1, [.ref x_3, .ref x_4, .ref x_5, .ref x_6, .ref x_7, .int (nI 0)])), (x_3, .inl (x_8, 384, .inl (nM ((fun _ => 0))))), (x_4, .inl (x_9, 16, .inl (nM ((fun _ => 0))))), (x_5, .inl (x_10, 16, .inl (nM ((fun _ => 0))))), (x_6, .inr (0, [.int (nI 0), .int (nI 8), .int (nI 0), .int (nI 0)])), (x_7, .inr (0, [.int (nI 64), .int (nI 16), .int (nI 0), .int (nI 0)]))]) (w1 := [(q_11, .inr (2, [.ref x_13, .ref x_14, .ref x_15, .ref x_16, .ref x_17, .int (nI 0), .int (nI 0), .int (nI 0), .int (nI 0), .int (nI 0)])), (x_13, .inl (x_18, 384, .inl (bM ((fun _ => 0))))), (x_14, .inl (x_19, 24, .inl (rdF 8 0 0))), (x_15, .inl (x_20, 24, .inl (rdF 16 0 0))), (x_16, .inl (x_21, 16, .inl (bM ((fun _ => 0))))), (x_17, .inl (x_22, 16, .inl (bM ((fun _ => 0)))))]) hP hD [6] [0, 1, 2, 3, 4, 5] rfl rfl (by decide) (by decide) hk1 hFc hP1 hD1
  have hK := (hK.sub (tys' := [(x_8, .int), (x_9, .int), (x_10, .int)]) [0, 1, 2] rfl).app hK1
  generalize H1 = H at hP hS ⊢
  have hP : va_P (dC, dI) vwCl [(q_1, .inr (1, [.ref x_3, .ref x_4, .ref x_5, .ref x_6, .ref x_7, .int (nI 0)])), (x_3, .inl (x_8, 384, .inl (nM ((fun _ => 0))))), (x_4, .inl (x_9, 16, .inl (nM ((fun _ => 0))))), (x_5, .inl (x_10, 16, .inl (nM ((fun _ => 0))))), (x_6, .inr (0, [.int (nI 0), .int (nI 8), .int (nI 0), .int (nI 0)])), (x_7, .inr (0, [.int (nI 64), .int (nI 16), .int (nI 0), .int (nI 0)])), (q_11, .inr (2, [.ref x_13, .ref x_14, .ref x_15, .ref x_16, .ref x_17, .int (nI 0), .int (nI 0), .int (nI 0), .int (nI 0), .int (nI 0)])), (x_13, .inl (x_18, 384, .inl (bM ((fun _ => 0))))), (x_14, .inl (x_19, 24, .inl (rdF 8 0 0))), (x_15, .inl (x_20, 24, .inl (rdF 16 0 0))), (x_16, .inl (x_21, 16, .inl (bM ((fun _ => 0))))), (x_17, .inl (x_22, 16, .inl (bM ((fun _ => 0)))))] H := hP
  have hD : va_D (fun q : Nat => s.heap.size ≤ q) [(q_1, .inr (1, [.ref x_3, .ref x_4, .ref x_5, .ref x_6, .ref x_7, .int (nI 0)])), (x_3, .inl (x_8, 384, .inl (nM ((fun _ => 0))))), (x_4, .inl (x_9, 16, .inl (nM ((fun _ => 0))))), (x_5, .inl (x_10, 16, .inl (nM ((fun _ => 0))))), (x_6, .inr (0, [.int (nI 0), .int (nI 8), .int (nI 0), .int (nI 0)])), (x_7, .inr (0, [.int (nI 64), .int (nI 16), .int (nI 0), .int (nI 0)])), (q_11, .inr (2, [.ref x_13, .ref x_14, .ref x_15, .ref x_16, .ref x_17, .int (nI 0), .int (nI 0), .int (nI 0), .int (nI 0), .int (nI 0)])), (x_13, .inl (x_18, 384, .inl (bM ((fun _ => 0))))), (x_14, .inl (x_19, 24, .inl (rdF 8 0 0))), (x_15, .inl (x_20, 24, .inl (rdF 16 0 0))), (x_16, .inl (x_21, 16, .inl (bM ((fun _ => 0))))), (x_17, .inl (x_22, 16, .inl (bM ((fun _ => 0)))))] := hD
  have hK : va_K (dC, dI) vwCl [(x_8, .int), (x_9, .int), (x_10, .int), (x_18, .byte), (x_19, .boolean), (x_20, .boolean), (x_21, .byte), (x_22, .byte)] s := hK
  refine W.widen (k := 12) (n := 904) (by omega) (by omega) ?_
  refine lv_astore_n (lv' := [(2, .ref q_11), (1, .ref q_1), (0, .ref b)]) hx hb dL_law_15 rfl hl (by decide) rfl (fun ls hl => ?_)
  refine lv_iconst (v := nI 0) hx hb dL_law_16 (by decide +kernel) ?_
  refine lv_istore_n (lv' := [(3, .int (nI 0)), (2, .ref q_11), (1, .ref q_1), (0, .ref b)]) hx hb dL_law_17 rfl hl (by decide) rfl (fun ls hl => ?_)
  have hP9 := hP.sub (ws' := [(q_1, .inr (1, [.ref x_3, .ref x_4, .ref x_5, .ref x_6, .ref x_7, .int (nI 0)])), (x_3, .inl (x_8, 384, .inl (nM ((fun _ => 0))))), (x_4, .inl (x_9, 16, .inl (nM ((fun _ => 0))))), (x_5, .inl (x_10, 16, .inl (nM ((fun _ => 0))))), (x_6, .inr (0, [.int (nI 0), .int (nI 8), .int (nI 0), .int (nI 0)])), (x_7, .inr (0, [.int (nI 64), .int (nI 16), .int (nI 0), .int (nI 0)])), (q_11, .inr (2, [.ref x_13, .ref x_14, .ref x_15, .ref x_16, .ref x_17, .int (nI 0), .int (nI 0), .int (nI 0), .int (nI 0), .int (nI 0)])), (x_13, .inl (x_18, 384, .inl (bM ((fun _ => 0))))), (x_14, .inl (x_19, 24, .inl (rdF 8 0 0))), (x_15, .inl (x_20, 24, .inl (rdF 16 0 0))), (x_16, .inl (x_21, 16, .inl (bM ((fun _ => 0))))), (x_17, .inl (x_22, 16, .inl (bM ((fun _ => 0)))))]) [0, 1, 2, 3, 4, 5, 6, 7, 8, 9, 10, 11] rfl
  have hD9 := hD.sub (ws' := [(q_1, .inr (1, [.ref x_3, .ref x_4, .ref x_5, .ref x_6, .ref x_7, .int (nI 0)])), (x_3, .inl (x_8, 384, .inl (nM ((fun _ => 0))))), (x_4, .inl (x_9, 16, .inl (nM ((fun _ => 0))))), (x_5, .inl (x_10, 16, .inl (nM ((fun _ => 0))))), (x_6, .inr (0, [.int (nI 0), .int (nI 8), .int (nI 0), .int (nI 0)])), (x_7, .inr (0, [.int (nI 64), .int (nI 16), .int (nI 0), .int (nI 0)])), (q_11, .inr (2, [.ref x_13, .ref x_14, .ref x_15, .ref x_16, .ref x_17, .int (nI 0), .int (nI 0), .int (nI 0), .int (nI 0), .int (nI 0)])), (x_13, .inl (x_18, 384, .inl (bM ((fun _ => 0))))), (x_14, .inl (x_19, 24, .inl (rdF 8 0 0))), (x_15, .inl (x_20, 24, .inl (rdF 16 0 0))), (x_16, .inl (x_21, 16, .inl (bM ((fun _ => 0))))), (x_17, .inl (x_22, 16, .inl (bM ((fun _ => 0)))))]) [0, 1, 2, 3, 4, 5, 6, 7, 8, 9, 10, 11] (by decide) rfl
  have hK9 := hK.sub (tys' := [(x_8, .int), (x_9, .int), (x_10, .int), (x_18, .byte), (x_19, .boolean), (x_20, .boolean), (x_21, .byte), (x_22, .byte)]) [0, 1, 2, 3, 4, 5, 6, 7] rfl
  exact law_loop hL C0 q_1 x_3 x_4 x_5 x_6 x_7 q_11 x_13 x_14 x_15 x_16 x_17 x_8 x_9 x_10 x_18 x_19 x_20 x_21 x_22 hK9 (L + 1) 0 (Nat.zero_le L) (by omega) (fun _ => 0) (fun _ => 0) (fun _ => 0) 0 0 0 0 (nI 0) (by decide) (by decide) (by decide) (by decide) (fun _ => (by decide : (0 : Nat) < 256)) (fun _ => (by decide : (0 : Nat) < 256)) (fun _ => (by decide : (0 : Nat) < 256)) _ _ _ hP9 hD9 hS (lv_sub hl [3, 2, 1, 0] rfl)
set_option maxHeartbeats 4000000 in
theorem lw_walk (l : Launch) (b : Addr) (xs : List Int32) : MetFree l x (headSpec (Jvm.Cond.code x code maxLocals ret :: tables_1) room_1) (lw_P b xs) (fun _ _ _ _ _ => True) lw_Q := by
  refine MetFree.of_bodyS (code := code) (maxLocals := maxLocals) (ret := ret) (by decide) ?_ ?_
  · intro args s m h hn
    obtain ⟨meth, c, h1, h2, h3, h4, h5, h6, -, -⟩ := Cond.code_spec hn (atoms_spec (ws := Jvm.Cond.code x code maxLocals ret :: tables_1) h _ List.mem_cons_self)
    exact ⟨meth, c, h1, h2, h3, h4, h5, h6⟩
  · intro p e s m args below meth c s₁ B hml0 hP _
    obtain ⟨rfl, hx, hbd, hgv⟩ := hP
    obtain ⟨scr, harrAt, hlist, hof, hsmall⟩ := hx
    obtain ⟨hcb, hkn, -, -⟩ := State.arrayAt?_spec harrAt
    have hown : s.vm.findClass R_law = some m.cls := findClass_of_methodNamed B.named
    have hts0 : ∀ c ∈ (Jvm.Cond.code x code maxLocals ret :: tables_1), c.before #[Value.ref b] s = true := atoms_spec (ws := Jvm.Cond.code x code maxLocals ret :: tables_1) B.pre
    have hts : ∀ w ∈ lw_tbl, w.before #[Value.ref b] s = true := k2_hts_sels lw_privs (fun w hw => hts0 w (List.mem_cons_of_mem _ hw)) lw_privs_ok
    have hml : c.maxLocals = 4 := B.maxLocals_eq (hts0 _ List.mem_cons_self)
    have X₀ : Stand p l e room_1 s m #[Value.ref b] below meth c s₁ [] 0 0 := Stand.of_body B
    have hh0 : s₁.heap = s.heap := by rw [B.state]; rfl
    have hsz : scr.slots.size = xs.length := by rw [← Array.length_toList, hlist, List.length_map]
    have hval : ∀ j : Nat, j < xs.length → scr.slots[j]? = some (.int (xs.getD j 0)) := fun j hj => by
      rw [← Array.getElem?_toList, hlist]
      simp [hj]
    have hbl : b < s.heap.size := (Array.getElem?_eq_some_iff.mp hcb).1
    have hX : va_X b xs.length (fun j => xs.getD j 0) s s.heap := ⟨scr, hcb, hof, hkn, hsz, hval⟩
    have K : W p l e room_1 s m #[Value.ref b] below meth c s₁.heap [] 0 0 (lw_Z below #[Value.ref b] s) (entryFrame m ([Value.ref b] : List Value).toArray 4) := by
      rw [hh0]
      exact whole_start l hbd ⟨B.exec, B.bytes, B.returns, hml, hown, hts, hX, hbl, B.notSynchronized, hgv⟩
    obtain ⟨t, a1, o, b1, b2, b3⟩ := K s₁ rfl X₀
    exact ⟨t, o, a1, b1, b2, b3⟩
theorem lw_pre_spec {args : Array Value} {s : State} (h : (Jvm.Cond.and given_1 narrow_1).before args s = true) (hr : rest_1_c.before args s = true) : ∃ (b : Addr) (xs : List Int32), lw_P b xs args s := by
  have hs := flat_of_before _ h
  have hq := flat_of_before _ hr
  have hc : (Cond.count 1).before args s = true := hs _ (by decide +kernel)
  have harr : (Cond.arrayOf (.arg 0) .int).before args s = true := hs _ (by decide +kernel)
  have hle : (Cond.le (.length (.arg 0)) (.int 1536)).before args s = true := hs _ (by decide +kernel)
  have hlen : (Cond.isInt (.length (.arg 0))).before args s = true := hq _ (by decide +kernel)
  have hall : (Cond.all (.arg 0) (.isInt (.elem (.arg 0) (.index 0)))).before args s = true := hq _ (by decide +kernel)
  obtain ⟨b, xs, hb, hx⟩ := State.ints_of_pre rfl harr hlen hall
  have hsm : xs.length < 2 ^ 31 := hx.choose_spec.2.2.2
  have hev : (Term.length (.arg 0)).eval args s none [] s = some (.int xs.length.toInt32) := hx.length_eval hb
  have hv := Cond.le_ints hev (show (Term.int 1536).eval args s none [] s = some (.int 1536) from rfl)
  have hd : xs.length.toInt32 ≤ 1536 := by
    simpa [Cond.before, Cond.holds, hv] using hle
  have hN : xs.length ≤ 1536 := (Int32.ofNat_le_ofNat hsm (by decide)).mp (show Int32.ofNat xs.length ≤ Int32.ofNat 1536 from hd)
  exact ⟨b, xs, Cond.one_arg hc (show args[0]? = some (.ref b) from hb), hx, hN, h⟩
theorem lw_comes (l : Launch) : Comes l x (Jvm.Cond.code x code maxLocals ret :: tables_1) room_1 (fun tb e args s => Calls_1 tb e args s ∧ rest_1 tb e args s ∧ Pre_1 tb e args s)
    (fun _ _ args s o t => lw_Q args s o t) := by
  intro p e ha hc hk s m args below hf hfit hheap happ hpre
  obtain ⟨b, xs, hP⟩ := lw_pre_spec hpre.2.2 hpre.2.1
  obtain ⟨k, o, h1, h2, h3, hQ⟩ := lw_walk l b xs p e ha hc hk s m args below hf ((Spec.applies_iff_loose hf).mp happ).1 hP trivial
  exact ⟨k, o, h1, h2, h3, hQ⟩
theorem lw_frame {s t : State} {o : Outcome} {args : Array Value} (h : Framed s o t [] 12 904) :
    Framed s o t (fieldLocs frame_1_writes args s ++ arrayLocs frame_1_arrays args s ++ staticLocs frame_1_statics s) 12 904 := h
theorem lw_limb (L : Cond) (hL : ∀ (args : Array Value) (s t : State), L.after args s (.returned (some (.int 1))) t = true) :
    ArmFor flags0 classFile x code maxLocals ret World_1 tables_1 room_1 Calls_1 rest_1 Pre_1
      (fun tb e a s o t => postC L tb e a s o t ∧ Framed s o t (fieldLocs frame_1_writes a s ++ arrayLocs frame_1_arrays a s ++ staticLocs frame_1_statics s) 12 904) := by
  intro l _ _ _ p e ha hc hk s m args below hf hfit hheap happ hpre
  obtain ⟨k, o, h1, h2, h3, rfl, hF⟩ := lw_comes l p e ha hc hk s m args below hf hfit hheap happ hpre
  exact ⟨k, _, h1, h2, h3, hL args s _, lw_frame hF⟩
theorem i_vc : Claimed_1_1 ∧ Claimed_1_2 := ⟨lw_limb limb_1_1 (fun args s t => by simp [limb_1_1, Cond.after, Cond.holds, Cond.value]), lw_limb limb_1_2 (fun args s t => Cond.after_iff.mpr (by
  first | (rw [show limb_1_2 = Cond.eq .result (.int 1) from rfl, Cond.eq_ints (x := 1) (y := 1) rfl rfl]; simp; done) | (simp [limb_1_2, Cond.value, Term.eval]; done)))⟩
