set_option maxHeartbeats 4000000 in
set_option maxRecDepth 100000 in
theorem c_trade (l : Launch) (dC : Nat → ClassId) (dI : Nat → Nat → Nat) (h0 : Nat) (a0 : Nat) (a1 : Nat) (a2 : Nat) (a3 : Nat) (a4 : Nat) (a5 : Nat) (a6 : Nat) (a7 : Nat) (a8 : Nat) (a9 : Nat) (n0 : Nat) (b0 : Nat) (l0 : Nat) (l1 : Nat) (sz : Nat) (k0 : Int32) (k1 : Int32) (k2 : Int32) (k3 : Int32) : Met l yX11_trade (wT yX11_trade cX11_trade 5 (some .int)) ({ frames := 2, cells := 0, slots := 0, locals := 43 }) (pcW dC dI [.ref h0, .int k0, .int k1, .int k2, .int k3] sz [(h0, .inr (11, [.ref a0, .ref a1, .ref a2, .ref a3, .ref a4, .ref a5, .ref a6, .ref a7, .ref a8, .ref a9, .ref n0, .ref b0, .int (-1)])), (n0, .inr (3, [.ref l0, .ref l1, .int 0, .int 0]))] []) (vp_Si (fun r => r = (-2))) 0 0 (fun _ => False) := by
  refine Met.ofW (cc := cX11_trade) (maxL := 5) (ret := (some .int)) (by decide) rfl ?_
  intro p e s m args below meth c s₁ B hml hv
  obtain ⟨rfl, hsz, hP, hK, hD0⟩ := hv
  have hx := B.exec
  have hb := B.bytes
  have hr := B.returns
  have hT : ∀ w ∈ TB, w.before [.ref h0, .int k0, .int k1, .int k2, .int k3].toArray s = true := fun w h => atoms_spec (ws := wT yX11_trade cX11_trade 5 (some .int)) B.pre w (List.mem_cons_of_mem _ h)
  have hown : s.vm.findClass RX11 = some m.cls := findClass_of_methodNamed B.named
  have hlocks := B.notSynchronized
  subst hsz
  have hD := hD0
  have hP : va_P (dC, dI) vwCl [(h0, .inr (11, [.ref a0, .ref a1, .ref a2, .ref a3, .ref a4, .ref a5, .ref a6, .ref a7, .ref a8, .ref a9, .ref n0, .ref b0, .int (-1)])), (n0, .inr (3, [.ref l0, .ref l1, .int 0, .int 0]))] s.heap := hP
  have hl := lv_entry ([.ref h0, .int k0, .int k1, .int k2, .int k3]) (n := 5) (Nat.le_of_ble_eq_true rfl)
  rw [lg_entry_eq]
  generalize (lg_sl ([.ref h0, .int k0, .int k1, .int k2, .int k3]) ++ List.replicate (5 - (lg_sl ([.ref h0, .int k0, .int k1, .int k2, .int k3])).length) Slot.unset).toArray = ls at hl ⊢
  have hl : lv_has ls 5 [(0, .ref h0), (1, .int k0), (2, .int k1), (3, .int k2), (4, .int k3)] := hl
  refine lv_aload_n hx hb dX11_trade_0 rfl (lv_at hl 0 rfl) ?_
  refine lv_iload_n hx hb dX11_trade_1 rfl (lv_at hl 1 rfl) ?_
  refine lv_iload_n hx hb dX11_trade_2 rfl (lv_at hl 2 rfl) ?_
  have hPc := hP.sub (ws' := [(h0, .inr (11, [.ref a0, .ref a1, .ref a2, .ref a3, .ref a4, .ref a5, .ref a6, .ref a7, .ref a8, .ref a9, .ref n0, .ref b0, .int (-1)])), (n0, .inr (3, [.ref l0, .ref l1, .int 0, .int 0]))]) [0, 1] rfl
  have hDc := hD.sub (ws' := [(h0, .inr (11, [.ref a0, .ref a1, .ref a2, .ref a3, .ref a4, .ref a5, .ref a6, .ref a7, .ref a8, .ref a9, .ref n0, .ref b0, .int (-1)])), (n0, .inr (3, [.ref l0, .ref l1, .int 0, .int 0]))]) [0, 1] (by decide) rfl
  have hKc := hK.sub (tys' := []) [] rfl
  refine vp_callSi (va_Run.run (va_runV (As := [.int k0, .int k1]) (rest := []) ⟨hx, hb, hml, hown, hT⟩ (c_noCouple l dC dI h0 a0 a1 a2 a3 a4 a5 a6 a7 a8 a9 n0 b0 l0 l1 s.heap.size k0 k1) (cwV 2 hT (gV w598 w600 ws22 w1 w601) rfl rfl rfl (by decide +kernel) ⟨(Nat.le_of_ble_eq_true rfl), (Nat.le_of_ble_eq_true rfl)⟩) ⟨pcW.blind, va_recv hKc hPc (ci := 11) (q0 := 0) rfl rfl, pcW.pre hPc hKc hDc⟩ rfl rfl hl.1 rfl (lv_room (Nat.le_of_ble_eq_true rfl)) dX11_trade_3 ⟨(Nat.le_of_ble_eq_true rfl), (Nat.le_of_ble_eq_true rfl)⟩)) (fun r_3 hr_3 => ?_)
  obtain rfl : r_3 = 1 := hr_3
  refine lv_if_ne (tgt := 18) hx hb dX11_trade_6 (by decide) (fun _ => ?_) (fun h => absurd h (by decide))
  refine lv_bipush (v := (-2)) hx hb dX11_trade_18 (by decide) ?_
  exact W.iret (v := (-2)) hx hb hr (fun t ht hW => ⟨(-2), rfl, rfl, ht⟩) (fun q h => by cases h) dX11_trade_20

set_option maxHeartbeats 4000000 in
set_option maxRecDepth 100000 in
theorem c_cap (l : Launch) (dC : Nat → ClassId) (dI : Nat → Nat → Nat) (h0 : Nat) (a0 : Nat) (a1 : Nat) (a2 : Nat) (a3 : Nat) (a4 : Nat) (a5 : Nat) (a6 : Nat) (a7 : Nat) (a8 : Nat) (a9 : Nat) (n0 : Nat) (b0 : Nat) (l0 : Nat) (l1 : Nat) (sz : Nat) (k0 : Int32) (k1 : Int32) (k2 : Int32) : Met l yX11_cap (wT yX11_cap cX11_cap 5 (some .int)) ({ frames := 2, cells := 0, slots := 0, locals := 43 }) (pcW dC dI [.ref h0, .int k0, .int k1, .int k2] sz [(h0, .inr (11, [.ref a0, .ref a1, .ref a2, .ref a3, .ref a4, .ref a5, .ref a6, .ref a7, .ref a8, .ref a9, .ref n0, .ref b0, .int (-1)])), (n0, .inr (3, [.ref l0, .ref l1, .int 0, .int 0]))] []) (vp_Si (fun r => r = (-2))) 0 0 (fun _ => False) := by
  refine Met.ofW (cc := cX11_cap) (maxL := 5) (ret := (some .int)) (by decide) rfl ?_
  intro p e s m args below meth c s₁ B hml hv
  obtain ⟨rfl, hsz, hP, hK, hD0⟩ := hv
  have hx := B.exec
  have hb := B.bytes
  have hr := B.returns
  have hT : ∀ w ∈ TB, w.before [.ref h0, .int k0, .int k1, .int k2].toArray s = true := fun w h => atoms_spec (ws := wT yX11_cap cX11_cap 5 (some .int)) B.pre w (List.mem_cons_of_mem _ h)
  have hown : s.vm.findClass RX11 = some m.cls := findClass_of_methodNamed B.named
  have hlocks := B.notSynchronized
  subst hsz
  have hD := hD0
  have hP : va_P (dC, dI) vwCl [(h0, .inr (11, [.ref a0, .ref a1, .ref a2, .ref a3, .ref a4, .ref a5, .ref a6, .ref a7, .ref a8, .ref a9, .ref n0, .ref b0, .int (-1)])), (n0, .inr (3, [.ref l0, .ref l1, .int 0, .int 0]))] s.heap := hP
  have hl := lv_entry ([.ref h0, .int k0, .int k1, .int k2]) (n := 5) (Nat.le_of_ble_eq_true rfl)
  rw [lg_entry_eq]
  generalize (lg_sl ([.ref h0, .int k0, .int k1, .int k2]) ++ List.replicate (5 - (lg_sl ([.ref h0, .int k0, .int k1, .int k2])).length) Slot.unset).toArray = ls at hl ⊢
  have hl : lv_has ls 5 [(0, .ref h0), (1, .int k0), (2, .int k1), (3, .int k2)] := hl
  refine lv_aload_n hx hb dX11_cap_0 rfl (lv_at hl 0 rfl) ?_
  refine lv_iload_n hx hb dX11_cap_1 rfl (lv_at hl 1 rfl) ?_
  refine lv_iload_n hx hb dX11_cap_2 rfl (lv_at hl 2 rfl) ?_
  have hPc := hP.sub (ws' := [(h0, .inr (11, [.ref a0, .ref a1, .ref a2, .ref a3, .ref a4, .ref a5, .ref a6, .ref a7, .ref a8, .ref a9, .ref n0, .ref b0, .int (-1)])), (n0, .inr (3, [.ref l0, .ref l1, .int 0, .int 0]))]) [0, 1] rfl
  have hDc := hD.sub (ws' := [(h0, .inr (11, [.ref a0, .ref a1, .ref a2, .ref a3, .ref a4, .ref a5, .ref a6, .ref a7, .ref a8, .ref a9, .ref n0, .ref b0, .int (-1)])), (n0, .inr (3, [.ref l0, .ref l1, .int 0, .int 0]))]) [0, 1] (by decide) rfl
  have hKc := hK.sub (tys' := []) [] rfl
  refine vp_callSi (va_Run.run (va_runV (As := [.int k0, .int k1]) (rest := []) ⟨hx, hb, hml, hown, hT⟩ (c_noCouple l dC dI h0 a0 a1 a2 a3 a4 a5 a6 a7 a8 a9 n0 b0 l0 l1 s.heap.size k0 k1) (cwV 2 hT (gV w598 w600 ws22 w1 w601) rfl rfl rfl (by decide +kernel) ⟨(Nat.le_of_ble_eq_true rfl), (Nat.le_of_ble_eq_true rfl)⟩) ⟨pcW.blind, va_recv hKc hPc (ci := 11) (q0 := 0) rfl rfl, pcW.pre hPc hKc hDc⟩ rfl rfl hl.1 rfl (lv_room (Nat.le_of_ble_eq_true rfl)) dX11_cap_3 ⟨(Nat.le_of_ble_eq_true rfl), (Nat.le_of_ble_eq_true rfl)⟩)) (fun r_3 hr_3 => ?_)
  obtain rfl : r_3 = 1 := hr_3
  refine lv_if_eq (tgt := 12) hx hb dX11_cap_6 (by decide) (fun h => absurd h (by decide)) (fun _ => ?_)
  refine lv_bipush (v := (-2)) hx hb dX11_cap_9 (by decide) ?_
  exact W.iret (v := (-2)) hx hb hr (fun t ht hW => ⟨(-2), rfl, rfl, ht⟩) (fun q h => by cases h) dX11_cap_11

set_option maxHeartbeats 4000000 in
set_option maxRecDepth 100000 in
theorem c_flow (l : Launch) (dC : Nat → ClassId) (dI : Nat → Nat → Nat) (h0 : Nat) (a0 : Nat) (a1 : Nat) (a2 : Nat) (a3 : Nat) (a4 : Nat) (a5 : Nat) (a6 : Nat) (a7 : Nat) (a8 : Nat) (a9 : Nat) (n0 : Nat) (b0 : Nat) (l0 : Nat) (l1 : Nat) (sz : Nat) (k0 : Int32) (k1 : Int32) (k2 : Int32) : Met l yX11_flow (wT yX11_flow cX11_flow 4 (some .int)) ({ frames := 2, cells := 0, slots := 0, locals := 43 }) (pcW dC dI [.ref h0, .int k0, .int k1, .int k2] sz [(h0, .inr (11, [.ref a0, .ref a1, .ref a2, .ref a3, .ref a4, .ref a5, .ref a6, .ref a7, .ref a8, .ref a9, .ref n0, .ref b0, .int (-1)])), (n0, .inr (3, [.ref l0, .ref l1, .int 0, .int 0]))] []) (vp_Si (fun r => r = (-2))) 0 0 (fun _ => False) := by
  refine Met.ofW (cc := cX11_flow) (maxL := 4) (ret := (some .int)) (by decide) rfl ?_
  intro p e s m args below meth c s₁ B hml hv
  obtain ⟨rfl, hsz, hP, hK, hD0⟩ := hv
  have hx := B.exec
  have hb := B.bytes
  have hr := B.returns
  have hT : ∀ w ∈ TB, w.before [.ref h0, .int k0, .int k1, .int k2].toArray s = true := fun w h => atoms_spec (ws := wT yX11_flow cX11_flow 4 (some .int)) B.pre w (List.mem_cons_of_mem _ h)
  have hown : s.vm.findClass RX11 = some m.cls := findClass_of_methodNamed B.named
  have hlocks := B.notSynchronized
  subst hsz
  have hD := hD0
  have hP : va_P (dC, dI) vwCl [(h0, .inr (11, [.ref a0, .ref a1, .ref a2, .ref a3, .ref a4, .ref a5, .ref a6, .ref a7, .ref a8, .ref a9, .ref n0, .ref b0, .int (-1)])), (n0, .inr (3, [.ref l0, .ref l1, .int 0, .int 0]))] s.heap := hP
  have hl := lv_entry ([.ref h0, .int k0, .int k1, .int k2]) (n := 4) (Nat.le_of_ble_eq_true rfl)
  rw [lg_entry_eq]
  generalize (lg_sl ([.ref h0, .int k0, .int k1, .int k2]) ++ List.replicate (4 - (lg_sl ([.ref h0, .int k0, .int k1, .int k2])).length) Slot.unset).toArray = ls at hl ⊢
  have hl : lv_has ls 4 [(0, .ref h0), (1, .int k0), (2, .int k1), (3, .int k2)] := hl
  refine lv_aload_n hx hb dX11_flow_0 rfl (lv_at hl 0 rfl) ?_
  refine lv_iload_n hx hb dX11_flow_1 rfl (lv_at hl 1 rfl) ?_
  refine lv_iload_n hx hb dX11_flow_2 rfl (lv_at hl 2 rfl) ?_
  have hPc := hP.sub (ws' := [(h0, .inr (11, [.ref a0, .ref a1, .ref a2, .ref a3, .ref a4, .ref a5, .ref a6, .ref a7, .ref a8, .ref a9, .ref n0, .ref b0, .int (-1)])), (n0, .inr (3, [.ref l0, .ref l1, .int 0, .int 0]))]) [0, 1] rfl
  have hDc := hD.sub (ws' := [(h0, .inr (11, [.ref a0, .ref a1, .ref a2, .ref a3, .ref a4, .ref a5, .ref a6, .ref a7, .ref a8, .ref a9, .ref n0, .ref b0, .int (-1)])), (n0, .inr (3, [.ref l0, .ref l1, .int 0, .int 0]))]) [0, 1] (by decide) rfl
  have hKc := hK.sub (tys' := []) [] rfl
  refine vp_callSi (va_Run.run (va_runV (As := [.int k0, .int k1]) (rest := []) ⟨hx, hb, hml, hown, hT⟩ (c_noCouple l dC dI h0 a0 a1 a2 a3 a4 a5 a6 a7 a8 a9 n0 b0 l0 l1 s.heap.size k0 k1) (cwV 2 hT (gV w598 w600 ws22 w1 w601) rfl rfl rfl (by decide +kernel) ⟨(Nat.le_of_ble_eq_true rfl), (Nat.le_of_ble_eq_true rfl)⟩) ⟨pcW.blind, va_recv hKc hPc (ci := 11) (q0 := 0) rfl rfl, pcW.pre hPc hKc hDc⟩ rfl rfl hl.1 rfl (lv_room (Nat.le_of_ble_eq_true rfl)) dX11_flow_3 ⟨(Nat.le_of_ble_eq_true rfl), (Nat.le_of_ble_eq_true rfl)⟩)) (fun r_3 hr_3 => ?_)
  obtain rfl : r_3 = 1 := hr_3
  refine lv_if_ne (tgt := 17) hx hb dX11_flow_6 (by decide) (fun _ => ?_) (fun h => absurd h (by decide))
  refine lv_bipush (v := (-2)) hx hb dX11_flow_17 (by decide) ?_
  exact W.iret (v := (-2)) hx hb hr (fun t ht hW => ⟨(-2), rfl, rfl, ht⟩) (fun q h => by cases h) dX11_flow_19

set_option maxHeartbeats 4000000 in
set_option maxRecDepth 100000 in
theorem c_bound (l : Launch) (dC : Nat → ClassId) (dI : Nat → Nat → Nat) (h0 : Nat) (a0 : Nat) (a1 : Nat) (a2 : Nat) (a3 : Nat) (a4 : Nat) (a5 : Nat) (a6 : Nat) (a7 : Nat) (a8 : Nat) (a9 : Nat) (n0 : Nat) (b0 : Nat) (l0 : Nat) (l1 : Nat) (sz : Nat) (k0 : Int32) (k1 : Int32) (k2 : Int32) : Met l yX11_bound (wT yX11_bound cX11_bound 4 (some .int)) ({ frames := 2, cells := 0, slots := 0, locals := 43 }) (pcW dC dI [.ref h0, .int k0, .int k1, .int k2] sz [(h0, .inr (11, [.ref a0, .ref a1, .ref a2, .ref a3, .ref a4, .ref a5, .ref a6, .ref a7, .ref a8, .ref a9, .ref n0, .ref b0, .int (-1)])), (n0, .inr (3, [.ref l0, .ref l1, .int 0, .int 0]))] []) (vp_Si (fun r => r = (-2))) 0 0 (fun _ => False) := by
  refine Met.ofW (cc := cX11_bound) (maxL := 4) (ret := (some .int)) (by decide) rfl ?_
  intro p e s m args below meth c s₁ B hml hv
  obtain ⟨rfl, hsz, hP, hK, hD0⟩ := hv
  have hx := B.exec
  have hb := B.bytes
  have hr := B.returns
  have hT : ∀ w ∈ TB, w.before [.ref h0, .int k0, .int k1, .int k2].toArray s = true := fun w h => atoms_spec (ws := wT yX11_bound cX11_bound 4 (some .int)) B.pre w (List.mem_cons_of_mem _ h)
  have hown : s.vm.findClass RX11 = some m.cls := findClass_of_methodNamed B.named
  have hlocks := B.notSynchronized
  subst hsz
  have hD := hD0
  have hP : va_P (dC, dI) vwCl [(h0, .inr (11, [.ref a0, .ref a1, .ref a2, .ref a3, .ref a4, .ref a5, .ref a6, .ref a7, .ref a8, .ref a9, .ref n0, .ref b0, .int (-1)])), (n0, .inr (3, [.ref l0, .ref l1, .int 0, .int 0]))] s.heap := hP
  have hl := lv_entry ([.ref h0, .int k0, .int k1, .int k2]) (n := 4) (Nat.le_of_ble_eq_true rfl)
  rw [lg_entry_eq]
  generalize (lg_sl ([.ref h0, .int k0, .int k1, .int k2]) ++ List.replicate (4 - (lg_sl ([.ref h0, .int k0, .int k1, .int k2])).length) Slot.unset).toArray = ls at hl ⊢
  have hl : lv_has ls 4 [(0, .ref h0), (1, .int k0), (2, .int k1), (3, .int k2)] := hl
  refine lv_aload_n hx hb dX11_bound_0 rfl (lv_at hl 0 rfl) ?_
  refine lv_iload_n hx hb dX11_bound_1 rfl (lv_at hl 1 rfl) ?_
  refine lv_iload_n hx hb dX11_bound_2 rfl (lv_at hl 2 rfl) ?_
  have hPc := hP.sub (ws' := [(h0, .inr (11, [.ref a0, .ref a1, .ref a2, .ref a3, .ref a4, .ref a5, .ref a6, .ref a7, .ref a8, .ref a9, .ref n0, .ref b0, .int (-1)])), (n0, .inr (3, [.ref l0, .ref l1, .int 0, .int 0]))]) [0, 1] rfl
  have hDc := hD.sub (ws' := [(h0, .inr (11, [.ref a0, .ref a1, .ref a2, .ref a3, .ref a4, .ref a5, .ref a6, .ref a7, .ref a8, .ref a9, .ref n0, .ref b0, .int (-1)])), (n0, .inr (3, [.ref l0, .ref l1, .int 0, .int 0]))]) [0, 1] (by decide) rfl
  have hKc := hK.sub (tys' := []) [] rfl
  refine vp_callSi (va_Run.run (va_runV (As := [.int k0, .int k1]) (rest := []) ⟨hx, hb, hml, hown, hT⟩ (c_noCouple l dC dI h0 a0 a1 a2 a3 a4 a5 a6 a7 a8 a9 n0 b0 l0 l1 s.heap.size k0 k1) (cwV 2 hT (gV w598 w600 ws22 w1 w601) rfl rfl rfl (by decide +kernel) ⟨(Nat.le_of_ble_eq_true rfl), (Nat.le_of_ble_eq_true rfl)⟩) ⟨pcW.blind, va_recv hKc hPc (ci := 11) (q0 := 0) rfl rfl, pcW.pre hPc hKc hDc⟩ rfl rfl hl.1 rfl (lv_room (Nat.le_of_ble_eq_true rfl)) dX11_bound_3 ⟨(Nat.le_of_ble_eq_true rfl), (Nat.le_of_ble_eq_true rfl)⟩)) (fun r_3 hr_3 => ?_)
  obtain rfl : r_3 = 1 := hr_3
  refine lv_if_ne (tgt := 17) hx hb dX11_bound_6 (by decide) (fun _ => ?_) (fun h => absurd h (by decide))
  refine lv_bipush (v := (-2)) hx hb dX11_bound_17 (by decide) ?_
  exact W.iret (v := (-2)) hx hb hr (fun t ht hW => ⟨(-2), rfl, rfl, ht⟩) (fun q h => by cases h) dX11_bound_19

set_option maxHeartbeats 4000000 in
set_option maxRecDepth 100000 in
theorem c_pressed (l : Launch) (dC : Nat → ClassId) (dI : Nat → Nat → Nat) (h0 : Nat) (a0 : Nat) (a1 : Nat) (a2 : Nat) (a3 : Nat) (a4 : Nat) (a5 : Nat) (a6 : Nat) (a7 : Nat) (a8 : Nat) (a9 : Nat) (n0 : Nat) (b0 : Nat) (l0 : Nat) (l1 : Nat) (sz : Nat) (k0 : Int32) (k1 : Int32) (k2 : Int32) : Met l yX11_pressed (wT yX11_pressed cX11_pressed 4 (some .int)) ({ frames := 2, cells := 0, slots := 0, locals := 43 }) (pcW dC dI [.ref h0, .int k0, .int k1, .int k2] sz [(h0, .inr (11, [.ref a0, .ref a1, .ref a2, .ref a3, .ref a4, .ref a5, .ref a6, .ref a7, .ref a8, .ref a9, .ref n0, .ref b0, .int (-1)])), (n0, .inr (3, [.ref l0, .ref l1, .int 0, .int 0]))] []) (vp_Si (fun r => r = (-2))) 0 0 (fun _ => False) := by
  refine Met.ofW (cc := cX11_pressed) (maxL := 4) (ret := (some .int)) (by decide) rfl ?_
  intro p e s m args below meth c s₁ B hml hv
  obtain ⟨rfl, hsz, hP, hK, hD0⟩ := hv
  have hx := B.exec
  have hb := B.bytes
  have hr := B.returns
  have hT : ∀ w ∈ TB, w.before [.ref h0, .int k0, .int k1, .int k2].toArray s = true := fun w h => atoms_spec (ws := wT yX11_pressed cX11_pressed 4 (some .int)) B.pre w (List.mem_cons_of_mem _ h)
  have hown : s.vm.findClass RX11 = some m.cls := findClass_of_methodNamed B.named
  have hlocks := B.notSynchronized
  subst hsz
  have hD := hD0
  have hP : va_P (dC, dI) vwCl [(h0, .inr (11, [.ref a0, .ref a1, .ref a2, .ref a3, .ref a4, .ref a5, .ref a6, .ref a7, .ref a8, .ref a9, .ref n0, .ref b0, .int (-1)])), (n0, .inr (3, [.ref l0, .ref l1, .int 0, .int 0]))] s.heap := hP
  have hl := lv_entry ([.ref h0, .int k0, .int k1, .int k2]) (n := 4) (Nat.le_of_ble_eq_true rfl)
  rw [lg_entry_eq]
  generalize (lg_sl ([.ref h0, .int k0, .int k1, .int k2]) ++ List.replicate (4 - (lg_sl ([.ref h0, .int k0, .int k1, .int k2])).length) Slot.unset).toArray = ls at hl ⊢
  have hl : lv_has ls 4 [(0, .ref h0), (1, .int k0), (2, .int k1), (3, .int k2)] := hl
  refine lv_aload_n hx hb dX11_pressed_0 rfl (lv_at hl 0 rfl) ?_
  refine lv_iload_n hx hb dX11_pressed_1 rfl (lv_at hl 1 rfl) ?_
  refine lv_iload_n hx hb dX11_pressed_2 rfl (lv_at hl 2 rfl) ?_
  have hPc := hP.sub (ws' := [(h0, .inr (11, [.ref a0, .ref a1, .ref a2, .ref a3, .ref a4, .ref a5, .ref a6, .ref a7, .ref a8, .ref a9, .ref n0, .ref b0, .int (-1)])), (n0, .inr (3, [.ref l0, .ref l1, .int 0, .int 0]))]) [0, 1] rfl
  have hDc := hD.sub (ws' := [(h0, .inr (11, [.ref a0, .ref a1, .ref a2, .ref a3, .ref a4, .ref a5, .ref a6, .ref a7, .ref a8, .ref a9, .ref n0, .ref b0, .int (-1)])), (n0, .inr (3, [.ref l0, .ref l1, .int 0, .int 0]))]) [0, 1] (by decide) rfl
  have hKc := hK.sub (tys' := []) [] rfl
  refine vp_callSi (va_Run.run (va_runV (As := [.int k0, .int k1]) (rest := []) ⟨hx, hb, hml, hown, hT⟩ (c_noCouple l dC dI h0 a0 a1 a2 a3 a4 a5 a6 a7 a8 a9 n0 b0 l0 l1 s.heap.size k0 k1) (cwV 2 hT (gV w598 w600 ws22 w1 w601) rfl rfl rfl (by decide +kernel) ⟨(Nat.le_of_ble_eq_true rfl), (Nat.le_of_ble_eq_true rfl)⟩) ⟨pcW.blind, va_recv hKc hPc (ci := 11) (q0 := 0) rfl rfl, pcW.pre hPc hKc hDc⟩ rfl rfl hl.1 rfl (lv_room (Nat.le_of_ble_eq_true rfl)) dX11_pressed_3 ⟨(Nat.le_of_ble_eq_true rfl), (Nat.le_of_ble_eq_true rfl)⟩)) (fun r_3 hr_3 => ?_)
  obtain rfl : r_3 = 1 := hr_3
  refine lv_if_ne (tgt := 17) hx hb dX11_pressed_6 (by decide) (fun _ => ?_) (fun h => absurd h (by decide))
  refine lv_bipush (v := (-2)) hx hb dX11_pressed_17 (by decide) ?_
  exact W.iret (v := (-2)) hx hb hr (fun t ht hW => ⟨(-2), rfl, rfl, ht⟩) (fun q h => by cases h) dX11_pressed_19

set_option maxHeartbeats 4000000 in
set_option maxRecDepth 100000 in
theorem c_span (l : Launch) (dC : Nat → ClassId) (dI : Nat → Nat → Nat) (h0 : Nat) (a0 : Nat) (a1 : Nat) (a2 : Nat) (a3 : Nat) (a4 : Nat) (a5 : Nat) (a6 : Nat) (a7 : Nat) (a8 : Nat) (a9 : Nat) (n0 : Nat) (b0 : Nat) (l0 : Nat) (l1 : Nat) (sz : Nat) (k0 : Int32) (k1 : Int32) (k2 : Int32) (k3 : Int32) : Met l yX11_span (wT yX11_span cX11_span 5 (some .int)) ({ frames := 2, cells := 0, slots := 0, locals := 43 }) (pcW dC dI [.ref h0, .int k0, .int k1, .int k2, .int k3] sz [(h0, .inr (11, [.ref a0, .ref a1, .ref a2, .ref a3, .ref a4, .ref a5, .ref a6, .ref a7, .ref a8, .ref a9, .ref n0, .ref b0, .int (-1)])), (n0, .inr (3, [.ref l0, .ref l1, .int 0, .int 0]))] []) (vp_Si (fun r => r = (-2))) 0 0 (fun _ => False) := by
  refine Met.ofW (cc := cX11_span) (maxL := 5) (ret := (some .int)) (by decide) rfl ?_
  intro p e s m args below meth c s₁ B hml hv
  obtain ⟨rfl, hsz, hP, hK, hD0⟩ := hv
  have hx := B.exec
  have hb := B.bytes
  have hr := B.returns
  have hT : ∀ w ∈ TB, w.before [.ref h0, .int k0, .int k1, .int k2, .int k3].toArray s = true := fun w h => atoms_spec (ws := wT yX11_span cX11_span 5 (some .int)) B.pre w (List.mem_cons_of_mem _ h)
  have hown : s.vm.findClass RX11 = some m.cls := findClass_of_methodNamed B.named
  have hlocks := B.notSynchronized
  subst hsz
  have hD := hD0
  have hP : va_P (dC, dI) vwCl [(h0, .inr (11, [.ref a0, .ref a1, .ref a2, .ref a3, .ref a4, .ref a5, .ref a6, .ref a7, .ref a8, .ref a9, .ref n0, .ref b0, .int (-1)])), (n0, .inr (3, [.ref l0, .ref l1, .int 0, .int 0]))] s.heap := hP
  have hl := lv_entry ([.ref h0, .int k0, .int k1, .int k2, .int k3]) (n := 5) (Nat.le_of_ble_eq_true rfl)
  rw [lg_entry_eq]
  generalize (lg_sl ([.ref h0, .int k0, .int k1, .int k2, .int k3]) ++ List.replicate (5 - (lg_sl ([.ref h0, .int k0, .int k1, .int k2, .int k3])).length) Slot.unset).toArray = ls at hl ⊢
  have hl : lv_has ls 5 [(0, .ref h0), (1, .int k0), (2, .int k1), (3, .int k2), (4, .int k3)] := hl
  refine lv_aload_n hx hb dX11_span_0 rfl (lv_at hl 0 rfl) ?_
  refine lv_iload_n hx hb dX11_span_1 rfl (lv_at hl 1 rfl) ?_
  refine lv_iload_n hx hb dX11_span_2 rfl (lv_at hl 2 rfl) ?_
  have hPc := hP.sub (ws' := [(h0, .inr (11, [.ref a0, .ref a1, .ref a2, .ref a3, .ref a4, .ref a5, .ref a6, .ref a7, .ref a8, .ref a9, .ref n0, .ref b0, .int (-1)])), (n0, .inr (3, [.ref l0, .ref l1, .int 0, .int 0]))]) [0, 1] rfl
  have hDc := hD.sub (ws' := [(h0, .inr (11, [.ref a0, .ref a1, .ref a2, .ref a3, .ref a4, .ref a5, .ref a6, .ref a7, .ref a8, .ref a9, .ref n0, .ref b0, .int (-1)])), (n0, .inr (3, [.ref l0, .ref l1, .int 0, .int 0]))]) [0, 1] (by decide) rfl
  have hKc := hK.sub (tys' := []) [] rfl
  refine vp_callSi (va_Run.run (va_runV (As := [.int k0, .int k1]) (rest := []) ⟨hx, hb, hml, hown, hT⟩ (c_noCouple l dC dI h0 a0 a1 a2 a3 a4 a5 a6 a7 a8 a9 n0 b0 l0 l1 s.heap.size k0 k1) (cwV 2 hT (gV w598 w600 ws22 w1 w601) rfl rfl rfl (by decide +kernel) ⟨(Nat.le_of_ble_eq_true rfl), (Nat.le_of_ble_eq_true rfl)⟩) ⟨pcW.blind, va_recv hKc hPc (ci := 11) (q0 := 0) rfl rfl, pcW.pre hPc hKc hDc⟩ rfl rfl hl.1 rfl (lv_room (Nat.le_of_ble_eq_true rfl)) dX11_span_3 ⟨(Nat.le_of_ble_eq_true rfl), (Nat.le_of_ble_eq_true rfl)⟩)) (fun r_3 hr_3 => ?_)
  obtain rfl : r_3 = 1 := hr_3
  refine lv_if_ne (tgt := 17) hx hb dX11_span_6 (by decide) (fun _ => ?_) (fun h => absurd h (by decide))
  refine lv_bipush (v := (-2)) hx hb dX11_span_17 (by decide) ?_
  exact W.iret (v := (-2)) hx hb hr (fun t ht hW => ⟨(-2), rfl, rfl, ht⟩) (fun q h => by cases h) dX11_span_19

set_option maxHeartbeats 4000000 in
set_option maxRecDepth 100000 in
theorem c_gain (l : Launch) (dC : Nat → ClassId) (dI : Nat → Nat → Nat) (h0 : Nat) (a0 : Nat) (a1 : Nat) (a2 : Nat) (a3 : Nat) (a4 : Nat) (a5 : Nat) (a6 : Nat) (a7 : Nat) (a8 : Nat) (a9 : Nat) (n0 : Nat) (b0 : Nat) (l0 : Nat) (l1 : Nat) (sz : Nat) (k0 : Int32) (k1 : Int32) (k2 : Int32) : Met l yX11_gain (wT yX11_gain cX11_gain 4 (some .int)) ({ frames := 2, cells := 0, slots := 0, locals := 43 }) (pcW dC dI [.ref h0, .int k0, .int k1, .int k2] sz [(h0, .inr (11, [.ref a0, .ref a1, .ref a2, .ref a3, .ref a4, .ref a5, .ref a6, .ref a7, .ref a8, .ref a9, .ref n0, .ref b0, .int (-1)])), (n0, .inr (3, [.ref l0, .ref l1, .int 0, .int 0]))] []) (vp_Si (fun r => r = (-2))) 0 0 (fun _ => False) := by
  refine Met.ofW (cc := cX11_gain) (maxL := 4) (ret := (some .int)) (by decide) rfl ?_
  intro p e s m args below meth c s₁ B hml hv
  obtain ⟨rfl, hsz, hP, hK, hD0⟩ := hv
  have hx := B.exec
  have hb := B.bytes
  have hr := B.returns
  have hT : ∀ w ∈ TB, w.before [.ref h0, .int k0, .int k1, .int k2].toArray s = true := fun w h => atoms_spec (ws := wT yX11_gain cX11_gain 4 (some .int)) B.pre w (List.mem_cons_of_mem _ h)
  have hown : s.vm.findClass RX11 = some m.cls := findClass_of_methodNamed B.named
  have hlocks := B.notSynchronized
  subst hsz
  have hD := hD0
  have hP : va_P (dC, dI) vwCl [(h0, .inr (11, [.ref a0, .ref a1, .ref a2, .ref a3, .ref a4, .ref a5, .ref a6, .ref a7, .ref a8, .ref a9, .ref n0, .ref b0, .int (-1)])), (n0, .inr (3, [.ref l0, .ref l1, .int 0, .int 0]))] s.heap := hP
  have hl := lv_entry ([.ref h0, .int k0, .int k1, .int k2]) (n := 4) (Nat.le_of_ble_eq_true rfl)
  rw [lg_entry_eq]
  generalize (lg_sl ([.ref h0, .int k0, .int k1, .int k2]) ++ List.replicate (4 - (lg_sl ([.ref h0, .int k0, .int k1, .int k2])).length) Slot.unset).toArray = ls at hl ⊢
  have hl : lv_has ls 4 [(0, .ref h0), (1, .int k0), (2, .int k1), (3, .int k2)] := hl
  refine lv_aload_n hx hb dX11_gain_0 rfl (lv_at hl 0 rfl) ?_
  refine lv_iload_n hx hb dX11_gain_1 rfl (lv_at hl 1 rfl) ?_
  refine lv_iload_n hx hb dX11_gain_2 rfl (lv_at hl 2 rfl) ?_
  have hPc := hP.sub (ws' := [(h0, .inr (11, [.ref a0, .ref a1, .ref a2, .ref a3, .ref a4, .ref a5, .ref a6, .ref a7, .ref a8, .ref a9, .ref n0, .ref b0, .int (-1)])), (n0, .inr (3, [.ref l0, .ref l1, .int 0, .int 0]))]) [0, 1] rfl
  have hDc := hD.sub (ws' := [(h0, .inr (11, [.ref a0, .ref a1, .ref a2, .ref a3, .ref a4, .ref a5, .ref a6, .ref a7, .ref a8, .ref a9, .ref n0, .ref b0, .int (-1)])), (n0, .inr (3, [.ref l0, .ref l1, .int 0, .int 0]))]) [0, 1] (by decide) rfl
  have hKc := hK.sub (tys' := []) [] rfl
  refine vp_callSi (va_Run.run (va_runV (As := [.int k0, .int k1]) (rest := []) ⟨hx, hb, hml, hown, hT⟩ (c_noCouple l dC dI h0 a0 a1 a2 a3 a4 a5 a6 a7 a8 a9 n0 b0 l0 l1 s.heap.size k0 k1) (cwV 2 hT (gV w598 w600 ws22 w1 w601) rfl rfl rfl (by decide +kernel) ⟨(Nat.le_of_ble_eq_true rfl), (Nat.le_of_ble_eq_true rfl)⟩) ⟨pcW.blind, va_recv hKc hPc (ci := 11) (q0 := 0) rfl rfl, pcW.pre hPc hKc hDc⟩ rfl rfl hl.1 rfl (lv_room (Nat.le_of_ble_eq_true rfl)) dX11_gain_3 ⟨(Nat.le_of_ble_eq_true rfl), (Nat.le_of_ble_eq_true rfl)⟩)) (fun r_3 hr_3 => ?_)
  obtain rfl : r_3 = 1 := hr_3
  refine lv_if_ne (tgt := 17) hx hb dX11_gain_6 (by decide) (fun _ => ?_) (fun h => absurd h (by decide))
  refine lv_bipush (v := (-2)) hx hb dX11_gain_17 (by decide) ?_
  exact W.iret (v := (-2)) hx hb hr (fun t ht hW => ⟨(-2), rfl, rfl, ht⟩) (fun q h => by cases h) dX11_gain_19

set_option maxHeartbeats 4000000 in
set_option maxRecDepth 100000 in
theorem c_enough (l : Launch) (dC : Nat → ClassId) (dI : Nat → Nat → Nat) (h0 : Nat) (a0 : Nat) (a1 : Nat) (a2 : Nat) (a3 : Nat) (a4 : Nat) (a5 : Nat) (a6 : Nat) (a7 : Nat) (a8 : Nat) (a9 : Nat) (n0 : Nat) (b0 : Nat) (l0 : Nat) (l1 : Nat) (sz : Nat) (k0 : Int32) (k1 : Int32) (k2 : Int32) : Met l yX11_enough (wT yX11_enough cX11_enough 4 (some .int)) ({ frames := 2, cells := 0, slots := 0, locals := 43 }) (pcW dC dI [.ref h0, .int k0, .int k1, .int k2] sz [(h0, .inr (11, [.ref a0, .ref a1, .ref a2, .ref a3, .ref a4, .ref a5, .ref a6, .ref a7, .ref a8, .ref a9, .ref n0, .ref b0, .int (-1)])), (n0, .inr (3, [.ref l0, .ref l1, .int 0, .int 0]))] []) (vp_Si (fun r => r = (-2))) 0 0 (fun _ => False) := by
  refine Met.ofW (cc := cX11_enough) (maxL := 4) (ret := (some .int)) (by decide) rfl ?_
  intro p e s m args below meth c s₁ B hml hv
  obtain ⟨rfl, hsz, hP, hK, hD0⟩ := hv
  have hx := B.exec
  have hb := B.bytes
  have hr := B.returns
  have hT : ∀ w ∈ TB, w.before [.ref h0, .int k0, .int k1, .int k2].toArray s = true := fun w h => atoms_spec (ws := wT yX11_enough cX11_enough 4 (some .int)) B.pre w (List.mem_cons_of_mem _ h)
  have hown : s.vm.findClass RX11 = some m.cls := findClass_of_methodNamed B.named
  have hlocks := B.notSynchronized
  subst hsz
  have hD := hD0
  have hP : va_P (dC, dI) vwCl [(h0, .inr (11, [.ref a0, .ref a1, .ref a2, .ref a3, .ref a4, .ref a5, .ref a6, .ref a7, .ref a8, .ref a9, .ref n0, .ref b0, .int (-1)])), (n0, .inr (3, [.ref l0, .ref l1, .int 0, .int 0]))] s.heap := hP
  have hl := lv_entry ([.ref h0, .int k0, .int k1, .int k2]) (n := 4) (Nat.le_of_ble_eq_true rfl)
  rw [lg_entry_eq]
  generalize (lg_sl ([.ref h0, .int k0, .int k1, .int k2]) ++ List.replicate (4 - (lg_sl ([.ref h0, .int k0, .int k1, .int k2])).length) Slot.unset).toArray = ls at hl ⊢
  have hl : lv_has ls 4 [(0, .ref h0), (1, .int k0), (2, .int k1), (3, .int k2)] := hl
  refine lv_aload_n hx hb dX11_enough_0 rfl (lv_at hl 0 rfl) ?_
  refine lv_iload_n hx hb dX11_enough_1 rfl (lv_at hl 1 rfl) ?_
  refine lv_iload_n hx hb dX11_enough_2 rfl (lv_at hl 2 rfl) ?_
  have hPc := hP.sub (ws' := [(h0, .inr (11, [.ref a0, .ref a1, .ref a2, .ref a3, .ref a4, .ref a5, .ref a6, .ref a7, .ref a8, .ref a9, .ref n0, .ref b0, .int (-1)])), (n0, .inr (3, [.ref l0, .ref l1, .int 0, .int 0]))]) [0, 1] rfl
  have hDc := hD.sub (ws' := [(h0, .inr (11, [.ref a0, .ref a1, .ref a2, .ref a3, .ref a4, .ref a5, .ref a6, .ref a7, .ref a8, .ref a9, .ref n0, .ref b0, .int (-1)])), (n0, .inr (3, [.ref l0, .ref l1, .int 0, .int 0]))]) [0, 1] (by decide) rfl
  have hKc := hK.sub (tys' := []) [] rfl
  refine vp_callSi (va_Run.run (va_runV (As := [.int k0, .int k1]) (rest := []) ⟨hx, hb, hml, hown, hT⟩ (c_noCouple l dC dI h0 a0 a1 a2 a3 a4 a5 a6 a7 a8 a9 n0 b0 l0 l1 s.heap.size k0 k1) (cwV 2 hT (gV w598 w600 ws22 w1 w601) rfl rfl rfl (by decide +kernel) ⟨(Nat.le_of_ble_eq_true rfl), (Nat.le_of_ble_eq_true rfl)⟩) ⟨pcW.blind, va_recv hKc hPc (ci := 11) (q0 := 0) rfl rfl, pcW.pre hPc hKc hDc⟩ rfl rfl hl.1 rfl (lv_room (Nat.le_of_ble_eq_true rfl)) dX11_enough_3 ⟨(Nat.le_of_ble_eq_true rfl), (Nat.le_of_ble_eq_true rfl)⟩)) (fun r_3 hr_3 => ?_)
  obtain rfl : r_3 = 1 := hr_3
  refine lv_if_ne (tgt := 17) hx hb dX11_enough_6 (by decide) (fun _ => ?_) (fun h => absurd h (by decide))
  refine lv_bipush (v := (-2)) hx hb dX11_enough_17 (by decide) ?_
  exact W.iret (v := (-2)) hx hb hr (fun t ht hW => ⟨(-2), rfl, rfl, ht⟩) (fun q h => by cases h) dX11_enough_19

set_option maxHeartbeats 4000000 in
set_option maxRecDepth 100000 in
theorem c_net (l : Launch) (dC : Nat → ClassId) (dI : Nat → Nat → Nat) (h0 : Nat) (a0 : Nat) (a1 : Nat) (a2 : Nat) (a3 : Nat) (a4 : Nat) (a5 : Nat) (a6 : Nat) (a7 : Nat) (a8 : Nat) (a9 : Nat) (n0 : Nat) (b0 : Nat) (l0 : Nat) (l1 : Nat) (sz : Nat) (k0 : Int32) (k1 : Int32) (k2 : Int32) : Met l yX11_net (wT yX11_net cX11_net 4 (some .int)) ({ frames := 1, cells := 0, slots := 0, locals := 21 }) (pcW dC dI [.ref h0, .int k0, .int k1, .int k2] sz [(h0, .inr (11, [.ref a0, .ref a1, .ref a2, .ref a3, .ref a4, .ref a5, .ref a6, .ref a7, .ref a8, .ref a9, .ref n0, .ref b0, .int (-1)])), (n0, .inr (3, [.ref l0, .ref l1, .int 0, .int 0]))] []) (vp_Si (fun r => r = (-2))) 0 0 (fun _ => False) := by
  refine Met.ofW (cc := cX11_net) (maxL := 4) (ret := (some .int)) (by decide) rfl ?_
  intro p e s m args below meth c s₁ B hml hv
  obtain ⟨rfl, hsz, hP, hK, hD0⟩ := hv
  have hx := B.exec
  have hb := B.bytes
  have hr := B.returns
  have hT : ∀ w ∈ TB, w.before [.ref h0, .int k0, .int k1, .int k2].toArray s = true := fun w h => atoms_spec (ws := wT yX11_net cX11_net 4 (some .int)) B.pre w (List.mem_cons_of_mem _ h)
  have hown : s.vm.findClass RX11 = some m.cls := findClass_of_methodNamed B.named
  have hlocks := B.notSynchronized
  subst hsz
  have hD := hD0
  have hP : va_P (dC, dI) vwCl [(h0, .inr (11, [.ref a0, .ref a1, .ref a2, .ref a3, .ref a4, .ref a5, .ref a6, .ref a7, .ref a8, .ref a9, .ref n0, .ref b0, .int (-1)])), (n0, .inr (3, [.ref l0, .ref l1, .int 0, .int 0]))] s.heap := hP
  have hl := lv_entry ([.ref h0, .int k0, .int k1, .int k2]) (n := 4) (Nat.le_of_ble_eq_true rfl)
  rw [lg_entry_eq]
  generalize (lg_sl ([.ref h0, .int k0, .int k1, .int k2]) ++ List.replicate (4 - (lg_sl ([.ref h0, .int k0, .int k1, .int k2])).length) Slot.unset).toArray = ls at hl ⊢
  have hl : lv_has ls 4 [(0, .ref h0), (1, .int k0), (2, .int k1), (3, .int k2)] := hl
  refine lv_aload_n hx hb dX11_net_0 rfl (lv_at hl 0 rfl) ?_
  refine lv_iload_n hx hb dX11_net_1 rfl (lv_at hl 1 rfl) ?_
  have hPc := hP.sub (ws' := [(h0, .inr (11, [.ref a0, .ref a1, .ref a2, .ref a3, .ref a4, .ref a5, .ref a6, .ref a7, .ref a8, .ref a9, .ref n0, .ref b0, .int (-1)])), (n0, .inr (3, [.ref l0, .ref l1, .int 0, .int 0]))]) [0, 1] rfl
  have hDc := hD.sub (ws' := [(h0, .inr (11, [.ref a0, .ref a1, .ref a2, .ref a3, .ref a4, .ref a5, .ref a6, .ref a7, .ref a8, .ref a9, .ref n0, .ref b0, .int (-1)])), (n0, .inr (3, [.ref l0, .ref l1, .int 0, .int 0]))]) [0, 1] (by decide) rfl
  have hKc := hK.sub (tys' := []) [] rfl
  refine vp_callSi (va_Run.run (va_runV (As := [.int k0]) (rest := []) ⟨hx, hb, hml, hown, hT⟩ (c_noParty l dC dI h0 a0 a1 a2 a3 a4 a5 a6 a7 a8 a9 n0 b0 l0 l1 s.heap.size k0) (cwV 1 hT (gV w602 w604 ws23 w1 w605) rfl rfl rfl (by decide +kernel) ⟨(Nat.le_of_ble_eq_true rfl), (Nat.le_of_ble_eq_true rfl)⟩) ⟨pcW.blind, va_recv hKc hPc (ci := 11) (q0 := 0) rfl rfl, pcW.pre hPc hKc hDc⟩ rfl rfl hl.1 rfl (lv_room (Nat.le_of_ble_eq_true rfl)) dX11_net_2 ⟨(Nat.le_of_ble_eq_true rfl), (Nat.le_of_ble_eq_true rfl)⟩)) (fun r_2 hr_2 => ?_)
  obtain rfl : r_2 = 1 := hr_2
  refine lv_if_ne (tgt := 16) hx hb dX11_net_5 (by decide) (fun _ => ?_) (fun h => absurd h (by decide))
  refine lv_bipush (v := (-2)) hx hb dX11_net_16 (by decide) ?_
  exact W.iret (v := (-2)) hx hb hr (fun t ht hW => ⟨(-2), rfl, rfl, ht⟩) (fun q h => by cases h) dX11_net_18

set_option maxHeartbeats 4000000 in
set_option maxRecDepth 100000 in
theorem c_side (l : Launch) (dC : Nat → ClassId) (dI : Nat → Nat → Nat) (h0 : Nat) (a0 : Nat) (a1 : Nat) (a2 : Nat) (a3 : Nat) (a4 : Nat) (a5 : Nat) (a6 : Nat) (a7 : Nat) (a8 : Nat) (a9 : Nat) (n0 : Nat) (b0 : Nat) (l0 : Nat) (l1 : Nat) (sz : Nat) (k0 : Int32) (k1 : Int32) (k2 : Int32) : Met l yX11_side (wT yX11_side cX11_side 4 (some .int)) ({ frames := 1, cells := 0, slots := 0, locals := 21 }) (pcW dC dI [.ref h0, .int k0, .int k1, .int k2] sz [(h0, .inr (11, [.ref a0, .ref a1, .ref a2, .ref a3, .ref a4, .ref a5, .ref a6, .ref a7, .ref a8, .ref a9, .ref n0, .ref b0, .int (-1)])), (n0, .inr (3, [.ref l0, .ref l1, .int 0, .int 0]))] []) (vp_Si (fun r => r = (-2))) 0 0 (fun _ => False) := by
  refine Met.ofW (cc := cX11_side) (maxL := 4) (ret := (some .int)) (by decide) rfl ?_
  intro p e s m args below meth c s₁ B hml hv
  obtain ⟨rfl, hsz, hP, hK, hD0⟩ := hv
  have hx := B.exec
  have hb := B.bytes
  have hr := B.returns
  have hT : ∀ w ∈ TB, w.before [.ref h0, .int k0, .int k1, .int k2].toArray s = true := fun w h => atoms_spec (ws := wT yX11_side cX11_side 4 (some .int)) B.pre w (List.mem_cons_of_mem _ h)
  have hown : s.vm.findClass RX11 = some m.cls := findClass_of_methodNamed B.named
  have hlocks := B.notSynchronized
  subst hsz
  have hD := hD0
  have hP : va_P (dC, dI) vwCl [(h0, .inr (11, [.ref a0, .ref a1, .ref a2, .ref a3, .ref a4, .ref a5, .ref a6, .ref a7, .ref a8, .ref a9, .ref n0, .ref b0, .int (-1)])), (n0, .inr (3, [.ref l0, .ref l1, .int 0, .int 0]))] s.heap := hP
  have hl := lv_entry ([.ref h0, .int k0, .int k1, .int k2]) (n := 4) (Nat.le_of_ble_eq_true rfl)
  rw [lg_entry_eq]
  generalize (lg_sl ([.ref h0, .int k0, .int k1, .int k2]) ++ List.replicate (4 - (lg_sl ([.ref h0, .int k0, .int k1, .int k2])).length) Slot.unset).toArray = ls at hl ⊢
  have hl : lv_has ls 4 [(0, .ref h0), (1, .int k0), (2, .int k1), (3, .int k2)] := hl
  refine lv_aload_n hx hb dX11_side_0 rfl (lv_at hl 0 rfl) ?_
  refine lv_iload_n hx hb dX11_side_1 rfl (lv_at hl 1 rfl) ?_
  have hPc := hP.sub (ws' := [(h0, .inr (11, [.ref a0, .ref a1, .ref a2, .ref a3, .ref a4, .ref a5, .ref a6, .ref a7, .ref a8, .ref a9, .ref n0, .ref b0, .int (-1)])), (n0, .inr (3, [.ref l0, .ref l1, .int 0, .int 0]))]) [0, 1] rfl
  have hDc := hD.sub (ws' := [(h0, .inr (11, [.ref a0, .ref a1, .ref a2, .ref a3, .ref a4, .ref a5, .ref a6, .ref a7, .ref a8, .ref a9, .ref n0, .ref b0, .int (-1)])), (n0, .inr (3, [.ref l0, .ref l1, .int 0, .int 0]))]) [0, 1] (by decide) rfl
  have hKc := hK.sub (tys' := []) [] rfl
  refine vp_callSi (va_Run.run (va_runV (As := [.int k0]) (rest := []) ⟨hx, hb, hml, hown, hT⟩ (c_noParty l dC dI h0 a0 a1 a2 a3 a4 a5 a6 a7 a8 a9 n0 b0 l0 l1 s.heap.size k0) (cwV 1 hT (gV w602 w604 ws23 w1 w605) rfl rfl rfl (by decide +kernel) ⟨(Nat.le_of_ble_eq_true rfl), (Nat.le_of_ble_eq_true rfl)⟩) ⟨pcW.blind, va_recv hKc hPc (ci := 11) (q0 := 0) rfl rfl, pcW.pre hPc hKc hDc⟩ rfl rfl hl.1 rfl (lv_room (Nat.le_of_ble_eq_true rfl)) dX11_side_2 ⟨(Nat.le_of_ble_eq_true rfl), (Nat.le_of_ble_eq_true rfl)⟩)) (fun r_2 hr_2 => ?_)
  obtain rfl : r_2 = 1 := hr_2
  refine lv_if_ne (tgt := 16) hx hb dX11_side_5 (by decide) (fun _ => ?_) (fun h => absurd h (by decide))
  refine lv_bipush (v := (-2)) hx hb dX11_side_16 (by decide) ?_
  exact W.iret (v := (-2)) hx hb hr (fun t ht hW => ⟨(-2), rfl, rfl, ht⟩) (fun q h => by cases h) dX11_side_18

set_option maxHeartbeats 4000000 in
set_option maxRecDepth 100000 in
theorem c_without (l : Launch) (dC : Nat → ClassId) (dI : Nat → Nat → Nat) (h0 : Nat) (a0 : Nat) (a1 : Nat) (a2 : Nat) (a3 : Nat) (a4 : Nat) (a5 : Nat) (a6 : Nat) (a7 : Nat) (a8 : Nat) (a9 : Nat) (n0 : Nat) (b0 : Nat) (l0 : Nat) (l1 : Nat) (sz : Nat) (k0 : Int32) (k1 : Int32) : Met l yX11_without (wT yX11_without cX11_without 5 (some .int)) ({ frames := 1, cells := 0, slots := 0, locals := 21 }) (pcW dC dI [.ref h0, .int k0, .int k1] sz [(h0, .inr (11, [.ref a0, .ref a1, .ref a2, .ref a3, .ref a4, .ref a5, .ref a6, .ref a7, .ref a8, .ref a9, .ref n0, .ref b0, .int (-1)])), (n0, .inr (3, [.ref l0, .ref l1, .int 0, .int 0]))] []) (vp_Si (fun r => r = (-2))) 0 0 (fun _ => False) := by
  refine Met.ofW (cc := cX11_without) (maxL := 5) (ret := (some .int)) (by decide) rfl ?_
  intro p e s m args below meth c s₁ B hml hv
  obtain ⟨rfl, hsz, hP, hK, hD0⟩ := hv
  have hx := B.exec
  have hb := B.bytes
  have hr := B.returns
  have hT : ∀ w ∈ TB, w.before [.ref h0, .int k0, .int k1].toArray s = true := fun w h => atoms_spec (ws := wT yX11_without cX11_without 5 (some .int)) B.pre w (List.mem_cons_of_mem _ h)
  have hown : s.vm.findClass RX11 = some m.cls := findClass_of_methodNamed B.named
  have hlocks := B.notSynchronized
  subst hsz
  have hD := hD0
  have hP : va_P (dC, dI) vwCl [(h0, .inr (11, [.ref a0, .ref a1, .ref a2, .ref a3, .ref a4, .ref a5, .ref a6, .ref a7, .ref a8, .ref a9, .ref n0, .ref b0, .int (-1)])), (n0, .inr (3, [.ref l0, .ref l1, .int 0, .int 0]))] s.heap := hP
  have hl := lv_entry ([.ref h0, .int k0, .int k1]) (n := 5) (Nat.le_of_ble_eq_true rfl)
  rw [lg_entry_eq]
  generalize (lg_sl ([.ref h0, .int k0, .int k1]) ++ List.replicate (5 - (lg_sl ([.ref h0, .int k0, .int k1])).length) Slot.unset).toArray = ls at hl ⊢
  have hl : lv_has ls 5 [(0, .ref h0), (1, .int k0), (2, .int k1)] := hl
  refine lv_aload_n hx hb dX11_without_0 rfl (lv_at hl 0 rfl) ?_
  refine lv_iload_n hx hb dX11_without_1 rfl (lv_at hl 1 rfl) ?_
  have hPc := hP.sub (ws' := [(h0, .inr (11, [.ref a0, .ref a1, .ref a2, .ref a3, .ref a4, .ref a5, .ref a6, .ref a7, .ref a8, .ref a9, .ref n0, .ref b0, .int (-1)])), (n0, .inr (3, [.ref l0, .ref l1, .int 0, .int 0]))]) [0, 1] rfl
  have hDc := hD.sub (ws' := [(h0, .inr (11, [.ref a0, .ref a1, .ref a2, .ref a3, .ref a4, .ref a5, .ref a6, .ref a7, .ref a8, .ref a9, .ref n0, .ref b0, .int (-1)])), (n0, .inr (3, [.ref l0, .ref l1, .int 0, .int 0]))]) [0, 1] (by decide) rfl
  have hKc := hK.sub (tys' := []) [] rfl
  refine vp_callSi (va_Run.run (va_runV (As := [.int k0]) (rest := []) ⟨hx, hb, hml, hown, hT⟩ (c_noParty l dC dI h0 a0 a1 a2 a3 a4 a5 a6 a7 a8 a9 n0 b0 l0 l1 s.heap.size k0) (cwV 1 hT (gV w602 w604 ws23 w1 w605) rfl rfl rfl (by decide +kernel) ⟨(Nat.le_of_ble_eq_true rfl), (Nat.le_of_ble_eq_true rfl)⟩) ⟨pcW.blind, va_recv hKc hPc (ci := 11) (q0 := 0) rfl rfl, pcW.pre hPc hKc hDc⟩ rfl rfl hl.1 rfl (lv_room (Nat.le_of_ble_eq_true rfl)) dX11_without_2 ⟨(Nat.le_of_ble_eq_true rfl), (Nat.le_of_ble_eq_true rfl)⟩)) (fun r_2 hr_2 => ?_)
  obtain rfl : r_2 = 1 := hr_2
  refine lv_if_ne (tgt := 16) hx hb dX11_without_5 (by decide) (fun _ => ?_) (fun h => absurd h (by decide))
  refine lv_bipush (v := (-2)) hx hb dX11_without_16 (by decide) ?_
  exact W.iret (v := (-2)) hx hb hr (fun t ht hW => ⟨(-2), rfl, rfl, ht⟩) (fun q h => by cases h) dX11_without_18

set_option maxHeartbeats 4000000 in
set_option maxRecDepth 100000 in
theorem c_relief (l : Launch) (dC : Nat → ClassId) (dI : Nat → Nat → Nat) (h0 : Nat) (a0 : Nat) (a1 : Nat) (a2 : Nat) (a3 : Nat) (a4 : Nat) (a5 : Nat) (a6 : Nat) (a7 : Nat) (a8 : Nat) (a9 : Nat) (n0 : Nat) (b0 : Nat) (l0 : Nat) (l1 : Nat) (sz : Nat) (k0 : Int32) (k1 : Int32) : Met l yX11_relief (wT yX11_relief cX11_relief 3 (some .int)) ({ frames := 1, cells := 0, slots := 0, locals := 21 }) (pcW dC dI [.ref h0, .int k0, .int k1] sz [(h0, .inr (11, [.ref a0, .ref a1, .ref a2, .ref a3, .ref a4, .ref a5, .ref a6, .ref a7, .ref a8, .ref a9, .ref n0, .ref b0, .int (-1)])), (n0, .inr (3, [.ref l0, .ref l1, .int 0, .int 0]))] []) (vp_Si (fun r => r = (-2))) 0 0 (fun _ => False) := by
  refine Met.ofW (cc := cX11_relief) (maxL := 3) (ret := (some .int)) (by decide) rfl ?_
  intro p e s m args below meth c s₁ B hml hv
  obtain ⟨rfl, hsz, hP, hK, hD0⟩ := hv
  have hx := B.exec
  have hb := B.bytes
  have hr := B.returns
  have hT : ∀ w ∈ TB, w.before [.ref h0, .int k0, .int k1].toArray s = true := fun w h => atoms_spec (ws := wT yX11_relief cX11_relief 3 (some .int)) B.pre w (List.mem_cons_of_mem _ h)
  have hown : s.vm.findClass RX11 = some m.cls := findClass_of_methodNamed B.named
  have hlocks := B.notSynchronized
  subst hsz
  have hD := hD0
  have hP : va_P (dC, dI) vwCl [(h0, .inr (11, [.ref a0, .ref a1, .ref a2, .ref a3, .ref a4, .ref a5, .ref a6, .ref a7, .ref a8, .ref a9, .ref n0, .ref b0, .int (-1)])), (n0, .inr (3, [.ref l0, .ref l1, .int 0, .int 0]))] s.heap := hP
  have hl := lv_entry ([.ref h0, .int k0, .int k1]) (n := 3) (Nat.le_of_ble_eq_true rfl)
  rw [lg_entry_eq]
  generalize (lg_sl ([.ref h0, .int k0, .int k1]) ++ List.replicate (3 - (lg_sl ([.ref h0, .int k0, .int k1])).length) Slot.unset).toArray = ls at hl ⊢
  have hl : lv_has ls 3 [(0, .ref h0), (1, .int k0), (2, .int k1)] := hl
  refine lv_aload_n hx hb dX11_relief_0 rfl (lv_at hl 0 rfl) ?_
  refine lv_iload_n hx hb dX11_relief_1 rfl (lv_at hl 1 rfl) ?_
  have hPc := hP.sub (ws' := [(h0, .inr (11, [.ref a0, .ref a1, .ref a2, .ref a3, .ref a4, .ref a5, .ref a6, .ref a7, .ref a8, .ref a9, .ref n0, .ref b0, .int (-1)])), (n0, .inr (3, [.ref l0, .ref l1, .int 0, .int 0]))]) [0, 1] rfl
  have hDc := hD.sub (ws' := [(h0, .inr (11, [.ref a0, .ref a1, .ref a2, .ref a3, .ref a4, .ref a5, .ref a6, .ref a7, .ref a8, .ref a9, .ref n0, .ref b0, .int (-1)])), (n0, .inr (3, [.ref l0, .ref l1, .int 0, .int 0]))]) [0, 1] (by decide) rfl
  have hKc := hK.sub (tys' := []) [] rfl
  refine vp_callSi (va_Run.run (va_runV (As := [.int k0]) (rest := []) ⟨hx, hb, hml, hown, hT⟩ (c_noParty l dC dI h0 a0 a1 a2 a3 a4 a5 a6 a7 a8 a9 n0 b0 l0 l1 s.heap.size k0) (cwV 1 hT (gV w602 w604 ws23 w1 w605) rfl rfl rfl (by decide +kernel) ⟨(Nat.le_of_ble_eq_true rfl), (Nat.le_of_ble_eq_true rfl)⟩) ⟨pcW.blind, va_recv hKc hPc (ci := 11) (q0 := 0) rfl rfl, pcW.pre hPc hKc hDc⟩ rfl rfl hl.1 rfl (lv_room (Nat.le_of_ble_eq_true rfl)) dX11_relief_2 ⟨(Nat.le_of_ble_eq_true rfl), (Nat.le_of_ble_eq_true rfl)⟩)) (fun r_2 hr_2 => ?_)
  obtain rfl : r_2 = 1 := hr_2
  refine lv_if_ne (tgt := 16) hx hb dX11_relief_5 (by decide) (fun _ => ?_) (fun h => absurd h (by decide))
  refine lv_bipush (v := (-2)) hx hb dX11_relief_16 (by decide) ?_
  exact W.iret (v := (-2)) hx hb hr (fun t ht hW => ⟨(-2), rfl, rfl, ht⟩) (fun q h => by cases h) dX11_relief_18

set_option maxHeartbeats 4000000 in
set_option maxRecDepth 100000 in
theorem c_through (l : Launch) (dC : Nat → ClassId) (dI : Nat → Nat → Nat) (h0 : Nat) (a0 : Nat) (a1 : Nat) (a2 : Nat) (a3 : Nat) (a4 : Nat) (a5 : Nat) (a6 : Nat) (a7 : Nat) (a8 : Nat) (a9 : Nat) (n0 : Nat) (b0 : Nat) (l0 : Nat) (l1 : Nat) (sz : Nat) (k0 : Int32) (k1 : Int32) (k2 : Int32) : Met l yX11_through (wT yX11_through cX11_through 4 (some .int)) ({ frames := 1, cells := 0, slots := 0, locals := 21 }) (pcW dC dI [.ref h0, .int k0, .int k1, .int k2] sz [(h0, .inr (11, [.ref a0, .ref a1, .ref a2, .ref a3, .ref a4, .ref a5, .ref a6, .ref a7, .ref a8, .ref a9, .ref n0, .ref b0, .int (-1)])), (n0, .inr (3, [.ref l0, .ref l1, .int 0, .int 0]))] []) (vp_Si (fun r => r = (-2))) 0 0 (fun _ => False) := by
  refine Met.ofW (cc := cX11_through) (maxL := 4) (ret := (some .int)) (by decide) rfl ?_
  intro p e s m args below meth c s₁ B hml hv
  obtain ⟨rfl, hsz, hP, hK, hD0⟩ := hv
  have hx := B.exec
  have hb := B.bytes
  have hr := B.returns
  have hT : ∀ w ∈ TB, w.before [.ref h0, .int k0, .int k1, .int k2].toArray s = true := fun w h => atoms_spec (ws := wT yX11_through cX11_through 4 (some .int)) B.pre w (List.mem_cons_of_mem _ h)
  have hown : s.vm.findClass RX11 = some m.cls := findClass_of_methodNamed B.named
  have hlocks := B.notSynchronized
  subst hsz
  have hD := hD0
  have hP : va_P (dC, dI) vwCl [(h0, .inr (11, [.ref a0, .ref a1, .ref a2, .ref a3, .ref a4, .ref a5, .ref a6, .ref a7, .ref a8, .ref a9, .ref n0, .ref b0, .int (-1)])), (n0, .inr (3, [.ref l0, .ref l1, .int 0, .int 0]))] s.heap := hP
  have hl := lv_entry ([.ref h0, .int k0, .int k1, .int k2]) (n := 4) (Nat.le_of_ble_eq_true rfl)
  rw [lg_entry_eq]
  generalize (lg_sl ([.ref h0, .int k0, .int k1, .int k2]) ++ List.replicate (4 - (lg_sl ([.ref h0, .int k0, .int k1, .int k2])).length) Slot.unset).toArray = ls at hl ⊢
  have hl : lv_has ls 4 [(0, .ref h0), (1, .int k0), (2, .int k1), (3, .int k2)] := hl
  refine lv_aload_n hx hb dX11_through_0 rfl (lv_at hl 0 rfl) ?_
  refine lv_iload_n hx hb dX11_through_1 rfl (lv_at hl 1 rfl) ?_
  have hPc := hP.sub (ws' := [(h0, .inr (11, [.ref a0, .ref a1, .ref a2, .ref a3, .ref a4, .ref a5, .ref a6, .ref a7, .ref a8, .ref a9, .ref n0, .ref b0, .int (-1)])), (n0, .inr (3, [.ref l0, .ref l1, .int 0, .int 0]))]) [0, 1] rfl
  have hDc := hD.sub (ws' := [(h0, .inr (11, [.ref a0, .ref a1, .ref a2, .ref a3, .ref a4, .ref a5, .ref a6, .ref a7, .ref a8, .ref a9, .ref n0, .ref b0, .int (-1)])), (n0, .inr (3, [.ref l0, .ref l1, .int 0, .int 0]))]) [0, 1] (by decide) rfl
  have hKc := hK.sub (tys' := []) [] rfl
  refine vp_callSi (va_Run.run (va_runV (As := [.int k0]) (rest := []) ⟨hx, hb, hml, hown, hT⟩ (c_noParty l dC dI h0 a0 a1 a2 a3 a4 a5 a6 a7 a8 a9 n0 b0 l0 l1 s.heap.size k0) (cwV 1 hT (gV w602 w604 ws23 w1 w605) rfl rfl rfl (by decide +kernel) ⟨(Nat.le_of_ble_eq_true rfl), (Nat.le_of_ble_eq_true rfl)⟩) ⟨pcW.blind, va_recv hKc hPc (ci := 11) (q0 := 0) rfl rfl, pcW.pre hPc hKc hDc⟩ rfl rfl hl.1 rfl (lv_room (Nat.le_of_ble_eq_true rfl)) dX11_through_2 ⟨(Nat.le_of_ble_eq_true rfl), (Nat.le_of_ble_eq_true rfl)⟩)) (fun r_2 hr_2 => ?_)
  obtain rfl : r_2 = 1 := hr_2
  refine lv_if_ne (tgt := 16) hx hb dX11_through_5 (by decide) (fun _ => ?_) (fun h => absurd h (by decide))
  refine lv_bipush (v := (-2)) hx hb dX11_through_16 (by decide) ?_
  exact W.iret (v := (-2)) hx hb hr (fun t ht hW => ⟨(-2), rfl, rfl, ht⟩) (fun q h => by cases h) dX11_through_18

set_option maxHeartbeats 4000000 in
set_option maxRecDepth 100000 in
theorem c_takeRing (l : Launch) (dC : Nat → ClassId) (dI : Nat → Nat → Nat) (h0 : Nat) (a0 : Nat) (a1 : Nat) (a2 : Nat) (a3 : Nat) (a4 : Nat) (a5 : Nat) (a6 : Nat) (a7 : Nat) (a8 : Nat) (a9 : Nat) (n0 : Nat) (b0 : Nat) (l0 : Nat) (l1 : Nat) (sz : Nat) (k0 : Int32) : Met l yX11_takeRing (wT yX11_takeRing cX11_takeRing 5 (some .int)) ({ frames := 1, cells := 0, slots := 0, locals := 21 }) (pcW dC dI [.ref h0, .int k0] sz [(h0, .inr (11, [.ref a0, .ref a1, .ref a2, .ref a3, .ref a4, .ref a5, .ref a6, .ref a7, .ref a8, .ref a9, .ref n0, .ref b0, .int (-1)])), (n0, .inr (3, [.ref l0, .ref l1, .int 0, .int 0]))] []) (vp_Si (fun r => r = (-2))) 0 0 (fun _ => False) := by
  refine Met.ofW (cc := cX11_takeRing) (maxL := 5) (ret := (some .int)) (by decide) rfl ?_
  intro p e s m args below meth c s₁ B hml hv
  obtain ⟨rfl, hsz, hP, hK, hD0⟩ := hv
  have hx := B.exec
  have hb := B.bytes
  have hr := B.returns
  have hT : ∀ w ∈ TB, w.before [.ref h0, .int k0].toArray s = true := fun w h => atoms_spec (ws := wT yX11_takeRing cX11_takeRing 5 (some .int)) B.pre w (List.mem_cons_of_mem _ h)
  have hown : s.vm.findClass RX11 = some m.cls := findClass_of_methodNamed B.named
  have hlocks := B.notSynchronized
  subst hsz
  have hD := hD0
  have hP : va_P (dC, dI) vwCl [(h0, .inr (11, [.ref a0, .ref a1, .ref a2, .ref a3, .ref a4, .ref a5, .ref a6, .ref a7, .ref a8, .ref a9, .ref n0, .ref b0, .int (-1)])), (n0, .inr (3, [.ref l0, .ref l1, .int 0, .int 0]))] s.heap := hP
  have hl := lv_entry ([.ref h0, .int k0]) (n := 5) (Nat.le_of_ble_eq_true rfl)
  rw [lg_entry_eq]
  generalize (lg_sl ([.ref h0, .int k0]) ++ List.replicate (5 - (lg_sl ([.ref h0, .int k0])).length) Slot.unset).toArray = ls at hl ⊢
  have hl : lv_has ls 5 [(0, .ref h0), (1, .int k0)] := hl
  refine lv_aload_n hx hb dX11_takeRing_0 rfl (lv_at hl 0 rfl) ?_
  refine lv_iload_n hx hb dX11_takeRing_1 rfl (lv_at hl 1 rfl) ?_
  have hPc := hP.sub (ws' := [(h0, .inr (11, [.ref a0, .ref a1, .ref a2, .ref a3, .ref a4, .ref a5, .ref a6, .ref a7, .ref a8, .ref a9, .ref n0, .ref b0, .int (-1)])), (n0, .inr (3, [.ref l0, .ref l1, .int 0, .int 0]))]) [0, 1] rfl
  have hDc := hD.sub (ws' := [(h0, .inr (11, [.ref a0, .ref a1, .ref a2, .ref a3, .ref a4, .ref a5, .ref a6, .ref a7, .ref a8, .ref a9, .ref n0, .ref b0, .int (-1)])), (n0, .inr (3, [.ref l0, .ref l1, .int 0, .int 0]))]) [0, 1] (by decide) rfl
  have hKc := hK.sub (tys' := []) [] rfl
  refine vp_callSi (va_Run.run (va_runV (As := [.int k0]) (rest := []) ⟨hx, hb, hml, hown, hT⟩ (c_noKind l dC dI h0 a0 a1 a2 a3 a4 a5 a6 a7 a8 a9 n0 b0 l0 l1 s.heap.size k0) (cwV 1 hT (gV w606 w608 ws24 w1 w609) rfl rfl rfl (by decide +kernel) ⟨(Nat.le_of_ble_eq_true rfl), (Nat.le_of_ble_eq_true rfl)⟩) ⟨pcW.blind, va_recv hKc hPc (ci := 11) (q0 := 0) rfl rfl, pcW.pre hPc hKc hDc⟩ rfl rfl hl.1 rfl (lv_room (Nat.le_of_ble_eq_true rfl)) dX11_takeRing_2 ⟨(Nat.le_of_ble_eq_true rfl), (Nat.le_of_ble_eq_true rfl)⟩)) (fun r_2 hr_2 => ?_)
  obtain rfl : r_2 = 1 := hr_2
  refine lv_if_eq (tgt := 11) hx hb dX11_takeRing_5 (by decide) (fun h => absurd h (by decide)) (fun _ => ?_)
  refine lv_bipush (v := (-2)) hx hb dX11_takeRing_8 (by decide) ?_
  exact W.iret (v := (-2)) hx hb hr (fun t ht hW => ⟨(-2), rfl, rfl, ht⟩) (fun q h => by cases h) dX11_takeRing_10

set_option maxHeartbeats 4000000 in
set_option maxRecDepth 100000 in
theorem c_press (l : Launch) (dC : Nat → ClassId) (dI : Nat → Nat → Nat) (h0 : Nat) (a0 : Nat) (a1 : Nat) (a2 : Nat) (a3 : Nat) (a4 : Nat) (a5 : Nat) (a6 : Nat) (a7 : Nat) (a8 : Nat) (a9 : Nat) (n0 : Nat) (b0 : Nat) (l0 : Nat) (l1 : Nat) (sz : Nat) (k0 : Int32) : Met l yX11_press (wT yX11_press cX11_press 6 (some .int)) ({ frames := 1, cells := 0, slots := 0, locals := 21 }) (pcW dC dI [.ref h0, .int k0] sz [(h0, .inr (11, [.ref a0, .ref a1, .ref a2, .ref a3, .ref a4, .ref a5, .ref a6, .ref a7, .ref a8, .ref a9, .ref n0, .ref b0, .int (-1)])), (n0, .inr (3, [.ref l0, .ref l1, .int 0, .int 0]))] []) (vp_Si (fun r => r = (-2))) 0 0 (fun _ => False) := by
  refine Met.ofW (cc := cX11_press) (maxL := 6) (ret := (some .int)) (by decide) rfl ?_
  intro p e s m args below meth c s₁ B hml hv
  obtain ⟨rfl, hsz, hP, hK, hD0⟩ := hv
  have hx := B.exec
  have hb := B.bytes
  have hr := B.returns
  have hT : ∀ w ∈ TB, w.before [.ref h0, .int k0].toArray s = true := fun w h => atoms_spec (ws := wT yX11_press cX11_press 6 (some .int)) B.pre w (List.mem_cons_of_mem _ h)
  have hown : s.vm.findClass RX11 = some m.cls := findClass_of_methodNamed B.named
  have hlocks := B.notSynchronized
  subst hsz
  have hD := hD0
  have hP : va_P (dC, dI) vwCl [(h0, .inr (11, [.ref a0, .ref a1, .ref a2, .ref a3, .ref a4, .ref a5, .ref a6, .ref a7, .ref a8, .ref a9, .ref n0, .ref b0, .int (-1)])), (n0, .inr (3, [.ref l0, .ref l1, .int 0, .int 0]))] s.heap := hP
  have hl := lv_entry ([.ref h0, .int k0]) (n := 6) (Nat.le_of_ble_eq_true rfl)
  rw [lg_entry_eq]
  generalize (lg_sl ([.ref h0, .int k0]) ++ List.replicate (6 - (lg_sl ([.ref h0, .int k0])).length) Slot.unset).toArray = ls at hl ⊢
  have hl : lv_has ls 6 [(0, .ref h0), (1, .int k0)] := hl
  refine lv_aload_n hx hb dX11_press_0 rfl (lv_at hl 0 rfl) ?_
  refine lv_iload_n hx hb dX11_press_1 rfl (lv_at hl 1 rfl) ?_
  have hPc := hP.sub (ws' := [(h0, .inr (11, [.ref a0, .ref a1, .ref a2, .ref a3, .ref a4, .ref a5, .ref a6, .ref a7, .ref a8, .ref a9, .ref n0, .ref b0, .int (-1)])), (n0, .inr (3, [.ref l0, .ref l1, .int 0, .int 0]))]) [0, 1] rfl
  have hDc := hD.sub (ws' := [(h0, .inr (11, [.ref a0, .ref a1, .ref a2, .ref a3, .ref a4, .ref a5, .ref a6, .ref a7, .ref a8, .ref a9, .ref n0, .ref b0, .int (-1)])), (n0, .inr (3, [.ref l0, .ref l1, .int 0, .int 0]))]) [0, 1] (by decide) rfl
  have hKc := hK.sub (tys' := []) [] rfl
  refine vp_callSi (va_Run.run (va_runV (As := [.int k0]) (rest := []) ⟨hx, hb, hml, hown, hT⟩ (c_noKind l dC dI h0 a0 a1 a2 a3 a4 a5 a6 a7 a8 a9 n0 b0 l0 l1 s.heap.size k0) (cwV 1 hT (gV w606 w608 ws24 w1 w609) rfl rfl rfl (by decide +kernel) ⟨(Nat.le_of_ble_eq_true rfl), (Nat.le_of_ble_eq_true rfl)⟩) ⟨pcW.blind, va_recv hKc hPc (ci := 11) (q0 := 0) rfl rfl, pcW.pre hPc hKc hDc⟩ rfl rfl hl.1 rfl (lv_room (Nat.le_of_ble_eq_true rfl)) dX11_press_2 ⟨(Nat.le_of_ble_eq_true rfl), (Nat.le_of_ble_eq_true rfl)⟩)) (fun r_2 hr_2 => ?_)
  obtain rfl : r_2 = 1 := hr_2
  refine lv_if_eq (tgt := 11) hx hb dX11_press_5 (by decide) (fun h => absurd h (by decide)) (fun _ => ?_)
  refine lv_bipush (v := (-2)) hx hb dX11_press_8 (by decide) ?_
  exact W.iret (v := (-2)) hx hb hr (fun t ht hW => ⟨(-2), rfl, rfl, ht⟩) (fun q h => by cases h) dX11_press_10

set_option maxHeartbeats 4000000 in
set_option maxRecDepth 100000 in
theorem c_total (l : Launch) (dC : Nat → ClassId) (dI : Nat → Nat → Nat) (h0 : Nat) (a0 : Nat) (a1 : Nat) (a2 : Nat) (a3 : Nat) (a4 : Nat) (a5 : Nat) (a6 : Nat) (a7 : Nat) (a8 : Nat) (a9 : Nat) (n0 : Nat) (b0 : Nat) (l0 : Nat) (l1 : Nat) (sz : Nat) (k0 : Int32) (k1 : Int32) : Met l yX11_total (wT yX11_total cX11_total 3 (some .int)) ({ frames := 1, cells := 0, slots := 0, locals := 21 }) (pcW dC dI [.ref h0, .int k0, .int k1] sz [(h0, .inr (11, [.ref a0, .ref a1, .ref a2, .ref a3, .ref a4, .ref a5, .ref a6, .ref a7, .ref a8, .ref a9, .ref n0, .ref b0, .int (-1)])), (n0, .inr (3, [.ref l0, .ref l1, .int 0, .int 0]))] []) (vp_Si (fun r => r = (-2))) 0 0 (fun _ => False) := by
  refine Met.ofW (cc := cX11_total) (maxL := 3) (ret := (some .int)) (by decide) rfl ?_
  intro p e s m args below meth c s₁ B hml hv
  obtain ⟨rfl, hsz, hP, hK, hD0⟩ := hv
  have hx := B.exec
  have hb := B.bytes
  have hr := B.returns
  have hT : ∀ w ∈ TB, w.before [.ref h0, .int k0, .int k1].toArray s = true := fun w h => atoms_spec (ws := wT yX11_total cX11_total 3 (some .int)) B.pre w (List.mem_cons_of_mem _ h)
  have hown : s.vm.findClass RX11 = some m.cls := findClass_of_methodNamed B.named
  have hlocks := B.notSynchronized
  subst hsz
  have hD := hD0
  have hP : va_P (dC, dI) vwCl [(h0, .inr (11, [.ref a0, .ref a1, .ref a2, .ref a3, .ref a4, .ref a5, .ref a6, .ref a7, .ref a8, .ref a9, .ref n0, .ref b0, .int (-1)])), (n0, .inr (3, [.ref l0, .ref l1, .int 0, .int 0]))] s.heap := hP
  have hl := lv_entry ([.ref h0, .int k0, .int k1]) (n := 3) (Nat.le_of_ble_eq_true rfl)
  rw [lg_entry_eq]
  generalize (lg_sl ([.ref h0, .int k0, .int k1]) ++ List.replicate (3 - (lg_sl ([.ref h0, .int k0, .int k1])).length) Slot.unset).toArray = ls at hl ⊢
  have hl : lv_has ls 3 [(0, .ref h0), (1, .int k0), (2, .int k1)] := hl
  refine lv_aload_n hx hb dX11_total_0 rfl (lv_at hl 0 rfl) ?_
  refine lv_iload_n hx hb dX11_total_1 rfl (lv_at hl 1 rfl) ?_
  have hPc := hP.sub (ws' := [(h0, .inr (11, [.ref a0, .ref a1, .ref a2, .ref a3, .ref a4, .ref a5, .ref a6, .ref a7, .ref a8, .ref a9, .ref n0, .ref b0, .int (-1)])), (n0, .inr (3, [.ref l0, .ref l1, .int 0, .int 0]))]) [0, 1] rfl
  have hDc := hD.sub (ws' := [(h0, .inr (11, [.ref a0, .ref a1, .ref a2, .ref a3, .ref a4, .ref a5, .ref a6, .ref a7, .ref a8, .ref a9, .ref n0, .ref b0, .int (-1)])), (n0, .inr (3, [.ref l0, .ref l1, .int 0, .int 0]))]) [0, 1] (by decide) rfl
  have hKc := hK.sub (tys' := []) [] rfl
  refine vp_callSi (va_Run.run (va_runV (As := [.int k0]) (rest := []) ⟨hx, hb, hml, hown, hT⟩ (c_noKind l dC dI h0 a0 a1 a2 a3 a4 a5 a6 a7 a8 a9 n0 b0 l0 l1 s.heap.size k0) (cwV 1 hT (gV w606 w608 ws24 w1 w609) rfl rfl rfl (by decide +kernel) ⟨(Nat.le_of_ble_eq_true rfl), (Nat.le_of_ble_eq_true rfl)⟩) ⟨pcW.blind, va_recv hKc hPc (ci := 11) (q0 := 0) rfl rfl, pcW.pre hPc hKc hDc⟩ rfl rfl hl.1 rfl (lv_room (Nat.le_of_ble_eq_true rfl)) dX11_total_2 ⟨(Nat.le_of_ble_eq_true rfl), (Nat.le_of_ble_eq_true rfl)⟩)) (fun r_2 hr_2 => ?_)
  obtain rfl : r_2 = 1 := hr_2
  refine lv_if_eq (tgt := 11) hx hb dX11_total_5 (by decide) (fun h => absurd h (by decide)) (fun _ => ?_)
  refine lv_bipush (v := (-2)) hx hb dX11_total_8 (by decide) ?_
  exact W.iret (v := (-2)) hx hb hr (fun t ht hW => ⟨(-2), rfl, rfl, ht⟩) (fun q h => by cases h) dX11_total_10

set_option maxHeartbeats 4000000 in
set_option maxRecDepth 100000 in
theorem c_ring (l : Launch) (dC : Nat → ClassId) (dI : Nat → Nat → Nat) (h0 : Nat) (a0 : Nat) (a1 : Nat) (a2 : Nat) (a3 : Nat) (a4 : Nat) (a5 : Nat) (a6 : Nat) (a7 : Nat) (a8 : Nat) (a9 : Nat) (n0 : Nat) (b0 : Nat) (l0 : Nat) (l1 : Nat) (sz : Nat) (k0 : Int32) (k1 : Int32) : Met l yX11_ring (wT yX11_ring cX11_ring 3 (some .int)) ({ frames := 1, cells := 0, slots := 0, locals := 21 }) (pcW dC dI [.ref h0, .int k0, .int k1] sz [(h0, .inr (11, [.ref a0, .ref a1, .ref a2, .ref a3, .ref a4, .ref a5, .ref a6, .ref a7, .ref a8, .ref a9, .ref n0, .ref b0, .int (-1)])), (n0, .inr (3, [.ref l0, .ref l1, .int 0, .int 0]))] []) (vp_Si (fun r => r = (-2))) 0 0 (fun _ => False) := by
  refine Met.ofW (cc := cX11_ring) (maxL := 3) (ret := (some .int)) (by decide) rfl ?_
  intro p e s m args below meth c s₁ B hml hv
  obtain ⟨rfl, hsz, hP, hK, hD0⟩ := hv
  have hx := B.exec
  have hb := B.bytes
  have hr := B.returns
  have hT : ∀ w ∈ TB, w.before [.ref h0, .int k0, .int k1].toArray s = true := fun w h => atoms_spec (ws := wT yX11_ring cX11_ring 3 (some .int)) B.pre w (List.mem_cons_of_mem _ h)
  have hown : s.vm.findClass RX11 = some m.cls := findClass_of_methodNamed B.named
  have hlocks := B.notSynchronized
  subst hsz
  have hD := hD0
  have hP : va_P (dC, dI) vwCl [(h0, .inr (11, [.ref a0, .ref a1, .ref a2, .ref a3, .ref a4, .ref a5, .ref a6, .ref a7, .ref a8, .ref a9, .ref n0, .ref b0, .int (-1)])), (n0, .inr (3, [.ref l0, .ref l1, .int 0, .int 0]))] s.heap := hP
  have hl := lv_entry ([.ref h0, .int k0, .int k1]) (n := 3) (Nat.le_of_ble_eq_true rfl)
  rw [lg_entry_eq]
  generalize (lg_sl ([.ref h0, .int k0, .int k1]) ++ List.replicate (3 - (lg_sl ([.ref h0, .int k0, .int k1])).length) Slot.unset).toArray = ls at hl ⊢
  have hl : lv_has ls 3 [(0, .ref h0), (1, .int k0), (2, .int k1)] := hl
  refine lv_aload_n hx hb dX11_ring_0 rfl (lv_at hl 0 rfl) ?_
  refine lv_iload_n hx hb dX11_ring_1 rfl (lv_at hl 1 rfl) ?_
  have hPc := hP.sub (ws' := [(h0, .inr (11, [.ref a0, .ref a1, .ref a2, .ref a3, .ref a4, .ref a5, .ref a6, .ref a7, .ref a8, .ref a9, .ref n0, .ref b0, .int (-1)])), (n0, .inr (3, [.ref l0, .ref l1, .int 0, .int 0]))]) [0, 1] rfl
  have hDc := hD.sub (ws' := [(h0, .inr (11, [.ref a0, .ref a1, .ref a2, .ref a3, .ref a4, .ref a5, .ref a6, .ref a7, .ref a8, .ref a9, .ref n0, .ref b0, .int (-1)])), (n0, .inr (3, [.ref l0, .ref l1, .int 0, .int 0]))]) [0, 1] (by decide) rfl
  have hKc := hK.sub (tys' := []) [] rfl
  refine vp_callSi (va_Run.run (va_runV (As := [.int k0]) (rest := []) ⟨hx, hb, hml, hown, hT⟩ (c_noKind l dC dI h0 a0 a1 a2 a3 a4 a5 a6 a7 a8 a9 n0 b0 l0 l1 s.heap.size k0) (cwV 1 hT (gV w606 w608 ws24 w1 w609) rfl rfl rfl (by decide +kernel) ⟨(Nat.le_of_ble_eq_true rfl), (Nat.le_of_ble_eq_true rfl)⟩) ⟨pcW.blind, va_recv hKc hPc (ci := 11) (q0 := 0) rfl rfl, pcW.pre hPc hKc hDc⟩ rfl rfl hl.1 rfl (lv_room (Nat.le_of_ble_eq_true rfl)) dX11_ring_2 ⟨(Nat.le_of_ble_eq_true rfl), (Nat.le_of_ble_eq_true rfl)⟩)) (fun r_2 hr_2 => ?_)
  obtain rfl : r_2 = 1 := hr_2
  refine lv_if_eq (tgt := 11) hx hb dX11_ring_5 (by decide) (fun h => absurd h (by decide)) (fun _ => ?_)
  refine lv_bipush (v := (-2)) hx hb dX11_ring_8 (by decide) ?_
  exact W.iret (v := (-2)) hx hb hr (fun t ht hW => ⟨(-2), rfl, rfl, ht⟩) (fun q h => by cases h) dX11_ring_10

set_option maxHeartbeats 4000000 in
set_option maxRecDepth 100000 in
theorem c_load (l : Launch) (dC : Nat → ClassId) (dI : Nat → Nat → Nat) (h0 : Nat) (a0 : Nat) (a1 : Nat) (a2 : Nat) (a3 : Nat) (a4 : Nat) (a5 : Nat) (a6 : Nat) (a7 : Nat) (a8 : Nat) (a9 : Nat) (n0 : Nat) (b0 : Nat) (l0 : Nat) (l1 : Nat) (sz : Nat) (k0 : Int32) : Met l yX11_load (wT yX11_load cX11_load 2 (some .int)) ({ frames := 1, cells := 0, slots := 0, locals := 21 }) (pcW dC dI [.ref h0, .int k0] sz [(h0, .inr (11, [.ref a0, .ref a1, .ref a2, .ref a3, .ref a4, .ref a5, .ref a6, .ref a7, .ref a8, .ref a9, .ref n0, .ref b0, .int (-1)])), (n0, .inr (3, [.ref l0, .ref l1, .int 0, .int 0]))] []) (vp_Si (fun r => r = (-2))) 0 0 (fun _ => False) := by
  refine Met.ofW (cc := cX11_load) (maxL := 2) (ret := (some .int)) (by decide) rfl ?_
  intro p e s m args below meth c s₁ B hml hv
  obtain ⟨rfl, hsz, hP, hK, hD0⟩ := hv
  have hx := B.exec
  have hb := B.bytes
  have hr := B.returns
  have hT : ∀ w ∈ TB, w.before [.ref h0, .int k0].toArray s = true := fun w h => atoms_spec (ws := wT yX11_load cX11_load 2 (some .int)) B.pre w (List.mem_cons_of_mem _ h)
  have hown : s.vm.findClass RX11 = some m.cls := findClass_of_methodNamed B.named
  have hlocks := B.notSynchronized
  subst hsz
  have hD := hD0
  have hP : va_P (dC, dI) vwCl [(h0, .inr (11, [.ref a0, .ref a1, .ref a2, .ref a3, .ref a4, .ref a5, .ref a6, .ref a7, .ref a8, .ref a9, .ref n0, .ref b0, .int (-1)])), (n0, .inr (3, [.ref l0, .ref l1, .int 0, .int 0]))] s.heap := hP
  have hl := lv_entry ([.ref h0, .int k0]) (n := 2) (Nat.le_of_ble_eq_true rfl)
  rw [lg_entry_eq]
  generalize (lg_sl ([.ref h0, .int k0]) ++ List.replicate (2 - (lg_sl ([.ref h0, .int k0])).length) Slot.unset).toArray = ls at hl ⊢
  have hl : lv_has ls 2 [(0, .ref h0), (1, .int k0)] := hl
  refine lv_aload_n hx hb dX11_load_0 rfl (lv_at hl 0 rfl) ?_
  refine lv_iload_n hx hb dX11_load_1 rfl (lv_at hl 1 rfl) ?_
  have hPc := hP.sub (ws' := [(h0, .inr (11, [.ref a0, .ref a1, .ref a2, .ref a3, .ref a4, .ref a5, .ref a6, .ref a7, .ref a8, .ref a9, .ref n0, .ref b0, .int (-1)])), (n0, .inr (3, [.ref l0, .ref l1, .int 0, .int 0]))]) [0, 1] rfl
  have hDc := hD.sub (ws' := [(h0, .inr (11, [.ref a0, .ref a1, .ref a2, .ref a3, .ref a4, .ref a5, .ref a6, .ref a7, .ref a8, .ref a9, .ref n0, .ref b0, .int (-1)])), (n0, .inr (3, [.ref l0, .ref l1, .int 0, .int 0]))]) [0, 1] (by decide) rfl
  have hKc := hK.sub (tys' := []) [] rfl
  refine vp_callSi (va_Run.run (va_runV (As := [.int k0]) (rest := []) ⟨hx, hb, hml, hown, hT⟩ (c_noKind l dC dI h0 a0 a1 a2 a3 a4 a5 a6 a7 a8 a9 n0 b0 l0 l1 s.heap.size k0) (cwV 1 hT (gV w606 w608 ws24 w1 w609) rfl rfl rfl (by decide +kernel) ⟨(Nat.le_of_ble_eq_true rfl), (Nat.le_of_ble_eq_true rfl)⟩) ⟨pcW.blind, va_recv hKc hPc (ci := 11) (q0 := 0) rfl rfl, pcW.pre hPc hKc hDc⟩ rfl rfl hl.1 rfl (lv_room (Nat.le_of_ble_eq_true rfl)) dX11_load_2 ⟨(Nat.le_of_ble_eq_true rfl), (Nat.le_of_ble_eq_true rfl)⟩)) (fun r_2 hr_2 => ?_)
  obtain rfl : r_2 = 1 := hr_2
  refine lv_if_eq (tgt := 11) hx hb dX11_load_5 (by decide) (fun h => absurd h (by decide)) (fun _ => ?_)
  refine lv_bipush (v := (-2)) hx hb dX11_load_8 (by decide) ?_
  exact W.iret (v := (-2)) hx hb hr (fun t ht hW => ⟨(-2), rfl, rfl, ht⟩) (fun q h => by cases h) dX11_load_10

set_option maxHeartbeats 4000000 in
set_option maxRecDepth 100000 in
theorem c_cleared (l : Launch) (dC : Nat → ClassId) (dI : Nat → Nat → Nat) (h0 : Nat) (a0 : Nat) (a1 : Nat) (a2 : Nat) (a3 : Nat) (a4 : Nat) (a5 : Nat) (a6 : Nat) (a7 : Nat) (a8 : Nat) (a9 : Nat) (n0 : Nat) (b0 : Nat) (l0 : Nat) (l1 : Nat) (sz : Nat) (k0 : Int32) (k1 : Int32) : Met l yX11_cleared (wT yX11_cleared cX11_cleared 3 (some .int)) ({ frames := 1, cells := 0, slots := 0, locals := 21 }) (pcW dC dI [.ref h0, .int k0, .int k1] sz [(h0, .inr (11, [.ref a0, .ref a1, .ref a2, .ref a3, .ref a4, .ref a5, .ref a6, .ref a7, .ref a8, .ref a9, .ref n0, .ref b0, .int (-1)])), (n0, .inr (3, [.ref l0, .ref l1, .int 0, .int 0]))] []) (vp_Si (fun r => r = (-2))) 0 0 (fun _ => False) := by
  refine Met.ofW (cc := cX11_cleared) (maxL := 3) (ret := (some .int)) (by decide) rfl ?_
  intro p e s m args below meth c s₁ B hml hv
  obtain ⟨rfl, hsz, hP, hK, hD0⟩ := hv
  have hx := B.exec
  have hb := B.bytes
  have hr := B.returns
  have hT : ∀ w ∈ TB, w.before [.ref h0, .int k0, .int k1].toArray s = true := fun w h => atoms_spec (ws := wT yX11_cleared cX11_cleared 3 (some .int)) B.pre w (List.mem_cons_of_mem _ h)
  have hown : s.vm.findClass RX11 = some m.cls := findClass_of_methodNamed B.named
  have hlocks := B.notSynchronized
  subst hsz
  have hD := hD0
  have hP : va_P (dC, dI) vwCl [(h0, .inr (11, [.ref a0, .ref a1, .ref a2, .ref a3, .ref a4, .ref a5, .ref a6, .ref a7, .ref a8, .ref a9, .ref n0, .ref b0, .int (-1)])), (n0, .inr (3, [.ref l0, .ref l1, .int 0, .int 0]))] s.heap := hP
  have hl := lv_entry ([.ref h0, .int k0, .int k1]) (n := 3) (Nat.le_of_ble_eq_true rfl)
  rw [lg_entry_eq]
  generalize (lg_sl ([.ref h0, .int k0, .int k1]) ++ List.replicate (3 - (lg_sl ([.ref h0, .int k0, .int k1])).length) Slot.unset).toArray = ls at hl ⊢
  have hl : lv_has ls 3 [(0, .ref h0), (1, .int k0), (2, .int k1)] := hl
  refine lv_aload_n hx hb dX11_cleared_0 rfl (lv_at hl 0 rfl) ?_
  refine lv_iload_n hx hb dX11_cleared_1 rfl (lv_at hl 1 rfl) ?_
  have hPc := hP.sub (ws' := [(h0, .inr (11, [.ref a0, .ref a1, .ref a2, .ref a3, .ref a4, .ref a5, .ref a6, .ref a7, .ref a8, .ref a9, .ref n0, .ref b0, .int (-1)])), (n0, .inr (3, [.ref l0, .ref l1, .int 0, .int 0]))]) [0, 1] rfl
  have hDc := hD.sub (ws' := [(h0, .inr (11, [.ref a0, .ref a1, .ref a2, .ref a3, .ref a4, .ref a5, .ref a6, .ref a7, .ref a8, .ref a9, .ref n0, .ref b0, .int (-1)])), (n0, .inr (3, [.ref l0, .ref l1, .int 0, .int 0]))]) [0, 1] (by decide) rfl
  have hKc := hK.sub (tys' := []) [] rfl
  refine vp_callSi (va_Run.run (va_runV (As := [.int k0]) (rest := []) ⟨hx, hb, hml, hown, hT⟩ (c_noKind l dC dI h0 a0 a1 a2 a3 a4 a5 a6 a7 a8 a9 n0 b0 l0 l1 s.heap.size k0) (cwV 1 hT (gV w606 w608 ws24 w1 w609) rfl rfl rfl (by decide +kernel) ⟨(Nat.le_of_ble_eq_true rfl), (Nat.le_of_ble_eq_true rfl)⟩) ⟨pcW.blind, va_recv hKc hPc (ci := 11) (q0 := 0) rfl rfl, pcW.pre hPc hKc hDc⟩ rfl rfl hl.1 rfl (lv_room (Nat.le_of_ble_eq_true rfl)) dX11_cleared_2 ⟨(Nat.le_of_ble_eq_true rfl), (Nat.le_of_ble_eq_true rfl)⟩)) (fun r_2 hr_2 => ?_)
  obtain rfl : r_2 = 1 := hr_2
  refine lv_if_eq (tgt := 11) hx hb dX11_cleared_5 (by decide) (fun h => absurd h (by decide)) (fun _ => ?_)
  refine lv_bipush (v := (-2)) hx hb dX11_cleared_8 (by decide) ?_
  exact W.iret (v := (-2)) hx hb hr (fun t ht hW => ⟨(-2), rfl, rfl, ht⟩) (fun q h => by cases h) dX11_cleared_10

set_option maxHeartbeats 4000000 in
set_option maxRecDepth 100000 in
theorem c_rounds (l : Launch) (dC : Nat → ClassId) (dI : Nat → Nat → Nat) (h0 : Nat) (a0 : Nat) (a1 : Nat) (a2 : Nat) (a3 : Nat) (a4 : Nat) (a5 : Nat) (a6 : Nat) (a7 : Nat) (a8 : Nat) (a9 : Nat) (n0 : Nat) (b0 : Nat) (l0 : Nat) (l1 : Nat) (sz : Nat) (k0 : Int32) (k1 : Int32) : Met l yX11_rounds (wT yX11_rounds cX11_rounds 3 (some .int)) ({ frames := 1, cells := 0, slots := 0, locals := 21 }) (pcW dC dI [.ref h0, .int k0, .int k1] sz [(h0, .inr (11, [.ref a0, .ref a1, .ref a2, .ref a3, .ref a4, .ref a5, .ref a6, .ref a7, .ref a8, .ref a9, .ref n0, .ref b0, .int (-1)])), (n0, .inr (3, [.ref l0, .ref l1, .int 0, .int 0]))] []) (vp_Si (fun r => r = (-2))) 0 0 (fun _ => False) := by
  refine Met.ofW (cc := cX11_rounds) (maxL := 3) (ret := (some .int)) (by decide) rfl ?_
  intro p e s m args below meth c s₁ B hml hv
  obtain ⟨rfl, hsz, hP, hK, hD0⟩ := hv
  have hx := B.exec
  have hb := B.bytes
  have hr := B.returns
  have hT : ∀ w ∈ TB, w.before [.ref h0, .int k0, .int k1].toArray s = true := fun w h => atoms_spec (ws := wT yX11_rounds cX11_rounds 3 (some .int)) B.pre w (List.mem_cons_of_mem _ h)
  have hown : s.vm.findClass RX11 = some m.cls := findClass_of_methodNamed B.named
  have hlocks := B.notSynchronized
  subst hsz
  have hD := hD0
  have hP : va_P (dC, dI) vwCl [(h0, .inr (11, [.ref a0, .ref a1, .ref a2, .ref a3, .ref a4, .ref a5, .ref a6, .ref a7, .ref a8, .ref a9, .ref n0, .ref b0, .int (-1)])), (n0, .inr (3, [.ref l0, .ref l1, .int 0, .int 0]))] s.heap := hP
  have hl := lv_entry ([.ref h0, .int k0, .int k1]) (n := 3) (Nat.le_of_ble_eq_true rfl)
  rw [lg_entry_eq]
  generalize (lg_sl ([.ref h0, .int k0, .int k1]) ++ List.replicate (3 - (lg_sl ([.ref h0, .int k0, .int k1])).length) Slot.unset).toArray = ls at hl ⊢
  have hl : lv_has ls 3 [(0, .ref h0), (1, .int k0), (2, .int k1)] := hl
  refine lv_aload_n hx hb dX11_rounds_0 rfl (lv_at hl 0 rfl) ?_
  refine lv_iload_n hx hb dX11_rounds_1 rfl (lv_at hl 1 rfl) ?_
  have hPc := hP.sub (ws' := [(h0, .inr (11, [.ref a0, .ref a1, .ref a2, .ref a3, .ref a4, .ref a5, .ref a6, .ref a7, .ref a8, .ref a9, .ref n0, .ref b0, .int (-1)])), (n0, .inr (3, [.ref l0, .ref l1, .int 0, .int 0]))]) [0, 1] rfl
  have hDc := hD.sub (ws' := [(h0, .inr (11, [.ref a0, .ref a1, .ref a2, .ref a3, .ref a4, .ref a5, .ref a6, .ref a7, .ref a8, .ref a9, .ref n0, .ref b0, .int (-1)])), (n0, .inr (3, [.ref l0, .ref l1, .int 0, .int 0]))]) [0, 1] (by decide) rfl
  have hKc := hK.sub (tys' := []) [] rfl
  refine vp_callSi (va_Run.run (va_runV (As := [.int k0]) (rest := []) ⟨hx, hb, hml, hown, hT⟩ (c_noKind l dC dI h0 a0 a1 a2 a3 a4 a5 a6 a7 a8 a9 n0 b0 l0 l1 s.heap.size k0) (cwV 1 hT (gV w606 w608 ws24 w1 w609) rfl rfl rfl (by decide +kernel) ⟨(Nat.le_of_ble_eq_true rfl), (Nat.le_of_ble_eq_true rfl)⟩) ⟨pcW.blind, va_recv hKc hPc (ci := 11) (q0 := 0) rfl rfl, pcW.pre hPc hKc hDc⟩ rfl rfl hl.1 rfl (lv_room (Nat.le_of_ble_eq_true rfl)) dX11_rounds_2 ⟨(Nat.le_of_ble_eq_true rfl), (Nat.le_of_ble_eq_true rfl)⟩)) (fun r_2 hr_2 => ?_)
  obtain rfl : r_2 = 1 := hr_2
  refine lv_if_eq (tgt := 11) hx hb dX11_rounds_5 (by decide) (fun h => absurd h (by decide)) (fun _ => ?_)
  refine lv_bipush (v := (-2)) hx hb dX11_rounds_8 (by decide) ?_
  exact W.iret (v := (-2)) hx hb hr (fun t ht hW => ⟨(-2), rfl, rfl, ht⟩) (fun q h => by cases h) dX11_rounds_10

set_option maxHeartbeats 4000000 in
set_option maxRecDepth 100000 in
theorem c_chain (l : Launch) (dC : Nat → ClassId) (dI : Nat → Nat → Nat) (h0 : Nat) (a0 : Nat) (a1 : Nat) (a2 : Nat) (a3 : Nat) (a4 : Nat) (a5 : Nat) (a6 : Nat) (a7 : Nat) (a8 : Nat) (a9 : Nat) (n0 : Nat) (b0 : Nat) (l0 : Nat) (l1 : Nat) (sz : Nat) (k0 : Int32) (k1 : Int32) : Met l yX11_chain (wT yX11_chain cX11_chain 3 (some .int)) ({ frames := 1, cells := 0, slots := 0, locals := 21 }) (pcW dC dI [.ref h0, .int k0, .int k1] sz [(h0, .inr (11, [.ref a0, .ref a1, .ref a2, .ref a3, .ref a4, .ref a5, .ref a6, .ref a7, .ref a8, .ref a9, .ref n0, .ref b0, .int (-1)])), (n0, .inr (3, [.ref l0, .ref l1, .int 0, .int 0]))] []) (vp_Si (fun r => r = (-2))) 0 0 (fun _ => False) := by
  refine Met.ofW (cc := cX11_chain) (maxL := 3) (ret := (some .int)) (by decide) rfl ?_
  intro p e s m args below meth c s₁ B hml hv
  obtain ⟨rfl, hsz, hP, hK, hD0⟩ := hv
  have hx := B.exec
  have hb := B.bytes
  have hr := B.returns
  have hT : ∀ w ∈ TB, w.before [.ref h0, .int k0, .int k1].toArray s = true := fun w h => atoms_spec (ws := wT yX11_chain cX11_chain 3 (some .int)) B.pre w (List.mem_cons_of_mem _ h)
  have hown : s.vm.findClass RX11 = some m.cls := findClass_of_methodNamed B.named
  have hlocks := B.notSynchronized
  subst hsz
  have hD := hD0
  have hP : va_P (dC, dI) vwCl [(h0, .inr (11, [.ref a0, .ref a1, .ref a2, .ref a3, .ref a4, .ref a5, .ref a6, .ref a7, .ref a8, .ref a9, .ref n0, .ref b0, .int (-1)])), (n0, .inr (3, [.ref l0, .ref l1, .int 0, .int 0]))] s.heap := hP
  have hl := lv_entry ([.ref h0, .int k0, .int k1]) (n := 3) (Nat.le_of_ble_eq_true rfl)
  rw [lg_entry_eq]
  generalize (lg_sl ([.ref h0, .int k0, .int k1]) ++ List.replicate (3 - (lg_sl ([.ref h0, .int k0, .int k1])).length) Slot.unset).toArray = ls at hl ⊢
  have hl : lv_has ls 3 [(0, .ref h0), (1, .int k0), (2, .int k1)] := hl
  refine lv_aload_n hx hb dX11_chain_0 rfl (lv_at hl 0 rfl) ?_
  refine lv_iload_n hx hb dX11_chain_1 rfl (lv_at hl 1 rfl) ?_
  have hPc := hP.sub (ws' := [(h0, .inr (11, [.ref a0, .ref a1, .ref a2, .ref a3, .ref a4, .ref a5, .ref a6, .ref a7, .ref a8, .ref a9, .ref n0, .ref b0, .int (-1)])), (n0, .inr (3, [.ref l0, .ref l1, .int 0, .int 0]))]) [0, 1] rfl
  have hDc := hD.sub (ws' := [(h0, .inr (11, [.ref a0, .ref a1, .ref a2, .ref a3, .ref a4, .ref a5, .ref a6, .ref a7, .ref a8, .ref a9, .ref n0, .ref b0, .int (-1)])), (n0, .inr (3, [.ref l0, .ref l1, .int 0, .int 0]))]) [0, 1] (by decide) rfl
  have hKc := hK.sub (tys' := []) [] rfl
  refine vp_callSi (va_Run.run (va_runV (As := [.int k0]) (rest := []) ⟨hx, hb, hml, hown, hT⟩ (c_noKind l dC dI h0 a0 a1 a2 a3 a4 a5 a6 a7 a8 a9 n0 b0 l0 l1 s.heap.size k0) (cwV 1 hT (gV w606 w608 ws24 w1 w609) rfl rfl rfl (by decide +kernel) ⟨(Nat.le_of_ble_eq_true rfl), (Nat.le_of_ble_eq_true rfl)⟩) ⟨pcW.blind, va_recv hKc hPc (ci := 11) (q0 := 0) rfl rfl, pcW.pre hPc hKc hDc⟩ rfl rfl hl.1 rfl (lv_room (Nat.le_of_ble_eq_true rfl)) dX11_chain_2 ⟨(Nat.le_of_ble_eq_true rfl), (Nat.le_of_ble_eq_true rfl)⟩)) (fun r_2 hr_2 => ?_)
  obtain rfl : r_2 = 1 := hr_2
  refine lv_if_eq (tgt := 11) hx hb dX11_chain_5 (by decide) (fun h => absurd h (by decide)) (fun _ => ?_)
  refine lv_bipush (v := (-2)) hx hb dX11_chain_8 (by decide) ?_
  exact W.iret (v := (-2)) hx hb hr (fun t ht hW => ⟨(-2), rfl, rfl, ht⟩) (fun q h => by cases h) dX11_chain_10

set_option maxHeartbeats 4000000 in
set_option maxRecDepth 100000 in
theorem c_least (l : Launch) (dC : Nat → ClassId) (dI : Nat → Nat → Nat) (h0 : Nat) (a0 : Nat) (a1 : Nat) (a2 : Nat) (a3 : Nat) (a4 : Nat) (a5 : Nat) (a6 : Nat) (a7 : Nat) (a8 : Nat) (a9 : Nat) (n0 : Nat) (b0 : Nat) (l0 : Nat) (l1 : Nat) (sz : Nat) (k0 : Int32) : Met l yX11_least (wT yX11_least cX11_least 2 (some .int)) ({ frames := 1, cells := 0, slots := 0, locals := 21 }) (pcW dC dI [.ref h0, .int k0] sz [(h0, .inr (11, [.ref a0, .ref a1, .ref a2, .ref a3, .ref a4, .ref a5, .ref a6, .ref a7, .ref a8, .ref a9, .ref n0, .ref b0, .int (-1)])), (n0, .inr (3, [.ref l0, .ref l1, .int 0, .int 0]))] []) (vp_Si (fun r => r = (-2))) 0 0 (fun _ => False) := by
  refine Met.ofW (cc := cX11_least) (maxL := 2) (ret := (some .int)) (by decide) rfl ?_
  intro p e s m args below meth c s₁ B hml hv
  obtain ⟨rfl, hsz, hP, hK, hD0⟩ := hv
  have hx := B.exec
  have hb := B.bytes
  have hr := B.returns
  have hT : ∀ w ∈ TB, w.before [.ref h0, .int k0].toArray s = true := fun w h => atoms_spec (ws := wT yX11_least cX11_least 2 (some .int)) B.pre w (List.mem_cons_of_mem _ h)
  have hown : s.vm.findClass RX11 = some m.cls := findClass_of_methodNamed B.named
  have hlocks := B.notSynchronized
  subst hsz
  have hD := hD0
  have hP : va_P (dC, dI) vwCl [(h0, .inr (11, [.ref a0, .ref a1, .ref a2, .ref a3, .ref a4, .ref a5, .ref a6, .ref a7, .ref a8, .ref a9, .ref n0, .ref b0, .int (-1)])), (n0, .inr (3, [.ref l0, .ref l1, .int 0, .int 0]))] s.heap := hP
  have hl := lv_entry ([.ref h0, .int k0]) (n := 2) (Nat.le_of_ble_eq_true rfl)
  rw [lg_entry_eq]
  generalize (lg_sl ([.ref h0, .int k0]) ++ List.replicate (2 - (lg_sl ([.ref h0, .int k0])).length) Slot.unset).toArray = ls at hl ⊢
  have hl : lv_has ls 2 [(0, .ref h0), (1, .int k0)] := hl
  refine lv_aload_n hx hb dX11_least_0 rfl (lv_at hl 0 rfl) ?_
  refine lv_iload_n hx hb dX11_least_1 rfl (lv_at hl 1 rfl) ?_
  have hPc := hP.sub (ws' := [(h0, .inr (11, [.ref a0, .ref a1, .ref a2, .ref a3, .ref a4, .ref a5, .ref a6, .ref a7, .ref a8, .ref a9, .ref n0, .ref b0, .int (-1)])), (n0, .inr (3, [.ref l0, .ref l1, .int 0, .int 0]))]) [0, 1] rfl
  have hDc := hD.sub (ws' := [(h0, .inr (11, [.ref a0, .ref a1, .ref a2, .ref a3, .ref a4, .ref a5, .ref a6, .ref a7, .ref a8, .ref a9, .ref n0, .ref b0, .int (-1)])), (n0, .inr (3, [.ref l0, .ref l1, .int 0, .int 0]))]) [0, 1] (by decide) rfl
  have hKc := hK.sub (tys' := []) [] rfl
  refine vp_callSi (va_Run.run (va_runV (As := [.int k0]) (rest := []) ⟨hx, hb, hml, hown, hT⟩ (c_noKind l dC dI h0 a0 a1 a2 a3 a4 a5 a6 a7 a8 a9 n0 b0 l0 l1 s.heap.size k0) (cwV 1 hT (gV w606 w608 ws24 w1 w609) rfl rfl rfl (by decide +kernel) ⟨(Nat.le_of_ble_eq_true rfl), (Nat.le_of_ble_eq_true rfl)⟩) ⟨pcW.blind, va_recv hKc hPc (ci := 11) (q0 := 0) rfl rfl, pcW.pre hPc hKc hDc⟩ rfl rfl hl.1 rfl (lv_room (Nat.le_of_ble_eq_true rfl)) dX11_least_2 ⟨(Nat.le_of_ble_eq_true rfl), (Nat.le_of_ble_eq_true rfl)⟩)) (fun r_2 hr_2 => ?_)
  obtain rfl : r_2 = 1 := hr_2
  refine lv_if_eq (tgt := 11) hx hb dX11_least_5 (by decide) (fun h => absurd h (by decide)) (fun _ => ?_)
  refine lv_bipush (v := (-2)) hx hb dX11_least_8 (by decide) ?_
  exact W.iret (v := (-2)) hx hb hr (fun t ht hW => ⟨(-2), rfl, rfl, ht⟩) (fun q h => by cases h) dX11_least_10

set_option maxHeartbeats 4000000 in
set_option maxRecDepth 100000 in
theorem c_couples (l : Launch) (dC : Nat → ClassId) (dI : Nat → Nat → Nat) (h0 : Nat) (a0 : Nat) (a1 : Nat) (a2 : Nat) (a3 : Nat) (a4 : Nat) (a5 : Nat) (a6 : Nat) (a7 : Nat) (a8 : Nat) (a9 : Nat) (n0 : Nat) (b0 : Nat) (l0 : Nat) (l1 : Nat) (sz : Nat) (k0 : Int32) : Met l yX11_couples (wT yX11_couples cX11_couples 2 (some .int)) ({ frames := 1, cells := 0, slots := 0, locals := 21 }) (pcW dC dI [.ref h0, .int k0] sz [(h0, .inr (11, [.ref a0, .ref a1, .ref a2, .ref a3, .ref a4, .ref a5, .ref a6, .ref a7, .ref a8, .ref a9, .ref n0, .ref b0, .int (-1)])), (n0, .inr (3, [.ref l0, .ref l1, .int 0, .int 0]))] []) (vp_Si (fun r => r = (-2))) 0 0 (fun _ => False) := by
  refine Met.ofW (cc := cX11_couples) (maxL := 2) (ret := (some .int)) (by decide) rfl ?_
  intro p e s m args below meth c s₁ B hml hv
  obtain ⟨rfl, hsz, hP, hK, hD0⟩ := hv
  have hx := B.exec
  have hb := B.bytes
  have hr := B.returns
  have hT : ∀ w ∈ TB, w.before [.ref h0, .int k0].toArray s = true := fun w h => atoms_spec (ws := wT yX11_couples cX11_couples 2 (some .int)) B.pre w (List.mem_cons_of_mem _ h)
  have hown : s.vm.findClass RX11 = some m.cls := findClass_of_methodNamed B.named
  have hlocks := B.notSynchronized
  subst hsz
  have hD := hD0
  have hP : va_P (dC, dI) vwCl [(h0, .inr (11, [.ref a0, .ref a1, .ref a2, .ref a3, .ref a4, .ref a5, .ref a6, .ref a7, .ref a8, .ref a9, .ref n0, .ref b0, .int (-1)])), (n0, .inr (3, [.ref l0, .ref l1, .int 0, .int 0]))] s.heap := hP
  have hl := lv_entry ([.ref h0, .int k0]) (n := 2) (Nat.le_of_ble_eq_true rfl)
  rw [lg_entry_eq]
  generalize (lg_sl ([.ref h0, .int k0]) ++ List.replicate (2 - (lg_sl ([.ref h0, .int k0])).length) Slot.unset).toArray = ls at hl ⊢
  have hl : lv_has ls 2 [(0, .ref h0), (1, .int k0)] := hl
  refine lv_aload_n hx hb dX11_couples_0 rfl (lv_at hl 0 rfl) ?_
  refine lv_iload_n hx hb dX11_couples_1 rfl (lv_at hl 1 rfl) ?_
  have hPc := hP.sub (ws' := [(h0, .inr (11, [.ref a0, .ref a1, .ref a2, .ref a3, .ref a4, .ref a5, .ref a6, .ref a7, .ref a8, .ref a9, .ref n0, .ref b0, .int (-1)])), (n0, .inr (3, [.ref l0, .ref l1, .int 0, .int 0]))]) [0, 1] rfl
  have hDc := hD.sub (ws' := [(h0, .inr (11, [.ref a0, .ref a1, .ref a2, .ref a3, .ref a4, .ref a5, .ref a6, .ref a7, .ref a8, .ref a9, .ref n0, .ref b0, .int (-1)])), (n0, .inr (3, [.ref l0, .ref l1, .int 0, .int 0]))]) [0, 1] (by decide) rfl
  have hKc := hK.sub (tys' := []) [] rfl
  refine vp_callSi (va_Run.run (va_runV (As := [.int k0]) (rest := []) ⟨hx, hb, hml, hown, hT⟩ (c_noKind l dC dI h0 a0 a1 a2 a3 a4 a5 a6 a7 a8 a9 n0 b0 l0 l1 s.heap.size k0) (cwV 1 hT (gV w606 w608 ws24 w1 w609) rfl rfl rfl (by decide +kernel) ⟨(Nat.le_of_ble_eq_true rfl), (Nat.le_of_ble_eq_true rfl)⟩) ⟨pcW.blind, va_recv hKc hPc (ci := 11) (q0 := 0) rfl rfl, pcW.pre hPc hKc hDc⟩ rfl rfl hl.1 rfl (lv_room (Nat.le_of_ble_eq_true rfl)) dX11_couples_2 ⟨(Nat.le_of_ble_eq_true rfl), (Nat.le_of_ble_eq_true rfl)⟩)) (fun r_2 hr_2 => ?_)
  obtain rfl : r_2 = 1 := hr_2
  refine lv_if_eq (tgt := 11) hx hb dX11_couples_5 (by decide) (fun h => absurd h (by decide)) (fun _ => ?_)
  refine lv_bipush (v := (-2)) hx hb dX11_couples_8 (by decide) ?_
  exact W.iret (v := (-2)) hx hb hr (fun t ht hW => ⟨(-2), rfl, rfl, ht⟩) (fun q h => by cases h) dX11_couples_10

set_option maxHeartbeats 4000000 in
set_option maxRecDepth 100000 in
theorem c_relieved (l : Launch) (dC : Nat → ClassId) (dI : Nat → Nat → Nat) (h0 : Nat) (a0 : Nat) (a1 : Nat) (a2 : Nat) (a3 : Nat) (a4 : Nat) (a5 : Nat) (a6 : Nat) (a7 : Nat) (a8 : Nat) (a9 : Nat) (n0 : Nat) (b0 : Nat) (l0 : Nat) (l1 : Nat) (sz : Nat) (k0 : Int32) : Met l yX11_relieved (wT yX11_relieved cX11_relieved 8 (some .int)) ({ frames := 1, cells := 0, slots := 0, locals := 21 }) (pcW dC dI [.ref h0, .int k0] sz [(h0, .inr (11, [.ref a0, .ref a1, .ref a2, .ref a3, .ref a4, .ref a5, .ref a6, .ref a7, .ref a8, .ref a9, .ref n0, .ref b0, .int (-1)])), (n0, .inr (3, [.ref l0, .ref l1, .int 0, .int 0]))] []) (vp_Si (fun r => r = (-2))) 0 0 (fun _ => False) := by
  refine Met.ofW (cc := cX11_relieved) (maxL := 8) (ret := (some .int)) (by decide) rfl ?_
  intro p e s m args below meth c s₁ B hml hv
  obtain ⟨rfl, hsz, hP, hK, hD0⟩ := hv
  have hx := B.exec
  have hb := B.bytes
  have hr := B.returns
  have hT : ∀ w ∈ TB, w.before [.ref h0, .int k0].toArray s = true := fun w h => atoms_spec (ws := wT yX11_relieved cX11_relieved 8 (some .int)) B.pre w (List.mem_cons_of_mem _ h)
  have hown : s.vm.findClass RX11 = some m.cls := findClass_of_methodNamed B.named
  have hlocks := B.notSynchronized
  subst hsz
  have hD := hD0
  have hP : va_P (dC, dI) vwCl [(h0, .inr (11, [.ref a0, .ref a1, .ref a2, .ref a3, .ref a4, .ref a5, .ref a6, .ref a7, .ref a8, .ref a9, .ref n0, .ref b0, .int (-1)])), (n0, .inr (3, [.ref l0, .ref l1, .int 0, .int 0]))] s.heap := hP
  have hl := lv_entry ([.ref h0, .int k0]) (n := 8) (Nat.le_of_ble_eq_true rfl)
  rw [lg_entry_eq]
  generalize (lg_sl ([.ref h0, .int k0]) ++ List.replicate (8 - (lg_sl ([.ref h0, .int k0])).length) Slot.unset).toArray = ls at hl ⊢
  have hl : lv_has ls 8 [(0, .ref h0), (1, .int k0)] := hl
  refine lv_aload_n hx hb dX11_relieved_0 rfl (lv_at hl 0 rfl) ?_
  refine lv_iload_n hx hb dX11_relieved_1 rfl (lv_at hl 1 rfl) ?_
  have hPc := hP.sub (ws' := [(h0, .inr (11, [.ref a0, .ref a1, .ref a2, .ref a3, .ref a4, .ref a5, .ref a6, .ref a7, .ref a8, .ref a9, .ref n0, .ref b0, .int (-1)])), (n0, .inr (3, [.ref l0, .ref l1, .int 0, .int 0]))]) [0, 1] rfl
  have hDc := hD.sub (ws' := [(h0, .inr (11, [.ref a0, .ref a1, .ref a2, .ref a3, .ref a4, .ref a5, .ref a6, .ref a7, .ref a8, .ref a9, .ref n0, .ref b0, .int (-1)])), (n0, .inr (3, [.ref l0, .ref l1, .int 0, .int 0]))]) [0, 1] (by decide) rfl
  have hKc := hK.sub (tys' := []) [] rfl
  refine vp_callSi (va_Run.run (va_runV (As := [.int k0]) (rest := []) ⟨hx, hb, hml, hown, hT⟩ (c_noKind l dC dI h0 a0 a1 a2 a3 a4 a5 a6 a7 a8 a9 n0 b0 l0 l1 s.heap.size k0) (cwV 1 hT (gV w606 w608 ws24 w1 w609) rfl rfl rfl (by decide +kernel) ⟨(Nat.le_of_ble_eq_true rfl), (Nat.le_of_ble_eq_true rfl)⟩) ⟨pcW.blind, va_recv hKc hPc (ci := 11) (q0 := 0) rfl rfl, pcW.pre hPc hKc hDc⟩ rfl rfl hl.1 rfl (lv_room (Nat.le_of_ble_eq_true rfl)) dX11_relieved_2 ⟨(Nat.le_of_ble_eq_true rfl), (Nat.le_of_ble_eq_true rfl)⟩)) (fun r_2 hr_2 => ?_)
  obtain rfl : r_2 = 1 := hr_2
  refine lv_if_eq (tgt := 11) hx hb dX11_relieved_5 (by decide) (fun h => absurd h (by decide)) (fun _ => ?_)
  refine lv_bipush (v := (-2)) hx hb dX11_relieved_8 (by decide) ?_
  exact W.iret (v := (-2)) hx hb hr (fun t ht hW => ⟨(-2), rfl, rfl, ht⟩) (fun q h => by cases h) dX11_relieved_10

set_option maxHeartbeats 4000000 in
set_option maxRecDepth 100000 in
theorem c_fewest (l : Launch) (dC : Nat → ClassId) (dI : Nat → Nat → Nat) (h0 : Nat) (a0 : Nat) (a1 : Nat) (a2 : Nat) (a3 : Nat) (a4 : Nat) (a5 : Nat) (a6 : Nat) (a7 : Nat) (a8 : Nat) (a9 : Nat) (n0 : Nat) (b0 : Nat) (l0 : Nat) (l1 : Nat) (sz : Nat) (k0 : Int32) (k1 : Int32) : Met l yX11_fewest (wT yX11_fewest cX11_fewest 3 (some .int)) ({ frames := 1, cells := 0, slots := 0, locals := 21 }) (pcW dC dI [.ref h0, .int k0, .int k1] sz [(h0, .inr (11, [.ref a0, .ref a1, .ref a2, .ref a3, .ref a4, .ref a5, .ref a6, .ref a7, .ref a8, .ref a9, .ref n0, .ref b0, .int (-1)])), (n0, .inr (3, [.ref l0, .ref l1, .int 0, .int 0]))] []) (vp_Si (fun r => r = (-2))) 0 0 (fun _ => False) := by
  refine Met.ofW (cc := cX11_fewest) (maxL := 3) (ret := (some .int)) (by decide) rfl ?_
  intro p e s m args below meth c s₁ B hml hv
  obtain ⟨rfl, hsz, hP, hK, hD0⟩ := hv
  have hx := B.exec
  have hb := B.bytes
  have hr := B.returns
  have hT : ∀ w ∈ TB, w.before [.ref h0, .int k0, .int k1].toArray s = true := fun w h => atoms_spec (ws := wT yX11_fewest cX11_fewest 3 (some .int)) B.pre w (List.mem_cons_of_mem _ h)
  have hown : s.vm.findClass RX11 = some m.cls := findClass_of_methodNamed B.named
  have hlocks := B.notSynchronized
  subst hsz
  have hD := hD0
  have hP : va_P (dC, dI) vwCl [(h0, .inr (11, [.ref a0, .ref a1, .ref a2, .ref a3, .ref a4, .ref a5, .ref a6, .ref a7, .ref a8, .ref a9, .ref n0, .ref b0, .int (-1)])), (n0, .inr (3, [.ref l0, .ref l1, .int 0, .int 0]))] s.heap := hP
  have hl := lv_entry ([.ref h0, .int k0, .int k1]) (n := 3) (Nat.le_of_ble_eq_true rfl)
  rw [lg_entry_eq]
  generalize (lg_sl ([.ref h0, .int k0, .int k1]) ++ List.replicate (3 - (lg_sl ([.ref h0, .int k0, .int k1])).length) Slot.unset).toArray = ls at hl ⊢
  have hl : lv_has ls 3 [(0, .ref h0), (1, .int k0), (2, .int k1)] := hl
  refine lv_aload_n hx hb dX11_fewest_0 rfl (lv_at hl 0 rfl) ?_
  refine lv_iload_n hx hb dX11_fewest_1 rfl (lv_at hl 1 rfl) ?_
  have hPc := hP.sub (ws' := [(h0, .inr (11, [.ref a0, .ref a1, .ref a2, .ref a3, .ref a4, .ref a5, .ref a6, .ref a7, .ref a8, .ref a9, .ref n0, .ref b0, .int (-1)])), (n0, .inr (3, [.ref l0, .ref l1, .int 0, .int 0]))]) [0, 1] rfl
  have hDc := hD.sub (ws' := [(h0, .inr (11, [.ref a0, .ref a1, .ref a2, .ref a3, .ref a4, .ref a5, .ref a6, .ref a7, .ref a8, .ref a9, .ref n0, .ref b0, .int (-1)])), (n0, .inr (3, [.ref l0, .ref l1, .int 0, .int 0]))]) [0, 1] (by decide) rfl
  have hKc := hK.sub (tys' := []) [] rfl
  refine vp_callSi (va_Run.run (va_runV (As := [.int k0]) (rest := []) ⟨hx, hb, hml, hown, hT⟩ (c_noKind l dC dI h0 a0 a1 a2 a3 a4 a5 a6 a7 a8 a9 n0 b0 l0 l1 s.heap.size k0) (cwV 1 hT (gV w606 w608 ws24 w1 w609) rfl rfl rfl (by decide +kernel) ⟨(Nat.le_of_ble_eq_true rfl), (Nat.le_of_ble_eq_true rfl)⟩) ⟨pcW.blind, va_recv hKc hPc (ci := 11) (q0 := 0) rfl rfl, pcW.pre hPc hKc hDc⟩ rfl rfl hl.1 rfl (lv_room (Nat.le_of_ble_eq_true rfl)) dX11_fewest_2 ⟨(Nat.le_of_ble_eq_true rfl), (Nat.le_of_ble_eq_true rfl)⟩)) (fun r_2 hr_2 => ?_)
  obtain rfl : r_2 = 1 := hr_2
  refine lv_if_eq (tgt := 11) hx hb dX11_fewest_5 (by decide) (fun h => absurd h (by decide)) (fun _ => ?_)
  refine lv_bipush (v := (-2)) hx hb dX11_fewest_8 (by decide) ?_
  exact W.iret (v := (-2)) hx hb hr (fun t ht hW => ⟨(-2), rfl, rfl, ht⟩) (fun q h => by cases h) dX11_fewest_10

set_option maxHeartbeats 4000000 in
set_option maxRecDepth 100000 in
theorem c_even (l : Launch) (dC : Nat → ClassId) (dI : Nat → Nat → Nat) (h0 : Nat) (a0 : Nat) (a1 : Nat) (a2 : Nat) (a3 : Nat) (a4 : Nat) (a5 : Nat) (a6 : Nat) (a7 : Nat) (a8 : Nat) (a9 : Nat) (n0 : Nat) (b0 : Nat) (l0 : Nat) (l1 : Nat) (sz : Nat) (k0 : Int32) (k1 : Int32) : Met l yX11_even (wT yX11_even cX11_even 6 (some .int)) ({ frames := 1, cells := 0, slots := 0, locals := 21 }) (pcW dC dI [.ref h0, .int k0, .int k1] sz [(h0, .inr (11, [.ref a0, .ref a1, .ref a2, .ref a3, .ref a4, .ref a5, .ref a6, .ref a7, .ref a8, .ref a9, .ref n0, .ref b0, .int (-1)])), (n0, .inr (3, [.ref l0, .ref l1, .int 0, .int 0]))] []) (vp_Si (fun r => r = (-2))) 0 0 (fun _ => False) := by
  refine Met.ofW (cc := cX11_even) (maxL := 6) (ret := (some .int)) (by decide) rfl ?_
  intro p e s m args below meth c s₁ B hml hv
  obtain ⟨rfl, hsz, hP, hK, hD0⟩ := hv
  have hx := B.exec
  have hb := B.bytes
  have hr := B.returns
  have hT : ∀ w ∈ TB, w.before [.ref h0, .int k0, .int k1].toArray s = true := fun w h => atoms_spec (ws := wT yX11_even cX11_even 6 (some .int)) B.pre w (List.mem_cons_of_mem _ h)
  have hown : s.vm.findClass RX11 = some m.cls := findClass_of_methodNamed B.named
  have hlocks := B.notSynchronized
  subst hsz
  have hD := hD0
  have hP : va_P (dC, dI) vwCl [(h0, .inr (11, [.ref a0, .ref a1, .ref a2, .ref a3, .ref a4, .ref a5, .ref a6, .ref a7, .ref a8, .ref a9, .ref n0, .ref b0, .int (-1)])), (n0, .inr (3, [.ref l0, .ref l1, .int 0, .int 0]))] s.heap := hP
  have hl := lv_entry ([.ref h0, .int k0, .int k1]) (n := 6) (Nat.le_of_ble_eq_true rfl)
  rw [lg_entry_eq]
  generalize (lg_sl ([.ref h0, .int k0, .int k1]) ++ List.replicate (6 - (lg_sl ([.ref h0, .int k0, .int k1])).length) Slot.unset).toArray = ls at hl ⊢
  have hl : lv_has ls 6 [(0, .ref h0), (1, .int k0), (2, .int k1)] := hl
  refine lv_aload_n hx hb dX11_even_0 rfl (lv_at hl 0 rfl) ?_
  refine lv_iload_n hx hb dX11_even_1 rfl (lv_at hl 2 rfl) ?_
  have hPc := hP.sub (ws' := [(h0, .inr (11, [.ref a0, .ref a1, .ref a2, .ref a3, .ref a4, .ref a5, .ref a6, .ref a7, .ref a8, .ref a9, .ref n0, .ref b0, .int (-1)])), (n0, .inr (3, [.ref l0, .ref l1, .int 0, .int 0]))]) [0, 1] rfl
  have hDc := hD.sub (ws' := [(h0, .inr (11, [.ref a0, .ref a1, .ref a2, .ref a3, .ref a4, .ref a5, .ref a6, .ref a7, .ref a8, .ref a9, .ref n0, .ref b0, .int (-1)])), (n0, .inr (3, [.ref l0, .ref l1, .int 0, .int 0]))]) [0, 1] (by decide) rfl
  have hKc := hK.sub (tys' := []) [] rfl
  refine vp_callSi (va_Run.run (va_runV (As := [.int k1]) (rest := []) ⟨hx, hb, hml, hown, hT⟩ (c_noKind l dC dI h0 a0 a1 a2 a3 a4 a5 a6 a7 a8 a9 n0 b0 l0 l1 s.heap.size k1) (cwV 1 hT (gV w606 w608 ws24 w1 w609) rfl rfl rfl (by decide +kernel) ⟨(Nat.le_of_ble_eq_true rfl), (Nat.le_of_ble_eq_true rfl)⟩) ⟨pcW.blind, va_recv hKc hPc (ci := 11) (q0 := 0) rfl rfl, pcW.pre hPc hKc hDc⟩ rfl rfl hl.1 rfl (lv_room (Nat.le_of_ble_eq_true rfl)) dX11_even_2 ⟨(Nat.le_of_ble_eq_true rfl), (Nat.le_of_ble_eq_true rfl)⟩)) (fun r_2 hr_2 => ?_)
  obtain rfl : r_2 = 1 := hr_2
  refine lv_if_ne (tgt := 20) hx hb dX11_even_5 (by decide) (fun _ => ?_) (fun h => absurd h (by decide))
  refine lv_bipush (v := (-2)) hx hb dX11_even_20 (by decide) ?_
  exact W.iret (v := (-2)) hx hb hr (fun t ht hW => ⟨(-2), rfl, rfl, ht⟩) (fun q h => by cases h) dX11_even_22

set_option maxHeartbeats 4000000 in
set_option maxRecDepth 100000 in
theorem c_drop (l : Launch) (dC : Nat → ClassId) (dI : Nat → Nat → Nat) (h0 : Nat) (a0 : Nat) (a1 : Nat) (a2 : Nat) (a3 : Nat) (a4 : Nat) (a5 : Nat) (a6 : Nat) (a7 : Nat) (a8 : Nat) (a9 : Nat) (n0 : Nat) (b0 : Nat) (e0 : Nat) (e1 : Nat) (e2 : Nat) (e3 : Nat) (e4 : Nat) (e5 : Nat) (sz : Nat) (k0 : Int32) : Met l yX11_drop (wT yX11_drop cX11_drop 2 (some .int)) ({ frames := 1, cells := 0, slots := 0, locals := 21 }) (pcW dC dI [.ref h0, .int k0] sz [(h0, .inr (11, [.ref a0, .ref a1, .ref a2, .ref a3, .ref a4, .ref a5, .ref a6, .ref a7, .ref a8, .ref a9, .ref n0, .ref b0, .int (-1)])), (b0, .inr (0, [.ref e0, .ref e1, .ref e2, .ref e3, .ref e4, .ref e5, .int 0, .int 0]))] []) (vp_Si (fun r => r = (-2))) 0 0 (fun _ => False) := by
  refine Met.ofW (cc := cX11_drop) (maxL := 2) (ret := (some .int)) (by decide) rfl ?_
  intro p e s m args below meth c s₁ B hml hv
  obtain ⟨rfl, hsz, hP, hK, hD0⟩ := hv
  have hx := B.exec
  have hb := B.bytes
  have hr := B.returns
  have hT : ∀ w ∈ TB, w.before [.ref h0, .int k0].toArray s = true := fun w h => atoms_spec (ws := wT yX11_drop cX11_drop 2 (some .int)) B.pre w (List.mem_cons_of_mem _ h)
  have hown : s.vm.findClass RX11 = some m.cls := findClass_of_methodNamed B.named
  have hlocks := B.notSynchronized
  subst hsz
  have hD := hD0
  have hP : va_P (dC, dI) vwCl [(h0, .inr (11, [.ref a0, .ref a1, .ref a2, .ref a3, .ref a4, .ref a5, .ref a6, .ref a7, .ref a8, .ref a9, .ref n0, .ref b0, .int (-1)])), (b0, .inr (0, [.ref e0, .ref e1, .ref e2, .ref e3, .ref e4, .ref e5, .int 0, .int 0]))] s.heap := hP
  have hl := lv_entry ([.ref h0, .int k0]) (n := 2) (Nat.le_of_ble_eq_true rfl)
  rw [lg_entry_eq]
  generalize (lg_sl ([.ref h0, .int k0]) ++ List.replicate (2 - (lg_sl ([.ref h0, .int k0])).length) Slot.unset).toArray = ls at hl ⊢
  have hl : lv_has ls 2 [(0, .ref h0), (1, .int k0)] := hl
  refine lv_aload_n hx hb dX11_drop_0 rfl (lv_at hl 0 rfl) ?_
  refine lv_iload_n hx hb dX11_drop_1 rfl (lv_at hl 1 rfl) ?_
  have hPc := hP.sub (ws' := [(h0, .inr (11, [.ref a0, .ref a1, .ref a2, .ref a3, .ref a4, .ref a5, .ref a6, .ref a7, .ref a8, .ref a9, .ref n0, .ref b0, .int (-1)])), (b0, .inr (0, [.ref e0, .ref e1, .ref e2, .ref e3, .ref e4, .ref e5, .int 0, .int 0]))]) [0, 1] rfl
  have hDc := hD.sub (ws' := [(h0, .inr (11, [.ref a0, .ref a1, .ref a2, .ref a3, .ref a4, .ref a5, .ref a6, .ref a7, .ref a8, .ref a9, .ref n0, .ref b0, .int (-1)])), (b0, .inr (0, [.ref e0, .ref e1, .ref e2, .ref e3, .ref e4, .ref e5, .int 0, .int 0]))]) [0, 1] (by decide) rfl
  have hKc := hK.sub (tys' := []) [] rfl
  refine vp_callSi (va_Run.run (va_runV (As := [.int k0]) (rest := []) ⟨hx, hb, hml, hown, hT⟩ (c_noTrade l dC dI h0 a0 a1 a2 a3 a4 a5 a6 a7 a8 a9 n0 b0 e0 e1 e2 e3 e4 e5 s.heap.size k0) (cwV 1 hT (gV w639 w641 ws28 w1 w642) rfl rfl rfl (by decide +kernel) ⟨(Nat.le_of_ble_eq_true rfl), (Nat.le_of_ble_eq_true rfl)⟩) ⟨pcW.blind, va_recv hKc hPc (ci := 11) (q0 := 0) rfl rfl, pcW.pre hPc hKc hDc⟩ rfl rfl hl.1 rfl (lv_room (Nat.le_of_ble_eq_true rfl)) dX11_drop_2 ⟨(Nat.le_of_ble_eq_true rfl), (Nat.le_of_ble_eq_true rfl)⟩)) (fun r_2 hr_2 => ?_)
  obtain rfl : r_2 = 1 := hr_2
  refine lv_if_eq (tgt := 11) hx hb dX11_drop_5 (by decide) (fun h => absurd h (by decide)) (fun _ => ?_)
  refine lv_bipush (v := (-2)) hx hb dX11_drop_8 (by decide) ?_
  exact W.iret (v := (-2)) hx hb hr (fun t ht hW => ⟨(-2), rfl, rfl, ht⟩) (fun q h => by cases h) dX11_drop_10

set_option maxHeartbeats 4000000 in
set_option maxRecDepth 100000 in
theorem c_keep (l : Launch) (dC : Nat → ClassId) (dI : Nat → Nat → Nat) (h0 : Nat) (a0 : Nat) (a1 : Nat) (a2 : Nat) (a3 : Nat) (a4 : Nat) (a5 : Nat) (a6 : Nat) (a7 : Nat) (a8 : Nat) (a9 : Nat) (n0 : Nat) (b0 : Nat) (e0 : Nat) (e1 : Nat) (e2 : Nat) (e3 : Nat) (e4 : Nat) (e5 : Nat) (sz : Nat) (k0 : Int32) : Met l yX11_keep (wT yX11_keep cX11_keep 2 (some .int)) ({ frames := 1, cells := 0, slots := 0, locals := 21 }) (pcW dC dI [.ref h0, .int k0] sz [(h0, .inr (11, [.ref a0, .ref a1, .ref a2, .ref a3, .ref a4, .ref a5, .ref a6, .ref a7, .ref a8, .ref a9, .ref n0, .ref b0, .int (-1)])), (b0, .inr (0, [.ref e0, .ref e1, .ref e2, .ref e3, .ref e4, .ref e5, .int 0, .int 0]))] []) (vp_Si (fun r => r = (-2))) 0 0 (fun _ => False) := by
  refine Met.ofW (cc := cX11_keep) (maxL := 2) (ret := (some .int)) (by decide) rfl ?_
  intro p e s m args below meth c s₁ B hml hv
  obtain ⟨rfl, hsz, hP, hK, hD0⟩ := hv
  have hx := B.exec
  have hb := B.bytes
  have hr := B.returns
  have hT : ∀ w ∈ TB, w.before [.ref h0, .int k0].toArray s = true := fun w h => atoms_spec (ws := wT yX11_keep cX11_keep 2 (some .int)) B.pre w (List.mem_cons_of_mem _ h)
  have hown : s.vm.findClass RX11 = some m.cls := findClass_of_methodNamed B.named
  have hlocks := B.notSynchronized
  subst hsz
  have hD := hD0
  have hP : va_P (dC, dI) vwCl [(h0, .inr (11, [.ref a0, .ref a1, .ref a2, .ref a3, .ref a4, .ref a5, .ref a6, .ref a7, .ref a8, .ref a9, .ref n0, .ref b0, .int (-1)])), (b0, .inr (0, [.ref e0, .ref e1, .ref e2, .ref e3, .ref e4, .ref e5, .int 0, .int 0]))] s.heap := hP
  have hl := lv_entry ([.ref h0, .int k0]) (n := 2) (Nat.le_of_ble_eq_true rfl)
  rw [lg_entry_eq]
  generalize (lg_sl ([.ref h0, .int k0]) ++ List.replicate (2 - (lg_sl ([.ref h0, .int k0])).length) Slot.unset).toArray = ls at hl ⊢
  have hl : lv_has ls 2 [(0, .ref h0), (1, .int k0)] := hl
  refine lv_aload_n hx hb dX11_keep_0 rfl (lv_at hl 0 rfl) ?_
  refine lv_iload_n hx hb dX11_keep_1 rfl (lv_at hl 1 rfl) ?_
  have hPc := hP.sub (ws' := [(h0, .inr (11, [.ref a0, .ref a1, .ref a2, .ref a3, .ref a4, .ref a5, .ref a6, .ref a7, .ref a8, .ref a9, .ref n0, .ref b0, .int (-1)])), (b0, .inr (0, [.ref e0, .ref e1, .ref e2, .ref e3, .ref e4, .ref e5, .int 0, .int 0]))]) [0, 1] rfl
  have hDc := hD.sub (ws' := [(h0, .inr (11, [.ref a0, .ref a1, .ref a2, .ref a3, .ref a4, .ref a5, .ref a6, .ref a7, .ref a8, .ref a9, .ref n0, .ref b0, .int (-1)])), (b0, .inr (0, [.ref e0, .ref e1, .ref e2, .ref e3, .ref e4, .ref e5, .int 0, .int 0]))]) [0, 1] (by decide) rfl
  have hKc := hK.sub (tys' := []) [] rfl
  refine vp_callSi (va_Run.run (va_runV (As := [.int k0]) (rest := []) ⟨hx, hb, hml, hown, hT⟩ (c_noTrade l dC dI h0 a0 a1 a2 a3 a4 a5 a6 a7 a8 a9 n0 b0 e0 e1 e2 e3 e4 e5 s.heap.size k0) (cwV 1 hT (gV w639 w641 ws28 w1 w642) rfl rfl rfl (by decide +kernel) ⟨(Nat.le_of_ble_eq_true rfl), (Nat.le_of_ble_eq_true rfl)⟩) ⟨pcW.blind, va_recv hKc hPc (ci := 11) (q0 := 0) rfl rfl, pcW.pre hPc hKc hDc⟩ rfl rfl hl.1 rfl (lv_room (Nat.le_of_ble_eq_true rfl)) dX11_keep_2 ⟨(Nat.le_of_ble_eq_true rfl), (Nat.le_of_ble_eq_true rfl)⟩)) (fun r_2 hr_2 => ?_)
  obtain rfl : r_2 = 1 := hr_2
  refine lv_if_eq (tgt := 11) hx hb dX11_keep_5 (by decide) (fun h => absurd h (by decide)) (fun _ => ?_)
  refine lv_bipush (v := (-2)) hx hb dX11_keep_8 (by decide) ?_
  exact W.iret (v := (-2)) hx hb hr (fun t ht hW => ⟨(-2), rfl, rfl, ht⟩) (fun q h => by cases h) dX11_keep_10

set_option maxHeartbeats 4000000 in
set_option maxRecDepth 100000 in
theorem c_tradeOf (l : Launch) (dC : Nat → ClassId) (dI : Nat → Nat → Nat) (h0 : Nat) (a0 : Nat) (a1 : Nat) (a2 : Nat) (a3 : Nat) (a4 : Nat) (a5 : Nat) (a6 : Nat) (a7 : Nat) (a8 : Nat) (a9 : Nat) (n0 : Nat) (b0 : Nat) (e0 : Nat) (e1 : Nat) (e2 : Nat) (e3 : Nat) (e4 : Nat) (e5 : Nat) (sz : Nat) (k0 : Int32) (k1 : Int32) : Met l yX11_tradeOf (wT yX11_tradeOf cX11_tradeOf 3 (some .int)) ({ frames := 1, cells := 0, slots := 0, locals := 21 }) (pcW dC dI [.ref h0, .int k0, .int k1] sz [(h0, .inr (11, [.ref a0, .ref a1, .ref a2, .ref a3, .ref a4, .ref a5, .ref a6, .ref a7, .ref a8, .ref a9, .ref n0, .ref b0, .int (-1)])), (b0, .inr (0, [.ref e0, .ref e1, .ref e2, .ref e3, .ref e4, .ref e5, .int 0, .int 0]))] []) (vp_Si (fun r => r = (-2))) 0 0 (fun _ => False) := by
  refine Met.ofW (cc := cX11_tradeOf) (maxL := 3) (ret := (some .int)) (by decide) rfl ?_
  intro p e s m args below meth c s₁ B hml hv
  obtain ⟨rfl, hsz, hP, hK, hD0⟩ := hv
  have hx := B.exec
  have hb := B.bytes
  have hr := B.returns
  have hT : ∀ w ∈ TB, w.before [.ref h0, .int k0, .int k1].toArray s = true := fun w h => atoms_spec (ws := wT yX11_tradeOf cX11_tradeOf 3 (some .int)) B.pre w (List.mem_cons_of_mem _ h)
  have hown : s.vm.findClass RX11 = some m.cls := findClass_of_methodNamed B.named
  have hlocks := B.notSynchronized
  subst hsz
  have hD := hD0
  have hP : va_P (dC, dI) vwCl [(h0, .inr (11, [.ref a0, .ref a1, .ref a2, .ref a3, .ref a4, .ref a5, .ref a6, .ref a7, .ref a8, .ref a9, .ref n0, .ref b0, .int (-1)])), (b0, .inr (0, [.ref e0, .ref e1, .ref e2, .ref e3, .ref e4, .ref e5, .int 0, .int 0]))] s.heap := hP
  have hl := lv_entry ([.ref h0, .int k0, .int k1]) (n := 3) (Nat.le_of_ble_eq_true rfl)
  rw [lg_entry_eq]
  generalize (lg_sl ([.ref h0, .int k0, .int k1]) ++ List.replicate (3 - (lg_sl ([.ref h0, .int k0, .int k1])).length) Slot.unset).toArray = ls at hl ⊢
  have hl : lv_has ls 3 [(0, .ref h0), (1, .int k0), (2, .int k1)] := hl
  refine lv_aload_n hx hb dX11_tradeOf_0 rfl (lv_at hl 0 rfl) ?_
  refine lv_iload_n hx hb dX11_tradeOf_1 rfl (lv_at hl 1 rfl) ?_
  have hPc := hP.sub (ws' := [(h0, .inr (11, [.ref a0, .ref a1, .ref a2, .ref a3, .ref a4, .ref a5, .ref a6, .ref a7, .ref a8, .ref a9, .ref n0, .ref b0, .int (-1)])), (b0, .inr (0, [.ref e0, .ref e1, .ref e2, .ref e3, .ref e4, .ref e5, .int 0, .int 0]))]) [0, 1] rfl
  have hDc := hD.sub (ws' := [(h0, .inr (11, [.ref a0, .ref a1, .ref a2, .ref a3, .ref a4, .ref a5, .ref a6, .ref a7, .ref a8, .ref a9, .ref n0, .ref b0, .int (-1)])), (b0, .inr (0, [.ref e0, .ref e1, .ref e2, .ref e3, .ref e4, .ref e5, .int 0, .int 0]))]) [0, 1] (by decide) rfl
  have hKc := hK.sub (tys' := []) [] rfl
  refine vp_callSi (va_Run.run (va_runV (As := [.int k0]) (rest := []) ⟨hx, hb, hml, hown, hT⟩ (c_noTrade l dC dI h0 a0 a1 a2 a3 a4 a5 a6 a7 a8 a9 n0 b0 e0 e1 e2 e3 e4 e5 s.heap.size k0) (cwV 1 hT (gV w639 w641 ws28 w1 w642) rfl rfl rfl (by decide +kernel) ⟨(Nat.le_of_ble_eq_true rfl), (Nat.le_of_ble_eq_true rfl)⟩) ⟨pcW.blind, va_recv hKc hPc (ci := 11) (q0 := 0) rfl rfl, pcW.pre hPc hKc hDc⟩ rfl rfl hl.1 rfl (lv_room (Nat.le_of_ble_eq_true rfl)) dX11_tradeOf_2 ⟨(Nat.le_of_ble_eq_true rfl), (Nat.le_of_ble_eq_true rfl)⟩)) (fun r_2 hr_2 => ?_)
  obtain rfl : r_2 = 1 := hr_2
  refine lv_if_eq (tgt := 11) hx hb dX11_tradeOf_5 (by decide) (fun h => absurd h (by decide)) (fun _ => ?_)
  refine lv_bipush (v := (-2)) hx hb dX11_tradeOf_8 (by decide) ?_
  exact W.iret (v := (-2)) hx hb hr (fun t ht hW => ⟨(-2), rfl, rfl, ht⟩) (fun q h => by cases h) dX11_tradeOf_10

set_option maxHeartbeats 4000000 in
set_option maxRecDepth 100000 in
theorem c_line (l : Launch) (dC : Nat → ClassId) (dI : Nat → Nat → Nat) (h0 : Nat) (a0 : Nat) (a1 : Nat) (a2 : Nat) (a3 : Nat) (a4 : Nat) (a5 : Nat) (a6 : Nat) (a7 : Nat) (a8 : Nat) (a9 : Nat) (n0 : Nat) (b0 : Nat) (e0 : Nat) (e1 : Nat) (e2 : Nat) (e3 : Nat) (e4 : Nat) (e5 : Nat) (sz : Nat) (k0 : Int32) (k1 : Int32) : Met l yX11_line (wT yX11_line cX11_line 3 (some .int)) ({ frames := 1, cells := 0, slots := 0, locals := 21 }) (pcW dC dI [.ref h0, .int k0, .int k1] sz [(h0, .inr (11, [.ref a0, .ref a1, .ref a2, .ref a3, .ref a4, .ref a5, .ref a6, .ref a7, .ref a8, .ref a9, .ref n0, .ref b0, .int (-1)])), (b0, .inr (0, [.ref e0, .ref e1, .ref e2, .ref e3, .ref e4, .ref e5, .int 0, .int 0]))] []) (vp_Si (fun r => r = (-2))) 0 0 (fun _ => False) := by
  refine Met.ofW (cc := cX11_line) (maxL := 3) (ret := (some .int)) (by decide) rfl ?_
  intro p e s m args below meth c s₁ B hml hv
  obtain ⟨rfl, hsz, hP, hK, hD0⟩ := hv
  have hx := B.exec
  have hb := B.bytes
  have hr := B.returns
  have hT : ∀ w ∈ TB, w.before [.ref h0, .int k0, .int k1].toArray s = true := fun w h => atoms_spec (ws := wT yX11_line cX11_line 3 (some .int)) B.pre w (List.mem_cons_of_mem _ h)
  have hown : s.vm.findClass RX11 = some m.cls := findClass_of_methodNamed B.named
  have hlocks := B.notSynchronized
  subst hsz
  have hD := hD0
  have hP : va_P (dC, dI) vwCl [(h0, .inr (11, [.ref a0, .ref a1, .ref a2, .ref a3, .ref a4, .ref a5, .ref a6, .ref a7, .ref a8, .ref a9, .ref n0, .ref b0, .int (-1)])), (b0, .inr (0, [.ref e0, .ref e1, .ref e2, .ref e3, .ref e4, .ref e5, .int 0, .int 0]))] s.heap := hP
  have hl := lv_entry ([.ref h0, .int k0, .int k1]) (n := 3) (Nat.le_of_ble_eq_true rfl)
  rw [lg_entry_eq]
  generalize (lg_sl ([.ref h0, .int k0, .int k1]) ++ List.replicate (3 - (lg_sl ([.ref h0, .int k0, .int k1])).length) Slot.unset).toArray = ls at hl ⊢
  have hl : lv_has ls 3 [(0, .ref h0), (1, .int k0), (2, .int k1)] := hl
  refine lv_aload_n hx hb dX11_line_0 rfl (lv_at hl 0 rfl) ?_
  refine lv_iload_n hx hb dX11_line_1 rfl (lv_at hl 1 rfl) ?_
  have hPc := hP.sub (ws' := [(h0, .inr (11, [.ref a0, .ref a1, .ref a2, .ref a3, .ref a4, .ref a5, .ref a6, .ref a7, .ref a8, .ref a9, .ref n0, .ref b0, .int (-1)])), (b0, .inr (0, [.ref e0, .ref e1, .ref e2, .ref e3, .ref e4, .ref e5, .int 0, .int 0]))]) [0, 1] rfl
  have hDc := hD.sub (ws' := [(h0, .inr (11, [.ref a0, .ref a1, .ref a2, .ref a3, .ref a4, .ref a5, .ref a6, .ref a7, .ref a8, .ref a9, .ref n0, .ref b0, .int (-1)])), (b0, .inr (0, [.ref e0, .ref e1, .ref e2, .ref e3, .ref e4, .ref e5, .int 0, .int 0]))]) [0, 1] (by decide) rfl
  have hKc := hK.sub (tys' := []) [] rfl
  refine vp_callSi (va_Run.run (va_runV (As := [.int k0]) (rest := []) ⟨hx, hb, hml, hown, hT⟩ (c_noTrade l dC dI h0 a0 a1 a2 a3 a4 a5 a6 a7 a8 a9 n0 b0 e0 e1 e2 e3 e4 e5 s.heap.size k0) (cwV 1 hT (gV w639 w641 ws28 w1 w642) rfl rfl rfl (by decide +kernel) ⟨(Nat.le_of_ble_eq_true rfl), (Nat.le_of_ble_eq_true rfl)⟩) ⟨pcW.blind, va_recv hKc hPc (ci := 11) (q0 := 0) rfl rfl, pcW.pre hPc hKc hDc⟩ rfl rfl hl.1 rfl (lv_room (Nat.le_of_ble_eq_true rfl)) dX11_line_2 ⟨(Nat.le_of_ble_eq_true rfl), (Nat.le_of_ble_eq_true rfl)⟩)) (fun r_2 hr_2 => ?_)
  obtain rfl : r_2 = 1 := hr_2
  refine lv_if_eq (tgt := 11) hx hb dX11_line_5 (by decide) (fun h => absurd h (by decide)) (fun _ => ?_)
  refine lv_bipush (v := (-2)) hx hb dX11_line_8 (by decide) ?_
  exact W.iret (v := (-2)) hx hb hr (fun t ht hW => ⟨(-2), rfl, rfl, ht⟩) (fun q h => by cases h) dX11_line_10
