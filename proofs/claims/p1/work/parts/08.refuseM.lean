set_option maxHeartbeats 4000000 in
set_option maxRecDepth 100000 in
theorem m_trade (l : Launch) (dC : Nat → ClassId) (dI : Nat → Nat → Nat) (m0 : Nat) (g0 : Nat) (g1 : Nat) (g2 : Nat) (g3 : Nat) (g4 : Nat) (g9 : Nat) (g17 : Nat) (g18 : Nat) (g20 : Nat) (g21 : Nat) (g22 : Nat) (g23 : Nat) (g24 : Nat) (g25 : Nat) (g26 : Nat) (g27 : Nat) (g28 : Nat) (g29 : Nat) (g30 : Nat) (sz : Nat) (k0 : Int32) (k1 : Int32) (k2 : Int32) (k3 : Int32) : Met l yX12_trade (wT yX12_trade cX12_trade 5 (some .int)) ({ frames := 3, cells := 0, slots := 0, locals := 68 }) (pcW dC dI [.ref m0, .int k0, .int k1, .int k2, .int k3] sz [(m0, .inr (12, [.ref g0, .ref g1, .ref g2, .ref g3, .ref g4, .int 0, .int 0, .int 0, .int 0, .ref g9, .int 0, .int 0, .int 0, .int 0, .int (-1), .int 0, .int 0, .ref g17, .ref g18, .int 0, .ref g20, .ref g21, .ref g22, .ref g23, .ref g24, .ref g25, .ref g26, .ref g27, .ref g28, .ref g29, .ref g30, .int 0]))] []) (va_Qi (fun (r : Int32) (_ : Unit) => r = (-2)) (fun _ _ => True) (va_A [(m0, .inr (12, [.ref g0, .ref g1, .ref g2, .ref g3, .ref g4, .int 0, .int 0, .int 0, .int 0, .ref g9, .int 0, .int 0, .int 0, .int 0, .int (-1), .int 0, .int 0, .ref g17, .ref g18, .int 0, .ref g20, .ref g21, .ref g22, .ref g23, .ref g24, .ref g25, .ref g26, .ref g27, .ref g28, .ref g29, .ref g30, .int 0]))] sz)) 0 0 (va_A [(m0, .inr (12, [.ref g0, .ref g1, .ref g2, .ref g3, .ref g4, .int 0, .int 0, .int 0, .int 0, .ref g9, .int 0, .int 0, .int 0, .int 0, .int (-1), .int 0, .int 0, .ref g17, .ref g18, .int 0, .ref g20, .ref g21, .ref g22, .ref g23, .ref g24, .ref g25, .ref g26, .ref g27, .ref g28, .ref g29, .ref g30, .int 0]))] sz) := by
  refine Met.ofW (cc := cX12_trade) (maxL := 5) (ret := (some .int)) (by decide) rfl ?_
  intro p e s m args below meth c s₁ B hml hv
  obtain ⟨rfl, hsz, hP, hK, hD0⟩ := hv
  have hx := B.exec
  have hb := B.bytes
  have hr := B.returns
  have hT : ∀ w ∈ TB, w.before [.ref m0, .int k0, .int k1, .int k2, .int k3].toArray s = true := fun w h => atoms_spec (ws := wT yX12_trade cX12_trade 5 (some .int)) B.pre w (List.mem_cons_of_mem _ h)
  have hown : s.vm.findClass RX12 = some m.cls := findClass_of_methodNamed B.named
  have hlocks := B.notSynchronized
  subst hsz
  have hD := hD0.self (sz := s.heap.size)
  generalize hAe : va_A [(m0, .inr (12, [.ref g0, .ref g1, .ref g2, .ref g3, .ref g4, .int 0, .int 0, .int 0, .int 0, .ref g9, .int 0, .int 0, .int 0, .int 0, .int (-1), .int 0, .int 0, .ref g17, .ref g18, .int 0, .ref g20, .ref g21, .ref g22, .ref g23, .ref g24, .ref g25, .ref g26, .ref g27, .ref g28, .ref g29, .ref g30, .int 0]))] s.heap.size = A at hD ⊢
  have hA : ∀ q : Nat, s.heap.size ≤ q → A q := fun q h => by rw [← hAe]; exact Or.inr h
  have hS : va_S A s.heap s.heap [] := va_S.rf
  have hP : va_P (dC, dI) vwCl [(m0, .inr (12, [.ref g0, .ref g1, .ref g2, .ref g3, .ref g4, .int 0, .int 0, .int 0, .int 0, .ref g9, .int 0, .int 0, .int 0, .int 0, .int (-1), .int 0, .int 0, .ref g17, .ref g18, .int 0, .ref g20, .ref g21, .ref g22, .ref g23, .ref g24, .ref g25, .ref g26, .ref g27, .ref g28, .ref g29, .ref g30, .int 0]))] s.heap := hP
  have hl := lv_entry ([.ref m0, .int k0, .int k1, .int k2, .int k3]) (n := 5) (Nat.le_of_ble_eq_true rfl)
  rw [lg_entry_eq]
  generalize (lg_sl ([.ref m0, .int k0, .int k1, .int k2, .int k3]) ++ List.replicate (5 - (lg_sl ([.ref m0, .int k0, .int k1, .int k2, .int k3])).length) Slot.unset).toArray = ls at hl ⊢
  have hl : lv_has ls 5 [(0, .ref m0), (1, .int k0), (2, .int k1), (3, .int k2), (4, .int k3)] := hl
  refine lv_aload_n hx hb dX12_trade_0 rfl (lv_at hl 0 rfl) ?_
  refine lv_iconst (v := 0) hx hb dX12_trade_1 (by decide) ?_
  refine va_put (D := (dC, dI)) (ci := 12) (v := .int 0) (ty := .int) (C := RX12) (T := TX12) (N := 32) hx hb hT iX12 tyX12 tyX12_ok nmX12 hown hK hP hD hS 0 rfl rfl 8 (by decide) (hT _ w1090) (fun _ h9 => h9) rfl (by decide +kernel) rfl rfl (Nat.le_of_ble_eq_true rfl) dX12_trade_2 (fun H locs hP hD hS => ?_)
  have hP : va_P (dC, dI) vwCl [(m0, .inr (12, [.ref g0, .ref g1, .ref g2, .ref g3, .ref g4, .int 0, .int 0, .int 0, .int 0, .ref g9, .int 0, .int 0, .int 0, .int 0, .int (-1), .int 0, .int 0, .ref g17, .ref g18, .int 0, .ref g20, .ref g21, .ref g22, .ref g23, .ref g24, .ref g25, .ref g26, .ref g27, .ref g28, .ref g29, .ref g30, .int 0]))] H := hP
  have hD : va_D A [(m0, .inr (12, [.ref g0, .ref g1, .ref g2, .ref g3, .ref g4, .int 0, .int 0, .int 0, .int 0, .ref g9, .int 0, .int 0, .int 0, .int 0, .int (-1), .int 0, .int 0, .ref g17, .ref g18, .int 0, .ref g20, .ref g21, .ref g22, .ref g23, .ref g24, .ref g25, .ref g26, .ref g27, .ref g28, .ref g29, .ref g30, .int 0]))] := hD
  refine lv_aload_n hx hb dX12_trade_5 rfl (lv_at hl 0 rfl) ?_
  refine lv_iload_n hx hb dX12_trade_6 rfl (lv_at hl 1 rfl) ?_
  refine lv_iload_n hx hb dX12_trade_7 rfl (lv_at hl 2 rfl) ?_
  have hPc := hP.sub (ws' := [(m0, .inr (12, [.ref g0, .ref g1, .ref g2, .ref g3, .ref g4, .int 0, .int 0, .int 0, .int 0, .ref g9, .int 0, .int 0, .int 0, .int 0, .int (-1), .int 0, .int 0, .ref g17, .ref g18, .int 0, .ref g20, .ref g21, .ref g22, .ref g23, .ref g24, .ref g25, .ref g26, .ref g27, .ref g28, .ref g29, .ref g30, .int 0]))]) [0] rfl
  have hDc := hD.sub (ws' := [(m0, .inr (12, [.ref g0, .ref g1, .ref g2, .ref g3, .ref g4, .int 0, .int 0, .int 0, .int 0, .ref g9, .int 0, .int 0, .int 0, .int 0, .int (-1), .int 0, .int 0, .ref g17, .ref g18, .int 0, .ref g20, .ref g21, .ref g22, .ref g23, .ref g24, .ref g25, .ref g26, .ref g27, .ref g28, .ref g29, .ref g30, .int 0]))]) [0] (by decide) rfl
  have hKc := hK.sub (tys' := []) [] rfl
  refine vp_callSi (va_Run.run (va_runV (As := [.int k0, .int k1]) (rest := []) ⟨hx, hb, hml, hown, hT⟩ (m_areTwo l dC dI m0 g0 g1 g2 g3 g4 g9 g17 g18 g20 g21 g22 g23 g24 g25 g26 g27 g28 g29 g30 H.size k0 k1) (cwV 2 hT (gV w1280 w1282 ws72 w14 w1283) rfl rfl rfl (by decide +kernel) ⟨(Nat.le_of_ble_eq_true rfl), (Nat.le_of_ble_eq_true rfl)⟩) ⟨pcW.blind, va_recv hKc hPc (ci := 12) (q0 := 0) rfl rfl, pcW.pre hPc hKc hDc⟩ rfl rfl hl.1 rfl (lv_room (Nat.le_of_ble_eq_true rfl)) dX12_trade_8 ⟨(Nat.le_of_ble_eq_true rfl), (Nat.le_of_ble_eq_true rfl)⟩)) (fun r_8 hr_8 => ?_)
  obtain rfl : r_8 = 0 := hr_8
  refine lv_if_eq (tgt := 23) hx hb dX12_trade_11 (by decide) (fun _ => ?_) (fun h => absurd (by decide) h)
  refine lv_bipush (v := (-2)) hx hb dX12_trade_23 (by decide) ?_
  refine W.widen (k := 0) (n := 0) (Nat.le_of_ble_eq_true rfl) (Nat.le_of_ble_eq_true rfl) ?_
  exact W.iret (v := (-2)) hx hb hr (fun t ht hW => ⟨⟨(-2), (), rfl, rfl, trivial⟩, hS.F ht⟩) hS.2.2 dX12_trade_25

set_option maxHeartbeats 4000000 in
set_option maxRecDepth 100000 in
theorem m_cap (l : Launch) (dC : Nat → ClassId) (dI : Nat → Nat → Nat) (m0 : Nat) (g0 : Nat) (g1 : Nat) (g2 : Nat) (g3 : Nat) (g4 : Nat) (g9 : Nat) (g17 : Nat) (g18 : Nat) (g20 : Nat) (g21 : Nat) (g22 : Nat) (g23 : Nat) (g24 : Nat) (g25 : Nat) (g26 : Nat) (g27 : Nat) (g28 : Nat) (g29 : Nat) (g30 : Nat) (sz : Nat) (k0 : Int32) (k1 : Int32) (k2 : Int32) : Met l yX12_cap (wT yX12_cap cX12_cap 5 (some .int)) ({ frames := 3, cells := 0, slots := 0, locals := 68 }) (pcW dC dI [.ref m0, .int k0, .int k1, .int k2] sz [(m0, .inr (12, [.ref g0, .ref g1, .ref g2, .ref g3, .ref g4, .int 0, .int 0, .int 0, .int 0, .ref g9, .int 0, .int 0, .int 0, .int 0, .int (-1), .int 0, .int 0, .ref g17, .ref g18, .int 0, .ref g20, .ref g21, .ref g22, .ref g23, .ref g24, .ref g25, .ref g26, .ref g27, .ref g28, .ref g29, .ref g30, .int 0]))] []) (va_Qi (fun (r : Int32) (_ : Unit) => r = (-2)) (fun _ _ => True) (va_A [(m0, .inr (12, [.ref g0, .ref g1, .ref g2, .ref g3, .ref g4, .int 0, .int 0, .int 0, .int 0, .ref g9, .int 0, .int 0, .int 0, .int 0, .int (-1), .int 0, .int 0, .ref g17, .ref g18, .int 0, .ref g20, .ref g21, .ref g22, .ref g23, .ref g24, .ref g25, .ref g26, .ref g27, .ref g28, .ref g29, .ref g30, .int 0]))] sz)) 0 0 (va_A [(m0, .inr (12, [.ref g0, .ref g1, .ref g2, .ref g3, .ref g4, .int 0, .int 0, .int 0, .int 0, .ref g9, .int 0, .int 0, .int 0, .int 0, .int (-1), .int 0, .int 0, .ref g17, .ref g18, .int 0, .ref g20, .ref g21, .ref g22, .ref g23, .ref g24, .ref g25, .ref g26, .ref g27, .ref g28, .ref g29, .ref g30, .int 0]))] sz) := by
  refine Met.ofW (cc := cX12_cap) (maxL := 5) (ret := (some .int)) (by decide) rfl ?_
  intro p e s m args below meth c s₁ B hml hv
  obtain ⟨rfl, hsz, hP, hK, hD0⟩ := hv
  have hx := B.exec
  have hb := B.bytes
  have hr := B.returns
  have hT : ∀ w ∈ TB, w.before [.ref m0, .int k0, .int k1, .int k2].toArray s = true := fun w h => atoms_spec (ws := wT yX12_cap cX12_cap 5 (some .int)) B.pre w (List.mem_cons_of_mem _ h)
  have hown : s.vm.findClass RX12 = some m.cls := findClass_of_methodNamed B.named
  have hlocks := B.notSynchronized
  subst hsz
  have hD := hD0.self (sz := s.heap.size)
  generalize hAe : va_A [(m0, .inr (12, [.ref g0, .ref g1, .ref g2, .ref g3, .ref g4, .int 0, .int 0, .int 0, .int 0, .ref g9, .int 0, .int 0, .int 0, .int 0, .int (-1), .int 0, .int 0, .ref g17, .ref g18, .int 0, .ref g20, .ref g21, .ref g22, .ref g23, .ref g24, .ref g25, .ref g26, .ref g27, .ref g28, .ref g29, .ref g30, .int 0]))] s.heap.size = A at hD ⊢
  have hA : ∀ q : Nat, s.heap.size ≤ q → A q := fun q h => by rw [← hAe]; exact Or.inr h
  have hS : va_S A s.heap s.heap [] := va_S.rf
  have hP : va_P (dC, dI) vwCl [(m0, .inr (12, [.ref g0, .ref g1, .ref g2, .ref g3, .ref g4, .int 0, .int 0, .int 0, .int 0, .ref g9, .int 0, .int 0, .int 0, .int 0, .int (-1), .int 0, .int 0, .ref g17, .ref g18, .int 0, .ref g20, .ref g21, .ref g22, .ref g23, .ref g24, .ref g25, .ref g26, .ref g27, .ref g28, .ref g29, .ref g30, .int 0]))] s.heap := hP
  have hl := lv_entry ([.ref m0, .int k0, .int k1, .int k2]) (n := 5) (Nat.le_of_ble_eq_true rfl)
  rw [lg_entry_eq]
  generalize (lg_sl ([.ref m0, .int k0, .int k1, .int k2]) ++ List.replicate (5 - (lg_sl ([.ref m0, .int k0, .int k1, .int k2])).length) Slot.unset).toArray = ls at hl ⊢
  have hl : lv_has ls 5 [(0, .ref m0), (1, .int k0), (2, .int k1), (3, .int k2)] := hl
  refine lv_aload_n hx hb dX12_cap_0 rfl (lv_at hl 0 rfl) ?_
  refine lv_iconst (v := 0) hx hb dX12_cap_1 (by decide) ?_
  refine va_put (D := (dC, dI)) (ci := 12) (v := .int 0) (ty := .int) (C := RX12) (T := TX12) (N := 32) hx hb hT iX12 tyX12 tyX12_ok nmX12 hown hK hP hD hS 0 rfl rfl 8 (by decide) (hT _ w1090) (fun _ h9 => h9) rfl (by decide +kernel) rfl rfl (Nat.le_of_ble_eq_true rfl) dX12_cap_2 (fun H locs hP hD hS => ?_)
  have hP : va_P (dC, dI) vwCl [(m0, .inr (12, [.ref g0, .ref g1, .ref g2, .ref g3, .ref g4, .int 0, .int 0, .int 0, .int 0, .ref g9, .int 0, .int 0, .int 0, .int 0, .int (-1), .int 0, .int 0, .ref g17, .ref g18, .int 0, .ref g20, .ref g21, .ref g22, .ref g23, .ref g24, .ref g25, .ref g26, .ref g27, .ref g28, .ref g29, .ref g30, .int 0]))] H := hP
  have hD : va_D A [(m0, .inr (12, [.ref g0, .ref g1, .ref g2, .ref g3, .ref g4, .int 0, .int 0, .int 0, .int 0, .ref g9, .int 0, .int 0, .int 0, .int 0, .int (-1), .int 0, .int 0, .ref g17, .ref g18, .int 0, .ref g20, .ref g21, .ref g22, .ref g23, .ref g24, .ref g25, .ref g26, .ref g27, .ref g28, .ref g29, .ref g30, .int 0]))] := hD
  refine lv_aload_n hx hb dX12_cap_5 rfl (lv_at hl 0 rfl) ?_
  refine lv_iload_n hx hb dX12_cap_6 rfl (lv_at hl 1 rfl) ?_
  refine lv_iload_n hx hb dX12_cap_7 rfl (lv_at hl 2 rfl) ?_
  have hPc := hP.sub (ws' := [(m0, .inr (12, [.ref g0, .ref g1, .ref g2, .ref g3, .ref g4, .int 0, .int 0, .int 0, .int 0, .ref g9, .int 0, .int 0, .int 0, .int 0, .int (-1), .int 0, .int 0, .ref g17, .ref g18, .int 0, .ref g20, .ref g21, .ref g22, .ref g23, .ref g24, .ref g25, .ref g26, .ref g27, .ref g28, .ref g29, .ref g30, .int 0]))]) [0] rfl
  have hDc := hD.sub (ws' := [(m0, .inr (12, [.ref g0, .ref g1, .ref g2, .ref g3, .ref g4, .int 0, .int 0, .int 0, .int 0, .ref g9, .int 0, .int 0, .int 0, .int 0, .int (-1), .int 0, .int 0, .ref g17, .ref g18, .int 0, .ref g20, .ref g21, .ref g22, .ref g23, .ref g24, .ref g25, .ref g26, .ref g27, .ref g28, .ref g29, .ref g30, .int 0]))]) [0] (by decide) rfl
  have hKc := hK.sub (tys' := []) [] rfl
  refine vp_callSi (va_Run.run (va_runV (As := [.int k0, .int k1]) (rest := []) ⟨hx, hb, hml, hown, hT⟩ (m_areTwo l dC dI m0 g0 g1 g2 g3 g4 g9 g17 g18 g20 g21 g22 g23 g24 g25 g26 g27 g28 g29 g30 H.size k0 k1) (cwV 2 hT (gV w1280 w1282 ws72 w14 w1283) rfl rfl rfl (by decide +kernel) ⟨(Nat.le_of_ble_eq_true rfl), (Nat.le_of_ble_eq_true rfl)⟩) ⟨pcW.blind, va_recv hKc hPc (ci := 12) (q0 := 0) rfl rfl, pcW.pre hPc hKc hDc⟩ rfl rfl hl.1 rfl (lv_room (Nat.le_of_ble_eq_true rfl)) dX12_cap_8 ⟨(Nat.le_of_ble_eq_true rfl), (Nat.le_of_ble_eq_true rfl)⟩)) (fun r_8 hr_8 => ?_)
  obtain rfl : r_8 = 0 := hr_8
  refine lv_if_ne (tgt := 17) hx hb dX12_cap_11 (by decide) (fun h => absurd (by decide) h) (fun _ => ?_)
  refine lv_bipush (v := (-2)) hx hb dX12_cap_14 (by decide) ?_
  refine W.widen (k := 0) (n := 0) (Nat.le_of_ble_eq_true rfl) (Nat.le_of_ble_eq_true rfl) ?_
  exact W.iret (v := (-2)) hx hb hr (fun t ht hW => ⟨⟨(-2), (), rfl, rfl, trivial⟩, hS.F ht⟩) hS.2.2 dX12_cap_16

set_option maxHeartbeats 4000000 in
set_option maxRecDepth 100000 in
theorem m_flow (l : Launch) (dC : Nat → ClassId) (dI : Nat → Nat → Nat) (m0 : Nat) (g0 : Nat) (g1 : Nat) (g2 : Nat) (g3 : Nat) (g4 : Nat) (g9 : Nat) (g17 : Nat) (g18 : Nat) (g20 : Nat) (g21 : Nat) (g22 : Nat) (g23 : Nat) (g24 : Nat) (g25 : Nat) (g26 : Nat) (g27 : Nat) (g28 : Nat) (g29 : Nat) (g30 : Nat) (sz : Nat) (k0 : Int32) (k1 : Int32) (k2 : Int32) : Met l yX12_flow (wT yX12_flow cX12_flow 4 (some .int)) ({ frames := 3, cells := 0, slots := 0, locals := 68 }) (pcW dC dI [.ref m0, .int k0, .int k1, .int k2] sz [(m0, .inr (12, [.ref g0, .ref g1, .ref g2, .ref g3, .ref g4, .int 0, .int 0, .int 0, .int 0, .ref g9, .int 0, .int 0, .int 0, .int 0, .int (-1), .int 0, .int 0, .ref g17, .ref g18, .int 0, .ref g20, .ref g21, .ref g22, .ref g23, .ref g24, .ref g25, .ref g26, .ref g27, .ref g28, .ref g29, .ref g30, .int 0]))] []) (va_Qi (fun (r : Int32) (_ : Unit) => r = (-2)) (fun _ _ => True) (va_A [(m0, .inr (12, [.ref g0, .ref g1, .ref g2, .ref g3, .ref g4, .int 0, .int 0, .int 0, .int 0, .ref g9, .int 0, .int 0, .int 0, .int 0, .int (-1), .int 0, .int 0, .ref g17, .ref g18, .int 0, .ref g20, .ref g21, .ref g22, .ref g23, .ref g24, .ref g25, .ref g26, .ref g27, .ref g28, .ref g29, .ref g30, .int 0]))] sz)) 0 0 (va_A [(m0, .inr (12, [.ref g0, .ref g1, .ref g2, .ref g3, .ref g4, .int 0, .int 0, .int 0, .int 0, .ref g9, .int 0, .int 0, .int 0, .int 0, .int (-1), .int 0, .int 0, .ref g17, .ref g18, .int 0, .ref g20, .ref g21, .ref g22, .ref g23, .ref g24, .ref g25, .ref g26, .ref g27, .ref g28, .ref g29, .ref g30, .int 0]))] sz) := by
  refine Met.ofW (cc := cX12_flow) (maxL := 4) (ret := (some .int)) (by decide) rfl ?_
  intro p e s m args below meth c s₁ B hml hv
  obtain ⟨rfl, hsz, hP, hK, hD0⟩ := hv
  have hx := B.exec
  have hb := B.bytes
  have hr := B.returns
  have hT : ∀ w ∈ TB, w.before [.ref m0, .int k0, .int k1, .int k2].toArray s = true := fun w h => atoms_spec (ws := wT yX12_flow cX12_flow 4 (some .int)) B.pre w (List.mem_cons_of_mem _ h)
  have hown : s.vm.findClass RX12 = some m.cls := findClass_of_methodNamed B.named
  have hlocks := B.notSynchronized
  subst hsz
  have hD := hD0.self (sz := s.heap.size)
  generalize hAe : va_A [(m0, .inr (12, [.ref g0, .ref g1, .ref g2, .ref g3, .ref g4, .int 0, .int 0, .int 0, .int 0, .ref g9, .int 0, .int 0, .int 0, .int 0, .int (-1), .int 0, .int 0, .ref g17, .ref g18, .int 0, .ref g20, .ref g21, .ref g22, .ref g23, .ref g24, .ref g25, .ref g26, .ref g27, .ref g28, .ref g29, .ref g30, .int 0]))] s.heap.size = A at hD ⊢
  have hA : ∀ q : Nat, s.heap.size ≤ q → A q := fun q h => by rw [← hAe]; exact Or.inr h
  have hS : va_S A s.heap s.heap [] := va_S.rf
  have hP : va_P (dC, dI) vwCl [(m0, .inr (12, [.ref g0, .ref g1, .ref g2, .ref g3, .ref g4, .int 0, .int 0, .int 0, .int 0, .ref g9, .int 0, .int 0, .int 0, .int 0, .int (-1), .int 0, .int 0, .ref g17, .ref g18, .int 0, .ref g20, .ref g21, .ref g22, .ref g23, .ref g24, .ref g25, .ref g26, .ref g27, .ref g28, .ref g29, .ref g30, .int 0]))] s.heap := hP
  have hl := lv_entry ([.ref m0, .int k0, .int k1, .int k2]) (n := 4) (Nat.le_of_ble_eq_true rfl)
  rw [lg_entry_eq]
  generalize (lg_sl ([.ref m0, .int k0, .int k1, .int k2]) ++ List.replicate (4 - (lg_sl ([.ref m0, .int k0, .int k1, .int k2])).length) Slot.unset).toArray = ls at hl ⊢
  have hl : lv_has ls 4 [(0, .ref m0), (1, .int k0), (2, .int k1), (3, .int k2)] := hl
  refine lv_aload_n hx hb dX12_flow_0 rfl (lv_at hl 0 rfl) ?_
  refine lv_iconst (v := 0) hx hb dX12_flow_1 (by decide) ?_
  refine va_put (D := (dC, dI)) (ci := 12) (v := .int 0) (ty := .int) (C := RX12) (T := TX12) (N := 32) hx hb hT iX12 tyX12 tyX12_ok nmX12 hown hK hP hD hS 0 rfl rfl 8 (by decide) (hT _ w1090) (fun _ h9 => h9) rfl (by decide +kernel) rfl rfl (Nat.le_of_ble_eq_true rfl) dX12_flow_2 (fun H locs hP hD hS => ?_)
  have hP : va_P (dC, dI) vwCl [(m0, .inr (12, [.ref g0, .ref g1, .ref g2, .ref g3, .ref g4, .int 0, .int 0, .int 0, .int 0, .ref g9, .int 0, .int 0, .int 0, .int 0, .int (-1), .int 0, .int 0, .ref g17, .ref g18, .int 0, .ref g20, .ref g21, .ref g22, .ref g23, .ref g24, .ref g25, .ref g26, .ref g27, .ref g28, .ref g29, .ref g30, .int 0]))] H := hP
  have hD : va_D A [(m0, .inr (12, [.ref g0, .ref g1, .ref g2, .ref g3, .ref g4, .int 0, .int 0, .int 0, .int 0, .ref g9, .int 0, .int 0, .int 0, .int 0, .int (-1), .int 0, .int 0, .ref g17, .ref g18, .int 0, .ref g20, .ref g21, .ref g22, .ref g23, .ref g24, .ref g25, .ref g26, .ref g27, .ref g28, .ref g29, .ref g30, .int 0]))] := hD
  refine lv_aload_n hx hb dX12_flow_5 rfl (lv_at hl 0 rfl) ?_
  refine lv_iload_n hx hb dX12_flow_6 rfl (lv_at hl 1 rfl) ?_
  refine lv_iload_n hx hb dX12_flow_7 rfl (lv_at hl 2 rfl) ?_
  have hPc := hP.sub (ws' := [(m0, .inr (12, [.ref g0, .ref g1, .ref g2, .ref g3, .ref g4, .int 0, .int 0, .int 0, .int 0, .ref g9, .int 0, .int 0, .int 0, .int 0, .int (-1), .int 0, .int 0, .ref g17, .ref g18, .int 0, .ref g20, .ref g21, .ref g22, .ref g23, .ref g24, .ref g25, .ref g26, .ref g27, .ref g28, .ref g29, .ref g30, .int 0]))]) [0] rfl
  have hDc := hD.sub (ws' := [(m0, .inr (12, [.ref g0, .ref g1, .ref g2, .ref g3, .ref g4, .int 0, .int 0, .int 0, .int 0, .ref g9, .int 0, .int 0, .int 0, .int 0, .int (-1), .int 0, .int 0, .ref g17, .ref g18, .int 0, .ref g20, .ref g21, .ref g22, .ref g23, .ref g24, .ref g25, .ref g26, .ref g27, .ref g28, .ref g29, .ref g30, .int 0]))]) [0] (by decide) rfl
  have hKc := hK.sub (tys' := []) [] rfl
  refine vp_callSi (va_Run.run (va_runV (As := [.int k0, .int k1]) (rest := []) ⟨hx, hb, hml, hown, hT⟩ (m_areTwo l dC dI m0 g0 g1 g2 g3 g4 g9 g17 g18 g20 g21 g22 g23 g24 g25 g26 g27 g28 g29 g30 H.size k0 k1) (cwV 2 hT (gV w1280 w1282 ws72 w14 w1283) rfl rfl rfl (by decide +kernel) ⟨(Nat.le_of_ble_eq_true rfl), (Nat.le_of_ble_eq_true rfl)⟩) ⟨pcW.blind, va_recv hKc hPc (ci := 12) (q0 := 0) rfl rfl, pcW.pre hPc hKc hDc⟩ rfl rfl hl.1 rfl (lv_room (Nat.le_of_ble_eq_true rfl)) dX12_flow_8 ⟨(Nat.le_of_ble_eq_true rfl), (Nat.le_of_ble_eq_true rfl)⟩)) (fun r_8 hr_8 => ?_)
  obtain rfl : r_8 = 0 := hr_8
  refine lv_if_eq (tgt := 22) hx hb dX12_flow_11 (by decide) (fun _ => ?_) (fun h => absurd (by decide) h)
  refine lv_bipush (v := (-2)) hx hb dX12_flow_22 (by decide) ?_
  refine W.widen (k := 0) (n := 0) (Nat.le_of_ble_eq_true rfl) (Nat.le_of_ble_eq_true rfl) ?_
  exact W.iret (v := (-2)) hx hb hr (fun t ht hW => ⟨⟨(-2), (), rfl, rfl, trivial⟩, hS.F ht⟩) hS.2.2 dX12_flow_24

set_option maxHeartbeats 4000000 in
set_option maxRecDepth 100000 in
theorem m_bound (l : Launch) (dC : Nat → ClassId) (dI : Nat → Nat → Nat) (m0 : Nat) (g0 : Nat) (g1 : Nat) (g2 : Nat) (g3 : Nat) (g4 : Nat) (g9 : Nat) (g17 : Nat) (g18 : Nat) (g20 : Nat) (g21 : Nat) (g22 : Nat) (g23 : Nat) (g24 : Nat) (g25 : Nat) (g26 : Nat) (g27 : Nat) (g28 : Nat) (g29 : Nat) (g30 : Nat) (sz : Nat) (k0 : Int32) (k1 : Int32) (k2 : Int32) : Met l yX12_bound (wT yX12_bound cX12_bound 4 (some .int)) ({ frames := 3, cells := 0, slots := 0, locals := 68 }) (pcW dC dI [.ref m0, .int k0, .int k1, .int k2] sz [(m0, .inr (12, [.ref g0, .ref g1, .ref g2, .ref g3, .ref g4, .int 0, .int 0, .int 0, .int 0, .ref g9, .int 0, .int 0, .int 0, .int 0, .int (-1), .int 0, .int 0, .ref g17, .ref g18, .int 0, .ref g20, .ref g21, .ref g22, .ref g23, .ref g24, .ref g25, .ref g26, .ref g27, .ref g28, .ref g29, .ref g30, .int 0]))] []) (va_Qi (fun (r : Int32) (_ : Unit) => r = (-2)) (fun _ _ => True) (va_A [(m0, .inr (12, [.ref g0, .ref g1, .ref g2, .ref g3, .ref g4, .int 0, .int 0, .int 0, .int 0, .ref g9, .int 0, .int 0, .int 0, .int 0, .int (-1), .int 0, .int 0, .ref g17, .ref g18, .int 0, .ref g20, .ref g21, .ref g22, .ref g23, .ref g24, .ref g25, .ref g26, .ref g27, .ref g28, .ref g29, .ref g30, .int 0]))] sz)) 0 0 (va_A [(m0, .inr (12, [.ref g0, .ref g1, .ref g2, .ref g3, .ref g4, .int 0, .int 0, .int 0, .int 0, .ref g9, .int 0, .int 0, .int 0, .int 0, .int (-1), .int 0, .int 0, .ref g17, .ref g18, .int 0, .ref g20, .ref g21, .ref g22, .ref g23, .ref g24, .ref g25, .ref g26, .ref g27, .ref g28, .ref g29, .ref g30, .int 0]))] sz) := by
  refine Met.ofW (cc := cX12_bound) (maxL := 4) (ret := (some .int)) (by decide) rfl ?_
  intro p e s m args below meth c s₁ B hml hv
  obtain ⟨rfl, hsz, hP, hK, hD0⟩ := hv
  have hx := B.exec
  have hb := B.bytes
  have hr := B.returns
  have hT : ∀ w ∈ TB, w.before [.ref m0, .int k0, .int k1, .int k2].toArray s = true := fun w h => atoms_spec (ws := wT yX12_bound cX12_bound 4 (some .int)) B.pre w (List.mem_cons_of_mem _ h)
  have hown : s.vm.findClass RX12 = some m.cls := findClass_of_methodNamed B.named
  have hlocks := B.notSynchronized
  subst hsz
  have hD := hD0.self (sz := s.heap.size)
  generalize hAe : va_A [(m0, .inr (12, [.ref g0, .ref g1, .ref g2, .ref g3, .ref g4, .int 0, .int 0, .int 0, .int 0, .ref g9, .int 0, .int 0, .int 0, .int 0, .int (-1), .int 0, .int 0, .ref g17, .ref g18, .int 0, .ref g20, .ref g21, .ref g22, .ref g23, .ref g24, .ref g25, .ref g26, .ref g27, .ref g28, .ref g29, .ref g30, .int 0]))] s.heap.size = A at hD ⊢
  have hA : ∀ q : Nat, s.heap.size ≤ q → A q := fun q h => by rw [← hAe]; exact Or.inr h
  have hS : va_S A s.heap s.heap [] := va_S.rf
  have hP : va_P (dC, dI) vwCl [(m0, .inr (12, [.ref g0, .ref g1, .ref g2, .ref g3, .ref g4, .int 0, .int 0, .int 0, .int 0, .ref g9, .int 0, .int 0, .int 0, .int 0, .int (-1), .int 0, .int 0, .ref g17, .ref g18, .int 0, .ref g20, .ref g21, .ref g22, .ref g23, .ref g24, .ref g25, .ref g26, .ref g27, .ref g28, .ref g29, .ref g30, .int 0]))] s.heap := hP
  have hl := lv_entry ([.ref m0, .int k0, .int k1, .int k2]) (n := 4) (Nat.le_of_ble_eq_true rfl)
  rw [lg_entry_eq]
  generalize (lg_sl ([.ref m0, .int k0, .int k1, .int k2]) ++ List.replicate (4 - (lg_sl ([.ref m0, .int k0, .int k1, .int k2])).length) Slot.unset).toArray = ls at hl ⊢
  have hl : lv_has ls 4 [(0, .ref m0), (1, .int k0), (2, .int k1), (3, .int k2)] := hl
  refine lv_aload_n hx hb dX12_bound_0 rfl (lv_at hl 0 rfl) ?_
  refine lv_iconst (v := 0) hx hb dX12_bound_1 (by decide) ?_
  refine va_put (D := (dC, dI)) (ci := 12) (v := .int 0) (ty := .int) (C := RX12) (T := TX12) (N := 32) hx hb hT iX12 tyX12 tyX12_ok nmX12 hown hK hP hD hS 0 rfl rfl 8 (by decide) (hT _ w1090) (fun _ h9 => h9) rfl (by decide +kernel) rfl rfl (Nat.le_of_ble_eq_true rfl) dX12_bound_2 (fun H locs hP hD hS => ?_)
  have hP : va_P (dC, dI) vwCl [(m0, .inr (12, [.ref g0, .ref g1, .ref g2, .ref g3, .ref g4, .int 0, .int 0, .int 0, .int 0, .ref g9, .int 0, .int 0, .int 0, .int 0, .int (-1), .int 0, .int 0, .ref g17, .ref g18, .int 0, .ref g20, .ref g21, .ref g22, .ref g23, .ref g24, .ref g25, .ref g26, .ref g27, .ref g28, .ref g29, .ref g30, .int 0]))] H := hP
  have hD : va_D A [(m0, .inr (12, [.ref g0, .ref g1, .ref g2, .ref g3, .ref g4, .int 0, .int 0, .int 0, .int 0, .ref g9, .int 0, .int 0, .int 0, .int 0, .int (-1), .int 0, .int 0, .ref g17, .ref g18, .int 0, .ref g20, .ref g21, .ref g22, .ref g23, .ref g24, .ref g25, .ref g26, .ref g27, .ref g28, .ref g29, .ref g30, .int 0]))] := hD
  refine lv_aload_n hx hb dX12_bound_5 rfl (lv_at hl 0 rfl) ?_
  refine lv_iload_n hx hb dX12_bound_6 rfl (lv_at hl 1 rfl) ?_
  refine lv_iload_n hx hb dX12_bound_7 rfl (lv_at hl 2 rfl) ?_
  have hPc := hP.sub (ws' := [(m0, .inr (12, [.ref g0, .ref g1, .ref g2, .ref g3, .ref g4, .int 0, .int 0, .int 0, .int 0, .ref g9, .int 0, .int 0, .int 0, .int 0, .int (-1), .int 0, .int 0, .ref g17, .ref g18, .int 0, .ref g20, .ref g21, .ref g22, .ref g23, .ref g24, .ref g25, .ref g26, .ref g27, .ref g28, .ref g29, .ref g30, .int 0]))]) [0] rfl
  have hDc := hD.sub (ws' := [(m0, .inr (12, [.ref g0, .ref g1, .ref g2, .ref g3, .ref g4, .int 0, .int 0, .int 0, .int 0, .ref g9, .int 0, .int 0, .int 0, .int 0, .int (-1), .int 0, .int 0, .ref g17, .ref g18, .int 0, .ref g20, .ref g21, .ref g22, .ref g23, .ref g24, .ref g25, .ref g26, .ref g27, .ref g28, .ref g29, .ref g30, .int 0]))]) [0] (by decide) rfl
  have hKc := hK.sub (tys' := []) [] rfl
  refine vp_callSi (va_Run.run (va_runV (As := [.int k0, .int k1]) (rest := []) ⟨hx, hb, hml, hown, hT⟩ (m_areTwo l dC dI m0 g0 g1 g2 g3 g4 g9 g17 g18 g20 g21 g22 g23 g24 g25 g26 g27 g28 g29 g30 H.size k0 k1) (cwV 2 hT (gV w1280 w1282 ws72 w14 w1283) rfl rfl rfl (by decide +kernel) ⟨(Nat.le_of_ble_eq_true rfl), (Nat.le_of_ble_eq_true rfl)⟩) ⟨pcW.blind, va_recv hKc hPc (ci := 12) (q0 := 0) rfl rfl, pcW.pre hPc hKc hDc⟩ rfl rfl hl.1 rfl (lv_room (Nat.le_of_ble_eq_true rfl)) dX12_bound_8 ⟨(Nat.le_of_ble_eq_true rfl), (Nat.le_of_ble_eq_true rfl)⟩)) (fun r_8 hr_8 => ?_)
  obtain rfl : r_8 = 0 := hr_8
  refine lv_if_eq (tgt := 22) hx hb dX12_bound_11 (by decide) (fun _ => ?_) (fun h => absurd (by decide) h)
  refine lv_bipush (v := (-2)) hx hb dX12_bound_22 (by decide) ?_
  refine W.widen (k := 0) (n := 0) (Nat.le_of_ble_eq_true rfl) (Nat.le_of_ble_eq_true rfl) ?_
  exact W.iret (v := (-2)) hx hb hr (fun t ht hW => ⟨⟨(-2), (), rfl, rfl, trivial⟩, hS.F ht⟩) hS.2.2 dX12_bound_24

set_option maxHeartbeats 4000000 in
set_option maxRecDepth 100000 in
theorem m_pressed (l : Launch) (dC : Nat → ClassId) (dI : Nat → Nat → Nat) (m0 : Nat) (g0 : Nat) (g1 : Nat) (g2 : Nat) (g3 : Nat) (g4 : Nat) (g9 : Nat) (g17 : Nat) (g18 : Nat) (g20 : Nat) (g21 : Nat) (g22 : Nat) (g23 : Nat) (g24 : Nat) (g25 : Nat) (g26 : Nat) (g27 : Nat) (g28 : Nat) (g29 : Nat) (g30 : Nat) (sz : Nat) (k0 : Int32) (k1 : Int32) (k2 : Int32) : Met l yX12_pressed (wT yX12_pressed cX12_pressed 4 (some .int)) ({ frames := 3, cells := 0, slots := 0, locals := 68 }) (pcW dC dI [.ref m0, .int k0, .int k1, .int k2] sz [(m0, .inr (12, [.ref g0, .ref g1, .ref g2, .ref g3, .ref g4, .int 0, .int 0, .int 0, .int 0, .ref g9, .int 0, .int 0, .int 0, .int 0, .int (-1), .int 0, .int 0, .ref g17, .ref g18, .int 0, .ref g20, .ref g21, .ref g22, .ref g23, .ref g24, .ref g25, .ref g26, .ref g27, .ref g28, .ref g29, .ref g30, .int 0]))] []) (va_Qi (fun (r : Int32) (_ : Unit) => r = (-2)) (fun _ _ => True) (va_A [(m0, .inr (12, [.ref g0, .ref g1, .ref g2, .ref g3, .ref g4, .int 0, .int 0, .int 0, .int 0, .ref g9, .int 0, .int 0, .int 0, .int 0, .int (-1), .int 0, .int 0, .ref g17, .ref g18, .int 0, .ref g20, .ref g21, .ref g22, .ref g23, .ref g24, .ref g25, .ref g26, .ref g27, .ref g28, .ref g29, .ref g30, .int 0]))] sz)) 0 0 (va_A [(m0, .inr (12, [.ref g0, .ref g1, .ref g2, .ref g3, .ref g4, .int 0, .int 0, .int 0, .int 0, .ref g9, .int 0, .int 0, .int 0, .int 0, .int (-1), .int 0, .int 0, .ref g17, .ref g18, .int 0, .ref g20, .ref g21, .ref g22, .ref g23, .ref g24, .ref g25, .ref g26, .ref g27, .ref g28, .ref g29, .ref g30, .int 0]))] sz) := by
  refine Met.ofW (cc := cX12_pressed) (maxL := 4) (ret := (some .int)) (by decide) rfl ?_
  intro p e s m args below meth c s₁ B hml hv
  obtain ⟨rfl, hsz, hP, hK, hD0⟩ := hv
  have hx := B.exec
  have hb := B.bytes
  have hr := B.returns
  have hT : ∀ w ∈ TB, w.before [.ref m0, .int k0, .int k1, .int k2].toArray s = true := fun w h => atoms_spec (ws := wT yX12_pressed cX12_pressed 4 (some .int)) B.pre w (List.mem_cons_of_mem _ h)
  have hown : s.vm.findClass RX12 = some m.cls := findClass_of_methodNamed B.named
  have hlocks := B.notSynchronized
  subst hsz
  have hD := hD0.self (sz := s.heap.size)
  generalize hAe : va_A [(m0, .inr (12, [.ref g0, .ref g1, .ref g2, .ref g3, .ref g4, .int 0, .int 0, .int 0, .int 0, .ref g9, .int 0, .int 0, .int 0, .int 0, .int (-1), .int 0, .int 0, .ref g17, .ref g18, .int 0, .ref g20, .ref g21, .ref g22, .ref g23, .ref g24, .ref g25, .ref g26, .ref g27, .ref g28, .ref g29, .ref g30, .int 0]))] s.heap.size = A at hD ⊢
  have hA : ∀ q : Nat, s.heap.size ≤ q → A q := fun q h => by rw [← hAe]; exact Or.inr h
  have hS : va_S A s.heap s.heap [] := va_S.rf
  have hP : va_P (dC, dI) vwCl [(m0, .inr (12, [.ref g0, .ref g1, .ref g2, .ref g3, .ref g4, .int 0, .int 0, .int 0, .int 0, .ref g9, .int 0, .int 0, .int 0, .int 0, .int (-1), .int 0, .int 0, .ref g17, .ref g18, .int 0, .ref g20, .ref g21, .ref g22, .ref g23, .ref g24, .ref g25, .ref g26, .ref g27, .ref g28, .ref g29, .ref g30, .int 0]))] s.heap := hP
  have hl := lv_entry ([.ref m0, .int k0, .int k1, .int k2]) (n := 4) (Nat.le_of_ble_eq_true rfl)
  rw [lg_entry_eq]
  generalize (lg_sl ([.ref m0, .int k0, .int k1, .int k2]) ++ List.replicate (4 - (lg_sl ([.ref m0, .int k0, .int k1, .int k2])).length) Slot.unset).toArray = ls at hl ⊢
  have hl : lv_has ls 4 [(0, .ref m0), (1, .int k0), (2, .int k1), (3, .int k2)] := hl
  refine lv_aload_n hx hb dX12_pressed_0 rfl (lv_at hl 0 rfl) ?_
  refine lv_iconst (v := 0) hx hb dX12_pressed_1 (by decide) ?_
  refine va_put (D := (dC, dI)) (ci := 12) (v := .int 0) (ty := .int) (C := RX12) (T := TX12) (N := 32) hx hb hT iX12 tyX12 tyX12_ok nmX12 hown hK hP hD hS 0 rfl rfl 8 (by decide) (hT _ w1090) (fun _ h9 => h9) rfl (by decide +kernel) rfl rfl (Nat.le_of_ble_eq_true rfl) dX12_pressed_2 (fun H locs hP hD hS => ?_)
  have hP : va_P (dC, dI) vwCl [(m0, .inr (12, [.ref g0, .ref g1, .ref g2, .ref g3, .ref g4, .int 0, .int 0, .int 0, .int 0, .ref g9, .int 0, .int 0, .int 0, .int 0, .int (-1), .int 0, .int 0, .ref g17, .ref g18, .int 0, .ref g20, .ref g21, .ref g22, .ref g23, .ref g24, .ref g25, .ref g26, .ref g27, .ref g28, .ref g29, .ref g30, .int 0]))] H := hP
  have hD : va_D A [(m0, .inr (12, [.ref g0, .ref g1, .ref g2, .ref g3, .ref g4, .int 0, .int 0, .int 0, .int 0, .ref g9, .int 0, .int 0, .int 0, .int 0, .int (-1), .int 0, .int 0, .ref g17, .ref g18, .int 0, .ref g20, .ref g21, .ref g22, .ref g23, .ref g24, .ref g25, .ref g26, .ref g27, .ref g28, .ref g29, .ref g30, .int 0]))] := hD
  refine lv_aload_n hx hb dX12_pressed_5 rfl (lv_at hl 0 rfl) ?_
  refine lv_iload_n hx hb dX12_pressed_6 rfl (lv_at hl 1 rfl) ?_
  refine lv_iload_n hx hb dX12_pressed_7 rfl (lv_at hl 2 rfl) ?_
  have hPc := hP.sub (ws' := [(m0, .inr (12, [.ref g0, .ref g1, .ref g2, .ref g3, .ref g4, .int 0, .int 0, .int 0, .int 0, .ref g9, .int 0, .int 0, .int 0, .int 0, .int (-1), .int 0, .int 0, .ref g17, .ref g18, .int 0, .ref g20, .ref g21, .ref g22, .ref g23, .ref g24, .ref g25, .ref g26, .ref g27, .ref g28, .ref g29, .ref g30, .int 0]))]) [0] rfl
  have hDc := hD.sub (ws' := [(m0, .inr (12, [.ref g0, .ref g1, .ref g2, .ref g3, .ref g4, .int 0, .int 0, .int 0, .int 0, .ref g9, .int 0, .int 0, .int 0, .int 0, .int (-1), .int 0, .int 0, .ref g17, .ref g18, .int 0, .ref g20, .ref g21, .ref g22, .ref g23, .ref g24, .ref g25, .ref g26, .ref g27, .ref g28, .ref g29, .ref g30, .int 0]))]) [0] (by decide) rfl
  have hKc := hK.sub (tys' := []) [] rfl
  refine vp_callSi (va_Run.run (va_runV (As := [.int k0, .int k1]) (rest := []) ⟨hx, hb, hml, hown, hT⟩ (m_areTwo l dC dI m0 g0 g1 g2 g3 g4 g9 g17 g18 g20 g21 g22 g23 g24 g25 g26 g27 g28 g29 g30 H.size k0 k1) (cwV 2 hT (gV w1280 w1282 ws72 w14 w1283) rfl rfl rfl (by decide +kernel) ⟨(Nat.le_of_ble_eq_true rfl), (Nat.le_of_ble_eq_true rfl)⟩) ⟨pcW.blind, va_recv hKc hPc (ci := 12) (q0 := 0) rfl rfl, pcW.pre hPc hKc hDc⟩ rfl rfl hl.1 rfl (lv_room (Nat.le_of_ble_eq_true rfl)) dX12_pressed_8 ⟨(Nat.le_of_ble_eq_true rfl), (Nat.le_of_ble_eq_true rfl)⟩)) (fun r_8 hr_8 => ?_)
  obtain rfl : r_8 = 0 := hr_8
  refine lv_if_eq (tgt := 22) hx hb dX12_pressed_11 (by decide) (fun _ => ?_) (fun h => absurd (by decide) h)
  refine lv_bipush (v := (-2)) hx hb dX12_pressed_22 (by decide) ?_
  refine W.widen (k := 0) (n := 0) (Nat.le_of_ble_eq_true rfl) (Nat.le_of_ble_eq_true rfl) ?_
  exact W.iret (v := (-2)) hx hb hr (fun t ht hW => ⟨⟨(-2), (), rfl, rfl, trivial⟩, hS.F ht⟩) hS.2.2 dX12_pressed_24

set_option maxHeartbeats 4000000 in
set_option maxRecDepth 100000 in
theorem m_span (l : Launch) (dC : Nat → ClassId) (dI : Nat → Nat → Nat) (m0 : Nat) (g0 : Nat) (g1 : Nat) (g2 : Nat) (g3 : Nat) (g4 : Nat) (g9 : Nat) (g17 : Nat) (g18 : Nat) (g20 : Nat) (g21 : Nat) (g22 : Nat) (g23 : Nat) (g24 : Nat) (g25 : Nat) (g26 : Nat) (g27 : Nat) (g28 : Nat) (g29 : Nat) (g30 : Nat) (sz : Nat) (k0 : Int32) (k1 : Int32) (k2 : Int32) (k3 : Int32) : Met l yX12_span (wT yX12_span cX12_span 5 (some .int)) ({ frames := 3, cells := 0, slots := 0, locals := 68 }) (pcW dC dI [.ref m0, .int k0, .int k1, .int k2, .int k3] sz [(m0, .inr (12, [.ref g0, .ref g1, .ref g2, .ref g3, .ref g4, .int 0, .int 0, .int 0, .int 0, .ref g9, .int 0, .int 0, .int 0, .int 0, .int (-1), .int 0, .int 0, .ref g17, .ref g18, .int 0, .ref g20, .ref g21, .ref g22, .ref g23, .ref g24, .ref g25, .ref g26, .ref g27, .ref g28, .ref g29, .ref g30, .int 0]))] []) (va_Qi (fun (r : Int32) (_ : Unit) => r = (-2)) (fun _ _ => True) (va_A [(m0, .inr (12, [.ref g0, .ref g1, .ref g2, .ref g3, .ref g4, .int 0, .int 0, .int 0, .int 0, .ref g9, .int 0, .int 0, .int 0, .int 0, .int (-1), .int 0, .int 0, .ref g17, .ref g18, .int 0, .ref g20, .ref g21, .ref g22, .ref g23, .ref g24, .ref g25, .ref g26, .ref g27, .ref g28, .ref g29, .ref g30, .int 0]))] sz)) 0 0 (va_A [(m0, .inr (12, [.ref g0, .ref g1, .ref g2, .ref g3, .ref g4, .int 0, .int 0, .int 0, .int 0, .ref g9, .int 0, .int 0, .int 0, .int 0, .int (-1), .int 0, .int 0, .ref g17, .ref g18, .int 0, .ref g20, .ref g21, .ref g22, .ref g23, .ref g24, .ref g25, .ref g26, .ref g27, .ref g28, .ref g29, .ref g30, .int 0]))] sz) := by
  refine Met.ofW (cc := cX12_span) (maxL := 5) (ret := (some .int)) (by decide) rfl ?_
  intro p e s m args below meth c s₁ B hml hv
  obtain ⟨rfl, hsz, hP, hK, hD0⟩ := hv
  have hx := B.exec
  have hb := B.bytes
  have hr := B.returns
  have hT : ∀ w ∈ TB, w.before [.ref m0, .int k0, .int k1, .int k2, .int k3].toArray s = true := fun w h => atoms_spec (ws := wT yX12_span cX12_span 5 (some .int)) B.pre w (List.mem_cons_of_mem _ h)
  have hown : s.vm.findClass RX12 = some m.cls := findClass_of_methodNamed B.named
  have hlocks := B.notSynchronized
  subst hsz
  have hD := hD0.self (sz := s.heap.size)
  generalize hAe : va_A [(m0, .inr (12, [.ref g0, .ref g1, .ref g2, .ref g3, .ref g4, .int 0, .int 0, .int 0, .int 0, .ref g9, .int 0, .int 0, .int 0, .int 0, .int (-1), .int 0, .int 0, .ref g17, .ref g18, .int 0, .ref g20, .ref g21, .ref g22, .ref g23, .ref g24, .ref g25, .ref g26, .ref g27, .ref g28, .ref g29, .ref g30, .int 0]))] s.heap.size = A at hD ⊢
  have hA : ∀ q : Nat, s.heap.size ≤ q → A q := fun q h => by rw [← hAe]; exact Or.inr h
  have hS : va_S A s.heap s.heap [] := va_S.rf
  have hP : va_P (dC, dI) vwCl [(m0, .inr (12, [.ref g0, .ref g1, .ref g2, .ref g3, .ref g4, .int 0, .int 0, .int 0, .int 0, .ref g9, .int 0, .int 0, .int 0, .int 0, .int (-1), .int 0, .int 0, .ref g17, .ref g18, .int 0, .ref g20, .ref g21, .ref g22, .ref g23, .ref g24, .ref g25, .ref g26, .ref g27, .ref g28, .ref g29, .ref g30, .int 0]))] s.heap := hP
  have hl := lv_entry ([.ref m0, .int k0, .int k1, .int k2, .int k3]) (n := 5) (Nat.le_of_ble_eq_true rfl)
  rw [lg_entry_eq]
  generalize (lg_sl ([.ref m0, .int k0, .int k1, .int k2, .int k3]) ++ List.replicate (5 - (lg_sl ([.ref m0, .int k0, .int k1, .int k2, .int k3])).length) Slot.unset).toArray = ls at hl ⊢
  have hl : lv_has ls 5 [(0, .ref m0), (1, .int k0), (2, .int k1), (3, .int k2), (4, .int k3)] := hl
  refine lv_aload_n hx hb dX12_span_0 rfl (lv_at hl 0 rfl) ?_
  refine lv_iconst (v := 0) hx hb dX12_span_1 (by decide) ?_
  refine va_put (D := (dC, dI)) (ci := 12) (v := .int 0) (ty := .int) (C := RX12) (T := TX12) (N := 32) hx hb hT iX12 tyX12 tyX12_ok nmX12 hown hK hP hD hS 0 rfl rfl 8 (by decide) (hT _ w1090) (fun _ h9 => h9) rfl (by decide +kernel) rfl rfl (Nat.le_of_ble_eq_true rfl) dX12_span_2 (fun H locs hP hD hS => ?_)
  have hP : va_P (dC, dI) vwCl [(m0, .inr (12, [.ref g0, .ref g1, .ref g2, .ref g3, .ref g4, .int 0, .int 0, .int 0, .int 0, .ref g9, .int 0, .int 0, .int 0, .int 0, .int (-1), .int 0, .int 0, .ref g17, .ref g18, .int 0, .ref g20, .ref g21, .ref g22, .ref g23, .ref g24, .ref g25, .ref g26, .ref g27, .ref g28, .ref g29, .ref g30, .int 0]))] H := hP
  have hD : va_D A [(m0, .inr (12, [.ref g0, .ref g1, .ref g2, .ref g3, .ref g4, .int 0, .int 0, .int 0, .int 0, .ref g9, .int 0, .int 0, .int 0, .int 0, .int (-1), .int 0, .int 0, .ref g17, .ref g18, .int 0, .ref g20, .ref g21, .ref g22, .ref g23, .ref g24, .ref g25, .ref g26, .ref g27, .ref g28, .ref g29, .ref g30, .int 0]))] := hD
  refine lv_aload_n hx hb dX12_span_5 rfl (lv_at hl 0 rfl) ?_
  refine lv_iload_n hx hb dX12_span_6 rfl (lv_at hl 1 rfl) ?_
  refine lv_iload_n hx hb dX12_span_7 rfl (lv_at hl 2 rfl) ?_
  have hPc := hP.sub (ws' := [(m0, .inr (12, [.ref g0, .ref g1, .ref g2, .ref g3, .ref g4, .int 0, .int 0, .int 0, .int 0, .ref g9, .int 0, .int 0, .int 0, .int 0, .int (-1), .int 0, .int 0, .ref g17, .ref g18, .int 0, .ref g20, .ref g21, .ref g22, .ref g23, .ref g24, .ref g25, .ref g26, .ref g27, .ref g28, .ref g29, .ref g30, .int 0]))]) [0] rfl
  have hDc := hD.sub (ws' := [(m0, .inr (12, [.ref g0, .ref g1, .ref g2, .ref g3, .ref g4, .int 0, .int 0, .int 0, .int 0, .ref g9, .int 0, .int 0, .int 0, .int 0, .int (-1), .int 0, .int 0, .ref g17, .ref g18, .int 0, .ref g20, .ref g21, .ref g22, .ref g23, .ref g24, .ref g25, .ref g26, .ref g27, .ref g28, .ref g29, .ref g30, .int 0]))]) [0] (by decide) rfl
  have hKc := hK.sub (tys' := []) [] rfl
  refine vp_callSi (va_Run.run (va_runV (As := [.int k0, .int k1]) (rest := []) ⟨hx, hb, hml, hown, hT⟩ (m_areTwo l dC dI m0 g0 g1 g2 g3 g4 g9 g17 g18 g20 g21 g22 g23 g24 g25 g26 g27 g28 g29 g30 H.size k0 k1) (cwV 2 hT (gV w1280 w1282 ws72 w14 w1283) rfl rfl rfl (by decide +kernel) ⟨(Nat.le_of_ble_eq_true rfl), (Nat.le_of_ble_eq_true rfl)⟩) ⟨pcW.blind, va_recv hKc hPc (ci := 12) (q0 := 0) rfl rfl, pcW.pre hPc hKc hDc⟩ rfl rfl hl.1 rfl (lv_room (Nat.le_of_ble_eq_true rfl)) dX12_span_8 ⟨(Nat.le_of_ble_eq_true rfl), (Nat.le_of_ble_eq_true rfl)⟩)) (fun r_8 hr_8 => ?_)
  obtain rfl : r_8 = 0 := hr_8
  refine lv_if_eq (tgt := 22) hx hb dX12_span_11 (by decide) (fun _ => ?_) (fun h => absurd (by decide) h)
  refine lv_bipush (v := (-2)) hx hb dX12_span_22 (by decide) ?_
  refine W.widen (k := 0) (n := 0) (Nat.le_of_ble_eq_true rfl) (Nat.le_of_ble_eq_true rfl) ?_
  exact W.iret (v := (-2)) hx hb hr (fun t ht hW => ⟨⟨(-2), (), rfl, rfl, trivial⟩, hS.F ht⟩) hS.2.2 dX12_span_24

set_option maxHeartbeats 4000000 in
set_option maxRecDepth 100000 in
theorem m_gain (l : Launch) (dC : Nat → ClassId) (dI : Nat → Nat → Nat) (m0 : Nat) (g0 : Nat) (g1 : Nat) (g2 : Nat) (g3 : Nat) (g4 : Nat) (g9 : Nat) (g17 : Nat) (g18 : Nat) (g20 : Nat) (g21 : Nat) (g22 : Nat) (g23 : Nat) (g24 : Nat) (g25 : Nat) (g26 : Nat) (g27 : Nat) (g28 : Nat) (g29 : Nat) (g30 : Nat) (sz : Nat) (k0 : Int32) (k1 : Int32) (k2 : Int32) : Met l yX12_gain (wT yX12_gain cX12_gain 5 (some .int)) ({ frames := 3, cells := 0, slots := 0, locals := 68 }) (pcW dC dI [.ref m0, .int k0, .int k1, .int k2] sz [(m0, .inr (12, [.ref g0, .ref g1, .ref g2, .ref g3, .ref g4, .int 0, .int 0, .int 0, .int 0, .ref g9, .int 0, .int 0, .int 0, .int 0, .int (-1), .int 0, .int 0, .ref g17, .ref g18, .int 0, .ref g20, .ref g21, .ref g22, .ref g23, .ref g24, .ref g25, .ref g26, .ref g27, .ref g28, .ref g29, .ref g30, .int 0]))] []) (va_Qi (fun (r : Int32) (_ : Unit) => r = (-2)) (fun _ _ => True) (va_A [(m0, .inr (12, [.ref g0, .ref g1, .ref g2, .ref g3, .ref g4, .int 0, .int 0, .int 0, .int 0, .ref g9, .int 0, .int 0, .int 0, .int 0, .int (-1), .int 0, .int 0, .ref g17, .ref g18, .int 0, .ref g20, .ref g21, .ref g22, .ref g23, .ref g24, .ref g25, .ref g26, .ref g27, .ref g28, .ref g29, .ref g30, .int 0]))] sz)) 0 0 (va_A [(m0, .inr (12, [.ref g0, .ref g1, .ref g2, .ref g3, .ref g4, .int 0, .int 0, .int 0, .int 0, .ref g9, .int 0, .int 0, .int 0, .int 0, .int (-1), .int 0, .int 0, .ref g17, .ref g18, .int 0, .ref g20, .ref g21, .ref g22, .ref g23, .ref g24, .ref g25, .ref g26, .ref g27, .ref g28, .ref g29, .ref g30, .int 0]))] sz) := by
  refine Met.ofW (cc := cX12_gain) (maxL := 5) (ret := (some .int)) (by decide) rfl ?_
  intro p e s m args below meth c s₁ B hml hv
  obtain ⟨rfl, hsz, hP, hK, hD0⟩ := hv
  have hx := B.exec
  have hb := B.bytes
  have hr := B.returns
  have hT : ∀ w ∈ TB, w.before [.ref m0, .int k0, .int k1, .int k2].toArray s = true := fun w h => atoms_spec (ws := wT yX12_gain cX12_gain 5 (some .int)) B.pre w (List.mem_cons_of_mem _ h)
  have hown : s.vm.findClass RX12 = some m.cls := findClass_of_methodNamed B.named
  have hlocks := B.notSynchronized
  subst hsz
  have hD := hD0.self (sz := s.heap.size)
  generalize hAe : va_A [(m0, .inr (12, [.ref g0, .ref g1, .ref g2, .ref g3, .ref g4, .int 0, .int 0, .int 0, .int 0, .ref g9, .int 0, .int 0, .int 0, .int 0, .int (-1), .int 0, .int 0, .ref g17, .ref g18, .int 0, .ref g20, .ref g21, .ref g22, .ref g23, .ref g24, .ref g25, .ref g26, .ref g27, .ref g28, .ref g29, .ref g30, .int 0]))] s.heap.size = A at hD ⊢
  have hA : ∀ q : Nat, s.heap.size ≤ q → A q := fun q h => by rw [← hAe]; exact Or.inr h
  have hS : va_S A s.heap s.heap [] := va_S.rf
  have hP : va_P (dC, dI) vwCl [(m0, .inr (12, [.ref g0, .ref g1, .ref g2, .ref g3, .ref g4, .int 0, .int 0, .int 0, .int 0, .ref g9, .int 0, .int 0, .int 0, .int 0, .int (-1), .int 0, .int 0, .ref g17, .ref g18, .int 0, .ref g20, .ref g21, .ref g22, .ref g23, .ref g24, .ref g25, .ref g26, .ref g27, .ref g28, .ref g29, .ref g30, .int 0]))] s.heap := hP
  have hl := lv_entry ([.ref m0, .int k0, .int k1, .int k2]) (n := 5) (Nat.le_of_ble_eq_true rfl)
  rw [lg_entry_eq]
  generalize (lg_sl ([.ref m0, .int k0, .int k1, .int k2]) ++ List.replicate (5 - (lg_sl ([.ref m0, .int k0, .int k1, .int k2])).length) Slot.unset).toArray = ls at hl ⊢
  have hl : lv_has ls 5 [(0, .ref m0), (1, .int k0), (2, .int k1), (3, .int k2)] := hl
  refine lv_aload_n hx hb dX12_gain_0 rfl (lv_at hl 0 rfl) ?_
  refine lv_iconst (v := 0) hx hb dX12_gain_1 (by decide) ?_
  refine va_put (D := (dC, dI)) (ci := 12) (v := .int 0) (ty := .int) (C := RX12) (T := TX12) (N := 32) hx hb hT iX12 tyX12 tyX12_ok nmX12 hown hK hP hD hS 0 rfl rfl 8 (by decide) (hT _ w1090) (fun _ h9 => h9) rfl (by decide +kernel) rfl rfl (Nat.le_of_ble_eq_true rfl) dX12_gain_2 (fun H locs hP hD hS => ?_)
  have hP : va_P (dC, dI) vwCl [(m0, .inr (12, [.ref g0, .ref g1, .ref g2, .ref g3, .ref g4, .int 0, .int 0, .int 0, .int 0, .ref g9, .int 0, .int 0, .int 0, .int 0, .int (-1), .int 0, .int 0, .ref g17, .ref g18, .int 0, .ref g20, .ref g21, .ref g22, .ref g23, .ref g24, .ref g25, .ref g26, .ref g27, .ref g28, .ref g29, .ref g30, .int 0]))] H := hP
  have hD : va_D A [(m0, .inr (12, [.ref g0, .ref g1, .ref g2, .ref g3, .ref g4, .int 0, .int 0, .int 0, .int 0, .ref g9, .int 0, .int 0, .int 0, .int 0, .int (-1), .int 0, .int 0, .ref g17, .ref g18, .int 0, .ref g20, .ref g21, .ref g22, .ref g23, .ref g24, .ref g25, .ref g26, .ref g27, .ref g28, .ref g29, .ref g30, .int 0]))] := hD
  refine lv_aload_n hx hb dX12_gain_5 rfl (lv_at hl 0 rfl) ?_
  refine lv_iload_n hx hb dX12_gain_6 rfl (lv_at hl 1 rfl) ?_
  refine lv_iload_n hx hb dX12_gain_7 rfl (lv_at hl 2 rfl) ?_
  have hPc := hP.sub (ws' := [(m0, .inr (12, [.ref g0, .ref g1, .ref g2, .ref g3, .ref g4, .int 0, .int 0, .int 0, .int 0, .ref g9, .int 0, .int 0, .int 0, .int 0, .int (-1), .int 0, .int 0, .ref g17, .ref g18, .int 0, .ref g20, .ref g21, .ref g22, .ref g23, .ref g24, .ref g25, .ref g26, .ref g27, .ref g28, .ref g29, .ref g30, .int 0]))]) [0] rfl
  have hDc := hD.sub (ws' := [(m0, .inr (12, [.ref g0, .ref g1, .ref g2, .ref g3, .ref g4, .int 0, .int 0, .int 0, .int 0, .ref g9, .int 0, .int 0, .int 0, .int 0, .int (-1), .int 0, .int 0, .ref g17, .ref g18, .int 0, .ref g20, .ref g21, .ref g22, .ref g23, .ref g24, .ref g25, .ref g26, .ref g27, .ref g28, .ref g29, .ref g30, .int 0]))]) [0] (by decide) rfl
  have hKc := hK.sub (tys' := []) [] rfl
  refine vp_callSi (va_Run.run (va_runV (As := [.int k0, .int k1]) (rest := []) ⟨hx, hb, hml, hown, hT⟩ (m_areTwo l dC dI m0 g0 g1 g2 g3 g4 g9 g17 g18 g20 g21 g22 g23 g24 g25 g26 g27 g28 g29 g30 H.size k0 k1) (cwV 2 hT (gV w1280 w1282 ws72 w14 w1283) rfl rfl rfl (by decide +kernel) ⟨(Nat.le_of_ble_eq_true rfl), (Nat.le_of_ble_eq_true rfl)⟩) ⟨pcW.blind, va_recv hKc hPc (ci := 12) (q0 := 0) rfl rfl, pcW.pre hPc hKc hDc⟩ rfl rfl hl.1 rfl (lv_room (Nat.le_of_ble_eq_true rfl)) dX12_gain_8 ⟨(Nat.le_of_ble_eq_true rfl), (Nat.le_of_ble_eq_true rfl)⟩)) (fun r_8 hr_8 => ?_)
  obtain rfl : r_8 = 0 := hr_8
  refine lv_if_eq (tgt := 22) hx hb dX12_gain_11 (by decide) (fun _ => ?_) (fun h => absurd (by decide) h)
  refine lv_bipush (v := (-2)) hx hb dX12_gain_22 (by decide) ?_
  refine W.widen (k := 0) (n := 0) (Nat.le_of_ble_eq_true rfl) (Nat.le_of_ble_eq_true rfl) ?_
  exact W.iret (v := (-2)) hx hb hr (fun t ht hW => ⟨⟨(-2), (), rfl, rfl, trivial⟩, hS.F ht⟩) hS.2.2 dX12_gain_24

set_option maxHeartbeats 4000000 in
set_option maxRecDepth 100000 in
theorem m_enough (l : Launch) (dC : Nat → ClassId) (dI : Nat → Nat → Nat) (m0 : Nat) (g0 : Nat) (g1 : Nat) (g2 : Nat) (g3 : Nat) (g4 : Nat) (g9 : Nat) (g17 : Nat) (g18 : Nat) (g20 : Nat) (g21 : Nat) (g22 : Nat) (g23 : Nat) (g24 : Nat) (g25 : Nat) (g26 : Nat) (g27 : Nat) (g28 : Nat) (g29 : Nat) (g30 : Nat) (sz : Nat) (k0 : Int32) (k1 : Int32) (k2 : Int32) : Met l yX12_enough (wT yX12_enough cX12_enough 4 (some .int)) ({ frames := 3, cells := 0, slots := 0, locals := 68 }) (pcW dC dI [.ref m0, .int k0, .int k1, .int k2] sz [(m0, .inr (12, [.ref g0, .ref g1, .ref g2, .ref g3, .ref g4, .int 0, .int 0, .int 0, .int 0, .ref g9, .int 0, .int 0, .int 0, .int 0, .int (-1), .int 0, .int 0, .ref g17, .ref g18, .int 0, .ref g20, .ref g21, .ref g22, .ref g23, .ref g24, .ref g25, .ref g26, .ref g27, .ref g28, .ref g29, .ref g30, .int 0]))] []) (va_Qi (fun (r : Int32) (_ : Unit) => r = (-2)) (fun _ _ => True) (va_A [(m0, .inr (12, [.ref g0, .ref g1, .ref g2, .ref g3, .ref g4, .int 0, .int 0, .int 0, .int 0, .ref g9, .int 0, .int 0, .int 0, .int 0, .int (-1), .int 0, .int 0, .ref g17, .ref g18, .int 0, .ref g20, .ref g21, .ref g22, .ref g23, .ref g24, .ref g25, .ref g26, .ref g27, .ref g28, .ref g29, .ref g30, .int 0]))] sz)) 0 0 (va_A [(m0, .inr (12, [.ref g0, .ref g1, .ref g2, .ref g3, .ref g4, .int 0, .int 0, .int 0, .int 0, .ref g9, .int 0, .int 0, .int 0, .int 0, .int (-1), .int 0, .int 0, .ref g17, .ref g18, .int 0, .ref g20, .ref g21, .ref g22, .ref g23, .ref g24, .ref g25, .ref g26, .ref g27, .ref g28, .ref g29, .ref g30, .int 0]))] sz) := by
  refine Met.ofW (cc := cX12_enough) (maxL := 4) (ret := (some .int)) (by decide) rfl ?_
  intro p e s m args below meth c s₁ B hml hv
  obtain ⟨rfl, hsz, hP, hK, hD0⟩ := hv
  have hx := B.exec
  have hb := B.bytes
  have hr := B.returns
  have hT : ∀ w ∈ TB, w.before [.ref m0, .int k0, .int k1, .int k2].toArray s = true := fun w h => atoms_spec (ws := wT yX12_enough cX12_enough 4 (some .int)) B.pre w (List.mem_cons_of_mem _ h)
  have hown : s.vm.findClass RX12 = some m.cls := findClass_of_methodNamed B.named
  have hlocks := B.notSynchronized
  subst hsz
  have hD := hD0.self (sz := s.heap.size)
  generalize hAe : va_A [(m0, .inr (12, [.ref g0, .ref g1, .ref g2, .ref g3, .ref g4, .int 0, .int 0, .int 0, .int 0, .ref g9, .int 0, .int 0, .int 0, .int 0, .int (-1), .int 0, .int 0, .ref g17, .ref g18, .int 0, .ref g20, .ref g21, .ref g22, .ref g23, .ref g24, .ref g25, .ref g26, .ref g27, .ref g28, .ref g29, .ref g30, .int 0]))] s.heap.size = A at hD ⊢
  have hA : ∀ q : Nat, s.heap.size ≤ q → A q := fun q h => by rw [← hAe]; exact Or.inr h
  have hS : va_S A s.heap s.heap [] := va_S.rf
  have hP : va_P (dC, dI) vwCl [(m0, .inr (12, [.ref g0, .ref g1, .ref g2, .ref g3, .ref g4, .int 0, .int 0, .int 0, .int 0, .ref g9, .int 0, .int 0, .int 0, .int 0, .int (-1), .int 0, .int 0, .ref g17, .ref g18, .int 0, .ref g20, .ref g21, .ref g22, .ref g23, .ref g24, .ref g25, .ref g26, .ref g27, .ref g28, .ref g29, .ref g30, .int 0]))] s.heap := hP
  have hl := lv_entry ([.ref m0, .int k0, .int k1, .int k2]) (n := 4) (Nat.le_of_ble_eq_true rfl)
  rw [lg_entry_eq]
  generalize (lg_sl ([.ref m0, .int k0, .int k1, .int k2]) ++ List.replicate (4 - (lg_sl ([.ref m0, .int k0, .int k1, .int k2])).length) Slot.unset).toArray = ls at hl ⊢
  have hl : lv_has ls 4 [(0, .ref m0), (1, .int k0), (2, .int k1), (3, .int k2)] := hl
  refine lv_aload_n hx hb dX12_enough_0 rfl (lv_at hl 0 rfl) ?_
  refine lv_iconst (v := 0) hx hb dX12_enough_1 (by decide) ?_
  refine va_put (D := (dC, dI)) (ci := 12) (v := .int 0) (ty := .int) (C := RX12) (T := TX12) (N := 32) hx hb hT iX12 tyX12 tyX12_ok nmX12 hown hK hP hD hS 0 rfl rfl 8 (by decide) (hT _ w1090) (fun _ h9 => h9) rfl (by decide +kernel) rfl rfl (Nat.le_of_ble_eq_true rfl) dX12_enough_2 (fun H locs hP hD hS => ?_)
  have hP : va_P (dC, dI) vwCl [(m0, .inr (12, [.ref g0, .ref g1, .ref g2, .ref g3, .ref g4, .int 0, .int 0, .int 0, .int 0, .ref g9, .int 0, .int 0, .int 0, .int 0, .int (-1), .int 0, .int 0, .ref g17, .ref g18, .int 0, .ref g20, .ref g21, .ref g22, .ref g23, .ref g24, .ref g25, .ref g26, .ref g27, .ref g28, .ref g29, .ref g30, .int 0]))] H := hP
  have hD : va_D A [(m0, .inr (12, [.ref g0, .ref g1, .ref g2, .ref g3, .ref g4, .int 0, .int 0, .int 0, .int 0, .ref g9, .int 0, .int 0, .int 0, .int 0, .int (-1), .int 0, .int 0, .ref g17, .ref g18, .int 0, .ref g20, .ref g21, .ref g22, .ref g23, .ref g24, .ref g25, .ref g26, .ref g27, .ref g28, .ref g29, .ref g30, .int 0]))] := hD
  refine lv_aload_n hx hb dX12_enough_5 rfl (lv_at hl 0 rfl) ?_
  refine lv_iload_n hx hb dX12_enough_6 rfl (lv_at hl 1 rfl) ?_
  refine lv_iload_n hx hb dX12_enough_7 rfl (lv_at hl 2 rfl) ?_
  have hPc := hP.sub (ws' := [(m0, .inr (12, [.ref g0, .ref g1, .ref g2, .ref g3, .ref g4, .int 0, .int 0, .int 0, .int 0, .ref g9, .int 0, .int 0, .int 0, .int 0, .int (-1), .int 0, .int 0, .ref g17, .ref g18, .int 0, .ref g20, .ref g21, .ref g22, .ref g23, .ref g24, .ref g25, .ref g26, .ref g27, .ref g28, .ref g29, .ref g30, .int 0]))]) [0] rfl
  have hDc := hD.sub (ws' := [(m0, .inr (12, [.ref g0, .ref g1, .ref g2, .ref g3, .ref g4, .int 0, .int 0, .int 0, .int 0, .ref g9, .int 0, .int 0, .int 0, .int 0, .int (-1), .int 0, .int 0, .ref g17, .ref g18, .int 0, .ref g20, .ref g21, .ref g22, .ref g23, .ref g24, .ref g25, .ref g26, .ref g27, .ref g28, .ref g29, .ref g30, .int 0]))]) [0] (by decide) rfl
  have hKc := hK.sub (tys' := []) [] rfl
  refine vp_callSi (va_Run.run (va_runV (As := [.int k0, .int k1]) (rest := []) ⟨hx, hb, hml, hown, hT⟩ (m_areTwo l dC dI m0 g0 g1 g2 g3 g4 g9 g17 g18 g20 g21 g22 g23 g24 g25 g26 g27 g28 g29 g30 H.size k0 k1) (cwV 2 hT (gV w1280 w1282 ws72 w14 w1283) rfl rfl rfl (by decide +kernel) ⟨(Nat.le_of_ble_eq_true rfl), (Nat.le_of_ble_eq_true rfl)⟩) ⟨pcW.blind, va_recv hKc hPc (ci := 12) (q0 := 0) rfl rfl, pcW.pre hPc hKc hDc⟩ rfl rfl hl.1 rfl (lv_room (Nat.le_of_ble_eq_true rfl)) dX12_enough_8 ⟨(Nat.le_of_ble_eq_true rfl), (Nat.le_of_ble_eq_true rfl)⟩)) (fun r_8 hr_8 => ?_)
  obtain rfl : r_8 = 0 := hr_8
  refine lv_if_eq (tgt := 22) hx hb dX12_enough_11 (by decide) (fun _ => ?_) (fun h => absurd (by decide) h)
  refine lv_bipush (v := (-2)) hx hb dX12_enough_22 (by decide) ?_
  refine W.widen (k := 0) (n := 0) (Nat.le_of_ble_eq_true rfl) (Nat.le_of_ble_eq_true rfl) ?_
  exact W.iret (v := (-2)) hx hb hr (fun t ht hW => ⟨⟨(-2), (), rfl, rfl, trivial⟩, hS.F ht⟩) hS.2.2 dX12_enough_24

set_option maxHeartbeats 4000000 in
set_option maxRecDepth 100000 in
theorem m_net (l : Launch) (dC : Nat → ClassId) (dI : Nat → Nat → Nat) (m0 : Nat) (g0 : Nat) (g1 : Nat) (g2 : Nat) (g3 : Nat) (g4 : Nat) (g9 : Nat) (g17 : Nat) (g18 : Nat) (g20 : Nat) (g21 : Nat) (g22 : Nat) (g23 : Nat) (g24 : Nat) (g25 : Nat) (g26 : Nat) (g27 : Nat) (g28 : Nat) (g29 : Nat) (g30 : Nat) (sz : Nat) (k0 : Int32) (k1 : Int32) (k2 : Int32) : Met l yX12_net (wT yX12_net cX12_net 4 (some .int)) ({ frames := 2, cells := 0, slots := 0, locals := 46 }) (pcW dC dI [.ref m0, .int k0, .int k1, .int k2] sz [(m0, .inr (12, [.ref g0, .ref g1, .ref g2, .ref g3, .ref g4, .int 0, .int 0, .int 0, .int 0, .ref g9, .int 0, .int 0, .int 0, .int 0, .int (-1), .int 0, .int 0, .ref g17, .ref g18, .int 0, .ref g20, .ref g21, .ref g22, .ref g23, .ref g24, .ref g25, .ref g26, .ref g27, .ref g28, .ref g29, .ref g30, .int 0]))] []) (va_Qi (fun (r : Int32) (_ : Unit) => r = (-2)) (fun _ _ => True) (va_A [(m0, .inr (12, [.ref g0, .ref g1, .ref g2, .ref g3, .ref g4, .int 0, .int 0, .int 0, .int 0, .ref g9, .int 0, .int 0, .int 0, .int 0, .int (-1), .int 0, .int 0, .ref g17, .ref g18, .int 0, .ref g20, .ref g21, .ref g22, .ref g23, .ref g24, .ref g25, .ref g26, .ref g27, .ref g28, .ref g29, .ref g30, .int 0]))] sz)) 0 0 (va_A [(m0, .inr (12, [.ref g0, .ref g1, .ref g2, .ref g3, .ref g4, .int 0, .int 0, .int 0, .int 0, .ref g9, .int 0, .int 0, .int 0, .int 0, .int (-1), .int 0, .int 0, .ref g17, .ref g18, .int 0, .ref g20, .ref g21, .ref g22, .ref g23, .ref g24, .ref g25, .ref g26, .ref g27, .ref g28, .ref g29, .ref g30, .int 0]))] sz) := by
  refine Met.ofW (cc := cX12_net) (maxL := 4) (ret := (some .int)) (by decide) rfl ?_
  intro p e s m args below meth c s₁ B hml hv
  obtain ⟨rfl, hsz, hP, hK, hD0⟩ := hv
  have hx := B.exec
  have hb := B.bytes
  have hr := B.returns
  have hT : ∀ w ∈ TB, w.before [.ref m0, .int k0, .int k1, .int k2].toArray s = true := fun w h => atoms_spec (ws := wT yX12_net cX12_net 4 (some .int)) B.pre w (List.mem_cons_of_mem _ h)
  have hown : s.vm.findClass RX12 = some m.cls := findClass_of_methodNamed B.named
  have hlocks := B.notSynchronized
  subst hsz
  have hD := hD0.self (sz := s.heap.size)
  generalize hAe : va_A [(m0, .inr (12, [.ref g0, .ref g1, .ref g2, .ref g3, .ref g4, .int 0, .int 0, .int 0, .int 0, .ref g9, .int 0, .int 0, .int 0, .int 0, .int (-1), .int 0, .int 0, .ref g17, .ref g18, .int 0, .ref g20, .ref g21, .ref g22, .ref g23, .ref g24, .ref g25, .ref g26, .ref g27, .ref g28, .ref g29, .ref g30, .int 0]))] s.heap.size = A at hD ⊢
  have hA : ∀ q : Nat, s.heap.size ≤ q → A q := fun q h => by rw [← hAe]; exact Or.inr h
  have hS : va_S A s.heap s.heap [] := va_S.rf
  have hP : va_P (dC, dI) vwCl [(m0, .inr (12, [.ref g0, .ref g1, .ref g2, .ref g3, .ref g4, .int 0, .int 0, .int 0, .int 0, .ref g9, .int 0, .int 0, .int 0, .int 0, .int (-1), .int 0, .int 0, .ref g17, .ref g18, .int 0, .ref g20, .ref g21, .ref g22, .ref g23, .ref g24, .ref g25, .ref g26, .ref g27, .ref g28, .ref g29, .ref g30, .int 0]))] s.heap := hP
  have hl := lv_entry ([.ref m0, .int k0, .int k1, .int k2]) (n := 4) (Nat.le_of_ble_eq_true rfl)
  rw [lg_entry_eq]
  generalize (lg_sl ([.ref m0, .int k0, .int k1, .int k2]) ++ List.replicate (4 - (lg_sl ([.ref m0, .int k0, .int k1, .int k2])).length) Slot.unset).toArray = ls at hl ⊢
  have hl : lv_has ls 4 [(0, .ref m0), (1, .int k0), (2, .int k1), (3, .int k2)] := hl
  refine lv_aload_n hx hb dX12_net_0 rfl (lv_at hl 0 rfl) ?_
  refine lv_iconst (v := 0) hx hb dX12_net_1 (by decide) ?_
  refine va_put (D := (dC, dI)) (ci := 12) (v := .int 0) (ty := .int) (C := RX12) (T := TX12) (N := 32) hx hb hT iX12 tyX12 tyX12_ok nmX12 hown hK hP hD hS 0 rfl rfl 8 (by decide) (hT _ w1090) (fun _ h9 => h9) rfl (by decide +kernel) rfl rfl (Nat.le_of_ble_eq_true rfl) dX12_net_2 (fun H locs hP hD hS => ?_)
  have hP : va_P (dC, dI) vwCl [(m0, .inr (12, [.ref g0, .ref g1, .ref g2, .ref g3, .ref g4, .int 0, .int 0, .int 0, .int 0, .ref g9, .int 0, .int 0, .int 0, .int 0, .int (-1), .int 0, .int 0, .ref g17, .ref g18, .int 0, .ref g20, .ref g21, .ref g22, .ref g23, .ref g24, .ref g25, .ref g26, .ref g27, .ref g28, .ref g29, .ref g30, .int 0]))] H := hP
  have hD : va_D A [(m0, .inr (12, [.ref g0, .ref g1, .ref g2, .ref g3, .ref g4, .int 0, .int 0, .int 0, .int 0, .ref g9, .int 0, .int 0, .int 0, .int 0, .int (-1), .int 0, .int 0, .ref g17, .ref g18, .int 0, .ref g20, .ref g21, .ref g22, .ref g23, .ref g24, .ref g25, .ref g26, .ref g27, .ref g28, .ref g29, .ref g30, .int 0]))] := hD
  refine lv_aload_n hx hb dX12_net_5 rfl (lv_at hl 0 rfl) ?_
  refine lv_iload_n hx hb dX12_net_6 rfl (lv_at hl 1 rfl) ?_
  have hPc := hP.sub (ws' := [(m0, .inr (12, [.ref g0, .ref g1, .ref g2, .ref g3, .ref g4, .int 0, .int 0, .int 0, .int 0, .ref g9, .int 0, .int 0, .int 0, .int 0, .int (-1), .int 0, .int 0, .ref g17, .ref g18, .int 0, .ref g20, .ref g21, .ref g22, .ref g23, .ref g24, .ref g25, .ref g26, .ref g27, .ref g28, .ref g29, .ref g30, .int 0]))]) [0] rfl
  have hDc := hD.sub (ws' := [(m0, .inr (12, [.ref g0, .ref g1, .ref g2, .ref g3, .ref g4, .int 0, .int 0, .int 0, .int 0, .ref g9, .int 0, .int 0, .int 0, .int 0, .int (-1), .int 0, .int 0, .ref g17, .ref g18, .int 0, .ref g20, .ref g21, .ref g22, .ref g23, .ref g24, .ref g25, .ref g26, .ref g27, .ref g28, .ref g29, .ref g30, .int 0]))]) [0] (by decide) rfl
  have hKc := hK.sub (tys' := []) [] rfl
  refine vp_callSi (va_Run.run (va_runV (As := [.int k0]) (rest := []) ⟨hx, hb, hml, hown, hT⟩ (m_isParty l dC dI m0 g0 g1 g2 g3 g4 g9 g17 g18 g20 g21 g22 g23 g24 g25 g26 g27 g28 g29 g30 H.size k0) (cwV 1 hT (gV w1284 w1286 ws73 w14 w1287) rfl rfl rfl (by decide +kernel) ⟨(Nat.le_of_ble_eq_true rfl), (Nat.le_of_ble_eq_true rfl)⟩) ⟨pcW.blind, va_recv hKc hPc (ci := 12) (q0 := 0) rfl rfl, pcW.pre hPc hKc hDc⟩ rfl rfl hl.1 rfl (lv_room (Nat.le_of_ble_eq_true rfl)) dX12_net_7 ⟨(Nat.le_of_ble_eq_true rfl), (Nat.le_of_ble_eq_true rfl)⟩)) (fun r_7 hr_7 => ?_)
  obtain rfl : r_7 = 0 := hr_7
  refine lv_if_eq (tgt := 21) hx hb dX12_net_10 (by decide) (fun _ => ?_) (fun h => absurd (by decide) h)
  refine lv_bipush (v := (-2)) hx hb dX12_net_21 (by decide) ?_
  refine W.widen (k := 0) (n := 0) (Nat.le_of_ble_eq_true rfl) (Nat.le_of_ble_eq_true rfl) ?_
  exact W.iret (v := (-2)) hx hb hr (fun t ht hW => ⟨⟨(-2), (), rfl, rfl, trivial⟩, hS.F ht⟩) hS.2.2 dX12_net_23

set_option maxHeartbeats 4000000 in
set_option maxRecDepth 100000 in
theorem m_side (l : Launch) (dC : Nat → ClassId) (dI : Nat → Nat → Nat) (m0 : Nat) (g0 : Nat) (g1 : Nat) (g2 : Nat) (g3 : Nat) (g4 : Nat) (g9 : Nat) (g17 : Nat) (g18 : Nat) (g20 : Nat) (g21 : Nat) (g22 : Nat) (g23 : Nat) (g24 : Nat) (g25 : Nat) (g26 : Nat) (g27 : Nat) (g28 : Nat) (g29 : Nat) (g30 : Nat) (sz : Nat) (k0 : Int32) (k1 : Int32) (k2 : Int32) : Met l yX12_side (wT yX12_side cX12_side 6 (some .int)) ({ frames := 2, cells := 0, slots := 0, locals := 46 }) (pcW dC dI [.ref m0, .int k0, .int k1, .int k2] sz [(m0, .inr (12, [.ref g0, .ref g1, .ref g2, .ref g3, .ref g4, .int 0, .int 0, .int 0, .int 0, .ref g9, .int 0, .int 0, .int 0, .int 0, .int (-1), .int 0, .int 0, .ref g17, .ref g18, .int 0, .ref g20, .ref g21, .ref g22, .ref g23, .ref g24, .ref g25, .ref g26, .ref g27, .ref g28, .ref g29, .ref g30, .int 0]))] []) (va_Qi (fun (r : Int32) (_ : Unit) => r = (-2)) (fun _ _ => True) (va_A [(m0, .inr (12, [.ref g0, .ref g1, .ref g2, .ref g3, .ref g4, .int 0, .int 0, .int 0, .int 0, .ref g9, .int 0, .int 0, .int 0, .int 0, .int (-1), .int 0, .int 0, .ref g17, .ref g18, .int 0, .ref g20, .ref g21, .ref g22, .ref g23, .ref g24, .ref g25, .ref g26, .ref g27, .ref g28, .ref g29, .ref g30, .int 0]))] sz)) 0 0 (va_A [(m0, .inr (12, [.ref g0, .ref g1, .ref g2, .ref g3, .ref g4, .int 0, .int 0, .int 0, .int 0, .ref g9, .int 0, .int 0, .int 0, .int 0, .int (-1), .int 0, .int 0, .ref g17, .ref g18, .int 0, .ref g20, .ref g21, .ref g22, .ref g23, .ref g24, .ref g25, .ref g26, .ref g27, .ref g28, .ref g29, .ref g30, .int 0]))] sz) := by
  refine Met.ofW (cc := cX12_side) (maxL := 6) (ret := (some .int)) (by decide) rfl ?_
  intro p e s m args below meth c s₁ B hml hv
  obtain ⟨rfl, hsz, hP, hK, hD0⟩ := hv
  have hx := B.exec
  have hb := B.bytes
  have hr := B.returns
  have hT : ∀ w ∈ TB, w.before [.ref m0, .int k0, .int k1, .int k2].toArray s = true := fun w h => atoms_spec (ws := wT yX12_side cX12_side 6 (some .int)) B.pre w (List.mem_cons_of_mem _ h)
  have hown : s.vm.findClass RX12 = some m.cls := findClass_of_methodNamed B.named
  have hlocks := B.notSynchronized
  subst hsz
  have hD := hD0.self (sz := s.heap.size)
  generalize hAe : va_A [(m0, .inr (12, [.ref g0, .ref g1, .ref g2, .ref g3, .ref g4, .int 0, .int 0, .int 0, .int 0, .ref g9, .int 0, .int 0, .int 0, .int 0, .int (-1), .int 0, .int 0, .ref g17, .ref g18, .int 0, .ref g20, .ref g21, .ref g22, .ref g23, .ref g24, .ref g25, .ref g26, .ref g27, .ref g28, .ref g29, .ref g30, .int 0]))] s.heap.size = A at hD ⊢
  have hA : ∀ q : Nat, s.heap.size ≤ q → A q := fun q h => by rw [← hAe]; exact Or.inr h
  have hS : va_S A s.heap s.heap [] := va_S.rf
  have hP : va_P (dC, dI) vwCl [(m0, .inr (12, [.ref g0, .ref g1, .ref g2, .ref g3, .ref g4, .int 0, .int 0, .int 0, .int 0, .ref g9, .int 0, .int 0, .int 0, .int 0, .int (-1), .int 0, .int 0, .ref g17, .ref g18, .int 0, .ref g20, .ref g21, .ref g22, .ref g23, .ref g24, .ref g25, .ref g26, .ref g27, .ref g28, .ref g29, .ref g30, .int 0]))] s.heap := hP
  have hl := lv_entry ([.ref m0, .int k0, .int k1, .int k2]) (n := 6) (Nat.le_of_ble_eq_true rfl)
  rw [lg_entry_eq]
  generalize (lg_sl ([.ref m0, .int k0, .int k1, .int k2]) ++ List.replicate (6 - (lg_sl ([.ref m0, .int k0, .int k1, .int k2])).length) Slot.unset).toArray = ls at hl ⊢
  have hl : lv_has ls 6 [(0, .ref m0), (1, .int k0), (2, .int k1), (3, .int k2)] := hl
  refine lv_aload_n hx hb dX12_side_0 rfl (lv_at hl 0 rfl) ?_
  refine lv_iconst (v := 0) hx hb dX12_side_1 (by decide) ?_
  refine va_put (D := (dC, dI)) (ci := 12) (v := .int 0) (ty := .int) (C := RX12) (T := TX12) (N := 32) hx hb hT iX12 tyX12 tyX12_ok nmX12 hown hK hP hD hS 0 rfl rfl 8 (by decide) (hT _ w1090) (fun _ h9 => h9) rfl (by decide +kernel) rfl rfl (Nat.le_of_ble_eq_true rfl) dX12_side_2 (fun H locs hP hD hS => ?_)
  have hP : va_P (dC, dI) vwCl [(m0, .inr (12, [.ref g0, .ref g1, .ref g2, .ref g3, .ref g4, .int 0, .int 0, .int 0, .int 0, .ref g9, .int 0, .int 0, .int 0, .int 0, .int (-1), .int 0, .int 0, .ref g17, .ref g18, .int 0, .ref g20, .ref g21, .ref g22, .ref g23, .ref g24, .ref g25, .ref g26, .ref g27, .ref g28, .ref g29, .ref g30, .int 0]))] H := hP
  have hD : va_D A [(m0, .inr (12, [.ref g0, .ref g1, .ref g2, .ref g3, .ref g4, .int 0, .int 0, .int 0, .int 0, .ref g9, .int 0, .int 0, .int 0, .int 0, .int (-1), .int 0, .int 0, .ref g17, .ref g18, .int 0, .ref g20, .ref g21, .ref g22, .ref g23, .ref g24, .ref g25, .ref g26, .ref g27, .ref g28, .ref g29, .ref g30, .int 0]))] := hD
  refine lv_aload_n hx hb dX12_side_5 rfl (lv_at hl 0 rfl) ?_
  refine lv_iload_n hx hb dX12_side_6 rfl (lv_at hl 1 rfl) ?_
  have hPc := hP.sub (ws' := [(m0, .inr (12, [.ref g0, .ref g1, .ref g2, .ref g3, .ref g4, .int 0, .int 0, .int 0, .int 0, .ref g9, .int 0, .int 0, .int 0, .int 0, .int (-1), .int 0, .int 0, .ref g17, .ref g18, .int 0, .ref g20, .ref g21, .ref g22, .ref g23, .ref g24, .ref g25, .ref g26, .ref g27, .ref g28, .ref g29, .ref g30, .int 0]))]) [0] rfl
  have hDc := hD.sub (ws' := [(m0, .inr (12, [.ref g0, .ref g1, .ref g2, .ref g3, .ref g4, .int 0, .int 0, .int 0, .int 0, .ref g9, .int 0, .int 0, .int 0, .int 0, .int (-1), .int 0, .int 0, .ref g17, .ref g18, .int 0, .ref g20, .ref g21, .ref g22, .ref g23, .ref g24, .ref g25, .ref g26, .ref g27, .ref g28, .ref g29, .ref g30, .int 0]))]) [0] (by decide) rfl
  have hKc := hK.sub (tys' := []) [] rfl
  refine vp_callSi (va_Run.run (va_runV (As := [.int k0]) (rest := []) ⟨hx, hb, hml, hown, hT⟩ (m_isParty l dC dI m0 g0 g1 g2 g3 g4 g9 g17 g18 g20 g21 g22 g23 g24 g25 g26 g27 g28 g29 g30 H.size k0) (cwV 1 hT (gV w1284 w1286 ws73 w14 w1287) rfl rfl rfl (by decide +kernel) ⟨(Nat.le_of_ble_eq_true rfl), (Nat.le_of_ble_eq_true rfl)⟩) ⟨pcW.blind, va_recv hKc hPc (ci := 12) (q0 := 0) rfl rfl, pcW.pre hPc hKc hDc⟩ rfl rfl hl.1 rfl (lv_room (Nat.le_of_ble_eq_true rfl)) dX12_side_7 ⟨(Nat.le_of_ble_eq_true rfl), (Nat.le_of_ble_eq_true rfl)⟩)) (fun r_7 hr_7 => ?_)
  obtain rfl : r_7 = 0 := hr_7
  refine lv_if_eq (tgt := 33) hx hb dX12_side_10 (by decide) (fun _ => ?_) (fun h => absurd (by decide) h)
  refine lv_bipush (v := (-2)) hx hb dX12_side_33 (by decide) ?_
  refine W.widen (k := 0) (n := 0) (Nat.le_of_ble_eq_true rfl) (Nat.le_of_ble_eq_true rfl) ?_
  exact W.iret (v := (-2)) hx hb hr (fun t ht hW => ⟨⟨(-2), (), rfl, rfl, trivial⟩, hS.F ht⟩) hS.2.2 dX12_side_35

set_option maxHeartbeats 4000000 in
set_option maxRecDepth 100000 in
theorem m_without (l : Launch) (dC : Nat → ClassId) (dI : Nat → Nat → Nat) (m0 : Nat) (g0 : Nat) (g1 : Nat) (g2 : Nat) (g3 : Nat) (g4 : Nat) (g9 : Nat) (g17 : Nat) (g18 : Nat) (g20 : Nat) (g21 : Nat) (g22 : Nat) (g23 : Nat) (g24 : Nat) (g25 : Nat) (g26 : Nat) (g27 : Nat) (g28 : Nat) (g29 : Nat) (g30 : Nat) (sz : Nat) (k0 : Int32) (k1 : Int32) : Met l yX12_without (wT yX12_without cX12_without 5 (some .int)) ({ frames := 2, cells := 0, slots := 0, locals := 46 }) (pcW dC dI [.ref m0, .int k0, .int k1] sz [(m0, .inr (12, [.ref g0, .ref g1, .ref g2, .ref g3, .ref g4, .int 0, .int 0, .int 0, .int 0, .ref g9, .int 0, .int 0, .int 0, .int 0, .int (-1), .int 0, .int 0, .ref g17, .ref g18, .int 0, .ref g20, .ref g21, .ref g22, .ref g23, .ref g24, .ref g25, .ref g26, .ref g27, .ref g28, .ref g29, .ref g30, .int 0]))] []) (va_Qi (fun (r : Int32) (_ : Unit) => r = (-2)) (fun _ _ => True) (va_A [(m0, .inr (12, [.ref g0, .ref g1, .ref g2, .ref g3, .ref g4, .int 0, .int 0, .int 0, .int 0, .ref g9, .int 0, .int 0, .int 0, .int 0, .int (-1), .int 0, .int 0, .ref g17, .ref g18, .int 0, .ref g20, .ref g21, .ref g22, .ref g23, .ref g24, .ref g25, .ref g26, .ref g27, .ref g28, .ref g29, .ref g30, .int 0]))] sz)) 0 0 (va_A [(m0, .inr (12, [.ref g0, .ref g1, .ref g2, .ref g3, .ref g4, .int 0, .int 0, .int 0, .int 0, .ref g9, .int 0, .int 0, .int 0, .int 0, .int (-1), .int 0, .int 0, .ref g17, .ref g18, .int 0, .ref g20, .ref g21, .ref g22, .ref g23, .ref g24, .ref g25, .ref g26, .ref g27, .ref g28, .ref g29, .ref g30, .int 0]))] sz) := by
  refine Met.ofW (cc := cX12_without) (maxL := 5) (ret := (some .int)) (by decide) rfl ?_
  intro p e s m args below meth c s₁ B hml hv
  obtain ⟨rfl, hsz, hP, hK, hD0⟩ := hv
  have hx := B.exec
  have hb := B.bytes
  have hr := B.returns
  have hT : ∀ w ∈ TB, w.before [.ref m0, .int k0, .int k1].toArray s = true := fun w h => atoms_spec (ws := wT yX12_without cX12_without 5 (some .int)) B.pre w (List.mem_cons_of_mem _ h)
  have hown : s.vm.findClass RX12 = some m.cls := findClass_of_methodNamed B.named
  have hlocks := B.notSynchronized
  subst hsz
  have hD := hD0.self (sz := s.heap.size)
  generalize hAe : va_A [(m0, .inr (12, [.ref g0, .ref g1, .ref g2, .ref g3, .ref g4, .int 0, .int 0, .int 0, .int 0, .ref g9, .int 0, .int 0, .int 0, .int 0, .int (-1), .int 0, .int 0, .ref g17, .ref g18, .int 0, .ref g20, .ref g21, .ref g22, .ref g23, .ref g24, .ref g25, .ref g26, .ref g27, .ref g28, .ref g29, .ref g30, .int 0]))] s.heap.size = A at hD ⊢
  have hA : ∀ q : Nat, s.heap.size ≤ q → A q := fun q h => by rw [← hAe]; exact Or.inr h
  have hS : va_S A s.heap s.heap [] := va_S.rf
  have hP : va_P (dC, dI) vwCl [(m0, .inr (12, [.ref g0, .ref g1, .ref g2, .ref g3, .ref g4, .int 0, .int 0, .int 0, .int 0, .ref g9, .int 0, .int 0, .int 0, .int 0, .int (-1), .int 0, .int 0, .ref g17, .ref g18, .int 0, .ref g20, .ref g21, .ref g22, .ref g23, .ref g24, .ref g25, .ref g26, .ref g27, .ref g28, .ref g29, .ref g30, .int 0]))] s.heap := hP
  have hl := lv_entry ([.ref m0, .int k0, .int k1]) (n := 5) (Nat.le_of_ble_eq_true rfl)
  rw [lg_entry_eq]
  generalize (lg_sl ([.ref m0, .int k0, .int k1]) ++ List.replicate (5 - (lg_sl ([.ref m0, .int k0, .int k1])).length) Slot.unset).toArray = ls at hl ⊢
  have hl : lv_has ls 5 [(0, .ref m0), (1, .int k0), (2, .int k1)] := hl
  refine lv_aload_n hx hb dX12_without_0 rfl (lv_at hl 0 rfl) ?_
  refine lv_iconst (v := 0) hx hb dX12_without_1 (by decide) ?_
  refine va_put (D := (dC, dI)) (ci := 12) (v := .int 0) (ty := .int) (C := RX12) (T := TX12) (N := 32) hx hb hT iX12 tyX12 tyX12_ok nmX12 hown hK hP hD hS 0 rfl rfl 8 (by decide) (hT _ w1090) (fun _ h9 => h9) rfl (by decide +kernel) rfl rfl (Nat.le_of_ble_eq_true rfl) dX12_without_2 (fun H locs hP hD hS => ?_)
  have hP : va_P (dC, dI) vwCl [(m0, .inr (12, [.ref g0, .ref g1, .ref g2, .ref g3, .ref g4, .int 0, .int 0, .int 0, .int 0, .ref g9, .int 0, .int 0, .int 0, .int 0, .int (-1), .int 0, .int 0, .ref g17, .ref g18, .int 0, .ref g20, .ref g21, .ref g22, .ref g23, .ref g24, .ref g25, .ref g26, .ref g27, .ref g28, .ref g29, .ref g30, .int 0]))] H := hP
  have hD : va_D A [(m0, .inr (12, [.ref g0, .ref g1, .ref g2, .ref g3, .ref g4, .int 0, .int 0, .int 0, .int 0, .ref g9, .int 0, .int 0, .int 0, .int 0, .int (-1), .int 0, .int 0, .ref g17, .ref g18, .int 0, .ref g20, .ref g21, .ref g22, .ref g23, .ref g24, .ref g25, .ref g26, .ref g27, .ref g28, .ref g29, .ref g30, .int 0]))] := hD
  refine lv_aload_n hx hb dX12_without_5 rfl (lv_at hl 0 rfl) ?_
  refine lv_iload_n hx hb dX12_without_6 rfl (lv_at hl 1 rfl) ?_
  have hPc := hP.sub (ws' := [(m0, .inr (12, [.ref g0, .ref g1, .ref g2, .ref g3, .ref g4, .int 0, .int 0, .int 0, .int 0, .ref g9, .int 0, .int 0, .int 0, .int 0, .int (-1), .int 0, .int 0, .ref g17, .ref g18, .int 0, .ref g20, .ref g21, .ref g22, .ref g23, .ref g24, .ref g25, .ref g26, .ref g27, .ref g28, .ref g29, .ref g30, .int 0]))]) [0] rfl
  have hDc := hD.sub (ws' := [(m0, .inr (12, [.ref g0, .ref g1, .ref g2, .ref g3, .ref g4, .int 0, .int 0, .int 0, .int 0, .ref g9, .int 0, .int 0, .int 0, .int 0, .int (-1), .int 0, .int 0, .ref g17, .ref g18, .int 0, .ref g20, .ref g21, .ref g22, .ref g23, .ref g24, .ref g25, .ref g26, .ref g27, .ref g28, .ref g29, .ref g30, .int 0]))]) [0] (by decide) rfl
  have hKc := hK.sub (tys' := []) [] rfl
  refine vp_callSi (va_Run.run (va_runV (As := [.int k0]) (rest := []) ⟨hx, hb, hml, hown, hT⟩ (m_isParty l dC dI m0 g0 g1 g2 g3 g4 g9 g17 g18 g20 g21 g22 g23 g24 g25 g26 g27 g28 g29 g30 H.size k0) (cwV 1 hT (gV w1284 w1286 ws73 w14 w1287) rfl rfl rfl (by decide +kernel) ⟨(Nat.le_of_ble_eq_true rfl), (Nat.le_of_ble_eq_true rfl)⟩) ⟨pcW.blind, va_recv hKc hPc (ci := 12) (q0 := 0) rfl rfl, pcW.pre hPc hKc hDc⟩ rfl rfl hl.1 rfl (lv_room (Nat.le_of_ble_eq_true rfl)) dX12_without_7 ⟨(Nat.le_of_ble_eq_true rfl), (Nat.le_of_ble_eq_true rfl)⟩)) (fun r_7 hr_7 => ?_)
  obtain rfl : r_7 = 0 := hr_7
  refine lv_if_eq (tgt := 21) hx hb dX12_without_10 (by decide) (fun _ => ?_) (fun h => absurd (by decide) h)
  refine lv_bipush (v := (-2)) hx hb dX12_without_21 (by decide) ?_
  refine W.widen (k := 0) (n := 0) (Nat.le_of_ble_eq_true rfl) (Nat.le_of_ble_eq_true rfl) ?_
  exact W.iret (v := (-2)) hx hb hr (fun t ht hW => ⟨⟨(-2), (), rfl, rfl, trivial⟩, hS.F ht⟩) hS.2.2 dX12_without_23

set_option maxHeartbeats 4000000 in
set_option maxRecDepth 100000 in
theorem m_relief (l : Launch) (dC : Nat → ClassId) (dI : Nat → Nat → Nat) (m0 : Nat) (g0 : Nat) (g1 : Nat) (g2 : Nat) (g3 : Nat) (g4 : Nat) (g9 : Nat) (g17 : Nat) (g18 : Nat) (g20 : Nat) (g21 : Nat) (g22 : Nat) (g23 : Nat) (g24 : Nat) (g25 : Nat) (g26 : Nat) (g27 : Nat) (g28 : Nat) (g29 : Nat) (g30 : Nat) (sz : Nat) (k0 : Int32) (k1 : Int32) : Met l yX12_relief (wT yX12_relief cX12_relief 3 (some .int)) ({ frames := 2, cells := 0, slots := 0, locals := 46 }) (pcW dC dI [.ref m0, .int k0, .int k1] sz [(m0, .inr (12, [.ref g0, .ref g1, .ref g2, .ref g3, .ref g4, .int 0, .int 0, .int 0, .int 0, .ref g9, .int 0, .int 0, .int 0, .int 0, .int (-1), .int 0, .int 0, .ref g17, .ref g18, .int 0, .ref g20, .ref g21, .ref g22, .ref g23, .ref g24, .ref g25, .ref g26, .ref g27, .ref g28, .ref g29, .ref g30, .int 0]))] []) (va_Qi (fun (r : Int32) (_ : Unit) => r = (-2)) (fun _ _ => True) (va_A [(m0, .inr (12, [.ref g0, .ref g1, .ref g2, .ref g3, .ref g4, .int 0, .int 0, .int 0, .int 0, .ref g9, .int 0, .int 0, .int 0, .int 0, .int (-1), .int 0, .int 0, .ref g17, .ref g18, .int 0, .ref g20, .ref g21, .ref g22, .ref g23, .ref g24, .ref g25, .ref g26, .ref g27, .ref g28, .ref g29, .ref g30, .int 0]))] sz)) 0 0 (va_A [(m0, .inr (12, [.ref g0, .ref g1, .ref g2, .ref g3, .ref g4, .int 0, .int 0, .int 0, .int 0, .ref g9, .int 0, .int 0, .int 0, .int 0, .int (-1), .int 0, .int 0, .ref g17, .ref g18, .int 0, .ref g20, .ref g21, .ref g22, .ref g23, .ref g24, .ref g25, .ref g26, .ref g27, .ref g28, .ref g29, .ref g30, .int 0]))] sz) := by
  refine Met.ofW (cc := cX12_relief) (maxL := 3) (ret := (some .int)) (by decide) rfl ?_
  intro p e s m args below meth c s₁ B hml hv
  obtain ⟨rfl, hsz, hP, hK, hD0⟩ := hv
  have hx := B.exec
  have hb := B.bytes
  have hr := B.returns
  have hT : ∀ w ∈ TB, w.before [.ref m0, .int k0, .int k1].toArray s = true := fun w h => atoms_spec (ws := wT yX12_relief cX12_relief 3 (some .int)) B.pre w (List.mem_cons_of_mem _ h)
  have hown : s.vm.findClass RX12 = some m.cls := findClass_of_methodNamed B.named
  have hlocks := B.notSynchronized
  subst hsz
  have hD := hD0.self (sz := s.heap.size)
  generalize hAe : va_A [(m0, .inr (12, [.ref g0, .ref g1, .ref g2, .ref g3, .ref g4, .int 0, .int 0, .int 0, .int 0, .ref g9, .int 0, .int 0, .int 0, .int 0, .int (-1), .int 0, .int 0, .ref g17, .ref g18, .int 0, .ref g20, .ref g21, .ref g22, .ref g23, .ref g24, .ref g25, .ref g26, .ref g27, .ref g28, .ref g29, .ref g30, .int 0]))] s.heap.size = A at hD ⊢
  have hA : ∀ q : Nat, s.heap.size ≤ q → A q := fun q h => by rw [← hAe]; exact Or.inr h
  have hS : va_S A s.heap s.heap [] := va_S.rf
  have hP : va_P (dC, dI) vwCl [(m0, .inr (12, [.ref g0, .ref g1, .ref g2, .ref g3, .ref g4, .int 0, .int 0, .int 0, .int 0, .ref g9, .int 0, .int 0, .int 0, .int 0, .int (-1), .int 0, .int 0, .ref g17, .ref g18, .int 0, .ref g20, .ref g21, .ref g22, .ref g23, .ref g24, .ref g25, .ref g26, .ref g27, .ref g28, .ref g29, .ref g30, .int 0]))] s.heap := hP
  have hl := lv_entry ([.ref m0, .int k0, .int k1]) (n := 3) (Nat.le_of_ble_eq_true rfl)
  rw [lg_entry_eq]
  generalize (lg_sl ([.ref m0, .int k0, .int k1]) ++ List.replicate (3 - (lg_sl ([.ref m0, .int k0, .int k1])).length) Slot.unset).toArray = ls at hl ⊢
  have hl : lv_has ls 3 [(0, .ref m0), (1, .int k0), (2, .int k1)] := hl
  refine lv_aload_n hx hb dX12_relief_0 rfl (lv_at hl 0 rfl) ?_
  refine lv_iconst (v := 0) hx hb dX12_relief_1 (by decide) ?_
  refine va_put (D := (dC, dI)) (ci := 12) (v := .int 0) (ty := .int) (C := RX12) (T := TX12) (N := 32) hx hb hT iX12 tyX12 tyX12_ok nmX12 hown hK hP hD hS 0 rfl rfl 8 (by decide) (hT _ w1090) (fun _ h9 => h9) rfl (by decide +kernel) rfl rfl (Nat.le_of_ble_eq_true rfl) dX12_relief_2 (fun H locs hP hD hS => ?_)
  have hP : va_P (dC, dI) vwCl [(m0, .inr (12, [.ref g0, .ref g1, .ref g2, .ref g3, .ref g4, .int 0, .int 0, .int 0, .int 0, .ref g9, .int 0, .int 0, .int 0, .int 0, .int (-1), .int 0, .int 0, .ref g17, .ref g18, .int 0, .ref g20, .ref g21, .ref g22, .ref g23, .ref g24, .ref g25, .ref g26, .ref g27, .ref g28, .ref g29, .ref g30, .int 0]))] H := hP
  have hD : va_D A [(m0, .inr (12, [.ref g0, .ref g1, .ref g2, .ref g3, .ref g4, .int 0, .int 0, .int 0, .int 0, .ref g9, .int 0, .int 0, .int 0, .int 0, .int (-1), .int 0, .int 0, .ref g17, .ref g18, .int 0, .ref g20, .ref g21, .ref g22, .ref g23, .ref g24, .ref g25, .ref g26, .ref g27, .ref g28, .ref g29, .ref g30, .int 0]))] := hD
  refine lv_aload_n hx hb dX12_relief_5 rfl (lv_at hl 0 rfl) ?_
  refine lv_iload_n hx hb dX12_relief_6 rfl (lv_at hl 1 rfl) ?_
  have hPc := hP.sub (ws' := [(m0, .inr (12, [.ref g0, .ref g1, .ref g2, .ref g3, .ref g4, .int 0, .int 0, .int 0, .int 0, .ref g9, .int 0, .int 0, .int 0, .int 0, .int (-1), .int 0, .int 0, .ref g17, .ref g18, .int 0, .ref g20, .ref g21, .ref g22, .ref g23, .ref g24, .ref g25, .ref g26, .ref g27, .ref g28, .ref g29, .ref g30, .int 0]))]) [0] rfl
  have hDc := hD.sub (ws' := [(m0, .inr (12, [.ref g0, .ref g1, .ref g2, .ref g3, .ref g4, .int 0, .int 0, .int 0, .int 0, .ref g9, .int 0, .int 0, .int 0, .int 0, .int (-1), .int 0, .int 0, .ref g17, .ref g18, .int 0, .ref g20, .ref g21, .ref g22, .ref g23, .ref g24, .ref g25, .ref g26, .ref g27, .ref g28, .ref g29, .ref g30, .int 0]))]) [0] (by decide) rfl
  have hKc := hK.sub (tys' := []) [] rfl
  refine vp_callSi (va_Run.run (va_runV (As := [.int k0]) (rest := []) ⟨hx, hb, hml, hown, hT⟩ (m_isParty l dC dI m0 g0 g1 g2 g3 g4 g9 g17 g18 g20 g21 g22 g23 g24 g25 g26 g27 g28 g29 g30 H.size k0) (cwV 1 hT (gV w1284 w1286 ws73 w14 w1287) rfl rfl rfl (by decide +kernel) ⟨(Nat.le_of_ble_eq_true rfl), (Nat.le_of_ble_eq_true rfl)⟩) ⟨pcW.blind, va_recv hKc hPc (ci := 12) (q0 := 0) rfl rfl, pcW.pre hPc hKc hDc⟩ rfl rfl hl.1 rfl (lv_room (Nat.le_of_ble_eq_true rfl)) dX12_relief_7 ⟨(Nat.le_of_ble_eq_true rfl), (Nat.le_of_ble_eq_true rfl)⟩)) (fun r_7 hr_7 => ?_)
  obtain rfl : r_7 = 0 := hr_7
  refine lv_if_eq (tgt := 21) hx hb dX12_relief_10 (by decide) (fun _ => ?_) (fun h => absurd (by decide) h)
  refine lv_bipush (v := (-2)) hx hb dX12_relief_21 (by decide) ?_
  refine W.widen (k := 0) (n := 0) (Nat.le_of_ble_eq_true rfl) (Nat.le_of_ble_eq_true rfl) ?_
  exact W.iret (v := (-2)) hx hb hr (fun t ht hW => ⟨⟨(-2), (), rfl, rfl, trivial⟩, hS.F ht⟩) hS.2.2 dX12_relief_23

set_option maxHeartbeats 4000000 in
set_option maxRecDepth 100000 in
theorem m_through (l : Launch) (dC : Nat → ClassId) (dI : Nat → Nat → Nat) (m0 : Nat) (g0 : Nat) (g1 : Nat) (g2 : Nat) (g3 : Nat) (g4 : Nat) (g9 : Nat) (g17 : Nat) (g18 : Nat) (g20 : Nat) (g21 : Nat) (g22 : Nat) (g23 : Nat) (g24 : Nat) (g25 : Nat) (g26 : Nat) (g27 : Nat) (g28 : Nat) (g29 : Nat) (g30 : Nat) (sz : Nat) (k0 : Int32) (k1 : Int32) (k2 : Int32) : Met l yX12_through (wT yX12_through cX12_through 4 (some .int)) ({ frames := 2, cells := 0, slots := 0, locals := 46 }) (pcW dC dI [.ref m0, .int k0, .int k1, .int k2] sz [(m0, .inr (12, [.ref g0, .ref g1, .ref g2, .ref g3, .ref g4, .int 0, .int 0, .int 0, .int 0, .ref g9, .int 0, .int 0, .int 0, .int 0, .int (-1), .int 0, .int 0, .ref g17, .ref g18, .int 0, .ref g20, .ref g21, .ref g22, .ref g23, .ref g24, .ref g25, .ref g26, .ref g27, .ref g28, .ref g29, .ref g30, .int 0]))] []) (va_Qi (fun (r : Int32) (_ : Unit) => r = (-2)) (fun _ _ => True) (va_A [(m0, .inr (12, [.ref g0, .ref g1, .ref g2, .ref g3, .ref g4, .int 0, .int 0, .int 0, .int 0, .ref g9, .int 0, .int 0, .int 0, .int 0, .int (-1), .int 0, .int 0, .ref g17, .ref g18, .int 0, .ref g20, .ref g21, .ref g22, .ref g23, .ref g24, .ref g25, .ref g26, .ref g27, .ref g28, .ref g29, .ref g30, .int 0]))] sz)) 0 0 (va_A [(m0, .inr (12, [.ref g0, .ref g1, .ref g2, .ref g3, .ref g4, .int 0, .int 0, .int 0, .int 0, .ref g9, .int 0, .int 0, .int 0, .int 0, .int (-1), .int 0, .int 0, .ref g17, .ref g18, .int 0, .ref g20, .ref g21, .ref g22, .ref g23, .ref g24, .ref g25, .ref g26, .ref g27, .ref g28, .ref g29, .ref g30, .int 0]))] sz) := by
  refine Met.ofW (cc := cX12_through) (maxL := 4) (ret := (some .int)) (by decide) rfl ?_
  intro p e s m args below meth c s₁ B hml hv
  obtain ⟨rfl, hsz, hP, hK, hD0⟩ := hv
  have hx := B.exec
  have hb := B.bytes
  have hr := B.returns
  have hT : ∀ w ∈ TB, w.before [.ref m0, .int k0, .int k1, .int k2].toArray s = true := fun w h => atoms_spec (ws := wT yX12_through cX12_through 4 (some .int)) B.pre w (List.mem_cons_of_mem _ h)
  have hown : s.vm.findClass RX12 = some m.cls := findClass_of_methodNamed B.named
  have hlocks := B.notSynchronized
  subst hsz
  have hD := hD0.self (sz := s.heap.size)
  generalize hAe : va_A [(m0, .inr (12, [.ref g0, .ref g1, .ref g2, .ref g3, .ref g4, .int 0, .int 0, .int 0, .int 0, .ref g9, .int 0, .int 0, .int 0, .int 0, .int (-1), .int 0, .int 0, .ref g17, .ref g18, .int 0, .ref g20, .ref g21, .ref g22, .ref g23, .ref g24, .ref g25, .ref g26, .ref g27, .ref g28, .ref g29, .ref g30, .int 0]))] s.heap.size = A at hD ⊢
  have hA : ∀ q : Nat, s.heap.size ≤ q → A q := fun q h => by rw [← hAe]; exact Or.inr h
  have hS : va_S A s.heap s.heap [] := va_S.rf
  have hP : va_P (dC, dI) vwCl [(m0, .inr (12, [.ref g0, .ref g1, .ref g2, .ref g3, .ref g4, .int 0, .int 0, .int 0, .int 0, .ref g9, .int 0, .int 0, .int 0, .int 0, .int (-1), .int 0, .int 0, .ref g17, .ref g18, .int 0, .ref g20, .ref g21, .ref g22, .ref g23, .ref g24, .ref g25, .ref g26, .ref g27, .ref g28, .ref g29, .ref g30, .int 0]))] s.heap := hP
  have hl := lv_entry ([.ref m0, .int k0, .int k1, .int k2]) (n := 4) (Nat.le_of_ble_eq_true rfl)
  rw [lg_entry_eq]
  generalize (lg_sl ([.ref m0, .int k0, .int k1, .int k2]) ++ List.replicate (4 - (lg_sl ([.ref m0, .int k0, .int k1, .int k2])).length) Slot.unset).toArray = ls at hl ⊢
  have hl : lv_has ls 4 [(0, .ref m0), (1, .int k0), (2, .int k1), (3, .int k2)] := hl
  refine lv_aload_n hx hb dX12_through_0 rfl (lv_at hl 0 rfl) ?_
  refine lv_iconst (v := 0) hx hb dX12_through_1 (by decide) ?_
  refine va_put (D := (dC, dI)) (ci := 12) (v := .int 0) (ty := .int) (C := RX12) (T := TX12) (N := 32) hx hb hT iX12 tyX12 tyX12_ok nmX12 hown hK hP hD hS 0 rfl rfl 8 (by decide) (hT _ w1090) (fun _ h9 => h9) rfl (by decide +kernel) rfl rfl (Nat.le_of_ble_eq_true rfl) dX12_through_2 (fun H locs hP hD hS => ?_)
  have hP : va_P (dC, dI) vwCl [(m0, .inr (12, [.ref g0, .ref g1, .ref g2, .ref g3, .ref g4, .int 0, .int 0, .int 0, .int 0, .ref g9, .int 0, .int 0, .int 0, .int 0, .int (-1), .int 0, .int 0, .ref g17, .ref g18, .int 0, .ref g20, .ref g21, .ref g22, .ref g23, .ref g24, .ref g25, .ref g26, .ref g27, .ref g28, .ref g29, .ref g30, .int 0]))] H := hP
  have hD : va_D A [(m0, .inr (12, [.ref g0, .ref g1, .ref g2, .ref g3, .ref g4, .int 0, .int 0, .int 0, .int 0, .ref g9, .int 0, .int 0, .int 0, .int 0, .int (-1), .int 0, .int 0, .ref g17, .ref g18, .int 0, .ref g20, .ref g21, .ref g22, .ref g23, .ref g24, .ref g25, .ref g26, .ref g27, .ref g28, .ref g29, .ref g30, .int 0]))] := hD
  refine lv_aload_n hx hb dX12_through_5 rfl (lv_at hl 0 rfl) ?_
  refine lv_iload_n hx hb dX12_through_6 rfl (lv_at hl 1 rfl) ?_
  have hPc := hP.sub (ws' := [(m0, .inr (12, [.ref g0, .ref g1, .ref g2, .ref g3, .ref g4, .int 0, .int 0, .int 0, .int 0, .ref g9, .int 0, .int 0, .int 0, .int 0, .int (-1), .int 0, .int 0, .ref g17, .ref g18, .int 0, .ref g20, .ref g21, .ref g22, .ref g23, .ref g24, .ref g25, .ref g26, .ref g27, .ref g28, .ref g29, .ref g30, .int 0]))]) [0] rfl
  have hDc := hD.sub (ws' := [(m0, .inr (12, [.ref g0, .ref g1, .ref g2, .ref g3, .ref g4, .int 0, .int 0, .int 0, .int 0, .ref g9, .int 0, .int 0, .int 0, .int 0, .int (-1), .int 0, .int 0, .ref g17, .ref g18, .int 0, .ref g20, .ref g21, .ref g22, .ref g23, .ref g24, .ref g25, .ref g26, .ref g27, .ref g28, .ref g29, .ref g30, .int 0]))]) [0] (by decide) rfl
  have hKc := hK.sub (tys' := []) [] rfl
  refine vp_callSi (va_Run.run (va_runV (As := [.int k0]) (rest := []) ⟨hx, hb, hml, hown, hT⟩ (m_isParty l dC dI m0 g0 g1 g2 g3 g4 g9 g17 g18 g20 g21 g22 g23 g24 g25 g26 g27 g28 g29 g30 H.size k0) (cwV 1 hT (gV w1284 w1286 ws73 w14 w1287) rfl rfl rfl (by decide +kernel) ⟨(Nat.le_of_ble_eq_true rfl), (Nat.le_of_ble_eq_true rfl)⟩) ⟨pcW.blind, va_recv hKc hPc (ci := 12) (q0 := 0) rfl rfl, pcW.pre hPc hKc hDc⟩ rfl rfl hl.1 rfl (lv_room (Nat.le_of_ble_eq_true rfl)) dX12_through_7 ⟨(Nat.le_of_ble_eq_true rfl), (Nat.le_of_ble_eq_true rfl)⟩)) (fun r_7 hr_7 => ?_)
  obtain rfl : r_7 = 0 := hr_7
  refine lv_if_eq (tgt := 31) hx hb dX12_through_10 (by decide) (fun _ => ?_) (fun h => absurd (by decide) h)
  refine lv_bipush (v := (-2)) hx hb dX12_through_31 (by decide) ?_
  refine W.widen (k := 0) (n := 0) (Nat.le_of_ble_eq_true rfl) (Nat.le_of_ble_eq_true rfl) ?_
  exact W.iret (v := (-2)) hx hb hr (fun t ht hW => ⟨⟨(-2), (), rfl, rfl, trivial⟩, hS.F ht⟩) hS.2.2 dX12_through_33

set_option maxHeartbeats 4000000 in
set_option maxRecDepth 100000 in
theorem m_takeRing (l : Launch) (dC : Nat → ClassId) (dI : Nat → Nat → Nat) (m0 : Nat) (g0 : Nat) (g1 : Nat) (g2 : Nat) (g3 : Nat) (g4 : Nat) (g9 : Nat) (g17 : Nat) (g18 : Nat) (g20 : Nat) (g21 : Nat) (g22 : Nat) (g23 : Nat) (g24 : Nat) (g25 : Nat) (g26 : Nat) (g27 : Nat) (g28 : Nat) (g29 : Nat) (g30 : Nat) (sz : Nat) (k0 : Int32) : Met l yX12_takeRing (wT yX12_takeRing cX12_takeRing 7 (some .int)) ({ frames := 2, cells := 0, slots := 0, locals := 46 }) (pcW dC dI [.ref m0, .int k0] sz [(m0, .inr (12, [.ref g0, .ref g1, .ref g2, .ref g3, .ref g4, .int 0, .int 0, .int 0, .int 0, .ref g9, .int 0, .int 0, .int 0, .int 0, .int (-1), .int 0, .int 0, .ref g17, .ref g18, .int 0, .ref g20, .ref g21, .ref g22, .ref g23, .ref g24, .ref g25, .ref g26, .ref g27, .ref g28, .ref g29, .ref g30, .int 0]))] []) (va_Qi (fun (r : Int32) (_ : Unit) => r = (-2)) (fun _ _ => True) (va_A [(m0, .inr (12, [.ref g0, .ref g1, .ref g2, .ref g3, .ref g4, .int 0, .int 0, .int 0, .int 0, .ref g9, .int 0, .int 0, .int 0, .int 0, .int (-1), .int 0, .int 0, .ref g17, .ref g18, .int 0, .ref g20, .ref g21, .ref g22, .ref g23, .ref g24, .ref g25, .ref g26, .ref g27, .ref g28, .ref g29, .ref g30, .int 0]))] sz)) 0 0 (va_A [(m0, .inr (12, [.ref g0, .ref g1, .ref g2, .ref g3, .ref g4, .int 0, .int 0, .int 0, .int 0, .ref g9, .int 0, .int 0, .int 0, .int 0, .int (-1), .int 0, .int 0, .ref g17, .ref g18, .int 0, .ref g20, .ref g21, .ref g22, .ref g23, .ref g24, .ref g25, .ref g26, .ref g27, .ref g28, .ref g29, .ref g30, .int 0]))] sz) := by
  refine Met.ofW (cc := cX12_takeRing) (maxL := 7) (ret := (some .int)) (by decide) rfl ?_
  intro p e s m args below meth c s₁ B hml hv
  obtain ⟨rfl, hsz, hP, hK, hD0⟩ := hv
  have hx := B.exec
  have hb := B.bytes
  have hr := B.returns
  have hT : ∀ w ∈ TB, w.before [.ref m0, .int k0].toArray s = true := fun w h => atoms_spec (ws := wT yX12_takeRing cX12_takeRing 7 (some .int)) B.pre w (List.mem_cons_of_mem _ h)
  have hown : s.vm.findClass RX12 = some m.cls := findClass_of_methodNamed B.named
  have hlocks := B.notSynchronized
  subst hsz
  have hD := hD0.self (sz := s.heap.size)
  generalize hAe : va_A [(m0, .inr (12, [.ref g0, .ref g1, .ref g2, .ref g3, .ref g4, .int 0, .int 0, .int 0, .int 0, .ref g9, .int 0, .int 0, .int 0, .int 0, .int (-1), .int 0, .int 0, .ref g17, .ref g18, .int 0, .ref g20, .ref g21, .ref g22, .ref g23, .ref g24, .ref g25, .ref g26, .ref g27, .ref g28, .ref g29, .ref g30, .int 0]))] s.heap.size = A at hD ⊢
  have hA : ∀ q : Nat, s.heap.size ≤ q → A q := fun q h => by rw [← hAe]; exact Or.inr h
  have hS : va_S A s.heap s.heap [] := va_S.rf
  have hP : va_P (dC, dI) vwCl [(m0, .inr (12, [.ref g0, .ref g1, .ref g2, .ref g3, .ref g4, .int 0, .int 0, .int 0, .int 0, .ref g9, .int 0, .int 0, .int 0, .int 0, .int (-1), .int 0, .int 0, .ref g17, .ref g18, .int 0, .ref g20, .ref g21, .ref g22, .ref g23, .ref g24, .ref g25, .ref g26, .ref g27, .ref g28, .ref g29, .ref g30, .int 0]))] s.heap := hP
  have hl := lv_entry ([.ref m0, .int k0]) (n := 7) (Nat.le_of_ble_eq_true rfl)
  rw [lg_entry_eq]
  generalize (lg_sl ([.ref m0, .int k0]) ++ List.replicate (7 - (lg_sl ([.ref m0, .int k0])).length) Slot.unset).toArray = ls at hl ⊢
  have hl : lv_has ls 7 [(0, .ref m0), (1, .int k0)] := hl
  refine lv_aload_n hx hb dX12_takeRing_0 rfl (lv_at hl 0 rfl) ?_
  refine lv_iconst (v := 0) hx hb dX12_takeRing_1 (by decide) ?_
  refine va_put (D := (dC, dI)) (ci := 12) (v := .int 0) (ty := .int) (C := RX12) (T := TX12) (N := 32) hx hb hT iX12 tyX12 tyX12_ok nmX12 hown hK hP hD hS 0 rfl rfl 8 (by decide) (hT _ w1090) (fun _ h9 => h9) rfl (by decide +kernel) rfl rfl (Nat.le_of_ble_eq_true rfl) dX12_takeRing_2 (fun H locs hP hD hS => ?_)
  have hP : va_P (dC, dI) vwCl [(m0, .inr (12, [.ref g0, .ref g1, .ref g2, .ref g3, .ref g4, .int 0, .int 0, .int 0, .int 0, .ref g9, .int 0, .int 0, .int 0, .int 0, .int (-1), .int 0, .int 0, .ref g17, .ref g18, .int 0, .ref g20, .ref g21, .ref g22, .ref g23, .ref g24, .ref g25, .ref g26, .ref g27, .ref g28, .ref g29, .ref g30, .int 0]))] H := hP
  have hD : va_D A [(m0, .inr (12, [.ref g0, .ref g1, .ref g2, .ref g3, .ref g4, .int 0, .int 0, .int 0, .int 0, .ref g9, .int 0, .int 0, .int 0, .int 0, .int (-1), .int 0, .int 0, .ref g17, .ref g18, .int 0, .ref g20, .ref g21, .ref g22, .ref g23, .ref g24, .ref g25, .ref g26, .ref g27, .ref g28, .ref g29, .ref g30, .int 0]))] := hD
  refine lv_aload_n hx hb dX12_takeRing_5 rfl (lv_at hl 0 rfl) ?_
  refine lv_iload_n hx hb dX12_takeRing_6 rfl (lv_at hl 1 rfl) ?_
  have hPc := hP.sub (ws' := [(m0, .inr (12, [.ref g0, .ref g1, .ref g2, .ref g3, .ref g4, .int 0, .int 0, .int 0, .int 0, .ref g9, .int 0, .int 0, .int 0, .int 0, .int (-1), .int 0, .int 0, .ref g17, .ref g18, .int 0, .ref g20, .ref g21, .ref g22, .ref g23, .ref g24, .ref g25, .ref g26, .ref g27, .ref g28, .ref g29, .ref g30, .int 0]))]) [0] rfl
  have hDc := hD.sub (ws' := [(m0, .inr (12, [.ref g0, .ref g1, .ref g2, .ref g3, .ref g4, .int 0, .int 0, .int 0, .int 0, .ref g9, .int 0, .int 0, .int 0, .int 0, .int (-1), .int 0, .int 0, .ref g17, .ref g18, .int 0, .ref g20, .ref g21, .ref g22, .ref g23, .ref g24, .ref g25, .ref g26, .ref g27, .ref g28, .ref g29, .ref g30, .int 0]))]) [0] (by decide) rfl
  have hKc := hK.sub (tys' := []) [] rfl
  refine vp_callSi (va_Run.run (va_runV (As := [.int k0]) (rest := []) ⟨hx, hb, hml, hown, hT⟩ (m_isKind l dC dI m0 g0 g1 g2 g3 g4 g9 g17 g18 g20 g21 g22 g23 g24 g25 g26 g27 g28 g29 g30 H.size k0) (cwV 1 hT (gV w1288 w1290 ws74 w14 w1291) rfl rfl rfl (by decide +kernel) ⟨(Nat.le_of_ble_eq_true rfl), (Nat.le_of_ble_eq_true rfl)⟩) ⟨pcW.blind, va_recv hKc hPc (ci := 12) (q0 := 0) rfl rfl, pcW.pre hPc hKc hDc⟩ rfl rfl hl.1 rfl (lv_room (Nat.le_of_ble_eq_true rfl)) dX12_takeRing_7 ⟨(Nat.le_of_ble_eq_true rfl), (Nat.le_of_ble_eq_true rfl)⟩)) (fun r_7 hr_7 => ?_)
  obtain rfl : r_7 = 0 := hr_7
  refine lv_if_ne (tgt := 16) hx hb dX12_takeRing_10 (by decide) (fun h => absurd (by decide) h) (fun _ => ?_)
  refine lv_bipush (v := (-2)) hx hb dX12_takeRing_13 (by decide) ?_
  refine W.widen (k := 0) (n := 0) (Nat.le_of_ble_eq_true rfl) (Nat.le_of_ble_eq_true rfl) ?_
  exact W.iret (v := (-2)) hx hb hr (fun t ht hW => ⟨⟨(-2), (), rfl, rfl, trivial⟩, hS.F ht⟩) hS.2.2 dX12_takeRing_15

set_option maxHeartbeats 4000000 in
set_option maxRecDepth 100000 in
theorem m_press (l : Launch) (dC : Nat → ClassId) (dI : Nat → Nat → Nat) (m0 : Nat) (g0 : Nat) (g1 : Nat) (g2 : Nat) (g3 : Nat) (g4 : Nat) (g9 : Nat) (g17 : Nat) (g18 : Nat) (g20 : Nat) (g21 : Nat) (g22 : Nat) (g23 : Nat) (g24 : Nat) (g25 : Nat) (g26 : Nat) (g27 : Nat) (g28 : Nat) (g29 : Nat) (g30 : Nat) (sz : Nat) (k0 : Int32) : Met l yX12_press (wT yX12_press cX12_press 4 (some .int)) ({ frames := 2, cells := 0, slots := 0, locals := 46 }) (pcW dC dI [.ref m0, .int k0] sz [(m0, .inr (12, [.ref g0, .ref g1, .ref g2, .ref g3, .ref g4, .int 0, .int 0, .int 0, .int 0, .ref g9, .int 0, .int 0, .int 0, .int 0, .int (-1), .int 0, .int 0, .ref g17, .ref g18, .int 0, .ref g20, .ref g21, .ref g22, .ref g23, .ref g24, .ref g25, .ref g26, .ref g27, .ref g28, .ref g29, .ref g30, .int 0]))] []) (va_Qi (fun (r : Int32) (_ : Unit) => r = (-2)) (fun _ _ => True) (va_A [(m0, .inr (12, [.ref g0, .ref g1, .ref g2, .ref g3, .ref g4, .int 0, .int 0, .int 0, .int 0, .ref g9, .int 0, .int 0, .int 0, .int 0, .int (-1), .int 0, .int 0, .ref g17, .ref g18, .int 0, .ref g20, .ref g21, .ref g22, .ref g23, .ref g24, .ref g25, .ref g26, .ref g27, .ref g28, .ref g29, .ref g30, .int 0]))] sz)) 0 0 (va_A [(m0, .inr (12, [.ref g0, .ref g1, .ref g2, .ref g3, .ref g4, .int 0, .int 0, .int 0, .int 0, .ref g9, .int 0, .int 0, .int 0, .int 0, .int (-1), .int 0, .int 0, .ref g17, .ref g18, .int 0, .ref g20, .ref g21, .ref g22, .ref g23, .ref g24, .ref g25, .ref g26, .ref g27, .ref g28, .ref g29, .ref g30, .int 0]))] sz) := by
  refine Met.ofW (cc := cX12_press) (maxL := 4) (ret := (some .int)) (by decide) rfl ?_
  intro p e s m args below meth c s₁ B hml hv
  obtain ⟨rfl, hsz, hP, hK, hD0⟩ := hv
  have hx := B.exec
  have hb := B.bytes
  have hr := B.returns
  have hT : ∀ w ∈ TB, w.before [.ref m0, .int k0].toArray s = true := fun w h => atoms_spec (ws := wT yX12_press cX12_press 4 (some .int)) B.pre w (List.mem_cons_of_mem _ h)
  have hown : s.vm.findClass RX12 = some m.cls := findClass_of_methodNamed B.named
  have hlocks := B.notSynchronized
  subst hsz
  have hD := hD0.self (sz := s.heap.size)
  generalize hAe : va_A [(m0, .inr (12, [.ref g0, .ref g1, .ref g2, .ref g3, .ref g4, .int 0, .int 0, .int 0, .int 0, .ref g9, .int 0, .int 0, .int 0, .int 0, .int (-1), .int 0, .int 0, .ref g17, .ref g18, .int 0, .ref g20, .ref g21, .ref g22, .ref g23, .ref g24, .ref g25, .ref g26, .ref g27, .ref g28, .ref g29, .ref g30, .int 0]))] s.heap.size = A at hD ⊢
  have hA : ∀ q : Nat, s.heap.size ≤ q → A q := fun q h => by rw [← hAe]; exact Or.inr h
  have hS : va_S A s.heap s.heap [] := va_S.rf
  have hP : va_P (dC, dI) vwCl [(m0, .inr (12, [.ref g0, .ref g1, .ref g2, .ref g3, .ref g4, .int 0, .int 0, .int 0, .int 0, .ref g9, .int 0, .int 0, .int 0, .int 0, .int (-1), .int 0, .int 0, .ref g17, .ref g18, .int 0, .ref g20, .ref g21, .ref g22, .ref g23, .ref g24, .ref g25, .ref g26, .ref g27, .ref g28, .ref g29, .ref g30, .int 0]))] s.heap := hP
  have hl := lv_entry ([.ref m0, .int k0]) (n := 4) (Nat.le_of_ble_eq_true rfl)
  rw [lg_entry_eq]
  generalize (lg_sl ([.ref m0, .int k0]) ++ List.replicate (4 - (lg_sl ([.ref m0, .int k0])).length) Slot.unset).toArray = ls at hl ⊢
  have hl : lv_has ls 4 [(0, .ref m0), (1, .int k0)] := hl
  refine lv_aload_n hx hb dX12_press_0 rfl (lv_at hl 0 rfl) ?_
  refine lv_iconst (v := 0) hx hb dX12_press_1 (by decide) ?_
  refine va_put (D := (dC, dI)) (ci := 12) (v := .int 0) (ty := .int) (C := RX12) (T := TX12) (N := 32) hx hb hT iX12 tyX12 tyX12_ok nmX12 hown hK hP hD hS 0 rfl rfl 8 (by decide) (hT _ w1090) (fun _ h9 => h9) rfl (by decide +kernel) rfl rfl (Nat.le_of_ble_eq_true rfl) dX12_press_2 (fun H locs hP hD hS => ?_)
  have hP : va_P (dC, dI) vwCl [(m0, .inr (12, [.ref g0, .ref g1, .ref g2, .ref g3, .ref g4, .int 0, .int 0, .int 0, .int 0, .ref g9, .int 0, .int 0, .int 0, .int 0, .int (-1), .int 0, .int 0, .ref g17, .ref g18, .int 0, .ref g20, .ref g21, .ref g22, .ref g23, .ref g24, .ref g25, .ref g26, .ref g27, .ref g28, .ref g29, .ref g30, .int 0]))] H := hP
  have hD : va_D A [(m0, .inr (12, [.ref g0, .ref g1, .ref g2, .ref g3, .ref g4, .int 0, .int 0, .int 0, .int 0, .ref g9, .int 0, .int 0, .int 0, .int 0, .int (-1), .int 0, .int 0, .ref g17, .ref g18, .int 0, .ref g20, .ref g21, .ref g22, .ref g23, .ref g24, .ref g25, .ref g26, .ref g27, .ref g28, .ref g29, .ref g30, .int 0]))] := hD
  refine lv_aload_n hx hb dX12_press_5 rfl (lv_at hl 0 rfl) ?_
  refine lv_iload_n hx hb dX12_press_6 rfl (lv_at hl 1 rfl) ?_
  have hPc := hP.sub (ws' := [(m0, .inr (12, [.ref g0, .ref g1, .ref g2, .ref g3, .ref g4, .int 0, .int 0, .int 0, .int 0, .ref g9, .int 0, .int 0, .int 0, .int 0, .int (-1), .int 0, .int 0, .ref g17, .ref g18, .int 0, .ref g20, .ref g21, .ref g22, .ref g23, .ref g24, .ref g25, .ref g26, .ref g27, .ref g28, .ref g29, .ref g30, .int 0]))]) [0] rfl
  have hDc := hD.sub (ws' := [(m0, .inr (12, [.ref g0, .ref g1, .ref g2, .ref g3, .ref g4, .int 0, .int 0, .int 0, .int 0, .ref g9, .int 0, .int 0, .int 0, .int 0, .int (-1), .int 0, .int 0, .ref g17, .ref g18, .int 0, .ref g20, .ref g21, .ref g22, .ref g23, .ref g24, .ref g25, .ref g26, .ref g27, .ref g28, .ref g29, .ref g30, .int 0]))]) [0] (by decide) rfl
  have hKc := hK.sub (tys' := []) [] rfl
  refine vp_callSi (va_Run.run (va_runV (As := [.int k0]) (rest := []) ⟨hx, hb, hml, hown, hT⟩ (m_isKind l dC dI m0 g0 g1 g2 g3 g4 g9 g17 g18 g20 g21 g22 g23 g24 g25 g26 g27 g28 g29 g30 H.size k0) (cwV 1 hT (gV w1288 w1290 ws74 w14 w1291) rfl rfl rfl (by decide +kernel) ⟨(Nat.le_of_ble_eq_true rfl), (Nat.le_of_ble_eq_true rfl)⟩) ⟨pcW.blind, va_recv hKc hPc (ci := 12) (q0 := 0) rfl rfl, pcW.pre hPc hKc hDc⟩ rfl rfl hl.1 rfl (lv_room (Nat.le_of_ble_eq_true rfl)) dX12_press_7 ⟨(Nat.le_of_ble_eq_true rfl), (Nat.le_of_ble_eq_true rfl)⟩)) (fun r_7 hr_7 => ?_)
  obtain rfl : r_7 = 0 := hr_7
  refine lv_if_ne (tgt := 16) hx hb dX12_press_10 (by decide) (fun h => absurd (by decide) h) (fun _ => ?_)
  refine lv_bipush (v := (-2)) hx hb dX12_press_13 (by decide) ?_
  refine W.widen (k := 0) (n := 0) (Nat.le_of_ble_eq_true rfl) (Nat.le_of_ble_eq_true rfl) ?_
  exact W.iret (v := (-2)) hx hb hr (fun t ht hW => ⟨⟨(-2), (), rfl, rfl, trivial⟩, hS.F ht⟩) hS.2.2 dX12_press_15

set_option maxHeartbeats 4000000 in
set_option maxRecDepth 100000 in
theorem m_total (l : Launch) (dC : Nat → ClassId) (dI : Nat → Nat → Nat) (m0 : Nat) (g0 : Nat) (g1 : Nat) (g2 : Nat) (g3 : Nat) (g4 : Nat) (g9 : Nat) (g17 : Nat) (g18 : Nat) (g20 : Nat) (g21 : Nat) (g22 : Nat) (g23 : Nat) (g24 : Nat) (g25 : Nat) (g26 : Nat) (g27 : Nat) (g28 : Nat) (g29 : Nat) (g30 : Nat) (sz : Nat) (k0 : Int32) (k1 : Int32) : Met l yX12_total (wT yX12_total cX12_total 5 (some .int)) ({ frames := 2, cells := 0, slots := 0, locals := 46 }) (pcW dC dI [.ref m0, .int k0, .int k1] sz [(m0, .inr (12, [.ref g0, .ref g1, .ref g2, .ref g3, .ref g4, .int 0, .int 0, .int 0, .int 0, .ref g9, .int 0, .int 0, .int 0, .int 0, .int (-1), .int 0, .int 0, .ref g17, .ref g18, .int 0, .ref g20, .ref g21, .ref g22, .ref g23, .ref g24, .ref g25, .ref g26, .ref g27, .ref g28, .ref g29, .ref g30, .int 0]))] []) (va_Qi (fun (r : Int32) (_ : Unit) => r = (-2)) (fun _ _ => True) (va_A [(m0, .inr (12, [.ref g0, .ref g1, .ref g2, .ref g3, .ref g4, .int 0, .int 0, .int 0, .int 0, .ref g9, .int 0, .int 0, .int 0, .int 0, .int (-1), .int 0, .int 0, .ref g17, .ref g18, .int 0, .ref g20, .ref g21, .ref g22, .ref g23, .ref g24, .ref g25, .ref g26, .ref g27, .ref g28, .ref g29, .ref g30, .int 0]))] sz)) 0 0 (va_A [(m0, .inr (12, [.ref g0, .ref g1, .ref g2, .ref g3, .ref g4, .int 0, .int 0, .int 0, .int 0, .ref g9, .int 0, .int 0, .int 0, .int 0, .int (-1), .int 0, .int 0, .ref g17, .ref g18, .int 0, .ref g20, .ref g21, .ref g22, .ref g23, .ref g24, .ref g25, .ref g26, .ref g27, .ref g28, .ref g29, .ref g30, .int 0]))] sz) := by
  refine Met.ofW (cc := cX12_total) (maxL := 5) (ret := (some .int)) (by decide) rfl ?_
  intro p e s m args below meth c s₁ B hml hv
  obtain ⟨rfl, hsz, hP, hK, hD0⟩ := hv
  have hx := B.exec
  have hb := B.bytes
  have hr := B.returns
  have hT : ∀ w ∈ TB, w.before [.ref m0, .int k0, .int k1].toArray s = true := fun w h => atoms_spec (ws := wT yX12_total cX12_total 5 (some .int)) B.pre w (List.mem_cons_of_mem _ h)
  have hown : s.vm.findClass RX12 = some m.cls := findClass_of_methodNamed B.named
  have hlocks := B.notSynchronized
  subst hsz
  have hD := hD0.self (sz := s.heap.size)
  generalize hAe : va_A [(m0, .inr (12, [.ref g0, .ref g1, .ref g2, .ref g3, .ref g4, .int 0, .int 0, .int 0, .int 0, .ref g9, .int 0, .int 0, .int 0, .int 0, .int (-1), .int 0, .int 0, .ref g17, .ref g18, .int 0, .ref g20, .ref g21, .ref g22, .ref g23, .ref g24, .ref g25, .ref g26, .ref g27, .ref g28, .ref g29, .ref g30, .int 0]))] s.heap.size = A at hD ⊢
  have hA : ∀ q : Nat, s.heap.size ≤ q → A q := fun q h => by rw [← hAe]; exact Or.inr h
  have hS : va_S A s.heap s.heap [] := va_S.rf
  have hP : va_P (dC, dI) vwCl [(m0, .inr (12, [.ref g0, .ref g1, .ref g2, .ref g3, .ref g4, .int 0, .int 0, .int 0, .int 0, .ref g9, .int 0, .int 0, .int 0, .int 0, .int (-1), .int 0, .int 0, .ref g17, .ref g18, .int 0, .ref g20, .ref g21, .ref g22, .ref g23, .ref g24, .ref g25, .ref g26, .ref g27, .ref g28, .ref g29, .ref g30, .int 0]))] s.heap := hP
  have hl := lv_entry ([.ref m0, .int k0, .int k1]) (n := 5) (Nat.le_of_ble_eq_true rfl)
  rw [lg_entry_eq]
  generalize (lg_sl ([.ref m0, .int k0, .int k1]) ++ List.replicate (5 - (lg_sl ([.ref m0, .int k0, .int k1])).length) Slot.unset).toArray = ls at hl ⊢
  have hl : lv_has ls 5 [(0, .ref m0), (1, .int k0), (2, .int k1)] := hl
  refine lv_aload_n hx hb dX12_total_0 rfl (lv_at hl 0 rfl) ?_
  refine lv_iconst (v := 0) hx hb dX12_total_1 (by decide) ?_
  refine va_put (D := (dC, dI)) (ci := 12) (v := .int 0) (ty := .int) (C := RX12) (T := TX12) (N := 32) hx hb hT iX12 tyX12 tyX12_ok nmX12 hown hK hP hD hS 0 rfl rfl 8 (by decide) (hT _ w1090) (fun _ h9 => h9) rfl (by decide +kernel) rfl rfl (Nat.le_of_ble_eq_true rfl) dX12_total_2 (fun H locs hP hD hS => ?_)
  have hP : va_P (dC, dI) vwCl [(m0, .inr (12, [.ref g0, .ref g1, .ref g2, .ref g3, .ref g4, .int 0, .int 0, .int 0, .int 0, .ref g9, .int 0, .int 0, .int 0, .int 0, .int (-1), .int 0, .int 0, .ref g17, .ref g18, .int 0, .ref g20, .ref g21, .ref g22, .ref g23, .ref g24, .ref g25, .ref g26, .ref g27, .ref g28, .ref g29, .ref g30, .int 0]))] H := hP
  have hD : va_D A [(m0, .inr (12, [.ref g0, .ref g1, .ref g2, .ref g3, .ref g4, .int 0, .int 0, .int 0, .int 0, .ref g9, .int 0, .int 0, .int 0, .int 0, .int (-1), .int 0, .int 0, .ref g17, .ref g18, .int 0, .ref g20, .ref g21, .ref g22, .ref g23, .ref g24, .ref g25, .ref g26, .ref g27, .ref g28, .ref g29, .ref g30, .int 0]))] := hD
  refine lv_aload_n hx hb dX12_total_5 rfl (lv_at hl 0 rfl) ?_
  refine lv_iload_n hx hb dX12_total_6 rfl (lv_at hl 1 rfl) ?_
  have hPc := hP.sub (ws' := [(m0, .inr (12, [.ref g0, .ref g1, .ref g2, .ref g3, .ref g4, .int 0, .int 0, .int 0, .int 0, .ref g9, .int 0, .int 0, .int 0, .int 0, .int (-1), .int 0, .int 0, .ref g17, .ref g18, .int 0, .ref g20, .ref g21, .ref g22, .ref g23, .ref g24, .ref g25, .ref g26, .ref g27, .ref g28, .ref g29, .ref g30, .int 0]))]) [0] rfl
  have hDc := hD.sub (ws' := [(m0, .inr (12, [.ref g0, .ref g1, .ref g2, .ref g3, .ref g4, .int 0, .int 0, .int 0, .int 0, .ref g9, .int 0, .int 0, .int 0, .int 0, .int (-1), .int 0, .int 0, .ref g17, .ref g18, .int 0, .ref g20, .ref g21, .ref g22, .ref g23, .ref g24, .ref g25, .ref g26, .ref g27, .ref g28, .ref g29, .ref g30, .int 0]))]) [0] (by decide) rfl
  have hKc := hK.sub (tys' := []) [] rfl
  refine vp_callSi (va_Run.run (va_runV (As := [.int k0]) (rest := []) ⟨hx, hb, hml, hown, hT⟩ (m_isKind l dC dI m0 g0 g1 g2 g3 g4 g9 g17 g18 g20 g21 g22 g23 g24 g25 g26 g27 g28 g29 g30 H.size k0) (cwV 1 hT (gV w1288 w1290 ws74 w14 w1291) rfl rfl rfl (by decide +kernel) ⟨(Nat.le_of_ble_eq_true rfl), (Nat.le_of_ble_eq_true rfl)⟩) ⟨pcW.blind, va_recv hKc hPc (ci := 12) (q0 := 0) rfl rfl, pcW.pre hPc hKc hDc⟩ rfl rfl hl.1 rfl (lv_room (Nat.le_of_ble_eq_true rfl)) dX12_total_7 ⟨(Nat.le_of_ble_eq_true rfl), (Nat.le_of_ble_eq_true rfl)⟩)) (fun r_7 hr_7 => ?_)
  obtain rfl : r_7 = 0 := hr_7
  refine lv_if_eq (tgt := 25) hx hb dX12_total_10 (by decide) (fun _ => ?_) (fun h => absurd (by decide) h)
  refine lv_bipush (v := (-2)) hx hb dX12_total_25 (by decide) ?_
  refine W.widen (k := 0) (n := 0) (Nat.le_of_ble_eq_true rfl) (Nat.le_of_ble_eq_true rfl) ?_
  exact W.iret (v := (-2)) hx hb hr (fun t ht hW => ⟨⟨(-2), (), rfl, rfl, trivial⟩, hS.F ht⟩) hS.2.2 dX12_total_27

set_option maxHeartbeats 4000000 in
set_option maxRecDepth 100000 in
theorem m_ring (l : Launch) (dC : Nat → ClassId) (dI : Nat → Nat → Nat) (m0 : Nat) (g0 : Nat) (g1 : Nat) (g2 : Nat) (g3 : Nat) (g4 : Nat) (g9 : Nat) (g17 : Nat) (g18 : Nat) (g20 : Nat) (g21 : Nat) (g22 : Nat) (g23 : Nat) (g24 : Nat) (g25 : Nat) (g26 : Nat) (g27 : Nat) (g28 : Nat) (g29 : Nat) (g30 : Nat) (sz : Nat) (k0 : Int32) (k1 : Int32) : Met l yX12_ring (wT yX12_ring cX12_ring 4 (some .int)) ({ frames := 2, cells := 0, slots := 0, locals := 46 }) (pcW dC dI [.ref m0, .int k0, .int k1] sz [(m0, .inr (12, [.ref g0, .ref g1, .ref g2, .ref g3, .ref g4, .int 0, .int 0, .int 0, .int 0, .ref g9, .int 0, .int 0, .int 0, .int 0, .int (-1), .int 0, .int 0, .ref g17, .ref g18, .int 0, .ref g20, .ref g21, .ref g22, .ref g23, .ref g24, .ref g25, .ref g26, .ref g27, .ref g28, .ref g29, .ref g30, .int 0]))] []) (va_Qi (fun (r : Int32) (_ : Unit) => r = (-2)) (fun _ _ => True) (va_A [(m0, .inr (12, [.ref g0, .ref g1, .ref g2, .ref g3, .ref g4, .int 0, .int 0, .int 0, .int 0, .ref g9, .int 0, .int 0, .int 0, .int 0, .int (-1), .int 0, .int 0, .ref g17, .ref g18, .int 0, .ref g20, .ref g21, .ref g22, .ref g23, .ref g24, .ref g25, .ref g26, .ref g27, .ref g28, .ref g29, .ref g30, .int 0]))] sz)) 0 0 (va_A [(m0, .inr (12, [.ref g0, .ref g1, .ref g2, .ref g3, .ref g4, .int 0, .int 0, .int 0, .int 0, .ref g9, .int 0, .int 0, .int 0, .int 0, .int (-1), .int 0, .int 0, .ref g17, .ref g18, .int 0, .ref g20, .ref g21, .ref g22, .ref g23, .ref g24, .ref g25, .ref g26, .ref g27, .ref g28, .ref g29, .ref g30, .int 0]))] sz) := by
  refine Met.ofW (cc := cX12_ring) (maxL := 4) (ret := (some .int)) (by decide) rfl ?_
  intro p e s m args below meth c s₁ B hml hv
  obtain ⟨rfl, hsz, hP, hK, hD0⟩ := hv
  have hx := B.exec
  have hb := B.bytes
  have hr := B.returns
  have hT : ∀ w ∈ TB, w.before [.ref m0, .int k0, .int k1].toArray s = true := fun w h => atoms_spec (ws := wT yX12_ring cX12_ring 4 (some .int)) B.pre w (List.mem_cons_of_mem _ h)
  have hown : s.vm.findClass RX12 = some m.cls := findClass_of_methodNamed B.named
  have hlocks := B.notSynchronized
  subst hsz
  have hD := hD0.self (sz := s.heap.size)
  generalize hAe : va_A [(m0, .inr (12, [.ref g0, .ref g1, .ref g2, .ref g3, .ref g4, .int 0, .int 0, .int 0, .int 0, .ref g9, .int 0, .int 0, .int 0, .int 0, .int (-1), .int 0, .int 0, .ref g17, .ref g18, .int 0, .ref g20, .ref g21, .ref g22, .ref g23, .ref g24, .ref g25, .ref g26, .ref g27, .ref g28, .ref g29, .ref g30, .int 0]))] s.heap.size = A at hD ⊢
  have hA : ∀ q : Nat, s.heap.size ≤ q → A q := fun q h => by rw [← hAe]; exact Or.inr h
  have hS : va_S A s.heap s.heap [] := va_S.rf
  have hP : va_P (dC, dI) vwCl [(m0, .inr (12, [.ref g0, .ref g1, .ref g2, .ref g3, .ref g4, .int 0, .int 0, .int 0, .int 0, .ref g9, .int 0, .int 0, .int 0, .int 0, .int (-1), .int 0, .int 0, .ref g17, .ref g18, .int 0, .ref g20, .ref g21, .ref g22, .ref g23, .ref g24, .ref g25, .ref g26, .ref g27, .ref g28, .ref g29, .ref g30, .int 0]))] s.heap := hP
  have hl := lv_entry ([.ref m0, .int k0, .int k1]) (n := 4) (Nat.le_of_ble_eq_true rfl)
  rw [lg_entry_eq]
  generalize (lg_sl ([.ref m0, .int k0, .int k1]) ++ List.replicate (4 - (lg_sl ([.ref m0, .int k0, .int k1])).length) Slot.unset).toArray = ls at hl ⊢
  have hl : lv_has ls 4 [(0, .ref m0), (1, .int k0), (2, .int k1)] := hl
  refine lv_aload_n hx hb dX12_ring_0 rfl (lv_at hl 0 rfl) ?_
  refine lv_iconst (v := 0) hx hb dX12_ring_1 (by decide) ?_
  refine va_put (D := (dC, dI)) (ci := 12) (v := .int 0) (ty := .int) (C := RX12) (T := TX12) (N := 32) hx hb hT iX12 tyX12 tyX12_ok nmX12 hown hK hP hD hS 0 rfl rfl 8 (by decide) (hT _ w1090) (fun _ h9 => h9) rfl (by decide +kernel) rfl rfl (Nat.le_of_ble_eq_true rfl) dX12_ring_2 (fun H locs hP hD hS => ?_)
  have hP : va_P (dC, dI) vwCl [(m0, .inr (12, [.ref g0, .ref g1, .ref g2, .ref g3, .ref g4, .int 0, .int 0, .int 0, .int 0, .ref g9, .int 0, .int 0, .int 0, .int 0, .int (-1), .int 0, .int 0, .ref g17, .ref g18, .int 0, .ref g20, .ref g21, .ref g22, .ref g23, .ref g24, .ref g25, .ref g26, .ref g27, .ref g28, .ref g29, .ref g30, .int 0]))] H := hP
  have hD : va_D A [(m0, .inr (12, [.ref g0, .ref g1, .ref g2, .ref g3, .ref g4, .int 0, .int 0, .int 0, .int 0, .ref g9, .int 0, .int 0, .int 0, .int 0, .int (-1), .int 0, .int 0, .ref g17, .ref g18, .int 0, .ref g20, .ref g21, .ref g22, .ref g23, .ref g24, .ref g25, .ref g26, .ref g27, .ref g28, .ref g29, .ref g30, .int 0]))] := hD
  refine lv_aload_n hx hb dX12_ring_5 rfl (lv_at hl 0 rfl) ?_
  refine lv_iload_n hx hb dX12_ring_6 rfl (lv_at hl 1 rfl) ?_
  have hPc := hP.sub (ws' := [(m0, .inr (12, [.ref g0, .ref g1, .ref g2, .ref g3, .ref g4, .int 0, .int 0, .int 0, .int 0, .ref g9, .int 0, .int 0, .int 0, .int 0, .int (-1), .int 0, .int 0, .ref g17, .ref g18, .int 0, .ref g20, .ref g21, .ref g22, .ref g23, .ref g24, .ref g25, .ref g26, .ref g27, .ref g28, .ref g29, .ref g30, .int 0]))]) [0] rfl
  have hDc := hD.sub (ws' := [(m0, .inr (12, [.ref g0, .ref g1, .ref g2, .ref g3, .ref g4, .int 0, .int 0, .int 0, .int 0, .ref g9, .int 0, .int 0, .int 0, .int 0, .int (-1), .int 0, .int 0, .ref g17, .ref g18, .int 0, .ref g20, .ref g21, .ref g22, .ref g23, .ref g24, .ref g25, .ref g26, .ref g27, .ref g28, .ref g29, .ref g30, .int 0]))]) [0] (by decide) rfl
  have hKc := hK.sub (tys' := []) [] rfl
  refine vp_callSi (va_Run.run (va_runV (As := [.int k0]) (rest := []) ⟨hx, hb, hml, hown, hT⟩ (m_isKind l dC dI m0 g0 g1 g2 g3 g4 g9 g17 g18 g20 g21 g22 g23 g24 g25 g26 g27 g28 g29 g30 H.size k0) (cwV 1 hT (gV w1288 w1290 ws74 w14 w1291) rfl rfl rfl (by decide +kernel) ⟨(Nat.le_of_ble_eq_true rfl), (Nat.le_of_ble_eq_true rfl)⟩) ⟨pcW.blind, va_recv hKc hPc (ci := 12) (q0 := 0) rfl rfl, pcW.pre hPc hKc hDc⟩ rfl rfl hl.1 rfl (lv_room (Nat.le_of_ble_eq_true rfl)) dX12_ring_7 ⟨(Nat.le_of_ble_eq_true rfl), (Nat.le_of_ble_eq_true rfl)⟩)) (fun r_7 hr_7 => ?_)
  obtain rfl : r_7 = 0 := hr_7
  refine lv_if_ne (tgt := 16) hx hb dX12_ring_10 (by decide) (fun h => absurd (by decide) h) (fun _ => ?_)
  refine lv_bipush (v := (-2)) hx hb dX12_ring_13 (by decide) ?_
  refine W.widen (k := 0) (n := 0) (Nat.le_of_ble_eq_true rfl) (Nat.le_of_ble_eq_true rfl) ?_
  exact W.iret (v := (-2)) hx hb hr (fun t ht hW => ⟨⟨(-2), (), rfl, rfl, trivial⟩, hS.F ht⟩) hS.2.2 dX12_ring_15

set_option maxHeartbeats 4000000 in
set_option maxRecDepth 100000 in
theorem m_load (l : Launch) (dC : Nat → ClassId) (dI : Nat → Nat → Nat) (m0 : Nat) (g0 : Nat) (g1 : Nat) (g2 : Nat) (g3 : Nat) (g4 : Nat) (g9 : Nat) (g17 : Nat) (g18 : Nat) (g20 : Nat) (g21 : Nat) (g22 : Nat) (g23 : Nat) (g24 : Nat) (g25 : Nat) (g26 : Nat) (g27 : Nat) (g28 : Nat) (g29 : Nat) (g30 : Nat) (sz : Nat) (k0 : Int32) : Met l yX12_load (wT yX12_load cX12_load 2 (some .int)) ({ frames := 2, cells := 0, slots := 0, locals := 46 }) (pcW dC dI [.ref m0, .int k0] sz [(m0, .inr (12, [.ref g0, .ref g1, .ref g2, .ref g3, .ref g4, .int 0, .int 0, .int 0, .int 0, .ref g9, .int 0, .int 0, .int 0, .int 0, .int (-1), .int 0, .int 0, .ref g17, .ref g18, .int 0, .ref g20, .ref g21, .ref g22, .ref g23, .ref g24, .ref g25, .ref g26, .ref g27, .ref g28, .ref g29, .ref g30, .int 0]))] []) (va_Qi (fun (r : Int32) (_ : Unit) => r = (-2)) (fun _ _ => True) (va_A [(m0, .inr (12, [.ref g0, .ref g1, .ref g2, .ref g3, .ref g4, .int 0, .int 0, .int 0, .int 0, .ref g9, .int 0, .int 0, .int 0, .int 0, .int (-1), .int 0, .int 0, .ref g17, .ref g18, .int 0, .ref g20, .ref g21, .ref g22, .ref g23, .ref g24, .ref g25, .ref g26, .ref g27, .ref g28, .ref g29, .ref g30, .int 0]))] sz)) 0 0 (va_A [(m0, .inr (12, [.ref g0, .ref g1, .ref g2, .ref g3, .ref g4, .int 0, .int 0, .int 0, .int 0, .ref g9, .int 0, .int 0, .int 0, .int 0, .int (-1), .int 0, .int 0, .ref g17, .ref g18, .int 0, .ref g20, .ref g21, .ref g22, .ref g23, .ref g24, .ref g25, .ref g26, .ref g27, .ref g28, .ref g29, .ref g30, .int 0]))] sz) := by
  refine Met.ofW (cc := cX12_load) (maxL := 2) (ret := (some .int)) (by decide) rfl ?_
  intro p e s m args below meth c s₁ B hml hv
  obtain ⟨rfl, hsz, hP, hK, hD0⟩ := hv
  have hx := B.exec
  have hb := B.bytes
  have hr := B.returns
  have hT : ∀ w ∈ TB, w.before [.ref m0, .int k0].toArray s = true := fun w h => atoms_spec (ws := wT yX12_load cX12_load 2 (some .int)) B.pre w (List.mem_cons_of_mem _ h)
  have hown : s.vm.findClass RX12 = some m.cls := findClass_of_methodNamed B.named
  have hlocks := B.notSynchronized
  subst hsz
  have hD := hD0.self (sz := s.heap.size)
  generalize hAe : va_A [(m0, .inr (12, [.ref g0, .ref g1, .ref g2, .ref g3, .ref g4, .int 0, .int 0, .int 0, .int 0, .ref g9, .int 0, .int 0, .int 0, .int 0, .int (-1), .int 0, .int 0, .ref g17, .ref g18, .int 0, .ref g20, .ref g21, .ref g22, .ref g23, .ref g24, .ref g25, .ref g26, .ref g27, .ref g28, .ref g29, .ref g30, .int 0]))] s.heap.size = A at hD ⊢
  have hA : ∀ q : Nat, s.heap.size ≤ q → A q := fun q h => by rw [← hAe]; exact Or.inr h
  have hS : va_S A s.heap s.heap [] := va_S.rf
  have hP : va_P (dC, dI) vwCl [(m0, .inr (12, [.ref g0, .ref g1, .ref g2, .ref g3, .ref g4, .int 0, .int 0, .int 0, .int 0, .ref g9, .int 0, .int 0, .int 0, .int 0, .int (-1), .int 0, .int 0, .ref g17, .ref g18, .int 0, .ref g20, .ref g21, .ref g22, .ref g23, .ref g24, .ref g25, .ref g26, .ref g27, .ref g28, .ref g29, .ref g30, .int 0]))] s.heap := hP
  have hl := lv_entry ([.ref m0, .int k0]) (n := 2) (Nat.le_of_ble_eq_true rfl)
  rw [lg_entry_eq]
  generalize (lg_sl ([.ref m0, .int k0]) ++ List.replicate (2 - (lg_sl ([.ref m0, .int k0])).length) Slot.unset).toArray = ls at hl ⊢
  have hl : lv_has ls 2 [(0, .ref m0), (1, .int k0)] := hl
  refine lv_aload_n hx hb dX12_load_0 rfl (lv_at hl 0 rfl) ?_
  refine lv_iconst (v := 0) hx hb dX12_load_1 (by decide) ?_
  refine va_put (D := (dC, dI)) (ci := 12) (v := .int 0) (ty := .int) (C := RX12) (T := TX12) (N := 32) hx hb hT iX12 tyX12 tyX12_ok nmX12 hown hK hP hD hS 0 rfl rfl 8 (by decide) (hT _ w1090) (fun _ h9 => h9) rfl (by decide +kernel) rfl rfl (Nat.le_of_ble_eq_true rfl) dX12_load_2 (fun H locs hP hD hS => ?_)
  have hP : va_P (dC, dI) vwCl [(m0, .inr (12, [.ref g0, .ref g1, .ref g2, .ref g3, .ref g4, .int 0, .int 0, .int 0, .int 0, .ref g9, .int 0, .int 0, .int 0, .int 0, .int (-1), .int 0, .int 0, .ref g17, .ref g18, .int 0, .ref g20, .ref g21, .ref g22, .ref g23, .ref g24, .ref g25, .ref g26, .ref g27, .ref g28, .ref g29, .ref g30, .int 0]))] H := hP
  have hD : va_D A [(m0, .inr (12, [.ref g0, .ref g1, .ref g2, .ref g3, .ref g4, .int 0, .int 0, .int 0, .int 0, .ref g9, .int 0, .int 0, .int 0, .int 0, .int (-1), .int 0, .int 0, .ref g17, .ref g18, .int 0, .ref g20, .ref g21, .ref g22, .ref g23, .ref g24, .ref g25, .ref g26, .ref g27, .ref g28, .ref g29, .ref g30, .int 0]))] := hD
  refine lv_aload_n hx hb dX12_load_5 rfl (lv_at hl 0 rfl) ?_
  refine lv_iload_n hx hb dX12_load_6 rfl (lv_at hl 1 rfl) ?_
  have hPc := hP.sub (ws' := [(m0, .inr (12, [.ref g0, .ref g1, .ref g2, .ref g3, .ref g4, .int 0, .int 0, .int 0, .int 0, .ref g9, .int 0, .int 0, .int 0, .int 0, .int (-1), .int 0, .int 0, .ref g17, .ref g18, .int 0, .ref g20, .ref g21, .ref g22, .ref g23, .ref g24, .ref g25, .ref g26, .ref g27, .ref g28, .ref g29, .ref g30, .int 0]))]) [0] rfl
  have hDc := hD.sub (ws' := [(m0, .inr (12, [.ref g0, .ref g1, .ref g2, .ref g3, .ref g4, .int 0, .int 0, .int 0, .int 0, .ref g9, .int 0, .int 0, .int 0, .int 0, .int (-1), .int 0, .int 0, .ref g17, .ref g18, .int 0, .ref g20, .ref g21, .ref g22, .ref g23, .ref g24, .ref g25, .ref g26, .ref g27, .ref g28, .ref g29, .ref g30, .int 0]))]) [0] (by decide) rfl
  have hKc := hK.sub (tys' := []) [] rfl
  refine vp_callSi (va_Run.run (va_runV (As := [.int k0]) (rest := []) ⟨hx, hb, hml, hown, hT⟩ (m_isKind l dC dI m0 g0 g1 g2 g3 g4 g9 g17 g18 g20 g21 g22 g23 g24 g25 g26 g27 g28 g29 g30 H.size k0) (cwV 1 hT (gV w1288 w1290 ws74 w14 w1291) rfl rfl rfl (by decide +kernel) ⟨(Nat.le_of_ble_eq_true rfl), (Nat.le_of_ble_eq_true rfl)⟩) ⟨pcW.blind, va_recv hKc hPc (ci := 12) (q0 := 0) rfl rfl, pcW.pre hPc hKc hDc⟩ rfl rfl hl.1 rfl (lv_room (Nat.le_of_ble_eq_true rfl)) dX12_load_7 ⟨(Nat.le_of_ble_eq_true rfl), (Nat.le_of_ble_eq_true rfl)⟩)) (fun r_7 hr_7 => ?_)
  obtain rfl : r_7 = 0 := hr_7
  refine lv_if_ne (tgt := 16) hx hb dX12_load_10 (by decide) (fun h => absurd (by decide) h) (fun _ => ?_)
  refine lv_bipush (v := (-2)) hx hb dX12_load_13 (by decide) ?_
  refine W.widen (k := 0) (n := 0) (Nat.le_of_ble_eq_true rfl) (Nat.le_of_ble_eq_true rfl) ?_
  exact W.iret (v := (-2)) hx hb hr (fun t ht hW => ⟨⟨(-2), (), rfl, rfl, trivial⟩, hS.F ht⟩) hS.2.2 dX12_load_15

set_option maxHeartbeats 4000000 in
set_option maxRecDepth 100000 in
theorem m_cleared (l : Launch) (dC : Nat → ClassId) (dI : Nat → Nat → Nat) (m0 : Nat) (g0 : Nat) (g1 : Nat) (g2 : Nat) (g3 : Nat) (g4 : Nat) (g9 : Nat) (g17 : Nat) (g18 : Nat) (g20 : Nat) (g21 : Nat) (g22 : Nat) (g23 : Nat) (g24 : Nat) (g25 : Nat) (g26 : Nat) (g27 : Nat) (g28 : Nat) (g29 : Nat) (g30 : Nat) (sz : Nat) (k0 : Int32) (k1 : Int32) : Met l yX12_cleared (wT yX12_cleared cX12_cleared 5 (some .int)) ({ frames := 2, cells := 0, slots := 0, locals := 46 }) (pcW dC dI [.ref m0, .int k0, .int k1] sz [(m0, .inr (12, [.ref g0, .ref g1, .ref g2, .ref g3, .ref g4, .int 0, .int 0, .int 0, .int 0, .ref g9, .int 0, .int 0, .int 0, .int 0, .int (-1), .int 0, .int 0, .ref g17, .ref g18, .int 0, .ref g20, .ref g21, .ref g22, .ref g23, .ref g24, .ref g25, .ref g26, .ref g27, .ref g28, .ref g29, .ref g30, .int 0]))] []) (va_Qi (fun (r : Int32) (_ : Unit) => r = (-2)) (fun _ _ => True) (va_A [(m0, .inr (12, [.ref g0, .ref g1, .ref g2, .ref g3, .ref g4, .int 0, .int 0, .int 0, .int 0, .ref g9, .int 0, .int 0, .int 0, .int 0, .int (-1), .int 0, .int 0, .ref g17, .ref g18, .int 0, .ref g20, .ref g21, .ref g22, .ref g23, .ref g24, .ref g25, .ref g26, .ref g27, .ref g28, .ref g29, .ref g30, .int 0]))] sz)) 0 0 (va_A [(m0, .inr (12, [.ref g0, .ref g1, .ref g2, .ref g3, .ref g4, .int 0, .int 0, .int 0, .int 0, .ref g9, .int 0, .int 0, .int 0, .int 0, .int (-1), .int 0, .int 0, .ref g17, .ref g18, .int 0, .ref g20, .ref g21, .ref g22, .ref g23, .ref g24, .ref g25, .ref g26, .ref g27, .ref g28, .ref g29, .ref g30, .int 0]))] sz) := by
  refine Met.ofW (cc := cX12_cleared) (maxL := 5) (ret := (some .int)) (by decide) rfl ?_
  intro p e s m args below meth c s₁ B hml hv
  obtain ⟨rfl, hsz, hP, hK, hD0⟩ := hv
  have hx := B.exec
  have hb := B.bytes
  have hr := B.returns
  have hT : ∀ w ∈ TB, w.before [.ref m0, .int k0, .int k1].toArray s = true := fun w h => atoms_spec (ws := wT yX12_cleared cX12_cleared 5 (some .int)) B.pre w (List.mem_cons_of_mem _ h)
  have hown : s.vm.findClass RX12 = some m.cls := findClass_of_methodNamed B.named
  have hlocks := B.notSynchronized
  subst hsz
  have hD := hD0.self (sz := s.heap.size)
  generalize hAe : va_A [(m0, .inr (12, [.ref g0, .ref g1, .ref g2, .ref g3, .ref g4, .int 0, .int 0, .int 0, .int 0, .ref g9, .int 0, .int 0, .int 0, .int 0, .int (-1), .int 0, .int 0, .ref g17, .ref g18, .int 0, .ref g20, .ref g21, .ref g22, .ref g23, .ref g24, .ref g25, .ref g26, .ref g27, .ref g28, .ref g29, .ref g30, .int 0]))] s.heap.size = A at hD ⊢
  have hA : ∀ q : Nat, s.heap.size ≤ q → A q := fun q h => by rw [← hAe]; exact Or.inr h
  have hS : va_S A s.heap s.heap [] := va_S.rf
  have hP : va_P (dC, dI) vwCl [(m0, .inr (12, [.ref g0, .ref g1, .ref g2, .ref g3, .ref g4, .int 0, .int 0, .int 0, .int 0, .ref g9, .int 0, .int 0, .int 0, .int 0, .int (-1), .int 0, .int 0, .ref g17, .ref g18, .int 0, .ref g20, .ref g21, .ref g22, .ref g23, .ref g24, .ref g25, .ref g26, .ref g27, .ref g28, .ref g29, .ref g30, .int 0]))] s.heap := hP
  have hl := lv_entry ([.ref m0, .int k0, .int k1]) (n := 5) (Nat.le_of_ble_eq_true rfl)
  rw [lg_entry_eq]
  generalize (lg_sl ([.ref m0, .int k0, .int k1]) ++ List.replicate (5 - (lg_sl ([.ref m0, .int k0, .int k1])).length) Slot.unset).toArray = ls at hl ⊢
  have hl : lv_has ls 5 [(0, .ref m0), (1, .int k0), (2, .int k1)] := hl
  refine lv_aload_n hx hb dX12_cleared_0 rfl (lv_at hl 0 rfl) ?_
  refine lv_iconst (v := 0) hx hb dX12_cleared_1 (by decide) ?_
  refine va_put (D := (dC, dI)) (ci := 12) (v := .int 0) (ty := .int) (C := RX12) (T := TX12) (N := 32) hx hb hT iX12 tyX12 tyX12_ok nmX12 hown hK hP hD hS 0 rfl rfl 8 (by decide) (hT _ w1090) (fun _ h9 => h9) rfl (by decide +kernel) rfl rfl (Nat.le_of_ble_eq_true rfl) dX12_cleared_2 (fun H locs hP hD hS => ?_)
  have hP : va_P (dC, dI) vwCl [(m0, .inr (12, [.ref g0, .ref g1, .ref g2, .ref g3, .ref g4, .int 0, .int 0, .int 0, .int 0, .ref g9, .int 0, .int 0, .int 0, .int 0, .int (-1), .int 0, .int 0, .ref g17, .ref g18, .int 0, .ref g20, .ref g21, .ref g22, .ref g23, .ref g24, .ref g25, .ref g26, .ref g27, .ref g28, .ref g29, .ref g30, .int 0]))] H := hP
  have hD : va_D A [(m0, .inr (12, [.ref g0, .ref g1, .ref g2, .ref g3, .ref g4, .int 0, .int 0, .int 0, .int 0, .ref g9, .int 0, .int 0, .int 0, .int 0, .int (-1), .int 0, .int 0, .ref g17, .ref g18, .int 0, .ref g20, .ref g21, .ref g22, .ref g23, .ref g24, .ref g25, .ref g26, .ref g27, .ref g28, .ref g29, .ref g30, .int 0]))] := hD
  refine lv_aload_n hx hb dX12_cleared_5 rfl (lv_at hl 0 rfl) ?_
  refine lv_iload_n hx hb dX12_cleared_6 rfl (lv_at hl 1 rfl) ?_
  have hPc := hP.sub (ws' := [(m0, .inr (12, [.ref g0, .ref g1, .ref g2, .ref g3, .ref g4, .int 0, .int 0, .int 0, .int 0, .ref g9, .int 0, .int 0, .int 0, .int 0, .int (-1), .int 0, .int 0, .ref g17, .ref g18, .int 0, .ref g20, .ref g21, .ref g22, .ref g23, .ref g24, .ref g25, .ref g26, .ref g27, .ref g28, .ref g29, .ref g30, .int 0]))]) [0] rfl
  have hDc := hD.sub (ws' := [(m0, .inr (12, [.ref g0, .ref g1, .ref g2, .ref g3, .ref g4, .int 0, .int 0, .int 0, .int 0, .ref g9, .int 0, .int 0, .int 0, .int 0, .int (-1), .int 0, .int 0, .ref g17, .ref g18, .int 0, .ref g20, .ref g21, .ref g22, .ref g23, .ref g24, .ref g25, .ref g26, .ref g27, .ref g28, .ref g29, .ref g30, .int 0]))]) [0] (by decide) rfl
  have hKc := hK.sub (tys' := []) [] rfl
  refine vp_callSi (va_Run.run (va_runV (As := [.int k0]) (rest := []) ⟨hx, hb, hml, hown, hT⟩ (m_isKind l dC dI m0 g0 g1 g2 g3 g4 g9 g17 g18 g20 g21 g22 g23 g24 g25 g26 g27 g28 g29 g30 H.size k0) (cwV 1 hT (gV w1288 w1290 ws74 w14 w1291) rfl rfl rfl (by decide +kernel) ⟨(Nat.le_of_ble_eq_true rfl), (Nat.le_of_ble_eq_true rfl)⟩) ⟨pcW.blind, va_recv hKc hPc (ci := 12) (q0 := 0) rfl rfl, pcW.pre hPc hKc hDc⟩ rfl rfl hl.1 rfl (lv_room (Nat.le_of_ble_eq_true rfl)) dX12_cleared_7 ⟨(Nat.le_of_ble_eq_true rfl), (Nat.le_of_ble_eq_true rfl)⟩)) (fun r_7 hr_7 => ?_)
  obtain rfl : r_7 = 0 := hr_7
  refine lv_if_eq (tgt := 25) hx hb dX12_cleared_10 (by decide) (fun _ => ?_) (fun h => absurd (by decide) h)
  refine lv_bipush (v := (-2)) hx hb dX12_cleared_25 (by decide) ?_
  refine W.widen (k := 0) (n := 0) (Nat.le_of_ble_eq_true rfl) (Nat.le_of_ble_eq_true rfl) ?_
  exact W.iret (v := (-2)) hx hb hr (fun t ht hW => ⟨⟨(-2), (), rfl, rfl, trivial⟩, hS.F ht⟩) hS.2.2 dX12_cleared_27

set_option maxHeartbeats 4000000 in
set_option maxRecDepth 100000 in
theorem m_rounds (l : Launch) (dC : Nat → ClassId) (dI : Nat → Nat → Nat) (m0 : Nat) (g0 : Nat) (g1 : Nat) (g2 : Nat) (g3 : Nat) (g4 : Nat) (g9 : Nat) (g17 : Nat) (g18 : Nat) (g20 : Nat) (g21 : Nat) (g22 : Nat) (g23 : Nat) (g24 : Nat) (g25 : Nat) (g26 : Nat) (g27 : Nat) (g28 : Nat) (g29 : Nat) (g30 : Nat) (sz : Nat) (k0 : Int32) (k1 : Int32) : Met l yX12_rounds (wT yX12_rounds cX12_rounds 4 (some .int)) ({ frames := 2, cells := 0, slots := 0, locals := 46 }) (pcW dC dI [.ref m0, .int k0, .int k1] sz [(m0, .inr (12, [.ref g0, .ref g1, .ref g2, .ref g3, .ref g4, .int 0, .int 0, .int 0, .int 0, .ref g9, .int 0, .int 0, .int 0, .int 0, .int (-1), .int 0, .int 0, .ref g17, .ref g18, .int 0, .ref g20, .ref g21, .ref g22, .ref g23, .ref g24, .ref g25, .ref g26, .ref g27, .ref g28, .ref g29, .ref g30, .int 0]))] []) (va_Qi (fun (r : Int32) (_ : Unit) => r = (-2)) (fun _ _ => True) (va_A [(m0, .inr (12, [.ref g0, .ref g1, .ref g2, .ref g3, .ref g4, .int 0, .int 0, .int 0, .int 0, .ref g9, .int 0, .int 0, .int 0, .int 0, .int (-1), .int 0, .int 0, .ref g17, .ref g18, .int 0, .ref g20, .ref g21, .ref g22, .ref g23, .ref g24, .ref g25, .ref g26, .ref g27, .ref g28, .ref g29, .ref g30, .int 0]))] sz)) 0 0 (va_A [(m0, .inr (12, [.ref g0, .ref g1, .ref g2, .ref g3, .ref g4, .int 0, .int 0, .int 0, .int 0, .ref g9, .int 0, .int 0, .int 0, .int 0, .int (-1), .int 0, .int 0, .ref g17, .ref g18, .int 0, .ref g20, .ref g21, .ref g22, .ref g23, .ref g24, .ref g25, .ref g26, .ref g27, .ref g28, .ref g29, .ref g30, .int 0]))] sz) := by
  refine Met.ofW (cc := cX12_rounds) (maxL := 4) (ret := (some .int)) (by decide) rfl ?_
  intro p e s m args below meth c s₁ B hml hv
  obtain ⟨rfl, hsz, hP, hK, hD0⟩ := hv
  have hx := B.exec
  have hb := B.bytes
  have hr := B.returns
  have hT : ∀ w ∈ TB, w.before [.ref m0, .int k0, .int k1].toArray s = true := fun w h => atoms_spec (ws := wT yX12_rounds cX12_rounds 4 (some .int)) B.pre w (List.mem_cons_of_mem _ h)
  have hown : s.vm.findClass RX12 = some m.cls := findClass_of_methodNamed B.named
  have hlocks := B.notSynchronized
  subst hsz
  have hD := hD0.self (sz := s.heap.size)
  generalize hAe : va_A [(m0, .inr (12, [.ref g0, .ref g1, .ref g2, .ref g3, .ref g4, .int 0, .int 0, .int 0, .int 0, .ref g9, .int 0, .int 0, .int 0, .int 0, .int (-1), .int 0, .int 0, .ref g17, .ref g18, .int 0, .ref g20, .ref g21, .ref g22, .ref g23, .ref g24, .ref g25, .ref g26, .ref g27, .ref g28, .ref g29, .ref g30, .int 0]))] s.heap.size = A at hD ⊢
  have hA : ∀ q : Nat, s.heap.size ≤ q → A q := fun q h => by rw [← hAe]; exact Or.inr h
  have hS : va_S A s.heap s.heap [] := va_S.rf
  have hP : va_P (dC, dI) vwCl [(m0, .inr (12, [.ref g0, .ref g1, .ref g2, .ref g3, .ref g4, .int 0, .int 0, .int 0, .int 0, .ref g9, .int 0, .int 0, .int 0, .int 0, .int (-1), .int 0, .int 0, .ref g17, .ref g18, .int 0, .ref g20, .ref g21, .ref g22, .ref g23, .ref g24, .ref g25, .ref g26, .ref g27, .ref g28, .ref g29, .ref g30, .int 0]))] s.heap := hP
  have hl := lv_entry ([.ref m0, .int k0, .int k1]) (n := 4) (Nat.le_of_ble_eq_true rfl)
  rw [lg_entry_eq]
  generalize (lg_sl ([.ref m0, .int k0, .int k1]) ++ List.replicate (4 - (lg_sl ([.ref m0, .int k0, .int k1])).length) Slot.unset).toArray = ls at hl ⊢
  have hl : lv_has ls 4 [(0, .ref m0), (1, .int k0), (2, .int k1)] := hl
  refine lv_aload_n hx hb dX12_rounds_0 rfl (lv_at hl 0 rfl) ?_
  refine lv_iconst (v := 0) hx hb dX12_rounds_1 (by decide) ?_
  refine va_put (D := (dC, dI)) (ci := 12) (v := .int 0) (ty := .int) (C := RX12) (T := TX12) (N := 32) hx hb hT iX12 tyX12 tyX12_ok nmX12 hown hK hP hD hS 0 rfl rfl 8 (by decide) (hT _ w1090) (fun _ h9 => h9) rfl (by decide +kernel) rfl rfl (Nat.le_of_ble_eq_true rfl) dX12_rounds_2 (fun H locs hP hD hS => ?_)
  have hP : va_P (dC, dI) vwCl [(m0, .inr (12, [.ref g0, .ref g1, .ref g2, .ref g3, .ref g4, .int 0, .int 0, .int 0, .int 0, .ref g9, .int 0, .int 0, .int 0, .int 0, .int (-1), .int 0, .int 0, .ref g17, .ref g18, .int 0, .ref g20, .ref g21, .ref g22, .ref g23, .ref g24, .ref g25, .ref g26, .ref g27, .ref g28, .ref g29, .ref g30, .int 0]))] H := hP
  have hD : va_D A [(m0, .inr (12, [.ref g0, .ref g1, .ref g2, .ref g3, .ref g4, .int 0, .int 0, .int 0, .int 0, .ref g9, .int 0, .int 0, .int 0, .int 0, .int (-1), .int 0, .int 0, .ref g17, .ref g18, .int 0, .ref g20, .ref g21, .ref g22, .ref g23, .ref g24, .ref g25, .ref g26, .ref g27, .ref g28, .ref g29, .ref g30, .int 0]))] := hD
  refine lv_aload_n hx hb dX12_rounds_5 rfl (lv_at hl 0 rfl) ?_
  refine lv_iload_n hx hb dX12_rounds_6 rfl (lv_at hl 1 rfl) ?_
  have hPc := hP.sub (ws' := [(m0, .inr (12, [.ref g0, .ref g1, .ref g2, .ref g3, .ref g4, .int 0, .int 0, .int 0, .int 0, .ref g9, .int 0, .int 0, .int 0, .int 0, .int (-1), .int 0, .int 0, .ref g17, .ref g18, .int 0, .ref g20, .ref g21, .ref g22, .ref g23, .ref g24, .ref g25, .ref g26, .ref g27, .ref g28, .ref g29, .ref g30, .int 0]))]) [0] rfl
  have hDc := hD.sub (ws' := [(m0, .inr (12, [.ref g0, .ref g1, .ref g2, .ref g3, .ref g4, .int 0, .int 0, .int 0, .int 0, .ref g9, .int 0, .int 0, .int 0, .int 0, .int (-1), .int 0, .int 0, .ref g17, .ref g18, .int 0, .ref g20, .ref g21, .ref g22, .ref g23, .ref g24, .ref g25, .ref g26, .ref g27, .ref g28, .ref g29, .ref g30, .int 0]))]) [0] (by decide) rfl
  have hKc := hK.sub (tys' := []) [] rfl
  refine vp_callSi (va_Run.run (va_runV (As := [.int k0]) (rest := []) ⟨hx, hb, hml, hown, hT⟩ (m_isKind l dC dI m0 g0 g1 g2 g3 g4 g9 g17 g18 g20 g21 g22 g23 g24 g25 g26 g27 g28 g29 g30 H.size k0) (cwV 1 hT (gV w1288 w1290 ws74 w14 w1291) rfl rfl rfl (by decide +kernel) ⟨(Nat.le_of_ble_eq_true rfl), (Nat.le_of_ble_eq_true rfl)⟩) ⟨pcW.blind, va_recv hKc hPc (ci := 12) (q0 := 0) rfl rfl, pcW.pre hPc hKc hDc⟩ rfl rfl hl.1 rfl (lv_room (Nat.le_of_ble_eq_true rfl)) dX12_rounds_7 ⟨(Nat.le_of_ble_eq_true rfl), (Nat.le_of_ble_eq_true rfl)⟩)) (fun r_7 hr_7 => ?_)
  obtain rfl : r_7 = 0 := hr_7
  refine lv_if_ne (tgt := 16) hx hb dX12_rounds_10 (by decide) (fun h => absurd (by decide) h) (fun _ => ?_)
  refine lv_bipush (v := (-2)) hx hb dX12_rounds_13 (by decide) ?_
  refine W.widen (k := 0) (n := 0) (Nat.le_of_ble_eq_true rfl) (Nat.le_of_ble_eq_true rfl) ?_
  exact W.iret (v := (-2)) hx hb hr (fun t ht hW => ⟨⟨(-2), (), rfl, rfl, trivial⟩, hS.F ht⟩) hS.2.2 dX12_rounds_15

set_option maxHeartbeats 4000000 in
set_option maxRecDepth 100000 in
theorem m_chain (l : Launch) (dC : Nat → ClassId) (dI : Nat → Nat → Nat) (m0 : Nat) (g0 : Nat) (g1 : Nat) (g2 : Nat) (g3 : Nat) (g4 : Nat) (g9 : Nat) (g17 : Nat) (g18 : Nat) (g20 : Nat) (g21 : Nat) (g22 : Nat) (g23 : Nat) (g24 : Nat) (g25 : Nat) (g26 : Nat) (g27 : Nat) (g28 : Nat) (g29 : Nat) (g30 : Nat) (sz : Nat) (k0 : Int32) (k1 : Int32) : Met l yX12_chain (wT yX12_chain cX12_chain 6 (some .int)) ({ frames := 2, cells := 0, slots := 0, locals := 46 }) (pcW dC dI [.ref m0, .int k0, .int k1] sz [(m0, .inr (12, [.ref g0, .ref g1, .ref g2, .ref g3, .ref g4, .int 0, .int 0, .int 0, .int 0, .ref g9, .int 0, .int 0, .int 0, .int 0, .int (-1), .int 0, .int 0, .ref g17, .ref g18, .int 0, .ref g20, .ref g21, .ref g22, .ref g23, .ref g24, .ref g25, .ref g26, .ref g27, .ref g28, .ref g29, .ref g30, .int 0]))] []) (va_Qi (fun (r : Int32) (_ : Unit) => r = (-2)) (fun _ _ => True) (va_A [(m0, .inr (12, [.ref g0, .ref g1, .ref g2, .ref g3, .ref g4, .int 0, .int 0, .int 0, .int 0, .ref g9, .int 0, .int 0, .int 0, .int 0, .int (-1), .int 0, .int 0, .ref g17, .ref g18, .int 0, .ref g20, .ref g21, .ref g22, .ref g23, .ref g24, .ref g25, .ref g26, .ref g27, .ref g28, .ref g29, .ref g30, .int 0]))] sz)) 0 0 (va_A [(m0, .inr (12, [.ref g0, .ref g1, .ref g2, .ref g3, .ref g4, .int 0, .int 0, .int 0, .int 0, .ref g9, .int 0, .int 0, .int 0, .int 0, .int (-1), .int 0, .int 0, .ref g17, .ref g18, .int 0, .ref g20, .ref g21, .ref g22, .ref g23, .ref g24, .ref g25, .ref g26, .ref g27, .ref g28, .ref g29, .ref g30, .int 0]))] sz) := by
  refine Met.ofW (cc := cX12_chain) (maxL := 6) (ret := (some .int)) (by decide) rfl ?_
  intro p e s m args below meth c s₁ B hml hv
  obtain ⟨rfl, hsz, hP, hK, hD0⟩ := hv
  have hx := B.exec
  have hb := B.bytes
  have hr := B.returns
  have hT : ∀ w ∈ TB, w.before [.ref m0, .int k0, .int k1].toArray s = true := fun w h => atoms_spec (ws := wT yX12_chain cX12_chain 6 (some .int)) B.pre w (List.mem_cons_of_mem _ h)
  have hown : s.vm.findClass RX12 = some m.cls := findClass_of_methodNamed B.named
  have hlocks := B.notSynchronized
  subst hsz
  have hD := hD0.self (sz := s.heap.size)
  generalize hAe : va_A [(m0, .inr (12, [.ref g0, .ref g1, .ref g2, .ref g3, .ref g4, .int 0, .int 0, .int 0, .int 0, .ref g9, .int 0, .int 0, .int 0, .int 0, .int (-1), .int 0, .int 0, .ref g17, .ref g18, .int 0, .ref g20, .ref g21, .ref g22, .ref g23, .ref g24, .ref g25, .ref g26, .ref g27, .ref g28, .ref g29, .ref g30, .int 0]))] s.heap.size = A at hD ⊢
  have hA : ∀ q : Nat, s.heap.size ≤ q → A q := fun q h => by rw [← hAe]; exact Or.inr h
  have hS : va_S A s.heap s.heap [] := va_S.rf
  have hP : va_P (dC, dI) vwCl [(m0, .inr (12, [.ref g0, .ref g1, .ref g2, .ref g3, .ref g4, .int 0, .int 0, .int 0, .int 0, .ref g9, .int 0, .int 0, .int 0, .int 0, .int (-1), .int 0, .int 0, .ref g17, .ref g18, .int 0, .ref g20, .ref g21, .ref g22, .ref g23, .ref g24, .ref g25, .ref g26, .ref g27, .ref g28, .ref g29, .ref g30, .int 0]))] s.heap := hP
  have hl := lv_entry ([.ref m0, .int k0, .int k1]) (n := 6) (Nat.le_of_ble_eq_true rfl)
  rw [lg_entry_eq]
  generalize (lg_sl ([.ref m0, .int k0, .int k1]) ++ List.replicate (6 - (lg_sl ([.ref m0, .int k0, .int k1])).length) Slot.unset).toArray = ls at hl ⊢
  have hl : lv_has ls 6 [(0, .ref m0), (1, .int k0), (2, .int k1)] := hl
  refine lv_aload_n hx hb dX12_chain_0 rfl (lv_at hl 0 rfl) ?_
  refine lv_iconst (v := 0) hx hb dX12_chain_1 (by decide) ?_
  refine va_put (D := (dC, dI)) (ci := 12) (v := .int 0) (ty := .int) (C := RX12) (T := TX12) (N := 32) hx hb hT iX12 tyX12 tyX12_ok nmX12 hown hK hP hD hS 0 rfl rfl 8 (by decide) (hT _ w1090) (fun _ h9 => h9) rfl (by decide +kernel) rfl rfl (Nat.le_of_ble_eq_true rfl) dX12_chain_2 (fun H locs hP hD hS => ?_)
  have hP : va_P (dC, dI) vwCl [(m0, .inr (12, [.ref g0, .ref g1, .ref g2, .ref g3, .ref g4, .int 0, .int 0, .int 0, .int 0, .ref g9, .int 0, .int 0, .int 0, .int 0, .int (-1), .int 0, .int 0, .ref g17, .ref g18, .int 0, .ref g20, .ref g21, .ref g22, .ref g23, .ref g24, .ref g25, .ref g26, .ref g27, .ref g28, .ref g29, .ref g30, .int 0]))] H := hP
  have hD : va_D A [(m0, .inr (12, [.ref g0, .ref g1, .ref g2, .ref g3, .ref g4, .int 0, .int 0, .int 0, .int 0, .ref g9, .int 0, .int 0, .int 0, .int 0, .int (-1), .int 0, .int 0, .ref g17, .ref g18, .int 0, .ref g20, .ref g21, .ref g22, .ref g23, .ref g24, .ref g25, .ref g26, .ref g27, .ref g28, .ref g29, .ref g30, .int 0]))] := hD
  refine lv_aload_n hx hb dX12_chain_5 rfl (lv_at hl 0 rfl) ?_
  refine lv_iload_n hx hb dX12_chain_6 rfl (lv_at hl 1 rfl) ?_
  have hPc := hP.sub (ws' := [(m0, .inr (12, [.ref g0, .ref g1, .ref g2, .ref g3, .ref g4, .int 0, .int 0, .int 0, .int 0, .ref g9, .int 0, .int 0, .int 0, .int 0, .int (-1), .int 0, .int 0, .ref g17, .ref g18, .int 0, .ref g20, .ref g21, .ref g22, .ref g23, .ref g24, .ref g25, .ref g26, .ref g27, .ref g28, .ref g29, .ref g30, .int 0]))]) [0] rfl
  have hDc := hD.sub (ws' := [(m0, .inr (12, [.ref g0, .ref g1, .ref g2, .ref g3, .ref g4, .int 0, .int 0, .int 0, .int 0, .ref g9, .int 0, .int 0, .int 0, .int 0, .int (-1), .int 0, .int 0, .ref g17, .ref g18, .int 0, .ref g20, .ref g21, .ref g22, .ref g23, .ref g24, .ref g25, .ref g26, .ref g27, .ref g28, .ref g29, .ref g30, .int 0]))]) [0] (by decide) rfl
  have hKc := hK.sub (tys' := []) [] rfl
  refine vp_callSi (va_Run.run (va_runV (As := [.int k0]) (rest := []) ⟨hx, hb, hml, hown, hT⟩ (m_isKind l dC dI m0 g0 g1 g2 g3 g4 g9 g17 g18 g20 g21 g22 g23 g24 g25 g26 g27 g28 g29 g30 H.size k0) (cwV 1 hT (gV w1288 w1290 ws74 w14 w1291) rfl rfl rfl (by decide +kernel) ⟨(Nat.le_of_ble_eq_true rfl), (Nat.le_of_ble_eq_true rfl)⟩) ⟨pcW.blind, va_recv hKc hPc (ci := 12) (q0 := 0) rfl rfl, pcW.pre hPc hKc hDc⟩ rfl rfl hl.1 rfl (lv_room (Nat.le_of_ble_eq_true rfl)) dX12_chain_7 ⟨(Nat.le_of_ble_eq_true rfl), (Nat.le_of_ble_eq_true rfl)⟩)) (fun r_7 hr_7 => ?_)
  obtain rfl : r_7 = 0 := hr_7
  refine lv_if_ne (tgt := 16) hx hb dX12_chain_10 (by decide) (fun h => absurd (by decide) h) (fun _ => ?_)
  refine lv_bipush (v := (-2)) hx hb dX12_chain_13 (by decide) ?_
  refine W.widen (k := 0) (n := 0) (Nat.le_of_ble_eq_true rfl) (Nat.le_of_ble_eq_true rfl) ?_
  exact W.iret (v := (-2)) hx hb hr (fun t ht hW => ⟨⟨(-2), (), rfl, rfl, trivial⟩, hS.F ht⟩) hS.2.2 dX12_chain_15

set_option maxHeartbeats 4000000 in
set_option maxRecDepth 100000 in
theorem m_least (l : Launch) (dC : Nat → ClassId) (dI : Nat → Nat → Nat) (m0 : Nat) (g0 : Nat) (g1 : Nat) (g2 : Nat) (g3 : Nat) (g4 : Nat) (g9 : Nat) (g17 : Nat) (g18 : Nat) (g20 : Nat) (g21 : Nat) (g22 : Nat) (g23 : Nat) (g24 : Nat) (g25 : Nat) (g26 : Nat) (g27 : Nat) (g28 : Nat) (g29 : Nat) (g30 : Nat) (sz : Nat) (k0 : Int32) : Met l yX12_least (wT yX12_least cX12_least 2 (some .int)) ({ frames := 2, cells := 0, slots := 0, locals := 46 }) (pcW dC dI [.ref m0, .int k0] sz [(m0, .inr (12, [.ref g0, .ref g1, .ref g2, .ref g3, .ref g4, .int 0, .int 0, .int 0, .int 0, .ref g9, .int 0, .int 0, .int 0, .int 0, .int (-1), .int 0, .int 0, .ref g17, .ref g18, .int 0, .ref g20, .ref g21, .ref g22, .ref g23, .ref g24, .ref g25, .ref g26, .ref g27, .ref g28, .ref g29, .ref g30, .int 0]))] []) (va_Qi (fun (r : Int32) (_ : Unit) => r = (-2)) (fun _ _ => True) (va_A [(m0, .inr (12, [.ref g0, .ref g1, .ref g2, .ref g3, .ref g4, .int 0, .int 0, .int 0, .int 0, .ref g9, .int 0, .int 0, .int 0, .int 0, .int (-1), .int 0, .int 0, .ref g17, .ref g18, .int 0, .ref g20, .ref g21, .ref g22, .ref g23, .ref g24, .ref g25, .ref g26, .ref g27, .ref g28, .ref g29, .ref g30, .int 0]))] sz)) 0 0 (va_A [(m0, .inr (12, [.ref g0, .ref g1, .ref g2, .ref g3, .ref g4, .int 0, .int 0, .int 0, .int 0, .ref g9, .int 0, .int 0, .int 0, .int 0, .int (-1), .int 0, .int 0, .ref g17, .ref g18, .int 0, .ref g20, .ref g21, .ref g22, .ref g23, .ref g24, .ref g25, .ref g26, .ref g27, .ref g28, .ref g29, .ref g30, .int 0]))] sz) := by
  refine Met.ofW (cc := cX12_least) (maxL := 2) (ret := (some .int)) (by decide) rfl ?_
  intro p e s m args below meth c s₁ B hml hv
  obtain ⟨rfl, hsz, hP, hK, hD0⟩ := hv
  have hx := B.exec
  have hb := B.bytes
  have hr := B.returns
  have hT : ∀ w ∈ TB, w.before [.ref m0, .int k0].toArray s = true := fun w h => atoms_spec (ws := wT yX12_least cX12_least 2 (some .int)) B.pre w (List.mem_cons_of_mem _ h)
  have hown : s.vm.findClass RX12 = some m.cls := findClass_of_methodNamed B.named
  have hlocks := B.notSynchronized
  subst hsz
  have hD := hD0.self (sz := s.heap.size)
  generalize hAe : va_A [(m0, .inr (12, [.ref g0, .ref g1, .ref g2, .ref g3, .ref g4, .int 0, .int 0, .int 0, .int 0, .ref g9, .int 0, .int 0, .int 0, .int 0, .int (-1), .int 0, .int 0, .ref g17, .ref g18, .int 0, .ref g20, .ref g21, .ref g22, .ref g23, .ref g24, .ref g25, .ref g26, .ref g27, .ref g28, .ref g29, .ref g30, .int 0]))] s.heap.size = A at hD ⊢
  have hA : ∀ q : Nat, s.heap.size ≤ q → A q := fun q h => by rw [← hAe]; exact Or.inr h
  have hS : va_S A s.heap s.heap [] := va_S.rf
  have hP : va_P (dC, dI) vwCl [(m0, .inr (12, [.ref g0, .ref g1, .ref g2, .ref g3, .ref g4, .int 0, .int 0, .int 0, .int 0, .ref g9, .int 0, .int 0, .int 0, .int 0, .int (-1), .int 0, .int 0, .ref g17, .ref g18, .int 0, .ref g20, .ref g21, .ref g22, .ref g23, .ref g24, .ref g25, .ref g26, .ref g27, .ref g28, .ref g29, .ref g30, .int 0]))] s.heap := hP
  have hl := lv_entry ([.ref m0, .int k0]) (n := 2) (Nat.le_of_ble_eq_true rfl)
  rw [lg_entry_eq]
  generalize (lg_sl ([.ref m0, .int k0]) ++ List.replicate (2 - (lg_sl ([.ref m0, .int k0])).length) Slot.unset).toArray = ls at hl ⊢
  have hl : lv_has ls 2 [(0, .ref m0), (1, .int k0)] := hl
  refine lv_aload_n hx hb dX12_least_0 rfl (lv_at hl 0 rfl) ?_
  refine lv_iconst (v := 0) hx hb dX12_least_1 (by decide) ?_
  refine va_put (D := (dC, dI)) (ci := 12) (v := .int 0) (ty := .int) (C := RX12) (T := TX12) (N := 32) hx hb hT iX12 tyX12 tyX12_ok nmX12 hown hK hP hD hS 0 rfl rfl 8 (by decide) (hT _ w1090) (fun _ h9 => h9) rfl (by decide +kernel) rfl rfl (Nat.le_of_ble_eq_true rfl) dX12_least_2 (fun H locs hP hD hS => ?_)
  have hP : va_P (dC, dI) vwCl [(m0, .inr (12, [.ref g0, .ref g1, .ref g2, .ref g3, .ref g4, .int 0, .int 0, .int 0, .int 0, .ref g9, .int 0, .int 0, .int 0, .int 0, .int (-1), .int 0, .int 0, .ref g17, .ref g18, .int 0, .ref g20, .ref g21, .ref g22, .ref g23, .ref g24, .ref g25, .ref g26, .ref g27, .ref g28, .ref g29, .ref g30, .int 0]))] H := hP
  have hD : va_D A [(m0, .inr (12, [.ref g0, .ref g1, .ref g2, .ref g3, .ref g4, .int 0, .int 0, .int 0, .int 0, .ref g9, .int 0, .int 0, .int 0, .int 0, .int (-1), .int 0, .int 0, .ref g17, .ref g18, .int 0, .ref g20, .ref g21, .ref g22, .ref g23, .ref g24, .ref g25, .ref g26, .ref g27, .ref g28, .ref g29, .ref g30, .int 0]))] := hD
  refine lv_aload_n hx hb dX12_least_5 rfl (lv_at hl 0 rfl) ?_
  refine lv_iload_n hx hb dX12_least_6 rfl (lv_at hl 1 rfl) ?_
  have hPc := hP.sub (ws' := [(m0, .inr (12, [.ref g0, .ref g1, .ref g2, .ref g3, .ref g4, .int 0, .int 0, .int 0, .int 0, .ref g9, .int 0, .int 0, .int 0, .int 0, .int (-1), .int 0, .int 0, .ref g17, .ref g18, .int 0, .ref g20, .ref g21, .ref g22, .ref g23, .ref g24, .ref g25, .ref g26, .ref g27, .ref g28, .ref g29, .ref g30, .int 0]))]) [0] rfl
  have hDc := hD.sub (ws' := [(m0, .inr (12, [.ref g0, .ref g1, .ref g2, .ref g3, .ref g4, .int 0, .int 0, .int 0, .int 0, .ref g9, .int 0, .int 0, .int 0, .int 0, .int (-1), .int 0, .int 0, .ref g17, .ref g18, .int 0, .ref g20, .ref g21, .ref g22, .ref g23, .ref g24, .ref g25, .ref g26, .ref g27, .ref g28, .ref g29, .ref g30, .int 0]))]) [0] (by decide) rfl
  have hKc := hK.sub (tys' := []) [] rfl
  refine vp_callSi (va_Run.run (va_runV (As := [.int k0]) (rest := []) ⟨hx, hb, hml, hown, hT⟩ (m_isKind l dC dI m0 g0 g1 g2 g3 g4 g9 g17 g18 g20 g21 g22 g23 g24 g25 g26 g27 g28 g29 g30 H.size k0) (cwV 1 hT (gV w1288 w1290 ws74 w14 w1291) rfl rfl rfl (by decide +kernel) ⟨(Nat.le_of_ble_eq_true rfl), (Nat.le_of_ble_eq_true rfl)⟩) ⟨pcW.blind, va_recv hKc hPc (ci := 12) (q0 := 0) rfl rfl, pcW.pre hPc hKc hDc⟩ rfl rfl hl.1 rfl (lv_room (Nat.le_of_ble_eq_true rfl)) dX12_least_7 ⟨(Nat.le_of_ble_eq_true rfl), (Nat.le_of_ble_eq_true rfl)⟩)) (fun r_7 hr_7 => ?_)
  obtain rfl : r_7 = 0 := hr_7
  refine lv_if_ne (tgt := 16) hx hb dX12_least_10 (by decide) (fun h => absurd (by decide) h) (fun _ => ?_)
  refine lv_bipush (v := (-2)) hx hb dX12_least_13 (by decide) ?_
  refine W.widen (k := 0) (n := 0) (Nat.le_of_ble_eq_true rfl) (Nat.le_of_ble_eq_true rfl) ?_
  exact W.iret (v := (-2)) hx hb hr (fun t ht hW => ⟨⟨(-2), (), rfl, rfl, trivial⟩, hS.F ht⟩) hS.2.2 dX12_least_15

set_option maxHeartbeats 4000000 in
set_option maxRecDepth 100000 in
theorem m_couples (l : Launch) (dC : Nat → ClassId) (dI : Nat → Nat → Nat) (m0 : Nat) (g0 : Nat) (g1 : Nat) (g2 : Nat) (g3 : Nat) (g4 : Nat) (g9 : Nat) (g17 : Nat) (g18 : Nat) (g20 : Nat) (g21 : Nat) (g22 : Nat) (g23 : Nat) (g24 : Nat) (g25 : Nat) (g26 : Nat) (g27 : Nat) (g28 : Nat) (g29 : Nat) (g30 : Nat) (sz : Nat) (k0 : Int32) : Met l yX12_couples (wT yX12_couples cX12_couples 2 (some .int)) ({ frames := 2, cells := 0, slots := 0, locals := 46 }) (pcW dC dI [.ref m0, .int k0] sz [(m0, .inr (12, [.ref g0, .ref g1, .ref g2, .ref g3, .ref g4, .int 0, .int 0, .int 0, .int 0, .ref g9, .int 0, .int 0, .int 0, .int 0, .int (-1), .int 0, .int 0, .ref g17, .ref g18, .int 0, .ref g20, .ref g21, .ref g22, .ref g23, .ref g24, .ref g25, .ref g26, .ref g27, .ref g28, .ref g29, .ref g30, .int 0]))] []) (va_Qi (fun (r : Int32) (_ : Unit) => r = (-2)) (fun _ _ => True) (va_A [(m0, .inr (12, [.ref g0, .ref g1, .ref g2, .ref g3, .ref g4, .int 0, .int 0, .int 0, .int 0, .ref g9, .int 0, .int 0, .int 0, .int 0, .int (-1), .int 0, .int 0, .ref g17, .ref g18, .int 0, .ref g20, .ref g21, .ref g22, .ref g23, .ref g24, .ref g25, .ref g26, .ref g27, .ref g28, .ref g29, .ref g30, .int 0]))] sz)) 0 0 (va_A [(m0, .inr (12, [.ref g0, .ref g1, .ref g2, .ref g3, .ref g4, .int 0, .int 0, .int 0, .int 0, .ref g9, .int 0, .int 0, .int 0, .int 0, .int (-1), .int 0, .int 0, .ref g17, .ref g18, .int 0, .ref g20, .ref g21, .ref g22, .ref g23, .ref g24, .ref g25, .ref g26, .ref g27, .ref g28, .ref g29, .ref g30, .int 0]))] sz) := by
  refine Met.ofW (cc := cX12_couples) (maxL := 2) (ret := (some .int)) (by decide) rfl ?_
  intro p e s m args below meth c s₁ B hml hv
  obtain ⟨rfl, hsz, hP, hK, hD0⟩ := hv
  have hx := B.exec
  have hb := B.bytes
  have hr := B.returns
  have hT : ∀ w ∈ TB, w.before [.ref m0, .int k0].toArray s = true := fun w h => atoms_spec (ws := wT yX12_couples cX12_couples 2 (some .int)) B.pre w (List.mem_cons_of_mem _ h)
  have hown : s.vm.findClass RX12 = some m.cls := findClass_of_methodNamed B.named
  have hlocks := B.notSynchronized
  subst hsz
  have hD := hD0.self (sz := s.heap.size)
  generalize hAe : va_A [(m0, .inr (12, [.ref g0, .ref g1, .ref g2, .ref g3, .ref g4, .int 0, .int 0, .int 0, .int 0, .ref g9, .int 0, .int 0, .int 0, .int 0, .int (-1), .int 0, .int 0, .ref g17, .ref g18, .int 0, .ref g20, .ref g21, .ref g22, .ref g23, .ref g24, .ref g25, .ref g26, .ref g27, .ref g28, .ref g29, .ref g30, .int 0]))] s.heap.size = A at hD ⊢
  have hA : ∀ q : Nat, s.heap.size ≤ q → A q := fun q h => by rw [← hAe]; exact Or.inr h
  have hS : va_S A s.heap s.heap [] := va_S.rf
  have hP : va_P (dC, dI) vwCl [(m0, .inr (12, [.ref g0, .ref g1, .ref g2, .ref g3, .ref g4, .int 0, .int 0, .int 0, .int 0, .ref g9, .int 0, .int 0, .int 0, .int 0, .int (-1), .int 0, .int 0, .ref g17, .ref g18, .int 0, .ref g20, .ref g21, .ref g22, .ref g23, .ref g24, .ref g25, .ref g26, .ref g27, .ref g28, .ref g29, .ref g30, .int 0]))] s.heap := hP
  have hl := lv_entry ([.ref m0, .int k0]) (n := 2) (Nat.le_of_ble_eq_true rfl)
  rw [lg_entry_eq]
  generalize (lg_sl ([.ref m0, .int k0]) ++ List.replicate (2 - (lg_sl ([.ref m0, .int k0])).length) Slot.unset).toArray = ls at hl ⊢
  have hl : lv_has ls 2 [(0, .ref m0), (1, .int k0)] := hl
  refine lv_aload_n hx hb dX12_couples_0 rfl (lv_at hl 0 rfl) ?_
  refine lv_iconst (v := 0) hx hb dX12_couples_1 (by decide) ?_
  refine va_put (D := (dC, dI)) (ci := 12) (v := .int 0) (ty := .int) (C := RX12) (T := TX12) (N := 32) hx hb hT iX12 tyX12 tyX12_ok nmX12 hown hK hP hD hS 0 rfl rfl 8 (by decide) (hT _ w1090) (fun _ h9 => h9) rfl (by decide +kernel) rfl rfl (Nat.le_of_ble_eq_true rfl) dX12_couples_2 (fun H locs hP hD hS => ?_)
  have hP : va_P (dC, dI) vwCl [(m0, .inr (12, [.ref g0, .ref g1, .ref g2, .ref g3, .ref g4, .int 0, .int 0, .int 0, .int 0, .ref g9, .int 0, .int 0, .int 0, .int 0, .int (-1), .int 0, .int 0, .ref g17, .ref g18, .int 0, .ref g20, .ref g21, .ref g22, .ref g23, .ref g24, .ref g25, .ref g26, .ref g27, .ref g28, .ref g29, .ref g30, .int 0]))] H := hP
  have hD : va_D A [(m0, .inr (12, [.ref g0, .ref g1, .ref g2, .ref g3, .ref g4, .int 0, .int 0, .int 0, .int 0, .ref g9, .int 0, .int 0, .int 0, .int 0, .int (-1), .int 0, .int 0, .ref g17, .ref g18, .int 0, .ref g20, .ref g21, .ref g22, .ref g23, .ref g24, .ref g25, .ref g26, .ref g27, .ref g28, .ref g29, .ref g30, .int 0]))] := hD
  refine lv_aload_n hx hb dX12_couples_5 rfl (lv_at hl 0 rfl) ?_
  refine lv_iload_n hx hb dX12_couples_6 rfl (lv_at hl 1 rfl) ?_
  have hPc := hP.sub (ws' := [(m0, .inr (12, [.ref g0, .ref g1, .ref g2, .ref g3, .ref g4, .int 0, .int 0, .int 0, .int 0, .ref g9, .int 0, .int 0, .int 0, .int 0, .int (-1), .int 0, .int 0, .ref g17, .ref g18, .int 0, .ref g20, .ref g21, .ref g22, .ref g23, .ref g24, .ref g25, .ref g26, .ref g27, .ref g28, .ref g29, .ref g30, .int 0]))]) [0] rfl
  have hDc := hD.sub (ws' := [(m0, .inr (12, [.ref g0, .ref g1, .ref g2, .ref g3, .ref g4, .int 0, .int 0, .int 0, .int 0, .ref g9, .int 0, .int 0, .int 0, .int 0, .int (-1), .int 0, .int 0, .ref g17, .ref g18, .int 0, .ref g20, .ref g21, .ref g22, .ref g23, .ref g24, .ref g25, .ref g26, .ref g27, .ref g28, .ref g29, .ref g30, .int 0]))]) [0] (by decide) rfl
  have hKc := hK.sub (tys' := []) [] rfl
  refine vp_callSi (va_Run.run (va_runV (As := [.int k0]) (rest := []) ⟨hx, hb, hml, hown, hT⟩ (m_isKind l dC dI m0 g0 g1 g2 g3 g4 g9 g17 g18 g20 g21 g22 g23 g24 g25 g26 g27 g28 g29 g30 H.size k0) (cwV 1 hT (gV w1288 w1290 ws74 w14 w1291) rfl rfl rfl (by decide +kernel) ⟨(Nat.le_of_ble_eq_true rfl), (Nat.le_of_ble_eq_true rfl)⟩) ⟨pcW.blind, va_recv hKc hPc (ci := 12) (q0 := 0) rfl rfl, pcW.pre hPc hKc hDc⟩ rfl rfl hl.1 rfl (lv_room (Nat.le_of_ble_eq_true rfl)) dX12_couples_7 ⟨(Nat.le_of_ble_eq_true rfl), (Nat.le_of_ble_eq_true rfl)⟩)) (fun r_7 hr_7 => ?_)
  obtain rfl : r_7 = 0 := hr_7
  refine lv_if_ne (tgt := 16) hx hb dX12_couples_10 (by decide) (fun h => absurd (by decide) h) (fun _ => ?_)
  refine lv_bipush (v := (-2)) hx hb dX12_couples_13 (by decide) ?_
  refine W.widen (k := 0) (n := 0) (Nat.le_of_ble_eq_true rfl) (Nat.le_of_ble_eq_true rfl) ?_
  exact W.iret (v := (-2)) hx hb hr (fun t ht hW => ⟨⟨(-2), (), rfl, rfl, trivial⟩, hS.F ht⟩) hS.2.2 dX12_couples_15

set_option maxHeartbeats 4000000 in
set_option maxRecDepth 100000 in
theorem m_relieved (l : Launch) (dC : Nat → ClassId) (dI : Nat → Nat → Nat) (m0 : Nat) (g0 : Nat) (g1 : Nat) (g2 : Nat) (g3 : Nat) (g4 : Nat) (g9 : Nat) (g17 : Nat) (g18 : Nat) (g20 : Nat) (g21 : Nat) (g22 : Nat) (g23 : Nat) (g24 : Nat) (g25 : Nat) (g26 : Nat) (g27 : Nat) (g28 : Nat) (g29 : Nat) (g30 : Nat) (sz : Nat) (k0 : Int32) : Met l yX12_relieved (wT yX12_relieved cX12_relieved 4 (some .int)) ({ frames := 2, cells := 0, slots := 0, locals := 46 }) (pcW dC dI [.ref m0, .int k0] sz [(m0, .inr (12, [.ref g0, .ref g1, .ref g2, .ref g3, .ref g4, .int 0, .int 0, .int 0, .int 0, .ref g9, .int 0, .int 0, .int 0, .int 0, .int (-1), .int 0, .int 0, .ref g17, .ref g18, .int 0, .ref g20, .ref g21, .ref g22, .ref g23, .ref g24, .ref g25, .ref g26, .ref g27, .ref g28, .ref g29, .ref g30, .int 0]))] []) (va_Qi (fun (r : Int32) (_ : Unit) => r = (-2)) (fun _ _ => True) (va_A [(m0, .inr (12, [.ref g0, .ref g1, .ref g2, .ref g3, .ref g4, .int 0, .int 0, .int 0, .int 0, .ref g9, .int 0, .int 0, .int 0, .int 0, .int (-1), .int 0, .int 0, .ref g17, .ref g18, .int 0, .ref g20, .ref g21, .ref g22, .ref g23, .ref g24, .ref g25, .ref g26, .ref g27, .ref g28, .ref g29, .ref g30, .int 0]))] sz)) 0 0 (va_A [(m0, .inr (12, [.ref g0, .ref g1, .ref g2, .ref g3, .ref g4, .int 0, .int 0, .int 0, .int 0, .ref g9, .int 0, .int 0, .int 0, .int 0, .int (-1), .int 0, .int 0, .ref g17, .ref g18, .int 0, .ref g20, .ref g21, .ref g22, .ref g23, .ref g24, .ref g25, .ref g26, .ref g27, .ref g28, .ref g29, .ref g30, .int 0]))] sz) := by
  refine Met.ofW (cc := cX12_relieved) (maxL := 4) (ret := (some .int)) (by decide) rfl ?_
  intro p e s m args below meth c s₁ B hml hv
  obtain ⟨rfl, hsz, hP, hK, hD0⟩ := hv
  have hx := B.exec
  have hb := B.bytes
  have hr := B.returns
  have hT : ∀ w ∈ TB, w.before [.ref m0, .int k0].toArray s = true := fun w h => atoms_spec (ws := wT yX12_relieved cX12_relieved 4 (some .int)) B.pre w (List.mem_cons_of_mem _ h)
  have hown : s.vm.findClass RX12 = some m.cls := findClass_of_methodNamed B.named
  have hlocks := B.notSynchronized
  subst hsz
  have hD := hD0.self (sz := s.heap.size)
  generalize hAe : va_A [(m0, .inr (12, [.ref g0, .ref g1, .ref g2, .ref g3, .ref g4, .int 0, .int 0, .int 0, .int 0, .ref g9, .int 0, .int 0, .int 0, .int 0, .int (-1), .int 0, .int 0, .ref g17, .ref g18, .int 0, .ref g20, .ref g21, .ref g22, .ref g23, .ref g24, .ref g25, .ref g26, .ref g27, .ref g28, .ref g29, .ref g30, .int 0]))] s.heap.size = A at hD ⊢
  have hA : ∀ q : Nat, s.heap.size ≤ q → A q := fun q h => by rw [← hAe]; exact Or.inr h
  have hS : va_S A s.heap s.heap [] := va_S.rf
  have hP : va_P (dC, dI) vwCl [(m0, .inr (12, [.ref g0, .ref g1, .ref g2, .ref g3, .ref g4, .int 0, .int 0, .int 0, .int 0, .ref g9, .int 0, .int 0, .int 0, .int 0, .int (-1), .int 0, .int 0, .ref g17, .ref g18, .int 0, .ref g20, .ref g21, .ref g22, .ref g23, .ref g24, .ref g25, .ref g26, .ref g27, .ref g28, .ref g29, .ref g30, .int 0]))] s.heap := hP
  have hl := lv_entry ([.ref m0, .int k0]) (n := 4) (Nat.le_of_ble_eq_true rfl)
  rw [lg_entry_eq]
  generalize (lg_sl ([.ref m0, .int k0]) ++ List.replicate (4 - (lg_sl ([.ref m0, .int k0])).length) Slot.unset).toArray = ls at hl ⊢
  have hl : lv_has ls 4 [(0, .ref m0), (1, .int k0)] := hl
  refine lv_aload_n hx hb dX12_relieved_0 rfl (lv_at hl 0 rfl) ?_
  refine lv_iconst (v := 0) hx hb dX12_relieved_1 (by decide) ?_
  refine va_put (D := (dC, dI)) (ci := 12) (v := .int 0) (ty := .int) (C := RX12) (T := TX12) (N := 32) hx hb hT iX12 tyX12 tyX12_ok nmX12 hown hK hP hD hS 0 rfl rfl 8 (by decide) (hT _ w1090) (fun _ h9 => h9) rfl (by decide +kernel) rfl rfl (Nat.le_of_ble_eq_true rfl) dX12_relieved_2 (fun H locs hP hD hS => ?_)
  have hP : va_P (dC, dI) vwCl [(m0, .inr (12, [.ref g0, .ref g1, .ref g2, .ref g3, .ref g4, .int 0, .int 0, .int 0, .int 0, .ref g9, .int 0, .int 0, .int 0, .int 0, .int (-1), .int 0, .int 0, .ref g17, .ref g18, .int 0, .ref g20, .ref g21, .ref g22, .ref g23, .ref g24, .ref g25, .ref g26, .ref g27, .ref g28, .ref g29, .ref g30, .int 0]))] H := hP
  have hD : va_D A [(m0, .inr (12, [.ref g0, .ref g1, .ref g2, .ref g3, .ref g4, .int 0, .int 0, .int 0, .int 0, .ref g9, .int 0, .int 0, .int 0, .int 0, .int (-1), .int 0, .int 0, .ref g17, .ref g18, .int 0, .ref g20, .ref g21, .ref g22, .ref g23, .ref g24, .ref g25, .ref g26, .ref g27, .ref g28, .ref g29, .ref g30, .int 0]))] := hD
  refine lv_aload_n hx hb dX12_relieved_5 rfl (lv_at hl 0 rfl) ?_
  refine lv_iload_n hx hb dX12_relieved_6 rfl (lv_at hl 1 rfl) ?_
  have hPc := hP.sub (ws' := [(m0, .inr (12, [.ref g0, .ref g1, .ref g2, .ref g3, .ref g4, .int 0, .int 0, .int 0, .int 0, .ref g9, .int 0, .int 0, .int 0, .int 0, .int (-1), .int 0, .int 0, .ref g17, .ref g18, .int 0, .ref g20, .ref g21, .ref g22, .ref g23, .ref g24, .ref g25, .ref g26, .ref g27, .ref g28, .ref g29, .ref g30, .int 0]))]) [0] rfl
  have hDc := hD.sub (ws' := [(m0, .inr (12, [.ref g0, .ref g1, .ref g2, .ref g3, .ref g4, .int 0, .int 0, .int 0, .int 0, .ref g9, .int 0, .int 0, .int 0, .int 0, .int (-1), .int 0, .int 0, .ref g17, .ref g18, .int 0, .ref g20, .ref g21, .ref g22, .ref g23, .ref g24, .ref g25, .ref g26, .ref g27, .ref g28, .ref g29, .ref g30, .int 0]))]) [0] (by decide) rfl
  have hKc := hK.sub (tys' := []) [] rfl
  refine vp_callSi (va_Run.run (va_runV (As := [.int k0]) (rest := []) ⟨hx, hb, hml, hown, hT⟩ (m_isKind l dC dI m0 g0 g1 g2 g3 g4 g9 g17 g18 g20 g21 g22 g23 g24 g25 g26 g27 g28 g29 g30 H.size k0) (cwV 1 hT (gV w1288 w1290 ws74 w14 w1291) rfl rfl rfl (by decide +kernel) ⟨(Nat.le_of_ble_eq_true rfl), (Nat.le_of_ble_eq_true rfl)⟩) ⟨pcW.blind, va_recv hKc hPc (ci := 12) (q0 := 0) rfl rfl, pcW.pre hPc hKc hDc⟩ rfl rfl hl.1 rfl (lv_room (Nat.le_of_ble_eq_true rfl)) dX12_relieved_7 ⟨(Nat.le_of_ble_eq_true rfl), (Nat.le_of_ble_eq_true rfl)⟩)) (fun r_7 hr_7 => ?_)
  obtain rfl : r_7 = 0 := hr_7
  refine lv_if_ne (tgt := 16) hx hb dX12_relieved_10 (by decide) (fun h => absurd (by decide) h) (fun _ => ?_)
  refine lv_bipush (v := (-2)) hx hb dX12_relieved_13 (by decide) ?_
  refine W.widen (k := 0) (n := 0) (Nat.le_of_ble_eq_true rfl) (Nat.le_of_ble_eq_true rfl) ?_
  exact W.iret (v := (-2)) hx hb hr (fun t ht hW => ⟨⟨(-2), (), rfl, rfl, trivial⟩, hS.F ht⟩) hS.2.2 dX12_relieved_15

set_option maxHeartbeats 4000000 in
set_option maxRecDepth 100000 in
theorem m_fewest (l : Launch) (dC : Nat → ClassId) (dI : Nat → Nat → Nat) (m0 : Nat) (g0 : Nat) (g1 : Nat) (g2 : Nat) (g3 : Nat) (g4 : Nat) (g9 : Nat) (g17 : Nat) (g18 : Nat) (g20 : Nat) (g21 : Nat) (g22 : Nat) (g23 : Nat) (g24 : Nat) (g25 : Nat) (g26 : Nat) (g27 : Nat) (g28 : Nat) (g29 : Nat) (g30 : Nat) (sz : Nat) (k0 : Int32) (k1 : Int32) : Met l yX12_fewest (wT yX12_fewest cX12_fewest 7 (some .int)) ({ frames := 2, cells := 0, slots := 0, locals := 46 }) (pcW dC dI [.ref m0, .int k0, .int k1] sz [(m0, .inr (12, [.ref g0, .ref g1, .ref g2, .ref g3, .ref g4, .int 0, .int 0, .int 0, .int 0, .ref g9, .int 0, .int 0, .int 0, .int 0, .int (-1), .int 0, .int 0, .ref g17, .ref g18, .int 0, .ref g20, .ref g21, .ref g22, .ref g23, .ref g24, .ref g25, .ref g26, .ref g27, .ref g28, .ref g29, .ref g30, .int 0]))] []) (va_Qi (fun (r : Int32) (_ : Unit) => r = (-2)) (fun _ _ => True) (va_A [(m0, .inr (12, [.ref g0, .ref g1, .ref g2, .ref g3, .ref g4, .int 0, .int 0, .int 0, .int 0, .ref g9, .int 0, .int 0, .int 0, .int 0, .int (-1), .int 0, .int 0, .ref g17, .ref g18, .int 0, .ref g20, .ref g21, .ref g22, .ref g23, .ref g24, .ref g25, .ref g26, .ref g27, .ref g28, .ref g29, .ref g30, .int 0]))] sz)) 0 0 (va_A [(m0, .inr (12, [.ref g0, .ref g1, .ref g2, .ref g3, .ref g4, .int 0, .int 0, .int 0, .int 0, .ref g9, .int 0, .int 0, .int 0, .int 0, .int (-1), .int 0, .int 0, .ref g17, .ref g18, .int 0, .ref g20, .ref g21, .ref g22, .ref g23, .ref g24, .ref g25, .ref g26, .ref g27, .ref g28, .ref g29, .ref g30, .int 0]))] sz) := by
  refine Met.ofW (cc := cX12_fewest) (maxL := 7) (ret := (some .int)) (by decide) rfl ?_
  intro p e s m args below meth c s₁ B hml hv
  obtain ⟨rfl, hsz, hP, hK, hD0⟩ := hv
  have hx := B.exec
  have hb := B.bytes
  have hr := B.returns
  have hT : ∀ w ∈ TB, w.before [.ref m0, .int k0, .int k1].toArray s = true := fun w h => atoms_spec (ws := wT yX12_fewest cX12_fewest 7 (some .int)) B.pre w (List.mem_cons_of_mem _ h)
  have hown : s.vm.findClass RX12 = some m.cls := findClass_of_methodNamed B.named
  have hlocks := B.notSynchronized
  subst hsz
  have hD := hD0.self (sz := s.heap.size)
  generalize hAe : va_A [(m0, .inr (12, [.ref g0, .ref g1, .ref g2, .ref g3, .ref g4, .int 0, .int 0, .int 0, .int 0, .ref g9, .int 0, .int 0, .int 0, .int 0, .int (-1), .int 0, .int 0, .ref g17, .ref g18, .int 0, .ref g20, .ref g21, .ref g22, .ref g23, .ref g24, .ref g25, .ref g26, .ref g27, .ref g28, .ref g29, .ref g30, .int 0]))] s.heap.size = A at hD ⊢
  have hA : ∀ q : Nat, s.heap.size ≤ q → A q := fun q h => by rw [← hAe]; exact Or.inr h
  have hS : va_S A s.heap s.heap [] := va_S.rf
  have hP : va_P (dC, dI) vwCl [(m0, .inr (12, [.ref g0, .ref g1, .ref g2, .ref g3, .ref g4, .int 0, .int 0, .int 0, .int 0, .ref g9, .int 0, .int 0, .int 0, .int 0, .int (-1), .int 0, .int 0, .ref g17, .ref g18, .int 0, .ref g20, .ref g21, .ref g22, .ref g23, .ref g24, .ref g25, .ref g26, .ref g27, .ref g28, .ref g29, .ref g30, .int 0]))] s.heap := hP
  have hl := lv_entry ([.ref m0, .int k0, .int k1]) (n := 7) (Nat.le_of_ble_eq_true rfl)
  rw [lg_entry_eq]
  generalize (lg_sl ([.ref m0, .int k0, .int k1]) ++ List.replicate (7 - (lg_sl ([.ref m0, .int k0, .int k1])).length) Slot.unset).toArray = ls at hl ⊢
  have hl : lv_has ls 7 [(0, .ref m0), (1, .int k0), (2, .int k1)] := hl
  refine lv_aload_n hx hb dX12_fewest_0 rfl (lv_at hl 0 rfl) ?_
  refine lv_iconst (v := 0) hx hb dX12_fewest_1 (by decide) ?_
  refine va_put (D := (dC, dI)) (ci := 12) (v := .int 0) (ty := .int) (C := RX12) (T := TX12) (N := 32) hx hb hT iX12 tyX12 tyX12_ok nmX12 hown hK hP hD hS 0 rfl rfl 8 (by decide) (hT _ w1090) (fun _ h9 => h9) rfl (by decide +kernel) rfl rfl (Nat.le_of_ble_eq_true rfl) dX12_fewest_2 (fun H locs hP hD hS => ?_)
  have hP : va_P (dC, dI) vwCl [(m0, .inr (12, [.ref g0, .ref g1, .ref g2, .ref g3, .ref g4, .int 0, .int 0, .int 0, .int 0, .ref g9, .int 0, .int 0, .int 0, .int 0, .int (-1), .int 0, .int 0, .ref g17, .ref g18, .int 0, .ref g20, .ref g21, .ref g22, .ref g23, .ref g24, .ref g25, .ref g26, .ref g27, .ref g28, .ref g29, .ref g30, .int 0]))] H := hP
  have hD : va_D A [(m0, .inr (12, [.ref g0, .ref g1, .ref g2, .ref g3, .ref g4, .int 0, .int 0, .int 0, .int 0, .ref g9, .int 0, .int 0, .int 0, .int 0, .int (-1), .int 0, .int 0, .ref g17, .ref g18, .int 0, .ref g20, .ref g21, .ref g22, .ref g23, .ref g24, .ref g25, .ref g26, .ref g27, .ref g28, .ref g29, .ref g30, .int 0]))] := hD
  refine lv_aload_n hx hb dX12_fewest_5 rfl (lv_at hl 0 rfl) ?_
  refine lv_iload_n hx hb dX12_fewest_6 rfl (lv_at hl 1 rfl) ?_
  have hPc := hP.sub (ws' := [(m0, .inr (12, [.ref g0, .ref g1, .ref g2, .ref g3, .ref g4, .int 0, .int 0, .int 0, .int 0, .ref g9, .int 0, .int 0, .int 0, .int 0, .int (-1), .int 0, .int 0, .ref g17, .ref g18, .int 0, .ref g20, .ref g21, .ref g22, .ref g23, .ref g24, .ref g25, .ref g26, .ref g27, .ref g28, .ref g29, .ref g30, .int 0]))]) [0] rfl
  have hDc := hD.sub (ws' := [(m0, .inr (12, [.ref g0, .ref g1, .ref g2, .ref g3, .ref g4, .int 0, .int 0, .int 0, .int 0, .ref g9, .int 0, .int 0, .int 0, .int 0, .int (-1), .int 0, .int 0, .ref g17, .ref g18, .int 0, .ref g20, .ref g21, .ref g22, .ref g23, .ref g24, .ref g25, .ref g26, .ref g27, .ref g28, .ref g29, .ref g30, .int 0]))]) [0] (by decide) rfl
  have hKc := hK.sub (tys' := []) [] rfl
  refine vp_callSi (va_Run.run (va_runV (As := [.int k0]) (rest := []) ⟨hx, hb, hml, hown, hT⟩ (m_isKind l dC dI m0 g0 g1 g2 g3 g4 g9 g17 g18 g20 g21 g22 g23 g24 g25 g26 g27 g28 g29 g30 H.size k0) (cwV 1 hT (gV w1288 w1290 ws74 w14 w1291) rfl rfl rfl (by decide +kernel) ⟨(Nat.le_of_ble_eq_true rfl), (Nat.le_of_ble_eq_true rfl)⟩) ⟨pcW.blind, va_recv hKc hPc (ci := 12) (q0 := 0) rfl rfl, pcW.pre hPc hKc hDc⟩ rfl rfl hl.1 rfl (lv_room (Nat.le_of_ble_eq_true rfl)) dX12_fewest_7 ⟨(Nat.le_of_ble_eq_true rfl), (Nat.le_of_ble_eq_true rfl)⟩)) (fun r_7 hr_7 => ?_)
  obtain rfl : r_7 = 0 := hr_7
  refine lv_if_eq (tgt := 23) hx hb dX12_fewest_10 (by decide) (fun _ => ?_) (fun h => absurd (by decide) h)
  refine lv_bipush (v := (-2)) hx hb dX12_fewest_23 (by decide) ?_
  refine W.widen (k := 0) (n := 0) (Nat.le_of_ble_eq_true rfl) (Nat.le_of_ble_eq_true rfl) ?_
  exact W.iret (v := (-2)) hx hb hr (fun t ht hW => ⟨⟨(-2), (), rfl, rfl, trivial⟩, hS.F ht⟩) hS.2.2 dX12_fewest_25

set_option maxHeartbeats 4000000 in
set_option maxRecDepth 100000 in
theorem m_even (l : Launch) (dC : Nat → ClassId) (dI : Nat → Nat → Nat) (m0 : Nat) (g0 : Nat) (g1 : Nat) (g2 : Nat) (g3 : Nat) (g4 : Nat) (g9 : Nat) (g17 : Nat) (g18 : Nat) (g20 : Nat) (g21 : Nat) (g22 : Nat) (g23 : Nat) (g24 : Nat) (g25 : Nat) (g26 : Nat) (g27 : Nat) (g28 : Nat) (g29 : Nat) (g30 : Nat) (sz : Nat) (k0 : Int32) (k1 : Int32) : Met l yX12_even (wT yX12_even cX12_even 3 (some .int)) ({ frames := 2, cells := 0, slots := 0, locals := 46 }) (pcW dC dI [.ref m0, .int k0, .int k1] sz [(m0, .inr (12, [.ref g0, .ref g1, .ref g2, .ref g3, .ref g4, .int 0, .int 0, .int 0, .int 0, .ref g9, .int 0, .int 0, .int 0, .int 0, .int (-1), .int 0, .int 0, .ref g17, .ref g18, .int 0, .ref g20, .ref g21, .ref g22, .ref g23, .ref g24, .ref g25, .ref g26, .ref g27, .ref g28, .ref g29, .ref g30, .int 0]))] []) (va_Qi (fun (r : Int32) (_ : Unit) => r = (-2)) (fun _ _ => True) (va_A [(m0, .inr (12, [.ref g0, .ref g1, .ref g2, .ref g3, .ref g4, .int 0, .int 0, .int 0, .int 0, .ref g9, .int 0, .int 0, .int 0, .int 0, .int (-1), .int 0, .int 0, .ref g17, .ref g18, .int 0, .ref g20, .ref g21, .ref g22, .ref g23, .ref g24, .ref g25, .ref g26, .ref g27, .ref g28, .ref g29, .ref g30, .int 0]))] sz)) 0 0 (va_A [(m0, .inr (12, [.ref g0, .ref g1, .ref g2, .ref g3, .ref g4, .int 0, .int 0, .int 0, .int 0, .ref g9, .int 0, .int 0, .int 0, .int 0, .int (-1), .int 0, .int 0, .ref g17, .ref g18, .int 0, .ref g20, .ref g21, .ref g22, .ref g23, .ref g24, .ref g25, .ref g26, .ref g27, .ref g28, .ref g29, .ref g30, .int 0]))] sz) := by
  refine Met.ofW (cc := cX12_even) (maxL := 3) (ret := (some .int)) (by decide) rfl ?_
  intro p e s m args below meth c s₁ B hml hv
  obtain ⟨rfl, hsz, hP, hK, hD0⟩ := hv
  have hx := B.exec
  have hb := B.bytes
  have hr := B.returns
  have hT : ∀ w ∈ TB, w.before [.ref m0, .int k0, .int k1].toArray s = true := fun w h => atoms_spec (ws := wT yX12_even cX12_even 3 (some .int)) B.pre w (List.mem_cons_of_mem _ h)
  have hown : s.vm.findClass RX12 = some m.cls := findClass_of_methodNamed B.named
  have hlocks := B.notSynchronized
  subst hsz
  have hD := hD0.self (sz := s.heap.size)
  generalize hAe : va_A [(m0, .inr (12, [.ref g0, .ref g1, .ref g2, .ref g3, .ref g4, .int 0, .int 0, .int 0, .int 0, .ref g9, .int 0, .int 0, .int 0, .int 0, .int (-1), .int 0, .int 0, .ref g17, .ref g18, .int 0, .ref g20, .ref g21, .ref g22, .ref g23, .ref g24, .ref g25, .ref g26, .ref g27, .ref g28, .ref g29, .ref g30, .int 0]))] s.heap.size = A at hD ⊢
  have hA : ∀ q : Nat, s.heap.size ≤ q → A q := fun q h => by rw [← hAe]; exact Or.inr h
  have hS : va_S A s.heap s.heap [] := va_S.rf
  have hP : va_P (dC, dI) vwCl [(m0, .inr (12, [.ref g0, .ref g1, .ref g2, .ref g3, .ref g4, .int 0, .int 0, .int 0, .int 0, .ref g9, .int 0, .int 0, .int 0, .int 0, .int (-1), .int 0, .int 0, .ref g17, .ref g18, .int 0, .ref g20, .ref g21, .ref g22, .ref g23, .ref g24, .ref g25, .ref g26, .ref g27, .ref g28, .ref g29, .ref g30, .int 0]))] s.heap := hP
  have hl := lv_entry ([.ref m0, .int k0, .int k1]) (n := 3) (Nat.le_of_ble_eq_true rfl)
  rw [lg_entry_eq]
  generalize (lg_sl ([.ref m0, .int k0, .int k1]) ++ List.replicate (3 - (lg_sl ([.ref m0, .int k0, .int k1])).length) Slot.unset).toArray = ls at hl ⊢
  have hl : lv_has ls 3 [(0, .ref m0), (1, .int k0), (2, .int k1)] := hl
  refine lv_aload_n hx hb dX12_even_0 rfl (lv_at hl 0 rfl) ?_
  refine lv_iconst (v := 0) hx hb dX12_even_1 (by decide) ?_
  refine va_put (D := (dC, dI)) (ci := 12) (v := .int 0) (ty := .int) (C := RX12) (T := TX12) (N := 32) hx hb hT iX12 tyX12 tyX12_ok nmX12 hown hK hP hD hS 0 rfl rfl 8 (by decide) (hT _ w1090) (fun _ h9 => h9) rfl (by decide +kernel) rfl rfl (Nat.le_of_ble_eq_true rfl) dX12_even_2 (fun H locs hP hD hS => ?_)
  have hP : va_P (dC, dI) vwCl [(m0, .inr (12, [.ref g0, .ref g1, .ref g2, .ref g3, .ref g4, .int 0, .int 0, .int 0, .int 0, .ref g9, .int 0, .int 0, .int 0, .int 0, .int (-1), .int 0, .int 0, .ref g17, .ref g18, .int 0, .ref g20, .ref g21, .ref g22, .ref g23, .ref g24, .ref g25, .ref g26, .ref g27, .ref g28, .ref g29, .ref g30, .int 0]))] H := hP
  have hD : va_D A [(m0, .inr (12, [.ref g0, .ref g1, .ref g2, .ref g3, .ref g4, .int 0, .int 0, .int 0, .int 0, .ref g9, .int 0, .int 0, .int 0, .int 0, .int (-1), .int 0, .int 0, .ref g17, .ref g18, .int 0, .ref g20, .ref g21, .ref g22, .ref g23, .ref g24, .ref g25, .ref g26, .ref g27, .ref g28, .ref g29, .ref g30, .int 0]))] := hD
  refine lv_aload_n hx hb dX12_even_5 rfl (lv_at hl 0 rfl) ?_
  refine lv_iload_n hx hb dX12_even_6 rfl (lv_at hl 2 rfl) ?_
  have hPc := hP.sub (ws' := [(m0, .inr (12, [.ref g0, .ref g1, .ref g2, .ref g3, .ref g4, .int 0, .int 0, .int 0, .int 0, .ref g9, .int 0, .int 0, .int 0, .int 0, .int (-1), .int 0, .int 0, .ref g17, .ref g18, .int 0, .ref g20, .ref g21, .ref g22, .ref g23, .ref g24, .ref g25, .ref g26, .ref g27, .ref g28, .ref g29, .ref g30, .int 0]))]) [0] rfl
  have hDc := hD.sub (ws' := [(m0, .inr (12, [.ref g0, .ref g1, .ref g2, .ref g3, .ref g4, .int 0, .int 0, .int 0, .int 0, .ref g9, .int 0, .int 0, .int 0, .int 0, .int (-1), .int 0, .int 0, .ref g17, .ref g18, .int 0, .ref g20, .ref g21, .ref g22, .ref g23, .ref g24, .ref g25, .ref g26, .ref g27, .ref g28, .ref g29, .ref g30, .int 0]))]) [0] (by decide) rfl
  have hKc := hK.sub (tys' := []) [] rfl
  refine vp_callSi (va_Run.run (va_runV (As := [.int k1]) (rest := []) ⟨hx, hb, hml, hown, hT⟩ (m_isKind l dC dI m0 g0 g1 g2 g3 g4 g9 g17 g18 g20 g21 g22 g23 g24 g25 g26 g27 g28 g29 g30 H.size k1) (cwV 1 hT (gV w1288 w1290 ws74 w14 w1291) rfl rfl rfl (by decide +kernel) ⟨(Nat.le_of_ble_eq_true rfl), (Nat.le_of_ble_eq_true rfl)⟩) ⟨pcW.blind, va_recv hKc hPc (ci := 12) (q0 := 0) rfl rfl, pcW.pre hPc hKc hDc⟩ rfl rfl hl.1 rfl (lv_room (Nat.le_of_ble_eq_true rfl)) dX12_even_7 ⟨(Nat.le_of_ble_eq_true rfl), (Nat.le_of_ble_eq_true rfl)⟩)) (fun r_7 hr_7 => ?_)
  obtain rfl : r_7 = 0 := hr_7
  refine lv_if_eq (tgt := 31) hx hb dX12_even_10 (by decide) (fun _ => ?_) (fun h => absurd (by decide) h)
  refine lv_bipush (v := (-2)) hx hb dX12_even_31 (by decide) ?_
  refine W.widen (k := 0) (n := 0) (Nat.le_of_ble_eq_true rfl) (Nat.le_of_ble_eq_true rfl) ?_
  exact W.iret (v := (-2)) hx hb hr (fun t ht hW => ⟨⟨(-2), (), rfl, rfl, trivial⟩, hS.F ht⟩) hS.2.2 dX12_even_33

set_option maxHeartbeats 4000000 in
set_option maxRecDepth 100000 in
theorem m_drop (l : Launch) (dC : Nat → ClassId) (dI : Nat → Nat → Nat) (m0 : Nat) (g0 : Nat) (g1 : Nat) (g2 : Nat) (g3 : Nat) (g4 : Nat) (g9 : Nat) (g17 : Nat) (g18 : Nat) (g20 : Nat) (g21 : Nat) (g22 : Nat) (g23 : Nat) (g24 : Nat) (g25 : Nat) (g26 : Nat) (g27 : Nat) (g28 : Nat) (g29 : Nat) (g30 : Nat) (cS : ClassId) (f : Nat → Int32) (sz : Nat) (k0 : Int32) (hf0 : f 0 = 0) : Met l yX12_drop (wT yX12_drop cX12_drop 2 (some .int)) ({ frames := 2, cells := 0, slots := 0, locals := 46 }) (pcW dC dI [.ref m0, .int k0] sz [(m0, .inr (12, [.ref g0, .ref g1, .ref g2, .ref g3, .ref g4, .int 0, .int 0, .int 0, .int 0, .ref g9, .int 0, .int 0, .int 0, .int 0, .int (-1), .int 0, .int 0, .ref g17, .ref g18, .int 0, .ref g20, .ref g21, .ref g22, .ref g23, .ref g24, .ref g25, .ref g26, .ref g27, .ref g28, .ref g29, .ref g30, .int 0])), (g0, .inl (cS, 266, .inl f))] [(cS, .int)]) (va_Qi (fun (r : Int32) (_ : Unit) => r = (-2)) (fun _ _ => True) (va_A [(m0, .inr (12, [.ref g0, .ref g1, .ref g2, .ref g3, .ref g4, .int 0, .int 0, .int 0, .int 0, .ref g9, .int 0, .int 0, .int 0, .int 0, .int (-1), .int 0, .int 0, .ref g17, .ref g18, .int 0, .ref g20, .ref g21, .ref g22, .ref g23, .ref g24, .ref g25, .ref g26, .ref g27, .ref g28, .ref g29, .ref g30, .int 0])), (g0, .inl (cS, 266, .inl f))] sz)) 0 0 (va_A [(m0, .inr (12, [.ref g0, .ref g1, .ref g2, .ref g3, .ref g4, .int 0, .int 0, .int 0, .int 0, .ref g9, .int 0, .int 0, .int 0, .int 0, .int (-1), .int 0, .int 0, .ref g17, .ref g18, .int 0, .ref g20, .ref g21, .ref g22, .ref g23, .ref g24, .ref g25, .ref g26, .ref g27, .ref g28, .ref g29, .ref g30, .int 0])), (g0, .inl (cS, 266, .inl f))] sz) := by
  refine Met.ofW (cc := cX12_drop) (maxL := 2) (ret := (some .int)) (by decide) rfl ?_
  intro p e s m args below meth c s₁ B hml hv
  obtain ⟨rfl, hsz, hP, hK, hD0⟩ := hv
  have hx := B.exec
  have hb := B.bytes
  have hr := B.returns
  have hT : ∀ w ∈ TB, w.before [.ref m0, .int k0].toArray s = true := fun w h => atoms_spec (ws := wT yX12_drop cX12_drop 2 (some .int)) B.pre w (List.mem_cons_of_mem _ h)
  have hown : s.vm.findClass RX12 = some m.cls := findClass_of_methodNamed B.named
  have hlocks := B.notSynchronized
  subst hsz
  have hD := hD0.self (sz := s.heap.size)
  generalize hAe : va_A [(m0, .inr (12, [.ref g0, .ref g1, .ref g2, .ref g3, .ref g4, .int 0, .int 0, .int 0, .int 0, .ref g9, .int 0, .int 0, .int 0, .int 0, .int (-1), .int 0, .int 0, .ref g17, .ref g18, .int 0, .ref g20, .ref g21, .ref g22, .ref g23, .ref g24, .ref g25, .ref g26, .ref g27, .ref g28, .ref g29, .ref g30, .int 0])), (g0, .inl (cS, 266, .inl f))] s.heap.size = A at hD ⊢
  have hA : ∀ q : Nat, s.heap.size ≤ q → A q := fun q h => by rw [← hAe]; exact Or.inr h
  have hS : va_S A s.heap s.heap [] := va_S.rf
  have hP : va_P (dC, dI) vwCl [(m0, .inr (12, [.ref g0, .ref g1, .ref g2, .ref g3, .ref g4, .int 0, .int 0, .int 0, .int 0, .ref g9, .int 0, .int 0, .int 0, .int 0, .int (-1), .int 0, .int 0, .ref g17, .ref g18, .int 0, .ref g20, .ref g21, .ref g22, .ref g23, .ref g24, .ref g25, .ref g26, .ref g27, .ref g28, .ref g29, .ref g30, .int 0])), (g0, .inl (cS, 266, .inl f))] s.heap := hP
  have hl := lv_entry ([.ref m0, .int k0]) (n := 2) (Nat.le_of_ble_eq_true rfl)
  rw [lg_entry_eq]
  generalize (lg_sl ([.ref m0, .int k0]) ++ List.replicate (2 - (lg_sl ([.ref m0, .int k0])).length) Slot.unset).toArray = ls at hl ⊢
  have hl : lv_has ls 2 [(0, .ref m0), (1, .int k0)] := hl
  refine lv_aload_n hx hb dX12_drop_0 rfl (lv_at hl 0 rfl) ?_
  refine lv_iconst (v := 0) hx hb dX12_drop_1 (by decide) ?_
  refine va_put (D := (dC, dI)) (ci := 12) (v := .int 0) (ty := .int) (C := RX12) (T := TX12) (N := 32) hx hb hT iX12 tyX12 tyX12_ok nmX12 hown hK hP hD hS 0 rfl rfl 8 (by decide) (hT _ w1090) (fun _ h9 => h9) rfl (by decide +kernel) rfl rfl (Nat.le_of_ble_eq_true rfl) dX12_drop_2 (fun H locs hP hD hS => ?_)
  have hP : va_P (dC, dI) vwCl [(m0, .inr (12, [.ref g0, .ref g1, .ref g2, .ref g3, .ref g4, .int 0, .int 0, .int 0, .int 0, .ref g9, .int 0, .int 0, .int 0, .int 0, .int (-1), .int 0, .int 0, .ref g17, .ref g18, .int 0, .ref g20, .ref g21, .ref g22, .ref g23, .ref g24, .ref g25, .ref g26, .ref g27, .ref g28, .ref g29, .ref g30, .int 0])), (g0, .inl (cS, 266, .inl f))] H := hP
  have hD : va_D A [(m0, .inr (12, [.ref g0, .ref g1, .ref g2, .ref g3, .ref g4, .int 0, .int 0, .int 0, .int 0, .ref g9, .int 0, .int 0, .int 0, .int 0, .int (-1), .int 0, .int 0, .ref g17, .ref g18, .int 0, .ref g20, .ref g21, .ref g22, .ref g23, .ref g24, .ref g25, .ref g26, .ref g27, .ref g28, .ref g29, .ref g30, .int 0])), (g0, .inl (cS, 266, .inl f))] := hD
  refine lv_aload_n hx hb dX12_drop_5 rfl (lv_at hl 0 rfl) ?_
  refine lv_iload_n hx hb dX12_drop_6 rfl (lv_at hl 1 rfl) ?_
  have hPc := hP.sub (ws' := [(m0, .inr (12, [.ref g0, .ref g1, .ref g2, .ref g3, .ref g4, .int 0, .int 0, .int 0, .int 0, .ref g9, .int 0, .int 0, .int 0, .int 0, .int (-1), .int 0, .int 0, .ref g17, .ref g18, .int 0, .ref g20, .ref g21, .ref g22, .ref g23, .ref g24, .ref g25, .ref g26, .ref g27, .ref g28, .ref g29, .ref g30, .int 0])), (g0, .inl (cS, 266, .inl f))]) [0, 1] rfl
  have hDc := hD.sub (ws' := [(m0, .inr (12, [.ref g0, .ref g1, .ref g2, .ref g3, .ref g4, .int 0, .int 0, .int 0, .int 0, .ref g9, .int 0, .int 0, .int 0, .int 0, .int (-1), .int 0, .int 0, .ref g17, .ref g18, .int 0, .ref g20, .ref g21, .ref g22, .ref g23, .ref g24, .ref g25, .ref g26, .ref g27, .ref g28, .ref g29, .ref g30, .int 0])), (g0, .inl (cS, 266, .inl f))]) [0, 1] (by decide) rfl
  have hKc := hK.sub (tys' := [(cS, .int)]) [0] rfl
  refine vp_callSi (va_Run.run (va_runV (As := [.int k0]) (rest := []) ⟨hx, hb, hml, hown, hT⟩ (m_isTrade l dC dI m0 g0 g1 g2 g3 g4 g9 g17 g18 g20 g21 g22 g23 g24 g25 g26 g27 g28 g29 g30 cS f H.size k0 hf0) (cwV 1 hT (gV w1301 w1303 ws76 w14 w1304) rfl rfl rfl (by decide +kernel) ⟨(Nat.le_of_ble_eq_true rfl), (Nat.le_of_ble_eq_true rfl)⟩) ⟨pcW.blind, va_recv hKc hPc (ci := 12) (q0 := 0) rfl rfl, pcW.pre hPc hKc hDc⟩ rfl rfl hl.1 rfl (lv_room (Nat.le_of_ble_eq_true rfl)) dX12_drop_7 ⟨(Nat.le_of_ble_eq_true rfl), (Nat.le_of_ble_eq_true rfl)⟩)) (fun r_7 hr_7 => ?_)
  obtain rfl : r_7 = 0 := hr_7
  refine lv_if_ne (tgt := 16) hx hb dX12_drop_10 (by decide) (fun h => absurd (by decide) h) (fun _ => ?_)
  refine lv_bipush (v := (-2)) hx hb dX12_drop_13 (by decide) ?_
  refine W.widen (k := 0) (n := 0) (Nat.le_of_ble_eq_true rfl) (Nat.le_of_ble_eq_true rfl) ?_
  exact W.iret (v := (-2)) hx hb hr (fun t ht hW => ⟨⟨(-2), (), rfl, rfl, trivial⟩, hS.F ht⟩) hS.2.2 dX12_drop_15

set_option maxHeartbeats 4000000 in
set_option maxRecDepth 100000 in
theorem m_keep (l : Launch) (dC : Nat → ClassId) (dI : Nat → Nat → Nat) (m0 : Nat) (g0 : Nat) (g1 : Nat) (g2 : Nat) (g3 : Nat) (g4 : Nat) (g9 : Nat) (g17 : Nat) (g18 : Nat) (g20 : Nat) (g21 : Nat) (g22 : Nat) (g23 : Nat) (g24 : Nat) (g25 : Nat) (g26 : Nat) (g27 : Nat) (g28 : Nat) (g29 : Nat) (g30 : Nat) (cS : ClassId) (f : Nat → Int32) (sz : Nat) (k0 : Int32) (hf0 : f 0 = 0) : Met l yX12_keep (wT yX12_keep cX12_keep 2 (some .int)) ({ frames := 2, cells := 0, slots := 0, locals := 46 }) (pcW dC dI [.ref m0, .int k0] sz [(m0, .inr (12, [.ref g0, .ref g1, .ref g2, .ref g3, .ref g4, .int 0, .int 0, .int 0, .int 0, .ref g9, .int 0, .int 0, .int 0, .int 0, .int (-1), .int 0, .int 0, .ref g17, .ref g18, .int 0, .ref g20, .ref g21, .ref g22, .ref g23, .ref g24, .ref g25, .ref g26, .ref g27, .ref g28, .ref g29, .ref g30, .int 0])), (g0, .inl (cS, 266, .inl f))] [(cS, .int)]) (va_Qi (fun (r : Int32) (_ : Unit) => r = (-2)) (fun _ _ => True) (va_A [(m0, .inr (12, [.ref g0, .ref g1, .ref g2, .ref g3, .ref g4, .int 0, .int 0, .int 0, .int 0, .ref g9, .int 0, .int 0, .int 0, .int 0, .int (-1), .int 0, .int 0, .ref g17, .ref g18, .int 0, .ref g20, .ref g21, .ref g22, .ref g23, .ref g24, .ref g25, .ref g26, .ref g27, .ref g28, .ref g29, .ref g30, .int 0])), (g0, .inl (cS, 266, .inl f))] sz)) 0 0 (va_A [(m0, .inr (12, [.ref g0, .ref g1, .ref g2, .ref g3, .ref g4, .int 0, .int 0, .int 0, .int 0, .ref g9, .int 0, .int 0, .int 0, .int 0, .int (-1), .int 0, .int 0, .ref g17, .ref g18, .int 0, .ref g20, .ref g21, .ref g22, .ref g23, .ref g24, .ref g25, .ref g26, .ref g27, .ref g28, .ref g29, .ref g30, .int 0])), (g0, .inl (cS, 266, .inl f))] sz) := by
  refine Met.ofW (cc := cX12_keep) (maxL := 2) (ret := (some .int)) (by decide) rfl ?_
  intro p e s m args below meth c s₁ B hml hv
  obtain ⟨rfl, hsz, hP, hK, hD0⟩ := hv
  have hx := B.exec
  have hb := B.bytes
  have hr := B.returns
  have hT : ∀ w ∈ TB, w.before [.ref m0, .int k0].toArray s = true := fun w h => atoms_spec (ws := wT yX12_keep cX12_keep 2 (some .int)) B.pre w (List.mem_cons_of_mem _ h)
  have hown : s.vm.findClass RX12 = some m.cls := findClass_of_methodNamed B.named
  have hlocks := B.notSynchronized
  subst hsz
  have hD := hD0.self (sz := s.heap.size)
  generalize hAe : va_A [(m0, .inr (12, [.ref g0, .ref g1, .ref g2, .ref g3, .ref g4, .int 0, .int 0, .int 0, .int 0, .ref g9, .int 0, .int 0, .int 0, .int 0, .int (-1), .int 0, .int 0, .ref g17, .ref g18, .int 0, .ref g20, .ref g21, .ref g22, .ref g23, .ref g24, .ref g25, .ref g26, .ref g27, .ref g28, .ref g29, .ref g30, .int 0])), (g0, .inl (cS, 266, .inl f))] s.heap.size = A at hD ⊢
  have hA : ∀ q : Nat, s.heap.size ≤ q → A q := fun q h => by rw [← hAe]; exact Or.inr h
  have hS : va_S A s.heap s.heap [] := va_S.rf
  have hP : va_P (dC, dI) vwCl [(m0, .inr (12, [.ref g0, .ref g1, .ref g2, .ref g3, .ref g4, .int 0, .int 0, .int 0, .int 0, .ref g9, .int 0, .int 0, .int 0, .int 0, .int (-1), .int 0, .int 0, .ref g17, .ref g18, .int 0, .ref g20, .ref g21, .ref g22, .ref g23, .ref g24, .ref g25, .ref g26, .ref g27, .ref g28, .ref g29, .ref g30, .int 0])), (g0, .inl (cS, 266, .inl f))] s.heap := hP
  have hl := lv_entry ([.ref m0, .int k0]) (n := 2) (Nat.le_of_ble_eq_true rfl)
  rw [lg_entry_eq]
  generalize (lg_sl ([.ref m0, .int k0]) ++ List.replicate (2 - (lg_sl ([.ref m0, .int k0])).length) Slot.unset).toArray = ls at hl ⊢
  have hl : lv_has ls 2 [(0, .ref m0), (1, .int k0)] := hl
  refine lv_aload_n hx hb dX12_keep_0 rfl (lv_at hl 0 rfl) ?_
  refine lv_iconst (v := 0) hx hb dX12_keep_1 (by decide) ?_
  refine va_put (D := (dC, dI)) (ci := 12) (v := .int 0) (ty := .int) (C := RX12) (T := TX12) (N := 32) hx hb hT iX12 tyX12 tyX12_ok nmX12 hown hK hP hD hS 0 rfl rfl 8 (by decide) (hT _ w1090) (fun _ h9 => h9) rfl (by decide +kernel) rfl rfl (Nat.le_of_ble_eq_true rfl) dX12_keep_2 (fun H locs hP hD hS => ?_)
  have hP : va_P (dC, dI) vwCl [(m0, .inr (12, [.ref g0, .ref g1, .ref g2, .ref g3, .ref g4, .int 0, .int 0, .int 0, .int 0, .ref g9, .int 0, .int 0, .int 0, .int 0, .int (-1), .int 0, .int 0, .ref g17, .ref g18, .int 0, .ref g20, .ref g21, .ref g22, .ref g23, .ref g24, .ref g25, .ref g26, .ref g27, .ref g28, .ref g29, .ref g30, .int 0])), (g0, .inl (cS, 266, .inl f))] H := hP
  have hD : va_D A [(m0, .inr (12, [.ref g0, .ref g1, .ref g2, .ref g3, .ref g4, .int 0, .int 0, .int 0, .int 0, .ref g9, .int 0, .int 0, .int 0, .int 0, .int (-1), .int 0, .int 0, .ref g17, .ref g18, .int 0, .ref g20, .ref g21, .ref g22, .ref g23, .ref g24, .ref g25, .ref g26, .ref g27, .ref g28, .ref g29, .ref g30, .int 0])), (g0, .inl (cS, 266, .inl f))] := hD
  refine lv_aload_n hx hb dX12_keep_5 rfl (lv_at hl 0 rfl) ?_
  refine lv_iload_n hx hb dX12_keep_6 rfl (lv_at hl 1 rfl) ?_
  have hPc := hP.sub (ws' := [(m0, .inr (12, [.ref g0, .ref g1, .ref g2, .ref g3, .ref g4, .int 0, .int 0, .int 0, .int 0, .ref g9, .int 0, .int 0, .int 0, .int 0, .int (-1), .int 0, .int 0, .ref g17, .ref g18, .int 0, .ref g20, .ref g21, .ref g22, .ref g23, .ref g24, .ref g25, .ref g26, .ref g27, .ref g28, .ref g29, .ref g30, .int 0])), (g0, .inl (cS, 266, .inl f))]) [0, 1] rfl
  have hDc := hD.sub (ws' := [(m0, .inr (12, [.ref g0, .ref g1, .ref g2, .ref g3, .ref g4, .int 0, .int 0, .int 0, .int 0, .ref g9, .int 0, .int 0, .int 0, .int 0, .int (-1), .int 0, .int 0, .ref g17, .ref g18, .int 0, .ref g20, .ref g21, .ref g22, .ref g23, .ref g24, .ref g25, .ref g26, .ref g27, .ref g28, .ref g29, .ref g30, .int 0])), (g0, .inl (cS, 266, .inl f))]) [0, 1] (by decide) rfl
  have hKc := hK.sub (tys' := [(cS, .int)]) [0] rfl
  refine vp_callSi (va_Run.run (va_runV (As := [.int k0]) (rest := []) ⟨hx, hb, hml, hown, hT⟩ (m_isTrade l dC dI m0 g0 g1 g2 g3 g4 g9 g17 g18 g20 g21 g22 g23 g24 g25 g26 g27 g28 g29 g30 cS f H.size k0 hf0) (cwV 1 hT (gV w1301 w1303 ws76 w14 w1304) rfl rfl rfl (by decide +kernel) ⟨(Nat.le_of_ble_eq_true rfl), (Nat.le_of_ble_eq_true rfl)⟩) ⟨pcW.blind, va_recv hKc hPc (ci := 12) (q0 := 0) rfl rfl, pcW.pre hPc hKc hDc⟩ rfl rfl hl.1 rfl (lv_room (Nat.le_of_ble_eq_true rfl)) dX12_keep_7 ⟨(Nat.le_of_ble_eq_true rfl), (Nat.le_of_ble_eq_true rfl)⟩)) (fun r_7 hr_7 => ?_)
  obtain rfl : r_7 = 0 := hr_7
  refine lv_if_ne (tgt := 16) hx hb dX12_keep_10 (by decide) (fun h => absurd (by decide) h) (fun _ => ?_)
  refine lv_bipush (v := (-2)) hx hb dX12_keep_13 (by decide) ?_
  refine W.widen (k := 0) (n := 0) (Nat.le_of_ble_eq_true rfl) (Nat.le_of_ble_eq_true rfl) ?_
  exact W.iret (v := (-2)) hx hb hr (fun t ht hW => ⟨⟨(-2), (), rfl, rfl, trivial⟩, hS.F ht⟩) hS.2.2 dX12_keep_15

set_option maxHeartbeats 4000000 in
set_option maxRecDepth 100000 in
theorem m_tradeOf (l : Launch) (dC : Nat → ClassId) (dI : Nat → Nat → Nat) (m0 : Nat) (g0 : Nat) (g1 : Nat) (g2 : Nat) (g3 : Nat) (g4 : Nat) (g9 : Nat) (g17 : Nat) (g18 : Nat) (g20 : Nat) (g21 : Nat) (g22 : Nat) (g23 : Nat) (g24 : Nat) (g25 : Nat) (g26 : Nat) (g27 : Nat) (g28 : Nat) (g29 : Nat) (g30 : Nat) (cS : ClassId) (f : Nat → Int32) (sz : Nat) (k0 : Int32) (k1 : Int32) (hf0 : f 0 = 0) : Met l yX12_tradeOf (wT yX12_tradeOf cX12_tradeOf 3 (some .int)) ({ frames := 2, cells := 0, slots := 0, locals := 46 }) (pcW dC dI [.ref m0, .int k0, .int k1] sz [(m0, .inr (12, [.ref g0, .ref g1, .ref g2, .ref g3, .ref g4, .int 0, .int 0, .int 0, .int 0, .ref g9, .int 0, .int 0, .int 0, .int 0, .int (-1), .int 0, .int 0, .ref g17, .ref g18, .int 0, .ref g20, .ref g21, .ref g22, .ref g23, .ref g24, .ref g25, .ref g26, .ref g27, .ref g28, .ref g29, .ref g30, .int 0])), (g0, .inl (cS, 266, .inl f))] [(cS, .int)]) (va_Qi (fun (r : Int32) (_ : Unit) => r = (-2)) (fun _ _ => True) (va_A [(m0, .inr (12, [.ref g0, .ref g1, .ref g2, .ref g3, .ref g4, .int 0, .int 0, .int 0, .int 0, .ref g9, .int 0, .int 0, .int 0, .int 0, .int (-1), .int 0, .int 0, .ref g17, .ref g18, .int 0, .ref g20, .ref g21, .ref g22, .ref g23, .ref g24, .ref g25, .ref g26, .ref g27, .ref g28, .ref g29, .ref g30, .int 0])), (g0, .inl (cS, 266, .inl f))] sz)) 0 0 (va_A [(m0, .inr (12, [.ref g0, .ref g1, .ref g2, .ref g3, .ref g4, .int 0, .int 0, .int 0, .int 0, .ref g9, .int 0, .int 0, .int 0, .int 0, .int (-1), .int 0, .int 0, .ref g17, .ref g18, .int 0, .ref g20, .ref g21, .ref g22, .ref g23, .ref g24, .ref g25, .ref g26, .ref g27, .ref g28, .ref g29, .ref g30, .int 0])), (g0, .inl (cS, 266, .inl f))] sz) := by
  refine Met.ofW (cc := cX12_tradeOf) (maxL := 3) (ret := (some .int)) (by decide) rfl ?_
  intro p e s m args below meth c s₁ B hml hv
  obtain ⟨rfl, hsz, hP, hK, hD0⟩ := hv
  have hx := B.exec
  have hb := B.bytes
  have hr := B.returns
  have hT : ∀ w ∈ TB, w.before [.ref m0, .int k0, .int k1].toArray s = true := fun w h => atoms_spec (ws := wT yX12_tradeOf cX12_tradeOf 3 (some .int)) B.pre w (List.mem_cons_of_mem _ h)
  have hown : s.vm.findClass RX12 = some m.cls := findClass_of_methodNamed B.named
  have hlocks := B.notSynchronized
  subst hsz
  have hD := hD0.self (sz := s.heap.size)
  generalize hAe : va_A [(m0, .inr (12, [.ref g0, .ref g1, .ref g2, .ref g3, .ref g4, .int 0, .int 0, .int 0, .int 0, .ref g9, .int 0, .int 0, .int 0, .int 0, .int (-1), .int 0, .int 0, .ref g17, .ref g18, .int 0, .ref g20, .ref g21, .ref g22, .ref g23, .ref g24, .ref g25, .ref g26, .ref g27, .ref g28, .ref g29, .ref g30, .int 0])), (g0, .inl (cS, 266, .inl f))] s.heap.size = A at hD ⊢
  have hA : ∀ q : Nat, s.heap.size ≤ q → A q := fun q h => by rw [← hAe]; exact Or.inr h
  have hS : va_S A s.heap s.heap [] := va_S.rf
  have hP : va_P (dC, dI) vwCl [(m0, .inr (12, [.ref g0, .ref g1, .ref g2, .ref g3, .ref g4, .int 0, .int 0, .int 0, .int 0, .ref g9, .int 0, .int 0, .int 0, .int 0, .int (-1), .int 0, .int 0, .ref g17, .ref g18, .int 0, .ref g20, .ref g21, .ref g22, .ref g23, .ref g24, .ref g25, .ref g26, .ref g27, .ref g28, .ref g29, .ref g30, .int 0])), (g0, .inl (cS, 266, .inl f))] s.heap := hP
  have hl := lv_entry ([.ref m0, .int k0, .int k1]) (n := 3) (Nat.le_of_ble_eq_true rfl)
  rw [lg_entry_eq]
  generalize (lg_sl ([.ref m0, .int k0, .int k1]) ++ List.replicate (3 - (lg_sl ([.ref m0, .int k0, .int k1])).length) Slot.unset).toArray = ls at hl ⊢
  have hl : lv_has ls 3 [(0, .ref m0), (1, .int k0), (2, .int k1)] := hl
  refine lv_aload_n hx hb dX12_tradeOf_0 rfl (lv_at hl 0 rfl) ?_
  refine lv_iconst (v := 0) hx hb dX12_tradeOf_1 (by decide) ?_
  refine va_put (D := (dC, dI)) (ci := 12) (v := .int 0) (ty := .int) (C := RX12) (T := TX12) (N := 32) hx hb hT iX12 tyX12 tyX12_ok nmX12 hown hK hP hD hS 0 rfl rfl 8 (by decide) (hT _ w1090) (fun _ h9 => h9) rfl (by decide +kernel) rfl rfl (Nat.le_of_ble_eq_true rfl) dX12_tradeOf_2 (fun H locs hP hD hS => ?_)
  have hP : va_P (dC, dI) vwCl [(m0, .inr (12, [.ref g0, .ref g1, .ref g2, .ref g3, .ref g4, .int 0, .int 0, .int 0, .int 0, .ref g9, .int 0, .int 0, .int 0, .int 0, .int (-1), .int 0, .int 0, .ref g17, .ref g18, .int 0, .ref g20, .ref g21, .ref g22, .ref g23, .ref g24, .ref g25, .ref g26, .ref g27, .ref g28, .ref g29, .ref g30, .int 0])), (g0, .inl (cS, 266, .inl f))] H := hP
  have hD : va_D A [(m0, .inr (12, [.ref g0, .ref g1, .ref g2, .ref g3, .ref g4, .int 0, .int 0, .int 0, .int 0, .ref g9, .int 0, .int 0, .int 0, .int 0, .int (-1), .int 0, .int 0, .ref g17, .ref g18, .int 0, .ref g20, .ref g21, .ref g22, .ref g23, .ref g24, .ref g25, .ref g26, .ref g27, .ref g28, .ref g29, .ref g30, .int 0])), (g0, .inl (cS, 266, .inl f))] := hD
  refine lv_aload_n hx hb dX12_tradeOf_5 rfl (lv_at hl 0 rfl) ?_
  refine lv_iload_n hx hb dX12_tradeOf_6 rfl (lv_at hl 1 rfl) ?_
  have hPc := hP.sub (ws' := [(m0, .inr (12, [.ref g0, .ref g1, .ref g2, .ref g3, .ref g4, .int 0, .int 0, .int 0, .int 0, .ref g9, .int 0, .int 0, .int 0, .int 0, .int (-1), .int 0, .int 0, .ref g17, .ref g18, .int 0, .ref g20, .ref g21, .ref g22, .ref g23, .ref g24, .ref g25, .ref g26, .ref g27, .ref g28, .ref g29, .ref g30, .int 0])), (g0, .inl (cS, 266, .inl f))]) [0, 1] rfl
  have hDc := hD.sub (ws' := [(m0, .inr (12, [.ref g0, .ref g1, .ref g2, .ref g3, .ref g4, .int 0, .int 0, .int 0, .int 0, .ref g9, .int 0, .int 0, .int 0, .int 0, .int (-1), .int 0, .int 0, .ref g17, .ref g18, .int 0, .ref g20, .ref g21, .ref g22, .ref g23, .ref g24, .ref g25, .ref g26, .ref g27, .ref g28, .ref g29, .ref g30, .int 0])), (g0, .inl (cS, 266, .inl f))]) [0, 1] (by decide) rfl
  have hKc := hK.sub (tys' := [(cS, .int)]) [0] rfl
  refine vp_callSi (va_Run.run (va_runV (As := [.int k0]) (rest := []) ⟨hx, hb, hml, hown, hT⟩ (m_isTrade l dC dI m0 g0 g1 g2 g3 g4 g9 g17 g18 g20 g21 g22 g23 g24 g25 g26 g27 g28 g29 g30 cS f H.size k0 hf0) (cwV 1 hT (gV w1301 w1303 ws76 w14 w1304) rfl rfl rfl (by decide +kernel) ⟨(Nat.le_of_ble_eq_true rfl), (Nat.le_of_ble_eq_true rfl)⟩) ⟨pcW.blind, va_recv hKc hPc (ci := 12) (q0 := 0) rfl rfl, pcW.pre hPc hKc hDc⟩ rfl rfl hl.1 rfl (lv_room (Nat.le_of_ble_eq_true rfl)) dX12_tradeOf_7 ⟨(Nat.le_of_ble_eq_true rfl), (Nat.le_of_ble_eq_true rfl)⟩)) (fun r_7 hr_7 => ?_)
  obtain rfl : r_7 = 0 := hr_7
  refine lv_if_eq (tgt := 34) hx hb dX12_tradeOf_10 (by decide) (fun _ => ?_) (fun h => absurd (by decide) h)
  refine lv_bipush (v := (-2)) hx hb dX12_tradeOf_34 (by decide) ?_
  refine W.widen (k := 0) (n := 0) (Nat.le_of_ble_eq_true rfl) (Nat.le_of_ble_eq_true rfl) ?_
  exact W.iret (v := (-2)) hx hb hr (fun t ht hW => ⟨⟨(-2), (), rfl, rfl, trivial⟩, hS.F ht⟩) hS.2.2 dX12_tradeOf_36

set_option maxHeartbeats 4000000 in
set_option maxRecDepth 100000 in
theorem m_line (l : Launch) (dC : Nat → ClassId) (dI : Nat → Nat → Nat) (m0 : Nat) (g0 : Nat) (g1 : Nat) (g2 : Nat) (g3 : Nat) (g4 : Nat) (g9 : Nat) (g17 : Nat) (g18 : Nat) (g20 : Nat) (g21 : Nat) (g22 : Nat) (g23 : Nat) (g24 : Nat) (g25 : Nat) (g26 : Nat) (g27 : Nat) (g28 : Nat) (g29 : Nat) (g30 : Nat) (cS : ClassId) (f : Nat → Int32) (sz : Nat) (k0 : Int32) (k1 : Int32) (hf0 : f 0 = 0) : Met l yX12_line (wT yX12_line cX12_line 3 (some .int)) ({ frames := 2, cells := 0, slots := 0, locals := 46 }) (pcW dC dI [.ref m0, .int k0, .int k1] sz [(m0, .inr (12, [.ref g0, .ref g1, .ref g2, .ref g3, .ref g4, .int 0, .int 0, .int 0, .int 0, .ref g9, .int 0, .int 0, .int 0, .int 0, .int (-1), .int 0, .int 0, .ref g17, .ref g18, .int 0, .ref g20, .ref g21, .ref g22, .ref g23, .ref g24, .ref g25, .ref g26, .ref g27, .ref g28, .ref g29, .ref g30, .int 0])), (g0, .inl (cS, 266, .inl f))] [(cS, .int)]) (va_Qi (fun (r : Int32) (_ : Unit) => r = (-2)) (fun _ _ => True) (va_A [(m0, .inr (12, [.ref g0, .ref g1, .ref g2, .ref g3, .ref g4, .int 0, .int 0, .int 0, .int 0, .ref g9, .int 0, .int 0, .int 0, .int 0, .int (-1), .int 0, .int 0, .ref g17, .ref g18, .int 0, .ref g20, .ref g21, .ref g22, .ref g23, .ref g24, .ref g25, .ref g26, .ref g27, .ref g28, .ref g29, .ref g30, .int 0])), (g0, .inl (cS, 266, .inl f))] sz)) 0 0 (va_A [(m0, .inr (12, [.ref g0, .ref g1, .ref g2, .ref g3, .ref g4, .int 0, .int 0, .int 0, .int 0, .ref g9, .int 0, .int 0, .int 0, .int 0, .int (-1), .int 0, .int 0, .ref g17, .ref g18, .int 0, .ref g20, .ref g21, .ref g22, .ref g23, .ref g24, .ref g25, .ref g26, .ref g27, .ref g28, .ref g29, .ref g30, .int 0])), (g0, .inl (cS, 266, .inl f))] sz) := by
  refine Met.ofW (cc := cX12_line) (maxL := 3) (ret := (some .int)) (by decide) rfl ?_
  intro p e s m args below meth c s₁ B hml hv
  obtain ⟨rfl, hsz, hP, hK, hD0⟩ := hv
  have hx := B.exec
  have hb := B.bytes
  have hr := B.returns
  have hT : ∀ w ∈ TB, w.before [.ref m0, .int k0, .int k1].toArray s = true := fun w h => atoms_spec (ws := wT yX12_line cX12_line 3 (some .int)) B.pre w (List.mem_cons_of_mem _ h)
  have hown : s.vm.findClass RX12 = some m.cls := findClass_of_methodNamed B.named
  have hlocks := B.notSynchronized
  subst hsz
  have hD := hD0.self (sz := s.heap.size)
  generalize hAe : va_A [(m0, .inr (12, [.ref g0, .ref g1, .ref g2, .ref g3, .ref g4, .int 0, .int 0, .int 0, .int 0, .ref g9, .int 0, .int 0, .int 0, .int 0, .int (-1), .int 0, .int 0, .ref g17, .ref g18, .int 0, .ref g20, .ref g21, .ref g22, .ref g23, .ref g24, .ref g25, .ref g26, .ref g27, .ref g28, .ref g29, .ref g30, .int 0])), (g0, .inl (cS, 266, .inl f))] s.heap.size = A at hD ⊢
  have hA : ∀ q : Nat, s.heap.size ≤ q → A q := fun q h => by rw [← hAe]; exact Or.inr h
  have hS : va_S A s.heap s.heap [] := va_S.rf
  have hP : va_P (dC, dI) vwCl [(m0, .inr (12, [.ref g0, .ref g1, .ref g2, .ref g3, .ref g4, .int 0, .int 0, .int 0, .int 0, .ref g9, .int 0, .int 0, .int 0, .int 0, .int (-1), .int 0, .int 0, .ref g17, .ref g18, .int 0, .ref g20, .ref g21, .ref g22, .ref g23, .ref g24, .ref g25, .ref g26, .ref g27, .ref g28, .ref g29, .ref g30, .int 0])), (g0, .inl (cS, 266, .inl f))] s.heap := hP
  have hl := lv_entry ([.ref m0, .int k0, .int k1]) (n := 3) (Nat.le_of_ble_eq_true rfl)
  rw [lg_entry_eq]
  generalize (lg_sl ([.ref m0, .int k0, .int k1]) ++ List.replicate (3 - (lg_sl ([.ref m0, .int k0, .int k1])).length) Slot.unset).toArray = ls at hl ⊢
  have hl : lv_has ls 3 [(0, .ref m0), (1, .int k0), (2, .int k1)] := hl
  refine lv_aload_n hx hb dX12_line_0 rfl (lv_at hl 0 rfl) ?_
  refine lv_iconst (v := 0) hx hb dX12_line_1 (by decide) ?_
  refine va_put (D := (dC, dI)) (ci := 12) (v := .int 0) (ty := .int) (C := RX12) (T := TX12) (N := 32) hx hb hT iX12 tyX12 tyX12_ok nmX12 hown hK hP hD hS 0 rfl rfl 8 (by decide) (hT _ w1090) (fun _ h9 => h9) rfl (by decide +kernel) rfl rfl (Nat.le_of_ble_eq_true rfl) dX12_line_2 (fun H locs hP hD hS => ?_)
  have hP : va_P (dC, dI) vwCl [(m0, .inr (12, [.ref g0, .ref g1, .ref g2, .ref g3, .ref g4, .int 0, .int 0, .int 0, .int 0, .ref g9, .int 0, .int 0, .int 0, .int 0, .int (-1), .int 0, .int 0, .ref g17, .ref g18, .int 0, .ref g20, .ref g21, .ref g22, .ref g23, .ref g24, .ref g25, .ref g26, .ref g27, .ref g28, .ref g29, .ref g30, .int 0])), (g0, .inl (cS, 266, .inl f))] H := hP
  have hD : va_D A [(m0, .inr (12, [.ref g0, .ref g1, .ref g2, .ref g3, .ref g4, .int 0, .int 0, .int 0, .int 0, .ref g9, .int 0, .int 0, .int 0, .int 0, .int (-1), .int 0, .int 0, .ref g17, .ref g18, .int 0, .ref g20, .ref g21, .ref g22, .ref g23, .ref g24, .ref g25, .ref g26, .ref g27, .ref g28, .ref g29, .ref g30, .int 0])), (g0, .inl (cS, 266, .inl f))] := hD
  refine lv_aload_n hx hb dX12_line_5 rfl (lv_at hl 0 rfl) ?_
  refine lv_iload_n hx hb dX12_line_6 rfl (lv_at hl 1 rfl) ?_
  have hPc := hP.sub (ws' := [(m0, .inr (12, [.ref g0, .ref g1, .ref g2, .ref g3, .ref g4, .int 0, .int 0, .int 0, .int 0, .ref g9, .int 0, .int 0, .int 0, .int 0, .int (-1), .int 0, .int 0, .ref g17, .ref g18, .int 0, .ref g20, .ref g21, .ref g22, .ref g23, .ref g24, .ref g25, .ref g26, .ref g27, .ref g28, .ref g29, .ref g30, .int 0])), (g0, .inl (cS, 266, .inl f))]) [0, 1] rfl
  have hDc := hD.sub (ws' := [(m0, .inr (12, [.ref g0, .ref g1, .ref g2, .ref g3, .ref g4, .int 0, .int 0, .int 0, .int 0, .ref g9, .int 0, .int 0, .int 0, .int 0, .int (-1), .int 0, .int 0, .ref g17, .ref g18, .int 0, .ref g20, .ref g21, .ref g22, .ref g23, .ref g24, .ref g25, .ref g26, .ref g27, .ref g28, .ref g29, .ref g30, .int 0])), (g0, .inl (cS, 266, .inl f))]) [0, 1] (by decide) rfl
  have hKc := hK.sub (tys' := [(cS, .int)]) [0] rfl
  refine vp_callSi (va_Run.run (va_runV (As := [.int k0]) (rest := []) ⟨hx, hb, hml, hown, hT⟩ (m_isTrade l dC dI m0 g0 g1 g2 g3 g4 g9 g17 g18 g20 g21 g22 g23 g24 g25 g26 g27 g28 g29 g30 cS f H.size k0 hf0) (cwV 1 hT (gV w1301 w1303 ws76 w14 w1304) rfl rfl rfl (by decide +kernel) ⟨(Nat.le_of_ble_eq_true rfl), (Nat.le_of_ble_eq_true rfl)⟩) ⟨pcW.blind, va_recv hKc hPc (ci := 12) (q0 := 0) rfl rfl, pcW.pre hPc hKc hDc⟩ rfl rfl hl.1 rfl (lv_room (Nat.le_of_ble_eq_true rfl)) dX12_line_7 ⟨(Nat.le_of_ble_eq_true rfl), (Nat.le_of_ble_eq_true rfl)⟩)) (fun r_7 hr_7 => ?_)
  obtain rfl : r_7 = 0 := hr_7
  refine lv_if_ne (tgt := 16) hx hb dX12_line_10 (by decide) (fun h => absurd (by decide) h) (fun _ => ?_)
  refine lv_bipush (v := (-2)) hx hb dX12_line_13 (by decide) ?_
  refine W.widen (k := 0) (n := 0) (Nat.le_of_ble_eq_true rfl) (Nat.le_of_ble_eq_true rfl) ?_
  exact W.iret (v := (-2)) hx hb hr (fun t ht hW => ⟨⟨(-2), (), rfl, rfl, trivial⟩, hS.F ht⟩) hS.2.2 dX12_line_15
