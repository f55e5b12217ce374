theorem dX12_firstOf_0 : decode cX12_firstOf 0 = .ok (.iload_n 1, 1) := by decide +kernel
theorem dX12_firstOf_1 : decode cX12_firstOf 1 = .ok (.istore_n 2, 1) := by decide +kernel
theorem dX12_firstOf_2 : decode cX12_firstOf 2 = .ok (.aload_n 0, 1) := by decide +kernel
theorem dX12_firstOf_3 : decode cX12_firstOf 3 = .ok (.getfield 68, 3) := by decide +kernel
theorem dX12_firstOf_6 : decode cX12_firstOf 6 = .ok (.iload_n 2, 1) := by decide +kernel
theorem dX12_firstOf_7 : decode cX12_firstOf 7 = .ok (.iaload, 1) := by decide +kernel
theorem dX12_firstOf_8 : decode cX12_firstOf 8 = .ok (.iconst (-1), 1) := by decide +kernel
theorem dX12_firstOf_9 : decode cX12_firstOf 9 = .ok (.if_icmp .eq 13, 3) := by decide +kernel
theorem dX12_firstOf_12 : decode cX12_firstOf 12 = .ok (.aload_n 0, 1) := by decide +kernel
theorem dX12_firstOf_13 : decode cX12_firstOf 13 = .ok (.getfield 68, 3) := by decide +kernel
theorem dX12_firstOf_16 : decode cX12_firstOf 16 = .ok (.iload_n 2, 1) := by decide +kernel
theorem dX12_firstOf_17 : decode cX12_firstOf 17 = .ok (.iaload, 1) := by decide +kernel
theorem dX12_firstOf_18 : decode cX12_firstOf 18 = .ok (.istore_n 2, 1) := by decide +kernel
theorem dX12_firstOf_19 : decode cX12_firstOf 19 = .ok (.goto (-17), 3) := by decide +kernel
theorem dX12_firstOf_22 : decode cX12_firstOf 22 = .ok (.iload_n 2, 1) := by decide +kernel
theorem dX12_firstOf_23 : decode cX12_firstOf 23 = .ok (.ireturn, 1) := by decide +kernel
theorem dX12_wayMay_0 : decode cX12_wayMay 0 = .ok (.iload_n 2, 1) := by decide +kernel
theorem dX12_wayMay_1 : decode cX12_wayMay 1 = .ok (.istore_n 3, 1) := by decide +kernel
theorem dX12_wayMay_2 : decode cX12_wayMay 2 = .ok (.iload_n 1, 1) := by decide +kernel
theorem dX12_wayMay_3 : decode cX12_wayMay 3 = .ok (.istore 4, 2) := by decide +kernel
theorem dX12_wayMay_5 : decode cX12_wayMay 5 = .ok (.aload_n 0, 1) := by decide +kernel
theorem dX12_wayMay_6 : decode cX12_wayMay 6 = .ok (.getfield 68, 3) := by decide +kernel
theorem dX12_wayMay_9 : decode cX12_wayMay 9 = .ok (.iload 4, 2) := by decide +kernel
theorem dX12_wayMay_11 : decode cX12_wayMay 11 = .ok (.iaload, 1) := by decide +kernel
theorem dX12_wayMay_12 : decode cX12_wayMay 12 = .ok (.iconst (-1), 1) := by decide +kernel
theorem dX12_wayMay_13 : decode cX12_wayMay 13 = .ok (.if_icmp .eq 50, 3) := by decide +kernel
theorem dX12_wayMay_16 : decode cX12_wayMay 16 = .ok (.aload_n 0, 1) := by decide +kernel
theorem dX12_wayMay_17 : decode cX12_wayMay 17 = .ok (.aload_n 0, 1) := by decide +kernel
theorem dX12_wayMay_18 : decode cX12_wayMay 18 = .ok (.getfield 68, 3) := by decide +kernel
theorem dX12_wayMay_21 : decode cX12_wayMay 21 = .ok (.iload 4, 2) := by decide +kernel
theorem dX12_wayMay_23 : decode cX12_wayMay 23 = .ok (.iaload, 1) := by decide +kernel
theorem dX12_wayMay_24 : decode cX12_wayMay 24 = .ok (.iload 4, 2) := by decide +kernel
theorem dX12_wayMay_26 : decode cX12_wayMay 26 = .ok (.invokevirtual 294, 3) := by decide +kernel
theorem dX12_wayMay_29 : decode cX12_wayMay 29 = .ok (.iload_n 3, 1) := by decide +kernel
theorem dX12_wayMay_30 : decode cX12_wayMay 30 = .ok (.if_icmp .ge 19, 3) := by decide +kernel
theorem dX12_wayMay_33 : decode cX12_wayMay 33 = .ok (.aload_n 0, 1) := by decide +kernel
theorem dX12_wayMay_34 : decode cX12_wayMay 34 = .ok (.aload_n 0, 1) := by decide +kernel
theorem dX12_wayMay_35 : decode cX12_wayMay 35 = .ok (.getfield 68, 3) := by decide +kernel
theorem dX12_wayMay_38 : decode cX12_wayMay 38 = .ok (.iload 4, 2) := by decide +kernel
theorem dX12_wayMay_40 : decode cX12_wayMay 40 = .ok (.iaload, 1) := by decide +kernel
theorem dX12_wayMay_41 : decode cX12_wayMay 41 = .ok (.iload 4, 2) := by decide +kernel
theorem dX12_wayMay_43 : decode cX12_wayMay 43 = .ok (.invokevirtual 294, 3) := by decide +kernel
theorem dX12_wayMay_46 : decode cX12_wayMay 46 = .ok (.goto 4, 3) := by decide +kernel
theorem dX12_wayMay_49 : decode cX12_wayMay 49 = .ok (.iload_n 3, 1) := by decide +kernel
theorem dX12_wayMay_50 : decode cX12_wayMay 50 = .ok (.istore_n 3, 1) := by decide +kernel
theorem dX12_wayMay_51 : decode cX12_wayMay 51 = .ok (.aload_n 0, 1) := by decide +kernel
theorem dX12_wayMay_52 : decode cX12_wayMay 52 = .ok (.getfield 68, 3) := by decide +kernel
theorem dX12_wayMay_55 : decode cX12_wayMay 55 = .ok (.iload 4, 2) := by decide +kernel
theorem dX12_wayMay_57 : decode cX12_wayMay 57 = .ok (.iaload, 1) := by decide +kernel
theorem dX12_wayMay_58 : decode cX12_wayMay 58 = .ok (.istore 4, 2) := by decide +kernel
theorem dX12_wayMay_60 : decode cX12_wayMay 60 = .ok (.goto (-55), 3) := by decide +kernel
theorem dX12_wayMay_63 : decode cX12_wayMay 63 = .ok (.iload_n 3, 1) := by decide +kernel
theorem dX12_wayMay_64 : decode cX12_wayMay 64 = .ok (.ireturn, 1) := by decide +kernel
theorem wm_lt {mo nn r : Int32} (h : (0 < mo → 0 < nn) ∧ nn ≤ mo ∧ (mo < 0 → nn = mo)) (hr : 0 < r) (hl : r < nn) : (0 < mo → 0 < r) ∧ r ≤ mo ∧ (mo < 0 → r = mo) := by
  obtain ⟨h1, h2, h3⟩ := h
  have e0 : (0 : Int32).toInt = 0 := by decide
  rw [Int32.lt_iff_toInt_lt] at hr hl
  rw [Int32.le_iff_toInt_le] at h2
  refine ⟨fun _ => Int32.lt_iff_toInt_lt.mpr hr, Int32.le_iff_toInt_le.mpr (by omega), fun q => ?_⟩
  have q2 := h3 q
  rw [Int32.lt_iff_toInt_lt] at q
  rw [q2] at hl
  omega
theorem nle_lt {x y : Int32} (h : ¬ y ≤ x) : x < y := by
  rw [Int32.le_iff_toInt_le] at h
  rw [Int32.lt_iff_toInt_lt]
  omega
set_option maxHeartbeats 4000000 in
set_option maxRecDepth 100000 in
theorem m_wayMay (l : Launch) (dC : Nat → ClassId) (dI : Nat → Nat → Nat) (cy : Nat → ClassId) (L : List Nat) (kap : Nat → Nat) (pr : Pr) (S : Nat → va_E) (sz : Nat) (o : Nat) (et : Nat) (mo : Int32) (hTy : Ty cy L kap pr S) (hT_o : TK L kap o 12) (hb_et : et < 16) (rk : Nat → Nat) (hrk : ∀ v p, v < 16 → p < 16 → fld S o 28 v = nI p → rk p < rk v) (hop : ∀ v p, v < 16 → p < 16 → fld S o 28 v = nI p → 0 < STP S o p v) : Met l yX12_wayMay (wT yX12_wayMay cX12_wayMay 5 (some .int)) ({ frames := 2, cells := 0, slots := 0, locals := 47 }) (pcN dC dI [.ref o, .int (nI et), .int mo] sz (va_pl L S) (cyT cy) NLs []) (vp_Si (fun r => (0 < mo → 0 < r) ∧ r ≤ mo ∧ (mo < 0 → r = mo))) 0 0 (fun _ => False) := by
  refine Met.ofW (cc := cX12_wayMay) (maxL := 5) (ret := (some .int)) (by decide) rfl ?_
  intro p e s m args below meth c s₁ B hml hv
  obtain ⟨rfl, hsz, hP, hK, hD0, hN, -⟩ := hv
  have hx := B.exec
  have hb := B.bytes
  have hr := B.returns
  have hT : ∀ wd ∈ TB, wd.before [.ref o, .int (nI et), .int mo].toArray s = true := fun wd h => atoms_spec (ws := wT yX12_wayMay cX12_wayMay 5 (some .int)) B.pre wd (List.mem_cons_of_mem _ h)
  have hown : s.vm.findClass RX12 = some m.cls := findClass_of_methodNamed B.named
  have hlocks := B.notSynchronized
  subst hsz
  have hW : PW dC dI L (AL L s.heap.size) s.heap S s.heap [] := ⟨hP, pl_self hD0, va_S.rf⟩
  have hFr : Fr kap [] S S := Fr.rf
  have hl := lv_entry ([.ref o, .int (nI et), .int mo]) (n := 5) (Nat.le_of_ble_eq_true rfl)
  rw [lg_entry_eq]
  generalize (lg_sl ([.ref o, .int (nI et), .int mo]) ++ List.replicate (5 - (lg_sl ([.ref o, .int (nI et), .int mo])).length) Slot.unset).toArray = ls at hl ⊢
  have hl : lv_has ls 5 [(0, .ref o), (1, .int (nI et)), (2, .int mo)] := hl
  obtain ⟨x_1, x_2, x_3, x_4, x_5, x_6, x_7, x_8, x_9, x_10, x_11, x_12, x_13, x_14, x_15, x_16, x_17, x_18, x_19, x_20, x_21, x_22, x_23, x_24, x_25, x_26, x_27, x_28, x_29, x_30, x_31, hS_o, hT_x_1, hT_x_2, hT_x_3, hT_x_4, hT_x_5, hb_x_6, hb_x_7, hb_x_8, hT_x_10, hb_q2, hb_x_11, hb_x_12, hT_x_17, hT_x_18, hb_x_19, hT_x_20, hT_x_21, hT_x_22, hT_x_23, hT_x_24, hT_x_25, hT_x_26, hT_x_27, hT_x_28, hT_x_29, hT_x_30, hb_x_31⟩ := hTy.k12 hT_o
  have hb_q2 : pr.2 ≤ 900 := hb_q2
  have hS_o : S o = .inr (12, [.ref x_1, .ref x_2, .ref x_3, .ref x_4, .ref x_5, .int (nI x_6), .int (nI x_7), .int (nI x_8), .int x_9, .ref x_10, .int (nI (pr.2)), .int (nI x_11), .int (nI x_12), .int x_13, .int x_14, .int x_15, .int x_16, .ref x_17, .ref x_18, .int (nI x_19), .ref x_20, .ref x_21, .ref x_22, .ref x_23, .ref x_24, .ref x_25, .ref x_26, .ref x_27, .ref x_28, .ref x_29, .ref x_30, .int (nI x_31)]) := hS_o
  obtain ⟨f_32, hS_x_26⟩ := hTy.k64 hT_x_26
  obtain ⟨f_33, hS_x_22⟩ := hTy.k60 hT_x_22
  obtain ⟨f_34, hS_x_21⟩ := hTy.k59 hT_x_21
  obtain ⟨f_35, hS_x_23⟩ := hTy.k61 hT_x_23
  obtain ⟨f_36, hS_x_24⟩ := hTy.k62 hT_x_24
  obtain ⟨f_37, hS_x_28, hi_f_37⟩ := hTy.k66 hT_x_28
  refine lv_iload_n hx hb dX12_wayMay_0 rfl (lv_at hl 2 rfl) ?_
  refine lv_istore_n (lv' := [(3, .int mo), (0, .ref o), (1, .int (nI et)), (2, .int mo)]) hx hb dX12_wayMay_1 rfl hl (by decide) rfl (fun ls hl => ?_)
  refine lv_iload_n hx hb dX12_wayMay_2 rfl (lv_at hl 2 rfl) ?_
  refine lv_istore (lv' := [(4, .int (nI et)), (3, .int mo), (0, .ref o), (1, .int (nI et)), (2, .int mo)]) hx hb dX12_wayMay_3 hl (by decide) rfl (fun ls hl => ?_)
  have loop : ∀ (fuel : Nat) (q9 : Nat) (nn : Int32) (ls : Array Slot), rk q9 < fuel → (q9 ≤ 15) → ((0 < mo → 0 < nn) ∧ nn ≤ mo ∧ (mo < 0 → nn = mo)) → lv_has ls 5 [(4, .int (nI q9)), (3, .int nn), (0, .ref o), (1, .int (nI et)), (2, .int mo)] → W p l e (headSpec (wT yX12_wayMay cX12_wayMay 5 (some .int)) { frames := 2, cells := 0, slots := 0, locals := 47 }).room s m [.ref o, .int (nI et), .int mo].toArray below meth c s.heap [] 0 0 (MQ below (vp_Si (fun r => (0 < mo → 0 < r) ∧ r ≤ mo ∧ (mo < 0 → r = mo))) [.ref o, .int (nI et), .int mo].toArray s 0 0 (fun _ => False)) (F0 m 5 ls []) := by
    intro fuel
    induction fuel with
    | zero => intro q9 nn ls h; exact absurd h (Nat.not_lt_zero _)
    | succ fu5 ih5 =>
      intro q9 nn ls hm5 hb_q9 hin hl
      refine lv_aload_n hx hb dX12_wayMay_5 rfl (lv_at hl 2 rfl) ?_
      refine pl_get (ci := 12) (v := .ref x_28) (C := RX12) (T := TX12) (N := 32) hx hb hT iX12 hown hK hW hT_o.1 hS_o rfl 28 (by decide) w1110 rfl dX12_wayMay_6 ?_
      refine lv_iload hx hb dX12_wayMay_9 (lv_at hl 0 rfl) ?_
      refine pl_iald hx hb hK hW hT_x_28.1 hS_x_28 (vp_in_nI (n := q9) (N := 16) (by omega) (by omega)) dX12_wayMay_11 ?_
      refine lv_topi (fun y_38 ey_38 => ?_)
      have hv_y_38 := hi_f_37 (q9) (by omega)
      rw [show f_37 (q9) = y_38 from (ey_38.trans (by show f_37 (nI (q9)).toNatClampNeg = _; rw [nI_clamp (by omega)])).symm] at hv_y_38
      refine lv_iconst (v := (-1)) hx hb dX12_wayMay_12 (by decide) ?_
      refine lv_icmp_eq (tgt := 63) hx hb dX12_wayMay_13 (by decide) (fun c_13 => ?_) (fun c_13 => ?_)
      · refine lv_iload_n hx hb dX12_wayMay_63 rfl (lv_at hl 1 rfl) ?_
        exact W.iret (v := nn) hx hb hr (fun t ht h9 => ⟨nn, rfl, hin, ht⟩) (fun q h => by cases h) dX12_wayMay_64
      · obtain ⟨k_39, hb_k_39, rfl⟩ := hv_y_38.resolve_left c_13
        have hbq : fld S o 28 q9 = nI k_39 := by rw [fld_i hS_o rfl hS_x_28]; have q := ey_38; rw [nI_clamp (by omega)] at q; exact q.symm
        have hrl := hrk q9 k_39 (by omega) (by omega) hbq
        refine lv_aload_n hx hb dX12_wayMay_16 rfl (lv_at hl 2 rfl) ?_
        refine lv_aload_n hx hb dX12_wayMay_17 rfl (lv_at hl 2 rfl) ?_
        refine pl_get (ci := 12) (v := .ref x_28) (C := RX12) (T := TX12) (N := 32) hx hb hT iX12 hown hK hW hT_o.1 hS_o rfl 28 (by decide) w1110 rfl dX12_wayMay_18 ?_
        refine lv_iload hx hb dX12_wayMay_21 (lv_at hl 0 rfl) ?_
        refine pl_iald hx hb hK hW hT_x_28.1 hS_x_28 (vp_in_nI (n := q9) (N := 16) (by omega) (by omega)) dX12_wayMay_23 ?_
        refine lv_topi (fun y_40 ey_40 => ?_)
        obtain rfl : y_40 = nI k_39 := ey_40.trans ey_38.symm
        refine lv_iload hx hb dX12_wayMay_24 (lv_at hl 0 rfl) ?_
        refine vp_callSi (va_Run.run (va_runV (As := [.int (nI k_39), .int (nI q9)]) (rest := []) ⟨hx, hb, hml, hown, hT⟩ (m_stepMay l dC dI cy L kap pr S s.heap.size o k_39 q9 hTy hT_o (by omega) (by omega)) (cwV 2 hT (gV w1464 w1466 ws96 w14 w1467) rfl rfl rfl (by decide +kernel) ⟨(Nat.le_of_ble_eq_true rfl), (Nat.le_of_ble_eq_true rfl)⟩) ⟨pcN.blind, pl_recv hK hW hT_o.1 hS_o rfl, pcN.pre hW.1 hK hW.2.1 hN (fun q h => absurd h List.not_mem_nil)⟩ rfl rfl hl.1 rfl (lv_room (Nat.le_of_ble_eq_true rfl)) dX12_wayMay_26 ⟨(Nat.le_of_ble_eq_true rfl), (Nat.le_of_ble_eq_true rfl)⟩)) (fun r_41 hr_41 => ?_)
        refine lv_iload_n hx hb dX12_wayMay_29 rfl (lv_at hl 1 rfl) ?_
        refine lv_icmp_ge (tgt := 49) hx hb dX12_wayMay_30 (by decide) (fun c_30 => ?_) (fun c_30 => ?_)
        · refine lv_iload_n hx hb dX12_wayMay_49 rfl (lv_at hl 1 rfl) ?_
          refine lv_istore_n (lv' := [(3, .int nn), (4, .int (nI q9)), (0, .ref o), (1, .int (nI et)), (2, .int mo)]) hx hb dX12_wayMay_50 rfl hl (by decide) rfl (fun ls hl => ?_)
          refine lv_aload_n hx hb dX12_wayMay_51 rfl (lv_at hl 2 rfl) ?_
          refine pl_get (ci := 12) (v := .ref x_28) (C := RX12) (T := TX12) (N := 32) hx hb hT iX12 hown hK hW hT_o.1 hS_o rfl 28 (by decide) w1110 rfl dX12_wayMay_52 ?_
          refine lv_iload hx hb dX12_wayMay_55 (lv_at hl 1 rfl) ?_
          refine pl_iald hx hb hK hW hT_x_28.1 hS_x_28 (vp_in_nI (n := q9) (N := 16) (by omega) (by omega)) dX12_wayMay_57 ?_
          refine lv_topi (fun y_42 ey_42 => ?_)
          obtain rfl : y_42 = nI k_39 := ey_42.trans ey_38.symm
          refine lv_istore (lv' := [(4, .int (nI k_39)), (3, .int nn), (0, .ref o), (1, .int (nI et)), (2, .int mo)]) hx hb dX12_wayMay_58 hl (by decide) rfl (fun ls hl => ?_)
          refine lv_goto (tgt := 5) hx hb dX12_wayMay_60 (by decide) ?_
          exact ih5 k_39 nn ls (by omega) (by omega) hin (lv_sub hl [0, 1, 2, 3, 4] rfl)
        · refine lv_aload_n hx hb dX12_wayMay_33 rfl (lv_at hl 2 rfl) ?_
          refine lv_aload_n hx hb dX12_wayMay_34 rfl (lv_at hl 2 rfl) ?_
          refine pl_get (ci := 12) (v := .ref x_28) (C := RX12) (T := TX12) (N := 32) hx hb hT iX12 hown hK hW hT_o.1 hS_o rfl 28 (by decide) w1110 rfl dX12_wayMay_35 ?_
          refine lv_iload hx hb dX12_wayMay_38 (lv_at hl 0 rfl) ?_
          refine pl_iald hx hb hK hW hT_x_28.1 hS_x_28 (vp_in_nI (n := q9) (N := 16) (by omega) (by omega)) dX12_wayMay_40 ?_
          refine lv_topi (fun y_43 ey_43 => ?_)
          obtain rfl : y_43 = nI k_39 := ey_43.trans ey_38.symm
          refine lv_iload hx hb dX12_wayMay_41 (lv_at hl 0 rfl) ?_
          refine vp_callSi (va_Run.run (va_runV (As := [.int (nI k_39), .int (nI q9)]) (rest := []) ⟨hx, hb, hml, hown, hT⟩ (m_stepMay l dC dI cy L kap pr S s.heap.size o k_39 q9 hTy hT_o (by omega) (by omega)) (cwV 2 hT (gV w1464 w1466 ws96 w14 w1467) rfl rfl rfl (by decide +kernel) ⟨(Nat.le_of_ble_eq_true rfl), (Nat.le_of_ble_eq_true rfl)⟩) ⟨pcN.blind, pl_recv hK hW hT_o.1 hS_o rfl, pcN.pre hW.1 hK hW.2.1 hN (fun q h => absurd h List.not_mem_nil)⟩ rfl rfl hl.1 rfl (lv_room (Nat.le_of_ble_eq_true rfl)) dX12_wayMay_43 ⟨(Nat.le_of_ble_eq_true rfl), (Nat.le_of_ble_eq_true rfl)⟩)) (fun r_44 hr_44 => ?_)
          refine lv_goto (tgt := 50) hx hb dX12_wayMay_46 (by decide) ?_
          refine lv_istore_n (lv' := [(3, .int r_44), (4, .int (nI q9)), (0, .ref o), (1, .int (nI et)), (2, .int mo)]) hx hb dX12_wayMay_50 rfl hl (by decide) rfl (fun ls hl => ?_)
          refine lv_aload_n hx hb dX12_wayMay_51 rfl (lv_at hl 2 rfl) ?_
          refine pl_get (ci := 12) (v := .ref x_28) (C := RX12) (T := TX12) (N := 32) hx hb hT iX12 hown hK hW hT_o.1 hS_o rfl 28 (by decide) w1110 rfl dX12_wayMay_52 ?_
          refine lv_iload hx hb dX12_wayMay_55 (lv_at hl 1 rfl) ?_
          refine pl_iald hx hb hK hW hT_x_28.1 hS_x_28 (vp_in_nI (n := q9) (N := 16) (by omega) (by omega)) dX12_wayMay_57 ?_
          refine lv_topi (fun y_45 ey_45 => ?_)
          obtain rfl : y_45 = nI k_39 := ey_45.trans ey_38.symm
          refine lv_istore (lv' := [(4, .int (nI k_39)), (3, .int r_44), (0, .ref o), (1, .int (nI et)), (2, .int mo)]) hx hb dX12_wayMay_58 hl (by decide) rfl (fun ls hl => ?_)
          refine lv_goto (tgt := 5) hx hb dX12_wayMay_60 (by decide) ?_
          exact ih5 k_39 r_44 ls (by omega) (by omega) (wm_lt hin (by rw [hr_44]; exact hop q9 k_39 (by omega) (by omega) hbq) (by rw [hr_44, ← hr_41]; exact nle_lt c_30)) (lv_sub hl [0, 1, 2, 3, 4] rfl)
  exact loop ((rk et) + 1) et mo ls (Nat.lt_succ_self _) (by omega) ⟨fun h => h, Int32.le_refl _, fun _ => rfl⟩ (lv_sub hl [0, 1, 2, 3, 4] rfl)

set_option maxHeartbeats 4000000 in
set_option maxRecDepth 100000 in
theorem m_firstOf (l : Launch) (dC : Nat → ClassId) (dI : Nat → Nat → Nat) (cy : Nat → ClassId) (L : List Nat) (kap : Nat → Nat) (pr : Pr) (S : Nat → va_E) (sz : Nat) (o : Nat) (et : Nat) (hTy : Ty cy L kap pr S) (hT_o : TK L kap o 12) (hb_et : et < 16) (rk : Nat → Nat) (hrk : ∀ v p, v < 16 → p < 16 → fld S o 28 v = nI p → rk p < rk v) (PP : Nat → Prop) (hPP : ∀ v p, v < 16 → p < 16 → fld S o 28 v = nI p → PP v → PP p) (hto : PP et) : Met l yX12_firstOf (wT yX12_firstOf cX12_firstOf 3 (some .int)) ({ frames := 0, cells := 0, slots := 0, locals := 0 }) (pcN dC dI [.ref o, .int (nI et)] sz (va_pl L S) (cyT cy) NLs []) (vp_Si (fun r => ∃ k, k < 16 ∧ r = nI k ∧ fld S o 28 k = -1 ∧ PP k)) 0 0 (fun _ => False) := by
  refine Met.ofW (cc := cX12_firstOf) (maxL := 3) (ret := (some .int)) (by decide) rfl ?_
  intro p e s m args below meth c s₁ B hml hv
  obtain ⟨rfl, hsz, hP, hK, hD0, hN, -⟩ := hv
  have hx := B.exec
  have hb := B.bytes
  have hr := B.returns
  have hT : ∀ wd ∈ TB, wd.before [.ref o, .int (nI et)].toArray s = true := fun wd h => atoms_spec (ws := wT yX12_firstOf cX12_firstOf 3 (some .int)) B.pre wd (List.mem_cons_of_mem _ h)
  have hown : s.vm.findClass RX12 = some m.cls := findClass_of_methodNamed B.named
  have hlocks := B.notSynchronized
  subst hsz
  have hW : PW dC dI L (AL L s.heap.size) s.heap S s.heap [] := ⟨hP, pl_self hD0, va_S.rf⟩
  have hFr : Fr kap [] S S := Fr.rf
  have hl := lv_entry ([.ref o, .int (nI et)]) (n := 3) (Nat.le_of_ble_eq_true rfl)
  rw [lg_entry_eq]
  generalize (lg_sl ([.ref o, .int (nI et)]) ++ List.replicate (3 - (lg_sl ([.ref o, .int (nI et)])).length) Slot.unset).toArray = ls at hl ⊢
  have hl : lv_has ls 3 [(0, .ref o), (1, .int (nI et))] := hl
  obtain ⟨x_1, x_2, x_3, x_4, x_5, x_6, x_7, x_8, x_9, x_10, x_11, x_12, x_13, x_14, x_15, x_16, x_17, x_18, x_19, x_20, x_21, x_22, x_23, x_24, x_25, x_26, x_27, x_28, x_29, x_30, x_31, hS_o, hT_x_1, hT_x_2, hT_x_3, hT_x_4, hT_x_5, hb_x_6, hb_x_7, hb_x_8, hT_x_10, hb_q2, hb_x_11, hb_x_12, hT_x_17, hT_x_18, hb_x_19, hT_x_20, hT_x_21, hT_x_22, hT_x_23, hT_x_24, hT_x_25, hT_x_26, hT_x_27, hT_x_28, hT_x_29, hT_x_30, hb_x_31⟩ := hTy.k12 hT_o
  have hb_q2 : pr.2 ≤ 900 := hb_q2
  have hS_o : S o = .inr (12, [.ref x_1, .ref x_2, .ref x_3, .ref x_4, .ref x_5, .int (nI x_6), .int (nI x_7), .int (nI x_8), .int x_9, .ref x_10, .int (nI (pr.2)), .int (nI x_11), .int (nI x_12), .int x_13, .int x_14, .int x_15, .int x_16, .ref x_17, .ref x_18, .int (nI x_19), .ref x_20, .ref x_21, .ref x_22, .ref x_23, .ref x_24, .ref x_25, .ref x_26, .ref x_27, .ref x_28, .ref x_29, .ref x_30, .int (nI x_31)]) := hS_o
  obtain ⟨f_32, hS_x_26⟩ := hTy.k64 hT_x_26
  obtain ⟨f_33, hS_x_22⟩ := hTy.k60 hT_x_22
  obtain ⟨f_34, hS_x_21⟩ := hTy.k59 hT_x_21
  obtain ⟨f_35, hS_x_23⟩ := hTy.k61 hT_x_23
  obtain ⟨f_36, hS_x_24⟩ := hTy.k62 hT_x_24
  obtain ⟨f_37, hS_x_28, hi_f_37⟩ := hTy.k66 hT_x_28
  refine lv_iload_n hx hb dX12_firstOf_0 rfl (lv_at hl 1 rfl) ?_
  refine lv_istore_n (lv' := [(2, .int (nI et)), (0, .ref o), (1, .int (nI et))]) hx hb dX12_firstOf_1 rfl hl (by decide) rfl (fun ls hl => ?_)
  have loop : ∀ (fuel : Nat) (q9 : Nat) (ls : Array Slot), rk q9 < fuel → (q9 ≤ 15) → (PP q9) → lv_has ls 3 [(2, .int (nI q9)), (0, .ref o), (1, .int (nI et))] → W p l e (headSpec (wT yX12_firstOf cX12_firstOf 3 (some .int)) { frames := 0, cells := 0, slots := 0, locals := 0 }).room s m [.ref o, .int (nI et)].toArray below meth c s.heap [] 0 0 (MQ below (vp_Si (fun r => ∃ k, k < 16 ∧ r = nI k ∧ fld S o 28 k = -1 ∧ PP k)) [.ref o, .int (nI et)].toArray s 0 0 (fun _ => False)) (F0 m 2 ls []) := by
    intro fuel
    induction fuel with
    | zero => intro q9 ls h; exact absurd h (Nat.not_lt_zero _)
    | succ fu2 ih2 =>
      intro q9 ls hm2 hb_q9 hPq hl
      refine lv_aload_n hx hb dX12_firstOf_2 rfl (lv_at hl 1 rfl) ?_
      refine pl_get (ci := 12) (v := .ref x_28) (C := RX12) (T := TX12) (N := 32) hx hb hT iX12 hown hK hW hT_o.1 hS_o rfl 28 (by decide) w1110 rfl dX12_firstOf_3 ?_
      refine lv_iload_n hx hb dX12_firstOf_6 rfl (lv_at hl 0 rfl) ?_
      refine pl_iald hx hb hK hW hT_x_28.1 hS_x_28 (vp_in_nI (n := q9) (N := 16) (by omega) (by omega)) dX12_firstOf_7 ?_
      refine lv_topi (fun y_38 ey_38 => ?_)
      have hv_y_38 := hi_f_37 (q9) (by omega)
      rw [show f_37 (q9) = y_38 from (ey_38.trans (by show f_37 (nI (q9)).toNatClampNeg = _; rw [nI_clamp (by omega)])).symm] at hv_y_38
      refine lv_iconst (v := (-1)) hx hb dX12_firstOf_8 (by decide) ?_
      refine lv_icmp_eq (tgt := 22) hx hb dX12_firstOf_9 (by decide) (fun c_9 => ?_) (fun c_9 => ?_)
      · refine lv_iload_n hx hb dX12_firstOf_22 rfl (lv_at hl 0 rfl) ?_
        exact W.iret (v := nI q9) hx hb hr (fun t ht h9 => ⟨nI q9, rfl, ⟨q9, by omega, rfl, by rw [fld_i hS_o rfl hS_x_28]; have q := ey_38; rw [nI_clamp (by omega)] at q; exact q.symm.trans c_9, hPq⟩, ht⟩) (fun q h => by cases h) dX12_firstOf_23
      · obtain ⟨k_39, hb_k_39, rfl⟩ := hv_y_38.resolve_left c_9
        have hbq : fld S o 28 q9 = nI k_39 := by rw [fld_i hS_o rfl hS_x_28]; have q := ey_38; rw [nI_clamp (by omega)] at q; exact q.symm
        have hrl := hrk q9 k_39 (by omega) (by omega) hbq
        refine lv_aload_n hx hb dX12_firstOf_12 rfl (lv_at hl 1 rfl) ?_
        refine pl_get (ci := 12) (v := .ref x_28) (C := RX12) (T := TX12) (N := 32) hx hb hT iX12 hown hK hW hT_o.1 hS_o rfl 28 (by decide) w1110 rfl dX12_firstOf_13 ?_
        refine lv_iload_n hx hb dX12_firstOf_16 rfl (lv_at hl 0 rfl) ?_
        refine pl_iald hx hb hK hW hT_x_28.1 hS_x_28 (vp_in_nI (n := q9) (N := 16) (by omega) (by omega)) dX12_firstOf_17 ?_
        refine lv_topi (fun y_40 ey_40 => ?_)
        obtain rfl : y_40 = nI k_39 := ey_40.trans ey_38.symm
        refine lv_istore_n (lv' := [(2, .int (nI k_39)), (0, .ref o), (1, .int (nI et))]) hx hb dX12_firstOf_18 rfl hl (by decide) rfl (fun ls hl => ?_)
        refine lv_goto (tgt := 2) hx hb dX12_firstOf_19 (by decide) ?_
        exact ih2 k_39 ls (by omega) (by omega) (hPP q9 k_39 (by omega) (by omega) hbq hPq) (lv_sub hl [0, 1, 2] rfl)
  exact loop ((rk et) + 1) et ls (Nat.lt_succ_self _) (by omega) hto (lv_sub hl [0, 1, 2] rfl)

