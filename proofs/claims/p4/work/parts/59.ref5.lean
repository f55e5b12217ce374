set_option maxHeartbeats 4000000 in
set_option maxRecDepth 100000 in
theorem f_party (l : Launch) (dC : Nat → ClassId) (dI : Nat → Nat → Nat) (cy : Nat → ClassId) (L : List Nat) (kap : Nat → Nat) (pr : Pr) (ad : (Nat → Nat) × (Nat → Nat)) (S : Nat → va_E) (sz : Nat) (o : Nat) (hTy : Ty cy L kap pr S) (hT_o : TK L kap o 12) (g : Nat → Int32) (nm : Nat → Int64) (sp : Nat) (sn : Nat) (wr : Int32) (wa : Int32) (sen : Int32) (ra : Int32) (pa : Nat) (ki : Nat) (rs : Nat) (hM : MF S o g nm sp sn wr wa sen ra pa ki rs) (hsp : sp ≤ sn) (hg : BR g) (df : Nat → Nat × Nat) (hN0 : NMR g df nm 0 pa) (hN8 : NMR g df nm 8 ki) : Met l yX12_partyRead (wT yX12_partyRead cX12_partyRead 2 (some .int)) ({ frames := 6, cells := 0, slots := 0, locals := 135 }) (pcS dC dI [.ref o] sz L S (cyT cy) NLs ad) (va_Qi (fun r S' => Ty cy L kap pr S' ∧ Fr kap [12, 112] S S' ∧ (∃ sp' wr' wa' ra', MF S' o g nm sp' sn wr' wa' sen ra' pa ki rs ∧ sp' ≤ sn ∧ ERR wr wa (ptc g sn df 0 pa sp) (SK g sn sp) wr' wa' ∧ (wr = 0 → ptc g sn df 0 pa sp = 0 → sp' = tke g sn sp ∧ ra' = nI (SK g sn sp) ∧ r = nI (FN g df 0 pa (SK g sn sp) (tke g sn sp - SK g sn sp))) ∧ ∃ k, k < 8 ∧ r = nI k)) (fun S' t => pB dC dI (AL L sz) (va_pl L S') (cyT cy) t) (AL L sz)) 0 0 (AL L sz) := by
  refine Met.ofW (cc := cX12_partyRead) (maxL := 2) (ret := (some .int)) (by decide) rfl ?_
  intro p e s m args below meth c s₁ B hml hv
  obtain ⟨rfl, hsz, hP, hK, hD0, hN, hSTR⟩ := hv
  have hx := B.exec
  have hb := B.bytes
  have hr := B.returns
  have hT : ∀ wd ∈ TB, wd.before [.ref o].toArray s = true := fun wd h => atoms_spec (ws := wT yX12_partyRead cX12_partyRead 2 (some .int)) B.pre wd (List.mem_cons_of_mem _ h)
  have hown : s.vm.findClass RX12 = some m.cls := findClass_of_methodNamed B.named
  have hlocks := B.notSynchronized
  subst hsz
  have hW : PW dC dI L (AL L s.heap.size) s.heap S s.heap [] := ⟨hP, pl_self hD0, va_S.rf⟩
  have hA0 : ∀ q, q ∈ L → AL L s.heap.size q := fun _ h => Or.inl h
  have hA : ∀ q, s.heap.size ≤ q → AL L s.heap.size q := fun _ h => Or.inr h
  have hFr : Fr kap [12, 112] S S := Fr.rf
  have hl := lv_entry ([.ref o]) (n := 2) (Nat.le_of_ble_eq_true rfl)
  rw [lg_entry_eq]
  generalize (lg_sl ([.ref o]) ++ List.replicate (2 - (lg_sl ([.ref o])).length) Slot.unset).toArray = ls at hl ⊢
  have hl : lv_has ls 2 [(0, .ref o)] := hl
  obtain ⟨x_1, x_2, x_3, x_4, x_5, x_6, x_7, x_8, x_9, x_10, x_11, x_12, x_13, x_14, x_15, x_16, x_17, x_18, x_19, x_20, x_21, x_22, x_23, x_24, x_25, x_26, x_27, x_28, x_29, x_30, x_31, hS_o, hT_x_1, hT_x_2, hT_x_3, hT_x_4, hT_x_5, hb_x_6, hb_x_7, hb_x_8, hT_x_10, hb_q2, hb_x_11, hb_x_12, hT_x_17, hT_x_18, hb_x_19, hT_x_20, hT_x_21, hT_x_22, hT_x_23, hT_x_24, hT_x_25, hT_x_26, hT_x_27, hT_x_28, hT_x_29, hT_x_30, hb_x_31⟩ := hTy.k12 hT_o
  have hb_q2 : pr.2 ≤ 900 := hb_q2
  have hS_o : S o = .inr (12, [.ref x_1, .ref x_2, .ref x_3, .ref x_4, .ref x_5, .int (nI x_6), .int (nI x_7), .int (nI x_8), .int x_9, .ref x_10, .int (nI (pr.2)), .int (nI x_11), .int (nI x_12), .int x_13, .int x_14, .int x_15, .int x_16, .ref x_17, .ref x_18, .int (nI x_19), .ref x_20, .ref x_21, .ref x_22, .ref x_23, .ref x_24, .ref x_25, .ref x_26, .ref x_27, .ref x_28, .ref x_29, .ref x_30, .int (nI x_31)]) := hS_o
  obtain ⟨hMK_, h14_, h15_, h16_, h9_, h3_⟩ := hM
  obtain ⟨e12_, e11_, e13_, e5_, e6_, e0_⟩ := MKe hMK_ hS_o rfl rfl rfl rfl rfl rfl (by omega) (by omega) (by omega) (by omega)
  subst e12_ e11_ e13_ e5_ e6_ e0_
  have e14_ := h14_.symm.trans (inf_i hS_o rfl)
  subst e14_
  have e15_ := h15_.symm.trans (inf_i hS_o rfl)
  subst e15_
  have e16_ := h16_.symm.trans (inf_i hS_o rfl)
  subst e16_
  obtain ⟨f_32, hS_x_10⟩ := hTy.k55 hT_x_10
  have e9_ := h9_.symm.trans (fld_i hS_o rfl hS_x_10)
  subst e9_
  obtain ⟨f_33, hS_x_4⟩ := hTy.k53 hT_x_4
  have e3_ := h3_.symm.trans (lfd_i hS_o rfl hS_x_4)
  subst e3_
  refine lv_aload_n hx hb dX12_partyRead_0 rfl (lv_at hl 0 rfl) ?_
  refine lv_aload_n hx hb dX12_partyRead_1 rfl (lv_at hl 0 rfl) ?_
  refine pl_calll (va_runV (As := []) (rest := [.ref o]) ⟨hx, hb, hml, hown, hT⟩ (f_name l dC dI cy L kap pr ad S s.heap.size o hTy hT_o g nm sp sn wr wa sen ra pa ki rs ⟨MKi (sp := sp) (sn := sn) (pa := pa) (ki := ki) hS_o rfl rfl rfl rfl rfl rfl (by omega) (by omega) (by omega) (by omega), inf_i hS_o rfl, inf_i hS_o rfl, inf_i hS_o rfl, fld_i hS_o rfl hS_x_10, lfd_i hS_o rfl hS_x_4⟩ (by omega) hg) (cwV 0 hT (gV w1230 w1232 ws63 w14 w1233) rfl rfl rfl (by decide +kernel) ⟨(Nat.le_of_ble_eq_true rfl), (Nat.le_of_ble_eq_true rfl)⟩) ⟨pcS.blind, pl_recv hK hW hT_o.1 hS_o rfl, pcS.pre hW.1 hK hW.2.1 hN hSTR hW.2.2⟩ rfl rfl hl.1 rfl (lv_room (Nat.le_of_ble_eq_true rfl)) dX12_partyRead_2 ⟨(Nat.le_of_ble_eq_true rfl), (Nat.le_of_ble_eq_true rfl)⟩) hW hA0 hA (fun r_35 S_34 H locs hrel hW => ?_)
  obtain ⟨hTy, hF1, hx1⟩ := hrel
  have hFr := hFr.tr hF1 (by decide)
  have hS_x_10 := hF1.at hT_x_10 (by decide) hS_x_10
  have hS_x_4 := hF1.at hT_x_4 (by decide) hS_x_4
  obtain ⟨sp36, wr36, wa36, ra36, hM36, hsb36, hER36, hOK36⟩ := hx1
  obtain ⟨x_37, x_38, x_39, x_40, x_41, x_42, x_43, x_44, x_45, x_46, x_47, x_48, x_49, x_50, x_51, x_52, x_53, x_54, x_55, x_56, x_57, x_58, x_59, x_60, x_61, x_62, x_63, x_64, x_65, x_66, x_67, hS_o, hT_x_37, hT_x_38, hT_x_39, hT_x_40, hT_x_41, hb_x_42, hb_x_43, hb_x_44, hT_x_46, hb_q2, hb_x_47, hb_x_48, hT_x_53, hT_x_54, hb_x_55, hT_x_56, hT_x_57, hT_x_58, hT_x_59, hT_x_60, hT_x_61, hT_x_62, hT_x_63, hT_x_64, hT_x_65, hT_x_66, hb_x_67⟩ := hTy.k12 hT_o
  have hb_q2 : pr.2 ≤ 900 := hb_q2
  have hS_o : S_34 o = .inr (12, [.ref x_37, .ref x_38, .ref x_39, .ref x_40, .ref x_41, .int (nI x_42), .int (nI x_43), .int (nI x_44), .int x_45, .ref x_46, .int (nI (pr.2)), .int (nI x_47), .int (nI x_48), .int x_49, .int x_50, .int x_51, .int x_52, .ref x_53, .ref x_54, .int (nI x_55), .ref x_56, .ref x_57, .ref x_58, .ref x_59, .ref x_60, .ref x_61, .ref x_62, .ref x_63, .ref x_64, .ref x_65, .ref x_66, .int (nI x_67)]) := hS_o
  obtain ⟨hMK_, h14_, h15_, h16_, h9_, h3_⟩ := hM36
  obtain ⟨e12_, e11_, e13_, e5_, e6_, e0_⟩ := MKe hMK_ hS_o rfl rfl rfl rfl rfl rfl (by omega) (by omega) (by omega) (by omega)
  subst e12_ e11_ e13_ e5_ e6_ e0_
  have e14_ := h14_.symm.trans (inf_i hS_o rfl)
  subst e14_
  have e15_ := h15_.symm.trans (inf_i hS_o rfl)
  subst e15_
  have e16_ := h16_.symm.trans (inf_i hS_o rfl)
  subst e16_
  obtain ⟨f_68, hS_x_46⟩ := hTy.k55 hT_x_46
  have e9_ := h9_.symm.trans (fld_i hS_o rfl hS_x_46)
  subst e9_
  obtain ⟨f_69, hS_x_40⟩ := hTy.k53 hT_x_40
  have e3_ := h3_.symm.trans (lfd_i hS_o rfl hS_x_40)
  subst e3_
  refine lv_iconst (v := 0) hx hb dX12_partyRead_5 (by decide) ?_
  refine lv_aload_n hx hb dX12_partyRead_6 rfl (lv_at hl 0 rfl) ?_
  refine pl_get (ci := 12) (v := .int (nI pa)) (C := RX12) (T := TX12) (N := 32) hx hb hT iX12 hown hK hW hT_o.1 hS_o rfl 5 (by decide) w1087 rfl dX12_partyRead_7 ?_
  refine vp_callSi (va_Run.run (va_runV (As := [.long r_35, .int 0, .int (nI pa)]) (rest := []) ⟨hx, hb, hml, hown, hT⟩ (f_find l dC dI cy L kap pr S_34 H.size o r_35 0 pa hTy hT_o (by omega) (by omega) nm (lfd_i hS_o rfl hS_x_40)) (cwV 3 hT (gV w1234 w1236 ws64 w14 w1237) rfl rfl rfl (by decide +kernel) ⟨(Nat.le_of_ble_eq_true rfl), (Nat.le_of_ble_eq_true rfl)⟩) ⟨pcN.blind, pl_recv hK hW hT_o.1 hS_o rfl, pcN.pre hW.1 hK hW.2.1 hN (fun q h => absurd h List.not_mem_nil)⟩ rfl rfl hl.1 rfl (lv_room (Nat.le_of_ble_eq_true rfl)) dX12_partyRead_10 ⟨(Nat.le_of_ble_eq_true rfl), (Nat.le_of_ble_eq_true rfl)⟩)) (fun r_70 hr_70 => ?_)
  refine lv_istore_n (lv' := [(1, .int r_70), (0, .ref o)]) hx hb dX12_partyRead_13 rfl hl (by decide) rfl (fun ls hl => ?_)
  refine lv_iload_n hx hb dX12_partyRead_14 rfl (lv_at hl 0 rfl) ?_
  refine lv_iconst (v := (-1)) hx hb dX12_partyRead_15 (by decide) ?_
  refine lv_icmp_ne (tgt := 28) hx hb dX12_partyRead_16 (by decide) (fun c_16 => ?_) (fun c_16 => ?_)
  · refine lv_aload_n hx hb dX12_partyRead_28 rfl (lv_at hl 1 rfl) ?_
    refine pl_get (ci := 12) (v := .int wr36) (C := RX12) (T := TX12) (N := 32) hx hb hT iX12 hown hK hW hT_o.1 hS_o rfl 13 (by decide) w1095 rfl dX12_partyRead_29 ?_
    refine lv_if_ne (tgt := 39) hx hb dX12_partyRead_32 (by decide) (fun c_32 => ?_) (fun c_32 => ?_)
    · refine lv_iconst (v := 0) hx hb dX12_partyRead_39 (by decide) ?_
      exact W.iret (v := 0) hx hb hr (fun t ht h9 => ⟨⟨0, S_34, rfl, ⟨hTy, hFr, ⟨sp36, _, _, _, ⟨MKi (sp := sp36) (sn := sn) (pa := pa) (ki := ki) hS_o rfl rfl rfl rfl rfl rfl (by omega) (by omega) (by omega) (by omega), inf_i hS_o rfl, inf_i hS_o rfl, inf_i hS_o rfl, fld_i hS_o rfl hS_x_46, lfd_i hS_o rfl hS_x_40⟩, by omega, (pty hN0 (by omega) (by omega) hER36 hOK36 hr_70 (fun _ => ⟨rfl, rfl⟩) (fun z => absurd z c_16)).1, fun a b => absurd ((pty hN0 (by omega) (by omega) hER36 hOK36 hr_70 (fun _ => ⟨rfl, rfl⟩) (fun z => absurd z c_16)).2 a b).2.2.2.2 c_32, ⟨0, by omega, rfl⟩⟩⟩, by rw [ht]; exact hW.1, va_K.moved h9.alike hK, hW.2.1⟩, hW.2.2.F ht⟩) hW.2.2.2.2 dX12_partyRead_40
    · refine lv_iload_n hx hb dX12_partyRead_35 rfl (lv_at hl 0 rfl) ?_
      refine lv_goto (tgt := 40) hx hb dX12_partyRead_36 (by decide) ?_
      exact W.iret (v := r_70) hx hb hr (fun t ht h9 => ⟨⟨r_70, S_34, rfl, ⟨hTy, hFr, ⟨sp36, _, _, _, ⟨MKi (sp := sp36) (sn := sn) (pa := pa) (ki := ki) hS_o rfl rfl rfl rfl rfl rfl (by omega) (by omega) (by omega) (by omega), inf_i hS_o rfl, inf_i hS_o rfl, inf_i hS_o rfl, fld_i hS_o rfl hS_x_46, lfd_i hS_o rfl hS_x_40⟩, by omega, (pty hN0 (by omega) (by omega) hER36 hOK36 hr_70 (fun _ => ⟨rfl, rfl⟩) (fun z => absurd z c_16)).1, fun a b => ⟨((pty hN0 (by omega) (by omega) hER36 hOK36 hr_70 (fun _ => ⟨rfl, rfl⟩) (fun z => absurd z c_16)).2 a b).1, ((pty hN0 (by omega) (by omega) hER36 hOK36 hr_70 (fun _ => ⟨rfl, rfl⟩) (fun z => absurd z c_16)).2 a b).2.1, ((pty hN0 (by omega) (by omega) hER36 hOK36 hr_70 (fun _ => ⟨rfl, rfl⟩) (fun z => absurd z c_16)).2 a b).2.2.1⟩, (by rcases hr_70 with ⟨z, -⟩ | ⟨k, hk, e, -⟩; exact absurd z c_16; exact ⟨k, by omega, e⟩)⟩⟩, by rw [ht]; exact hW.1, va_K.moved h9.alike hK, hW.2.1⟩, hW.2.2.F ht⟩) hW.2.2.2.2 dX12_partyRead_40
  · refine lv_aload_n hx hb dX12_partyRead_19 rfl (lv_at hl 1 rfl) ?_
    refine lv_iconst (v := 3) hx hb dX12_partyRead_20 (by decide) ?_
    refine lv_aload_n hx hb dX12_partyRead_21 rfl (lv_at hl 1 rfl) ?_
    refine pl_get (ci := 12) (v := .int ra36) (C := RX12) (T := TX12) (N := 32) hx hb hT iX12 hown hK hW hT_o.1 hS_o rfl 16 (by decide) w1098 rfl dX12_partyRead_22 ?_
    refine pl_callv (va_runV (As := [.int 3, .int ra36]) (rest := []) ⟨hx, hb, hml, hown, hT⟩ (f_fails l dC dI cy L kap pr S_34 H.size o 3 ra36 hTy hT_o g nm sp36 sn wr36 wa36 sen ra36 pa ki rs ⟨MKi (sp := sp36) (sn := sn) (pa := pa) (ki := ki) hS_o rfl rfl rfl rfl rfl rfl (by omega) (by omega) (by omega) (by omega), inf_i hS_o rfl, inf_i hS_o rfl, inf_i hS_o rfl, fld_i hS_o rfl hS_x_46, lfd_i hS_o rfl hS_x_40⟩ (by omega) hg) (cwV 2 hT (gV w1214 w1216 ws59 w14 w1217) rfl rfl rfl (by decide +kernel) ⟨(Nat.le_of_ble_eq_true rfl), (Nat.le_of_ble_eq_true rfl)⟩) ⟨pcN.blind, pl_recv hK hW hT_o.1 hS_o rfl, pcN.pre hW.1 hK hW.2.1 hN (fun q h => absurd h List.not_mem_nil)⟩ rfl rfl hl.1 rfl (lv_room (Nat.le_of_ble_eq_true rfl)) dX12_partyRead_25 ⟨(Nat.le_of_ble_eq_true rfl), (Nat.le_of_ble_eq_true rfl)⟩) hW hA0 hA (fun S_71 H locs hrel hW => ?_)
    obtain ⟨hTy, hF1, hx1⟩ := hrel
    have hFr := hFr.tr hF1 (by decide)
    have hS_x_10 := hF1.at hT_x_10 (by decide) hS_x_10
    have hS_x_4 := hF1.at hT_x_4 (by decide) hS_x_4
    have hS_x_46 := hF1.at hT_x_46 (by decide) hS_x_46
    have hS_x_40 := hF1.at hT_x_40 (by decide) hS_x_40
    obtain ⟨wr72, wa72, hM72, hfa72, hfb72⟩ := hx1
    obtain ⟨x_73, x_74, x_75, x_76, x_77, x_78, x_79, x_80, x_81, x_82, x_83, x_84, x_85, x_86, x_87, x_88, x_89, x_90, x_91, x_92, x_93, x_94, x_95, x_96, x_97, x_98, x_99, x_100, x_101, x_102, x_103, hS_o, hT_x_73, hT_x_74, hT_x_75, hT_x_76, hT_x_77, hb_x_78, hb_x_79, hb_x_80, hT_x_82, hb_q2, hb_x_83, hb_x_84, hT_x_89, hT_x_90, hb_x_91, hT_x_92, hT_x_93, hT_x_94, hT_x_95, hT_x_96, hT_x_97, hT_x_98, hT_x_99, hT_x_100, hT_x_101, hT_x_102, hb_x_103⟩ := hTy.k12 hT_o
    have hb_q2 : pr.2 ≤ 900 := hb_q2
    have hS_o : S_71 o = .inr (12, [.ref x_73, .ref x_74, .ref x_75, .ref x_76, .ref x_77, .int (nI x_78), .int (nI x_79), .int (nI x_80), .int x_81, .ref x_82, .int (nI (pr.2)), .int (nI x_83), .int (nI x_84), .int x_85, .int x_86, .int x_87, .int x_88, .ref x_89, .ref x_90, .int (nI x_91), .ref x_92, .ref x_93, .ref x_94, .ref x_95, .ref x_96, .ref x_97, .ref x_98, .ref x_99, .ref x_100, .ref x_101, .ref x_102, .int (nI x_103)]) := hS_o
    obtain ⟨hMK_, h14_, h15_, h16_, h9_, h3_⟩ := hM72
    obtain ⟨e12_, e11_, e13_, e5_, e6_, e0_⟩ := MKe hMK_ hS_o rfl rfl rfl rfl rfl rfl (by omega) (by omega) (by omega) (by omega)
    subst e12_ e11_ e13_ e5_ e6_ e0_
    have e14_ := h14_.symm.trans (inf_i hS_o rfl)
    subst e14_
    have e15_ := h15_.symm.trans (inf_i hS_o rfl)
    subst e15_
    have e16_ := h16_.symm.trans (inf_i hS_o rfl)
    subst e16_
    obtain ⟨f_104, hS_x_82⟩ := hTy.k55 hT_x_82
    have e9_ := h9_.symm.trans (fld_i hS_o rfl hS_x_82)
    subst e9_
    obtain ⟨f_105, hS_x_76⟩ := hTy.k53 hT_x_76
    have e3_ := h3_.symm.trans (lfd_i hS_o rfl hS_x_76)
    subst e3_
    refine lv_aload_n hx hb dX12_partyRead_28 rfl (lv_at hl 1 rfl) ?_
    refine pl_get (ci := 12) (v := .int wr72) (C := RX12) (T := TX12) (N := 32) hx hb hT iX12 hown hK hW hT_o.1 hS_o rfl 13 (by decide) w1095 rfl dX12_partyRead_29 ?_
    refine lv_if_ne (tgt := 39) hx hb dX12_partyRead_32 (by decide) (fun c_32 => ?_) (fun c_32 => ?_)
    · refine lv_iconst (v := 0) hx hb dX12_partyRead_39 (by decide) ?_
      exact W.iret (v := 0) hx hb hr (fun t ht h9 => ⟨⟨0, S_71, rfl, ⟨hTy, hFr, ⟨sp36, _, _, _, ⟨MKi (sp := sp36) (sn := sn) (pa := pa) (ki := ki) hS_o rfl rfl rfl rfl rfl rfl (by omega) (by omega) (by omega) (by omega), inf_i hS_o rfl, inf_i hS_o rfl, inf_i hS_o rfl, fld_i hS_o rfl hS_x_82, lfd_i hS_o rfl hS_x_76⟩, by omega, (pty hN0 (by omega) (by omega) hER36 hOK36 hr_70 (fun z => absurd c_16 z) (fun _ => ⟨hfa72, hfb72⟩)).1, fun a b => absurd ((pty hN0 (by omega) (by omega) hER36 hOK36 hr_70 (fun z => absurd c_16 z) (fun _ => ⟨hfa72, hfb72⟩)).2 a b).2.2.2.2 c_32, ⟨0, by omega, rfl⟩⟩⟩, by rw [ht]; exact hW.1, va_K.moved h9.alike hK, hW.2.1⟩, hW.2.2.F ht⟩) hW.2.2.2.2 dX12_partyRead_40
    · refine lv_iload_n hx hb dX12_partyRead_35 rfl (lv_at hl 0 rfl) ?_
      refine lv_goto (tgt := 40) hx hb dX12_partyRead_36 (by decide) ?_
      exact W.iret (v := r_70) hx hb hr (fun t ht h9 => ⟨⟨r_70, S_71, rfl, ⟨hTy, hFr, ⟨sp36, _, _, _, ⟨MKi (sp := sp36) (sn := sn) (pa := pa) (ki := ki) hS_o rfl rfl rfl rfl rfl rfl (by omega) (by omega) (by omega) (by omega), inf_i hS_o rfl, inf_i hS_o rfl, inf_i hS_o rfl, fld_i hS_o rfl hS_x_82, lfd_i hS_o rfl hS_x_76⟩, by omega, (pty hN0 (by omega) (by omega) hER36 hOK36 hr_70 (fun z => absurd c_16 z) (fun _ => ⟨hfa72, hfb72⟩)).1, fun a b => ⟨((pty hN0 (by omega) (by omega) hER36 hOK36 hr_70 (fun z => absurd c_16 z) (fun _ => ⟨hfa72, hfb72⟩)).2 a b).1, ((pty hN0 (by omega) (by omega) hER36 hOK36 hr_70 (fun z => absurd c_16 z) (fun _ => ⟨hfa72, hfb72⟩)).2 a b).2.1, ((pty hN0 (by omega) (by omega) hER36 hOK36 hr_70 (fun z => absurd c_16 z) (fun _ => ⟨hfa72, hfb72⟩)).2 a b).2.2.1⟩, (by by_cases q_ : wr36 = 0; have z := (hfb72 q_).1; rw [c_32] at z; exact absurd z (by decide); have z := (hfa72 q_).1; rw [c_32] at z; exact absurd z.symm q_)⟩⟩, by rw [ht]; exact hW.1, va_K.moved h9.alike hK, hW.2.1⟩, hW.2.2.F ht⟩) hW.2.2.2.2 dX12_partyRead_40

set_option maxHeartbeats 4000000 in
set_option maxRecDepth 100000 in
theorem f_kind (l : Launch) (dC : Nat → ClassId) (dI : Nat → Nat → Nat) (cy : Nat → ClassId) (L : List Nat) (kap : Nat → Nat) (pr : Pr) (ad : (Nat → Nat) × (Nat → Nat)) (S : Nat → va_E) (sz : Nat) (o : Nat) (hTy : Ty cy L kap pr S) (hT_o : TK L kap o 12) (g : Nat → Int32) (nm : Nat → Int64) (sp : Nat) (sn : Nat) (wr : Int32) (wa : Int32) (sen : Int32) (ra : Int32) (pa : Nat) (ki : Nat) (rs : Nat) (hM : MF S o g nm sp sn wr wa sen ra pa ki rs) (hsp : sp ≤ sn) (hg : BR g) (df : Nat → Nat × Nat) (hN0 : NMR g df nm 0 pa) (hN8 : NMR g df nm 8 ki) : Met l yX12_kindRead (wT yX12_kindRead cX12_kindRead 2 (some .int)) ({ frames := 6, cells := 0, slots := 0, locals := 135 }) (pcS dC dI [.ref o] sz L S (cyT cy) NLs ad) (va_Qi (fun r S' => Ty cy L kap pr S' ∧ Fr kap [12, 112] S S' ∧ (∃ sp' wr' wa' ra', MF S' o g nm sp' sn wr' wa' sen ra' pa ki rs ∧ sp' ≤ sn ∧ ERR wr wa (ptc g sn df 8 ki sp) (SK g sn sp) wr' wa' ∧ (wr = 0 → ptc g sn df 8 ki sp = 0 → sp' = tke g sn sp ∧ ra' = nI (SK g sn sp) ∧ r = nI (FN g df 8 ki (SK g sn sp) (tke g sn sp - SK g sn sp))) ∧ ∃ k, k < 4 ∧ r = nI k)) (fun S' t => pB dC dI (AL L sz) (va_pl L S') (cyT cy) t) (AL L sz)) 0 0 (AL L sz) := by
  refine Met.ofW (cc := cX12_kindRead) (maxL := 2) (ret := (some .int)) (by decide) rfl ?_
  intro p e s m args below meth c s₁ B hml hv
  obtain ⟨rfl, hsz, hP, hK, hD0, hN, hSTR⟩ := hv
  have hx := B.exec
  have hb := B.bytes
  have hr := B.returns
  have hT : ∀ wd ∈ TB, wd.before [.ref o].toArray s = true := fun wd h => atoms_spec (ws := wT yX12_kindRead cX12_kindRead 2 (some .int)) B.pre wd (List.mem_cons_of_mem _ h)
  have hown : s.vm.findClass RX12 = some m.cls := findClass_of_methodNamed B.named
  have hlocks := B.notSynchronized
  subst hsz
  have hW : PW dC dI L (AL L s.heap.size) s.heap S s.heap [] := ⟨hP, pl_self hD0, va_S.rf⟩
  have hA0 : ∀ q, q ∈ L → AL L s.heap.size q := fun _ h => Or.inl h
  have hA : ∀ q, s.heap.size ≤ q → AL L s.heap.size q := fun _ h => Or.inr h
  have hFr : Fr kap [12, 112] S S := Fr.rf
  have hl := lv_entry ([.ref o]) (n := 2) (Nat.le_of_ble_eq_true rfl)
  rw [lg_entry_eq]
  generalize (lg_sl ([.ref o]) ++ List.replicate (2 - (lg_sl ([.ref o])).length) Slot.unset).toArray = ls at hl ⊢
  have hl : lv_has ls 2 [(0, .ref o)] := hl
  obtain ⟨x_1, x_2, x_3, x_4, x_5, x_6, x_7, x_8, x_9, x_10, x_11, x_12, x_13, x_14, x_15, x_16, x_17, x_18, x_19, x_20, x_21, x_22, x_23, x_24, x_25, x_26, x_27, x_28, x_29, x_30, x_31, hS_o, hT_x_1, hT_x_2, hT_x_3, hT_x_4, hT_x_5, hb_x_6, hb_x_7, hb_x_8, hT_x_10, hb_q2, hb_x_11, hb_x_12, hT_x_17, hT_x_18, hb_x_19, hT_x_20, hT_x_21, hT_x_22, hT_x_23, hT_x_24, hT_x_25, hT_x_26, hT_x_27, hT_x_28, hT_x_29, hT_x_30, hb_x_31⟩ := hTy.k12 hT_o
  have hb_q2 : pr.2 ≤ 900 := hb_q2
  have hS_o : S o = .inr (12, [.ref x_1, .ref x_2, .ref x_3, .ref x_4, .ref x_5, .int (nI x_6), .int (nI x_7), .int (nI x_8), .int x_9, .ref x_10, .int (nI (pr.2)), .int (nI x_11), .int (nI x_12), .int x_13, .int x_14, .int x_15, .int x_16, .ref x_17, .ref x_18, .int (nI x_19), .ref x_20, .ref x_21, .ref x_22, .ref x_23, .ref x_24, .ref x_25, .ref x_26, .ref x_27, .ref x_28, .ref x_29, .ref x_30, .int (nI x_31)]) := hS_o
  obtain ⟨hMK_, h14_, h15_, h16_, h9_, h3_⟩ := hM
  obtain ⟨e12_, e11_, e13_, e5_, e6_, e0_⟩ := MKe hMK_ hS_o rfl rfl rfl rfl rfl rfl (by omega) (by omega) (by omega) (by omega)
  subst e12_ e11_ e13_ e5_ e6_ e0_
  have e14_ := h14_.symm.trans (inf_i hS_o rfl)
  subst e14_
  have e15_ := h15_.symm.trans (inf_i hS_o rfl)
  subst e15_
  have e16_ := h16_.symm.trans (inf_i hS_o rfl)
  subst e16_
  obtain ⟨f_32, hS_x_10⟩ := hTy.k55 hT_x_10
  have e9_ := h9_.symm.trans (fld_i hS_o rfl hS_x_10)
  subst e9_
  obtain ⟨f_33, hS_x_4⟩ := hTy.k53 hT_x_4
  have e3_ := h3_.symm.trans (lfd_i hS_o rfl hS_x_4)
  subst e3_
  refine lv_aload_n hx hb dX12_kindRead_0 rfl (lv_at hl 0 rfl) ?_
  refine lv_aload_n hx hb dX12_kindRead_1 rfl (lv_at hl 0 rfl) ?_
  refine pl_calll (va_runV (As := []) (rest := [.ref o]) ⟨hx, hb, hml, hown, hT⟩ (f_name l dC dI cy L kap pr ad S s.heap.size o hTy hT_o g nm sp sn wr wa sen ra pa ki rs ⟨MKi (sp := sp) (sn := sn) (pa := pa) (ki := ki) hS_o rfl rfl rfl rfl rfl rfl (by omega) (by omega) (by omega) (by omega), inf_i hS_o rfl, inf_i hS_o rfl, inf_i hS_o rfl, fld_i hS_o rfl hS_x_10, lfd_i hS_o rfl hS_x_4⟩ (by omega) hg) (cwV 0 hT (gV w1230 w1232 ws63 w14 w1233) rfl rfl rfl (by decide +kernel) ⟨(Nat.le_of_ble_eq_true rfl), (Nat.le_of_ble_eq_true rfl)⟩) ⟨pcS.blind, pl_recv hK hW hT_o.1 hS_o rfl, pcS.pre hW.1 hK hW.2.1 hN hSTR hW.2.2⟩ rfl rfl hl.1 rfl (lv_room (Nat.le_of_ble_eq_true rfl)) dX12_kindRead_2 ⟨(Nat.le_of_ble_eq_true rfl), (Nat.le_of_ble_eq_true rfl)⟩) hW hA0 hA (fun r_35 S_34 H locs hrel hW => ?_)
  obtain ⟨hTy, hF1, hx1⟩ := hrel
  have hFr := hFr.tr hF1 (by decide)
  have hS_x_10 := hF1.at hT_x_10 (by decide) hS_x_10
  have hS_x_4 := hF1.at hT_x_4 (by decide) hS_x_4
  obtain ⟨sp36, wr36, wa36, ra36, hM36, hsb36, hER36, hOK36⟩ := hx1
  obtain ⟨x_37, x_38, x_39, x_40, x_41, x_42, x_43, x_44, x_45, x_46, x_47, x_48, x_49, x_50, x_51, x_52, x_53, x_54, x_55, x_56, x_57, x_58, x_59, x_60, x_61, x_62, x_63, x_64, x_65, x_66, x_67, hS_o, hT_x_37, hT_x_38, hT_x_39, hT_x_40, hT_x_41, hb_x_42, hb_x_43, hb_x_44, hT_x_46, hb_q2, hb_x_47, hb_x_48, hT_x_53, hT_x_54, hb_x_55, hT_x_56, hT_x_57, hT_x_58, hT_x_59, hT_x_60, hT_x_61, hT_x_62, hT_x_63, hT_x_64, hT_x_65, hT_x_66, hb_x_67⟩ := hTy.k12 hT_o
  have hb_q2 : pr.2 ≤ 900 := hb_q2
  have hS_o : S_34 o = .inr (12, [.ref x_37, .ref x_38, .ref x_39, .ref x_40, .ref x_41, .int (nI x_42), .int (nI x_43), .int (nI x_44), .int x_45, .ref x_46, .int (nI (pr.2)), .int (nI x_47), .int (nI x_48), .int x_49, .int x_50, .int x_51, .int x_52, .ref x_53, .ref x_54, .int (nI x_55), .ref x_56, .ref x_57, .ref x_58, .ref x_59, .ref x_60, .ref x_61, .ref x_62, .ref x_63, .ref x_64, .ref x_65, .ref x_66, .int (nI x_67)]) := hS_o
  obtain ⟨hMK_, h14_, h15_, h16_, h9_, h3_⟩ := hM36
  obtain ⟨e12_, e11_, e13_, e5_, e6_, e0_⟩ := MKe hMK_ hS_o rfl rfl rfl rfl rfl rfl (by omega) (by omega) (by omega) (by omega)
  subst e12_ e11_ e13_ e5_ e6_ e0_
  have e14_ := h14_.symm.trans (inf_i hS_o rfl)
  subst e14_
  have e15_ := h15_.symm.trans (inf_i hS_o rfl)
  subst e15_
  have e16_ := h16_.symm.trans (inf_i hS_o rfl)
  subst e16_
  obtain ⟨f_68, hS_x_46⟩ := hTy.k55 hT_x_46
  have e9_ := h9_.symm.trans (fld_i hS_o rfl hS_x_46)
  subst e9_
  obtain ⟨f_69, hS_x_40⟩ := hTy.k53 hT_x_40
  have e3_ := h3_.symm.trans (lfd_i hS_o rfl hS_x_40)
  subst e3_
  refine lv_bipush (v := 8) hx hb dX12_kindRead_5 (by decide) ?_
  refine lv_aload_n hx hb dX12_kindRead_7 rfl (lv_at hl 0 rfl) ?_
  refine pl_get (ci := 12) (v := .int (nI ki)) (C := RX12) (T := TX12) (N := 32) hx hb hT iX12 hown hK hW hT_o.1 hS_o rfl 6 (by decide) w1088 rfl dX12_kindRead_8 ?_
  refine vp_callSi (va_Run.run (va_runV (As := [.long r_35, .int 8, .int (nI ki)]) (rest := []) ⟨hx, hb, hml, hown, hT⟩ (f_find l dC dI cy L kap pr S_34 H.size o r_35 8 ki hTy hT_o (by omega) (by omega) nm (lfd_i hS_o rfl hS_x_40)) (cwV 3 hT (gV w1234 w1236 ws64 w14 w1237) rfl rfl rfl (by decide +kernel) ⟨(Nat.le_of_ble_eq_true rfl), (Nat.le_of_ble_eq_true rfl)⟩) ⟨pcN.blind, pl_recv hK hW hT_o.1 hS_o rfl, pcN.pre hW.1 hK hW.2.1 hN (fun q h => absurd h List.not_mem_nil)⟩ rfl rfl hl.1 rfl (lv_room (Nat.le_of_ble_eq_true rfl)) dX12_kindRead_11 ⟨(Nat.le_of_ble_eq_true rfl), (Nat.le_of_ble_eq_true rfl)⟩)) (fun r_70 hr_70 => ?_)
  refine lv_istore_n (lv' := [(1, .int r_70), (0, .ref o)]) hx hb dX12_kindRead_14 rfl hl (by decide) rfl (fun ls hl => ?_)
  refine lv_iload_n hx hb dX12_kindRead_15 rfl (lv_at hl 0 rfl) ?_
  refine lv_iconst (v := (-1)) hx hb dX12_kindRead_16 (by decide) ?_
  refine lv_icmp_ne (tgt := 29) hx hb dX12_kindRead_17 (by decide) (fun c_17 => ?_) (fun c_17 => ?_)
  · refine lv_aload_n hx hb dX12_kindRead_29 rfl (lv_at hl 1 rfl) ?_
    refine pl_get (ci := 12) (v := .int wr36) (C := RX12) (T := TX12) (N := 32) hx hb hT iX12 hown hK hW hT_o.1 hS_o rfl 13 (by decide) w1095 rfl dX12_kindRead_30 ?_
    refine lv_if_ne (tgt := 40) hx hb dX12_kindRead_33 (by decide) (fun c_33 => ?_) (fun c_33 => ?_)
    · refine lv_iconst (v := 0) hx hb dX12_kindRead_40 (by decide) ?_
      exact W.iret (v := 0) hx hb hr (fun t ht h9 => ⟨⟨0, S_34, rfl, ⟨hTy, hFr, ⟨sp36, _, _, _, ⟨MKi (sp := sp36) (sn := sn) (pa := pa) (ki := ki) hS_o rfl rfl rfl rfl rfl rfl (by omega) (by omega) (by omega) (by omega), inf_i hS_o rfl, inf_i hS_o rfl, inf_i hS_o rfl, fld_i hS_o rfl hS_x_46, lfd_i hS_o rfl hS_x_40⟩, by omega, (pty hN8 (by omega) (by omega) hER36 hOK36 hr_70 (fun _ => ⟨rfl, rfl⟩) (fun z => absurd z c_17)).1, fun a b => absurd ((pty hN8 (by omega) (by omega) hER36 hOK36 hr_70 (fun _ => ⟨rfl, rfl⟩) (fun z => absurd z c_17)).2 a b).2.2.2.2 c_33, ⟨0, by omega, rfl⟩⟩⟩, by rw [ht]; exact hW.1, va_K.moved h9.alike hK, hW.2.1⟩, hW.2.2.F ht⟩) hW.2.2.2.2 dX12_kindRead_41
    · refine lv_iload_n hx hb dX12_kindRead_36 rfl (lv_at hl 0 rfl) ?_
      refine lv_goto (tgt := 41) hx hb dX12_kindRead_37 (by decide) ?_
      exact W.iret (v := r_70) hx hb hr (fun t ht h9 => ⟨⟨r_70, S_34, rfl, ⟨hTy, hFr, ⟨sp36, _, _, _, ⟨MKi (sp := sp36) (sn := sn) (pa := pa) (ki := ki) hS_o rfl rfl rfl rfl rfl rfl (by omega) (by omega) (by omega) (by omega), inf_i hS_o rfl, inf_i hS_o rfl, inf_i hS_o rfl, fld_i hS_o rfl hS_x_46, lfd_i hS_o rfl hS_x_40⟩, by omega, (pty hN8 (by omega) (by omega) hER36 hOK36 hr_70 (fun _ => ⟨rfl, rfl⟩) (fun z => absurd z c_17)).1, fun a b => ⟨((pty hN8 (by omega) (by omega) hER36 hOK36 hr_70 (fun _ => ⟨rfl, rfl⟩) (fun z => absurd z c_17)).2 a b).1, ((pty hN8 (by omega) (by omega) hER36 hOK36 hr_70 (fun _ => ⟨rfl, rfl⟩) (fun z => absurd z c_17)).2 a b).2.1, ((pty hN8 (by omega) (by omega) hER36 hOK36 hr_70 (fun _ => ⟨rfl, rfl⟩) (fun z => absurd z c_17)).2 a b).2.2.1⟩, (by rcases hr_70 with ⟨z, -⟩ | ⟨k, hk, e, -⟩; exact absurd z c_17; exact ⟨k, by omega, e⟩)⟩⟩, by rw [ht]; exact hW.1, va_K.moved h9.alike hK, hW.2.1⟩, hW.2.2.F ht⟩) hW.2.2.2.2 dX12_kindRead_41
  · refine lv_aload_n hx hb dX12_kindRead_20 rfl (lv_at hl 1 rfl) ?_
    refine lv_iconst (v := 3) hx hb dX12_kindRead_21 (by decide) ?_
    refine lv_aload_n hx hb dX12_kindRead_22 rfl (lv_at hl 1 rfl) ?_
    refine pl_get (ci := 12) (v := .int ra36) (C := RX12) (T := TX12) (N := 32) hx hb hT iX12 hown hK hW hT_o.1 hS_o rfl 16 (by decide) w1098 rfl dX12_kindRead_23 ?_
    refine pl_callv (va_runV (As := [.int 3, .int ra36]) (rest := []) ⟨hx, hb, hml, hown, hT⟩ (f_fails l dC dI cy L kap pr S_34 H.size o 3 ra36 hTy hT_o g nm sp36 sn wr36 wa36 sen ra36 pa ki rs ⟨MKi (sp := sp36) (sn := sn) (pa := pa) (ki := ki) hS_o rfl rfl rfl rfl rfl rfl (by omega) (by omega) (by omega) (by omega), inf_i hS_o rfl, inf_i hS_o rfl, inf_i hS_o rfl, fld_i hS_o rfl hS_x_46, lfd_i hS_o rfl hS_x_40⟩ (by omega) hg) (cwV 2 hT (gV w1214 w1216 ws59 w14 w1217) rfl rfl rfl (by decide +kernel) ⟨(Nat.le_of_ble_eq_true rfl), (Nat.le_of_ble_eq_true rfl)⟩) ⟨pcN.blind, pl_recv hK hW hT_o.1 hS_o rfl, pcN.pre hW.1 hK hW.2.1 hN (fun q h => absurd h List.not_mem_nil)⟩ rfl rfl hl.1 rfl (lv_room (Nat.le_of_ble_eq_true rfl)) dX12_kindRead_26 ⟨(Nat.le_of_ble_eq_true rfl), (Nat.le_of_ble_eq_true rfl)⟩) hW hA0 hA (fun S_71 H locs hrel hW => ?_)
    obtain ⟨hTy, hF1, hx1⟩ := hrel
    have hFr := hFr.tr hF1 (by decide)
    have hS_x_10 := hF1.at hT_x_10 (by decide) hS_x_10
    have hS_x_4 := hF1.at hT_x_4 (by decide) hS_x_4
    have hS_x_46 := hF1.at hT_x_46 (by decide) hS_x_46
    have hS_x_40 := hF1.at hT_x_40 (by decide) hS_x_40
    obtain ⟨wr72, wa72, hM72, hfa72, hfb72⟩ := hx1
    obtain ⟨x_73, x_74, x_75, x_76, x_77, x_78, x_79, x_80, x_81, x_82, x_83, x_84, x_85, x_86, x_87, x_88, x_89, x_90, x_91, x_92, x_93, x_94, x_95, x_96, x_97, x_98, x_99, x_100, x_101, x_102, x_103, hS_o, hT_x_73, hT_x_74, hT_x_75, hT_x_76, hT_x_77, hb_x_78, hb_x_79, hb_x_80, hT_x_82, hb_q2, hb_x_83, hb_x_84, hT_x_89, hT_x_90, hb_x_91, hT_x_92, hT_x_93, hT_x_94, hT_x_95, hT_x_96, hT_x_97, hT_x_98, hT_x_99, hT_x_100, hT_x_101, hT_x_102, hb_x_103⟩ := hTy.k12 hT_o
    have hb_q2 : pr.2 ≤ 900 := hb_q2
    have hS_o : S_71 o = .inr (12, [.ref x_73, .ref x_74, .ref x_75, .ref x_76, .ref x_77, .int (nI x_78), .int (nI x_79), .int (nI x_80), .int x_81, .ref x_82, .int (nI (pr.2)), .int (nI x_83), .int (nI x_84), .int x_85, .int x_86, .int x_87, .int x_88, .ref x_89, .ref x_90, .int (nI x_91), .ref x_92, .ref x_93, .ref x_94, .ref x_95, .ref x_96, .ref x_97, .ref x_98, .ref x_99, .ref x_100, .ref x_101, .ref x_102, .int (nI x_103)]) := hS_o
    obtain ⟨hMK_, h14_, h15_, h16_, h9_, h3_⟩ := hM72
    obtain ⟨e12_, e11_, e13_, e5_, e6_, e0_⟩ := MKe hMK_ hS_o rfl rfl rfl rfl rfl rfl (by omega) (by omega) (by omega) (by omega)
    subst e12_ e11_ e13_ e5_ e6_ e0_
    have e14_ := h14_.symm.trans (inf_i hS_o rfl)
    subst e14_
    have e15_ := h15_.symm.trans (inf_i hS_o rfl)
    subst e15_
    have e16_ := h16_.symm.trans (inf_i hS_o rfl)
    subst e16_
    obtain ⟨f_104, hS_x_82⟩ := hTy.k55 hT_x_82
    have e9_ := h9_.symm.trans (fld_i hS_o rfl hS_x_82)
    subst e9_
    obtain ⟨f_105, hS_x_76⟩ := hTy.k53 hT_x_76
    have e3_ := h3_.symm.trans (lfd_i hS_o rfl hS_x_76)
    subst e3_
    refine lv_aload_n hx hb dX12_kindRead_29 rfl (lv_at hl 1 rfl) ?_
    refine pl_get (ci := 12) (v := .int wr72) (C := RX12) (T := TX12) (N := 32) hx hb hT iX12 hown hK hW hT_o.1 hS_o rfl 13 (by decide) w1095 rfl dX12_kindRead_30 ?_
    refine lv_if_ne (tgt := 40) hx hb dX12_kindRead_33 (by decide) (fun c_33 => ?_) (fun c_33 => ?_)
    · refine lv_iconst (v := 0) hx hb dX12_kindRead_40 (by decide) ?_
      exact W.iret (v := 0) hx hb hr (fun t ht h9 => ⟨⟨0, S_71, rfl, ⟨hTy, hFr, ⟨sp36, _, _, _, ⟨MKi (sp := sp36) (sn := sn) (pa := pa) (ki := ki) hS_o rfl rfl rfl rfl rfl rfl (by omega) (by omega) (by omega) (by omega), inf_i hS_o rfl, inf_i hS_o rfl, inf_i hS_o rfl, fld_i hS_o rfl hS_x_82, lfd_i hS_o rfl hS_x_76⟩, by omega, (pty hN8 (by omega) (by omega) hER36 hOK36 hr_70 (fun z => absurd c_17 z) (fun _ => ⟨hfa72, hfb72⟩)).1, fun a b => absurd ((pty hN8 (by omega) (by omega) hER36 hOK36 hr_70 (fun z => absurd c_17 z) (fun _ => ⟨hfa72, hfb72⟩)).2 a b).2.2.2.2 c_33, ⟨0, by omega, rfl⟩⟩⟩, by rw [ht]; exact hW.1, va_K.moved h9.alike hK, hW.2.1⟩, hW.2.2.F ht⟩) hW.2.2.2.2 dX12_kindRead_41
    · refine lv_iload_n hx hb dX12_kindRead_36 rfl (lv_at hl 0 rfl) ?_
      refine lv_goto (tgt := 41) hx hb dX12_kindRead_37 (by decide) ?_
      exact W.iret (v := r_70) hx hb hr (fun t ht h9 => ⟨⟨r_70, S_71, rfl, ⟨hTy, hFr, ⟨sp36, _, _, _, ⟨MKi (sp := sp36) (sn := sn) (pa := pa) (ki := ki) hS_o rfl rfl rfl rfl rfl rfl (by omega) (by omega) (by omega) (by omega), inf_i hS_o rfl, inf_i hS_o rfl, inf_i hS_o rfl, fld_i hS_o rfl hS_x_82, lfd_i hS_o rfl hS_x_76⟩, by omega, (pty hN8 (by omega) (by omega) hER36 hOK36 hr_70 (fun z => absurd c_17 z) (fun _ => ⟨hfa72, hfb72⟩)).1, fun a b => ⟨((pty hN8 (by omega) (by omega) hER36 hOK36 hr_70 (fun z => absurd c_17 z) (fun _ => ⟨hfa72, hfb72⟩)).2 a b).1, ((pty hN8 (by omega) (by omega) hER36 hOK36 hr_70 (fun z => absurd c_17 z) (fun _ => ⟨hfa72, hfb72⟩)).2 a b).2.1, ((pty hN8 (by omega) (by omega) hER36 hOK36 hr_70 (fun z => absurd c_17 z) (fun _ => ⟨hfa72, hfb72⟩)).2 a b).2.2.1⟩, (by by_cases q_ : wr36 = 0; have z := (hfb72 q_).1; rw [c_33] at z; exact absurd z (by decide); have z := (hfa72 q_).1; rw [c_33] at z; exact absurd z.symm q_)⟩⟩, by rw [ht]; exact hW.1, va_K.moved h9.alike hK, hW.2.1⟩, hW.2.2.F ht⟩) hW.2.2.2.2 dX12_kindRead_41

