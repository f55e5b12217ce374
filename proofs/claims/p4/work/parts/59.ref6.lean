def otc (g : Nat → Int32) (n : Nat) (df : Nat → Nat × Nat) (np p : Nat) (on : Int32) : Nat := if ptc g n df 0 np p ≠ 0 then ptc g n df 0 np p else if nI (FN g df 0 np (SK g n p) (tke g n p - SK g n p)) = on then 5 else 0
theorem otc_b {g : Nat → Int32} {n : Nat} {df : Nat → Nat × Nat} {np p : Nat} {on : Int32} : otc g n df np p on < 100 := by
  have := ptc_b (g := g) (n := n) (df := df) (o := 0) (num := np) (p := p)
  unfold otc
  split
  · exact this
  · split <;> omega
section OTH
variable {g : Nat → Int32} {n : Nat} {df : Nat → Nat × Nat} {np nk p sp1 : Nat} {wr wa wr1 wa1 wr2 wa2 ra1 r r2 on : Int32} {nm : Nat → Int64} {v : Int64}
theorem oth (hE : ERR wr wa (ptc g n df 0 np p) (SK g n p) wr1 wa1) (hO : wr = 0 → ptc g n df 0 np p = 0 → sp1 = tke g n p ∧ ra1 = nI (SK g n p) ∧ r = nI (FN g df 0 np (SK g n p) (tke g n p - SK g n p))) (hA : wr1 ≠ 0 ∨ r ≠ on → wr2 = wr1 ∧ wa2 = wa1) (hB : wr1 = 0 → r = on → wr2 = 5 ∧ wa2 = ra1) : ERR wr wa (otc g n df np p on) (SK g n p) wr2 wa2 ∧ (wr = 0 → otc g n df np p on = 0 → sp1 = tke g n p ∧ r = nI (FN g df 0 np (SK g n p) (tke g n p - SK g n p)) ∧ r ≠ on ∧ wr2 = 0) := by
  by_cases h0 : wr = 0
  · by_cases hz : ptc g n df 0 np p = 0
    · obtain ⟨e1, e2⟩ := ERR_z hE h0 hz
      obtain ⟨o1, o2, o3⟩ := hO h0 hz
      by_cases hr : r = on
      · obtain ⟨b1, b2⟩ := hB e1 hr
        have ho : otc g n df np p on = 5 := by
          unfold otc
          rw [if_neg (fun z => z hz), if_pos (by rw [← o3]; exact hr)]
        rw [ho]
        exact ⟨ERR_e h0 (by decide) ⟨b1, b2.trans o2⟩, fun _ z => by omega⟩
      · obtain ⟨a1, a2⟩ := hA (Or.inr hr)
        have ho : otc g n df np p on = 0 := by
          unfold otc
          rw [if_neg (fun z => z hz), if_neg (by rw [← o3]; exact hr)]
        rw [ho, a1, a2, e1, e2, h0]
        exact ⟨ERR_0, fun _ _ => ⟨o1, o3, hr, rfl⟩⟩
    · obtain ⟨e1, e2, e3⟩ := ERR_n hE h0 hz ptc_b
      obtain ⟨a1, a2⟩ := hA (Or.inl e1)
      have ho : otc g n df np p on = ptc g n df 0 np p := by
        unfold otc
        rw [if_pos hz]
      rw [ho]
      exact ⟨ERR_e h0 hz ⟨a1.trans e2, a2.trans e3⟩, fun _ z => absurd z hz⟩
  · obtain ⟨e1, e2⟩ := hE.1 h0
    obtain ⟨a1, a2⟩ := hA (Or.inl (by rw [e1]; exact h0))
    exact ⟨⟨fun _ => ⟨a1.trans e1, a2.trans e2⟩, fun z => absurd z h0⟩, fun z => absurd z h0⟩
/-- a new name: r, r2 what find says of parties and kinds -/
theorem nwn (hN0 : NMR g df nm 0 np) (hN8 : NMR g df nm 8 nk) (hn : np ≤ 8) (hk : nk ≤ 4) (hn9 : n ≤ 900) (hE : ERR wr wa (nmc g n p) (SK g n p) wr1 wa1) (hO : wr = 0 → nmc g n p = 0 → sp1 = tke g n p ∧ ra1 = nI (SK g n p) ∧ v = encI g (SK g n p) (tke g n p - SK g n p)) (hF : wr1 = 0 → ((FDR nm 0 np v r ∧ r ≠ -1) ∨ (FDR nm 8 nk v r2 ∧ r2 ≠ -1)) ∧ wr2 = 3 ∧ wa2 = ra1 ∨ (FDR nm 0 np v r ∧ r = -1 ∧ FDR nm 8 nk v r2 ∧ r2 = -1) ∧ wr2 = wr1 ∧ wa2 = wa1) (hA : wr1 ≠ 0 → wr2 = wr1 ∧ wa2 = wa1) : ERR wr wa (nnc g n df np nk p) (SK g n p) wr2 wa2 ∧ (wr = 0 → nnc g n df np nk p = 0 → sp1 = tke g n p ∧ v = encI g (SK g n p) (tke g n p - SK g n p) ∧ wr2 = 0) := by
  by_cases h0 : wr = 0
  · by_cases h4 : tkc g n p = 4
    · have hz : nmc g n p = 0 := if_pos h4
      obtain ⟨e1, e2⟩ := ERR_z hE h0 hz
      obtain ⟨o1, o2, o3⟩ := hO h0 hz
      have hne : ∀ k : Nat, k < 13 → nI k ≠ (-1 : Int32) := fun k hk => (nI_neg (by omega)).1
      have hv := NOK_t h4 hn9
      rcases hF e1 with ⟨hq, b1, b2⟩ | ⟨⟨q1, q2, q3, q4⟩, b1, b2⟩
      · have hp : nnc g n df np nk p = 3 := by
          unfold nnc
          rw [if_pos h4, if_pos ?_]
          rcases hq with ⟨q1, q2⟩ | ⟨q1, q2⟩
          · rw [o3] at q1
            rcases FDR_F hN0 hv (by omega) q1 with f | f
            · exact Or.inl f.1
            · exact absurd f.2 q2
          · rw [o3] at q1
            rcases FDR_F hN8 hv (by omega) q1 with f | f
            · exact Or.inr f.1
            · exact absurd f.2 q2
        rw [hp]
        exact ⟨ERR_e h0 (by decide) ⟨b1, b2.trans o2⟩, fun _ z => by omega⟩
      · have hp : nnc g n df np nk p = 0 := by
          unfold nnc
          rw [if_pos h4, if_neg ?_]
          rw [o3] at q1 q3
          rcases FDR_F hN0 hv (by omega) q1 with f | f
          · exact absurd (f.2.symm.trans q2) (hne _ (by omega))
          · rcases FDR_F hN8 hv (by omega) q3 with f' | f'
            · exact absurd (f'.2.symm.trans q4) (hne _ (by omega))
            · omega
        rw [hp, b1, b2, e1, e2, h0]
        exact ⟨ERR_0, fun _ _ => ⟨o1, o3, rfl⟩⟩
    · have hz : nmc g n p = 1 := if_neg h4
      rw [hz] at hE
      obtain ⟨e1, e2, e3⟩ := ERR_n hE h0 (by decide) (by decide)
      obtain ⟨k1, k2⟩ := hA e1
      have hp : nnc g n df np nk p = 1 := if_neg h4
      rw [hp]
      exact ⟨ERR_e h0 (by decide) ⟨k1.trans e2, k2.trans e3⟩, fun _ z => by omega⟩
  · obtain ⟨e1, e2⟩ := hE.1 h0
    obtain ⟨k1, k2⟩ := hA (by rw [e1]; exact h0)
    exact ⟨⟨fun _ => ⟨k1.trans e1, k2.trans e2⟩, fun z => absurd z h0⟩, fun z => absurd z h0⟩
end OTH

set_option maxHeartbeats 4000000 in
set_option maxRecDepth 100000 in
theorem f_other (l : Launch) (dC : Nat → ClassId) (dI : Nat → Nat → Nat) (cy : Nat → ClassId) (L : List Nat) (kap : Nat → Nat) (pr : Pr) (ad : (Nat → Nat) × (Nat → Nat)) (S : Nat → va_E) (sz : Nat) (o : Nat) (on : Int32) (hTy : Ty cy L kap pr S) (hT_o : TK L kap o 12) (g : Nat → Int32) (nm : Nat → Int64) (sp : Nat) (sn : Nat) (wr : Int32) (wa : Int32) (sen : Int32) (ra : Int32) (pa : Nat) (ki : Nat) (rs : Nat) (hM : MF S o g nm sp sn wr wa sen ra pa ki rs) (hsp : sp ≤ sn) (hg : BR g) (df : Nat → Nat × Nat) (hN0 : NMR g df nm 0 pa) (hN8 : NMR g df nm 8 ki) : Met l yX12_otherRead (wT yX12_otherRead cX12_otherRead 3 (some .int)) ({ frames := 7, cells := 0, slots := 0, locals := 156 }) (pcS dC dI [.ref o, .int on] sz L S (cyT cy) NLs ad) (va_Qi (fun r S' => Ty cy L kap pr S' ∧ Fr kap [12, 112] S S' ∧ (∃ sp' wr' wa' ra', MF S' o g nm sp' sn wr' wa' sen ra' pa ki rs ∧ sp' ≤ sn ∧ ERR wr wa (otc g sn df pa sp on) (SK g sn sp) wr' wa' ∧ (wr = 0 → otc g sn df pa sp on = 0 → sp' = tke g sn sp ∧ r = nI (FN g df 0 pa (SK g sn sp) (tke g sn sp - SK g sn sp)) ∧ r ≠ on) ∧ ∃ k, k < 8 ∧ r = nI k)) (fun S' t => pB dC dI (AL L sz) (va_pl L S') (cyT cy) t) (AL L sz)) 0 0 (AL L sz) := by
  refine Met.ofW (cc := cX12_otherRead) (maxL := 3) (ret := (some .int)) (by decide) rfl ?_
  intro p e s m args below meth c s₁ B hml hv
  obtain ⟨rfl, hsz, hP, hK, hD0, hN, hSTR⟩ := hv
  have hx := B.exec
  have hb := B.bytes
  have hr := B.returns
  have hT : ∀ wd ∈ TB, wd.before [.ref o, .int on].toArray s = true := fun wd h => atoms_spec (ws := wT yX12_otherRead cX12_otherRead 3 (some .int)) B.pre wd (List.mem_cons_of_mem _ h)
  have hown : s.vm.findClass RX12 = some m.cls := findClass_of_methodNamed B.named
  have hlocks := B.notSynchronized
  subst hsz
  have hW : PW dC dI L (AL L s.heap.size) s.heap S s.heap [] := ⟨hP, pl_self hD0, va_S.rf⟩
  have hA0 : ∀ q, q ∈ L → AL L s.heap.size q := fun _ h => Or.inl h
  have hA : ∀ q, s.heap.size ≤ q → AL L s.heap.size q := fun _ h => Or.inr h
  have hFr : Fr kap [12, 112] S S := Fr.rf
  have hl := lv_entry ([.ref o, .int on]) (n := 3) (Nat.le_of_ble_eq_true rfl)
  rw [lg_entry_eq]
  generalize (lg_sl ([.ref o, .int on]) ++ List.replicate (3 - (lg_sl ([.ref o, .int on])).length) Slot.unset).toArray = ls at hl ⊢
  have hl : lv_has ls 3 [(0, .ref o), (1, .int on)] := hl
  obtain ⟨x_1, x_2, x_3, x_4, x_5, x_6, x_7, x_8, x_9, x_10, x_11, x_12, x_13, x_14, x_15, x_16, x_17, x_18, x_19, x_20, x_21, x_22, x_23, x_24, x_25, x_26, x_27, x_28, x_29, x_30, x_31, hS_o, hT_x_1, hT_x_2, hT_x_3, hT_x_4, hT_x_5, hb_x_6, hb_x_7, hb_x_8, hT_x_10, hb_q2, hb_x_11, hb_x_12, hT_x_17, hT_x_18, hb_x_19, hT_x_20, hT_x_21, hT_x_22, hT_x_23, hT_x_24, hT_x_25, hT_x_26, hT_x_27, hT_x_28, hT_x_29, hT_x_30, hb_x_31⟩ := hTy.k12 hT_o
  have hb_q2 : pr.2 ≤ 900 := hb_q2
  have hS_o : S o = .inr (12, [.ref x_1, .ref x_2, .ref x_3, .ref x_4, .ref x_5, .int (nI x_6), .int (nI x_7), .int (nI x_8), .int x_9, .ref x_10, .int (nI (pr.2)), .int (nI x_11), .int (nI x_12), .int x_13, .int x_14, .int x_15, .int x_16, .ref x_17, .ref x_18, .int (nI x_19), .ref x_20, .ref x_21, .ref x_22, .ref x_23, .ref x_24, .ref x_25, .ref x_26, .ref x_27, .ref x_28, .ref x_29, .ref x_30, .int (nI x_31)]) := hS_o
  obtain ⟨hMK_, h14_, h15_, h16_, h9_, h3_⟩ := hM
  obtain ⟨e12_, e11_, e13_, e5_, e6_, e0_⟩ := MKe hMK_ hS_o rfl rfl rfl rfl rfl rfl (by omega) (by omega) (by omega) (by omega)
  subst e12_ e11_ e13_ e5_ e6_ e0_
  have e14_ := h14_.symm.trans (inf_i hS_o rfl)
  subst e14_
  have e15_ := h15_.symm.trans (inf_i hS_o rfl)
  subst e15_
  have e16_ := h16_.symm.trans (inf_i hS_o rfl)
  subst e16_
  obtain ⟨f_32, hS_x_10⟩ := hTy.k55 hT_x_10
  have e9_ := h9_.symm.trans (fld_i hS_o rfl hS_x_10)
  subst e9_
  obtain ⟨f_33, hS_x_4⟩ := hTy.k53 hT_x_4
  have e3_ := h3_.symm.trans (lfd_i hS_o rfl hS_x_4)
  subst e3_
  refine lv_aload_n hx hb dX12_otherRead_0 rfl (lv_at hl 0 rfl) ?_
  refine pl_calli (va_runV (As := []) (rest := []) ⟨hx, hb, hml, hown, hT⟩ (f_party l dC dI cy L kap pr ad S s.heap.size o hTy hT_o g nm sp sn wr wa sen ra pa ki rs ⟨MKi (sp := sp) (sn := sn) (pa := pa) (ki := ki) hS_o rfl rfl rfl rfl rfl rfl (by omega) (by omega) (by omega) (by omega), inf_i hS_o rfl, inf_i hS_o rfl, inf_i hS_o rfl, fld_i hS_o rfl hS_x_10, lfd_i hS_o rfl hS_x_4⟩ (by omega) hg df hN0 hN8) (cwV 0 hT (gV w1255 w1257 ws68 w14 w1258) rfl rfl rfl (by decide +kernel) ⟨(Nat.le_of_ble_eq_true rfl), (Nat.le_of_ble_eq_true rfl)⟩) ⟨pcS.blind, pl_recv hK hW hT_o.1 hS_o rfl, pcS.pre hW.1 hK hW.2.1 hN hSTR hW.2.2⟩ rfl rfl hl.1 rfl (lv_room (Nat.le_of_ble_eq_true rfl)) dX12_otherRead_1 ⟨(Nat.le_of_ble_eq_true rfl), (Nat.le_of_ble_eq_true rfl)⟩) hW hA0 hA (fun r_35 S_34 H locs hrel hW => ?_)
  obtain ⟨hTy, hF1, hx1⟩ := hrel
  have hFr := hFr.tr hF1 (by decide)
  have hS_x_10 := hF1.at hT_x_10 (by decide) hS_x_10
  have hS_x_4 := hF1.at hT_x_4 (by decide) hS_x_4
  obtain ⟨sp36, wr36, wa36, ra36, hM36, hsb36, hER36, hOK36, k_37, hb_k_37, rfl⟩ := hx1
  obtain ⟨x_38, x_39, x_40, x_41, x_42, x_43, x_44, x_45, x_46, x_47, x_48, x_49, x_50, x_51, x_52, x_53, x_54, x_55, x_56, x_57, x_58, x_59, x_60, x_61, x_62, x_63, x_64, x_65, x_66, x_67, x_68, hS_o, hT_x_38, hT_x_39, hT_x_40, hT_x_41, hT_x_42, hb_x_43, hb_x_44, hb_x_45, hT_x_47, hb_q2, hb_x_48, hb_x_49, hT_x_54, hT_x_55, hb_x_56, hT_x_57, hT_x_58, hT_x_59, hT_x_60, hT_x_61, hT_x_62, hT_x_63, hT_x_64, hT_x_65, hT_x_66, hT_x_67, hb_x_68⟩ := hTy.k12 hT_o
  have hb_q2 : pr.2 ≤ 900 := hb_q2
  have hS_o : S_34 o = .inr (12, [.ref x_38, .ref x_39, .ref x_40, .ref x_41, .ref x_42, .int (nI x_43), .int (nI x_44), .int (nI x_45), .int x_46, .ref x_47, .int (nI (pr.2)), .int (nI x_48), .int (nI x_49), .int x_50, .int x_51, .int x_52, .int x_53, .ref x_54, .ref x_55, .int (nI x_56), .ref x_57, .ref x_58, .ref x_59, .ref x_60, .ref x_61, .ref x_62, .ref x_63, .ref x_64, .ref x_65, .ref x_66, .ref x_67, .int (nI x_68)]) := hS_o
  obtain ⟨hMK_, h14_, h15_, h16_, h9_, h3_⟩ := hM36
  obtain ⟨e12_, e11_, e13_, e5_, e6_, e0_⟩ := MKe hMK_ hS_o rfl rfl rfl rfl rfl rfl (by omega) (by omega) (by omega) (by omega)
  subst e12_ e11_ e13_ e5_ e6_ e0_
  have e14_ := h14_.symm.trans (inf_i hS_o rfl)
  subst e14_
  have e15_ := h15_.symm.trans (inf_i hS_o rfl)
  subst e15_
  have e16_ := h16_.symm.trans (inf_i hS_o rfl)
  subst e16_
  obtain ⟨f_69, hS_x_47⟩ := hTy.k55 hT_x_47
  have e9_ := h9_.symm.trans (fld_i hS_o rfl hS_x_47)
  subst e9_
  obtain ⟨f_70, hS_x_41⟩ := hTy.k53 hT_x_41
  have e3_ := h3_.symm.trans (lfd_i hS_o rfl hS_x_41)
  subst e3_
  refine lv_istore_n (lv' := [(2, .int (nI k_37)), (0, .ref o), (1, .int on)]) hx hb dX12_otherRead_4 rfl hl (by decide) rfl (fun ls hl => ?_)
  refine lv_aload_n hx hb dX12_otherRead_5 rfl (lv_at hl 1 rfl) ?_
  refine pl_get (ci := 12) (v := .int wr36) (C := RX12) (T := TX12) (N := 32) hx hb hT iX12 hown hK hW hT_o.1 hS_o rfl 13 (by decide) w1095 rfl dX12_otherRead_6 ?_
  refine lv_if_ne (tgt := 26) hx hb dX12_otherRead_9 (by decide) (fun c_9 => ?_) (fun c_9 => ?_)
  · refine lv_iload_n hx hb dX12_otherRead_26 rfl (lv_at hl 0 rfl) ?_
    exact W.iret (v := nI k_37) hx hb hr (fun t ht h9 => ⟨⟨nI k_37, S_34, rfl, ⟨hTy, hFr, ⟨sp36, _, _, _, ⟨MKi (sp := sp36) (sn := sn) (pa := pa) (ki := ki) hS_o rfl rfl rfl rfl rfl rfl (by omega) (by omega) (by omega) (by omega), inf_i hS_o rfl, inf_i hS_o rfl, inf_i hS_o rfl, fld_i hS_o rfl hS_x_47, lfd_i hS_o rfl hS_x_41⟩, by omega, (oth (on := on) hER36 hOK36 (fun _ => ⟨rfl, rfl⟩) (fun z => absurd z c_9)).1, fun a b => ⟨((oth (on := on) hER36 hOK36 (fun _ => ⟨rfl, rfl⟩) (fun z => absurd z c_9)).2 a b).1, ((oth (on := on) hER36 hOK36 (fun _ => ⟨rfl, rfl⟩) (fun z => absurd z c_9)).2 a b).2.1, ((oth (on := on) hER36 hOK36 (fun _ => ⟨rfl, rfl⟩) (fun z => absurd z c_9)).2 a b).2.2.1⟩, k_37, by omega, rfl⟩⟩, by rw [ht]; exact hW.1, va_K.moved h9.alike hK, hW.2.1⟩, hW.2.2.F ht⟩) hW.2.2.2.2 dX12_otherRead_27
  · refine lv_iload_n hx hb dX12_otherRead_12 rfl (lv_at hl 0 rfl) ?_
    refine lv_iload_n hx hb dX12_otherRead_13 rfl (lv_at hl 2 rfl) ?_
    refine lv_icmp_ne (tgt := 26) hx hb dX12_otherRead_14 (by decide) (fun c_14 => ?_) (fun c_14 => ?_)
    · refine lv_iload_n hx hb dX12_otherRead_26 rfl (lv_at hl 0 rfl) ?_
      exact W.iret (v := nI k_37) hx hb hr (fun t ht h9 => ⟨⟨nI k_37, S_34, rfl, ⟨hTy, hFr, ⟨sp36, _, _, _, ⟨MKi (sp := sp36) (sn := sn) (pa := pa) (ki := ki) hS_o rfl rfl rfl rfl rfl rfl (by omega) (by omega) (by omega) (by omega), inf_i hS_o rfl, inf_i hS_o rfl, inf_i hS_o rfl, fld_i hS_o rfl hS_x_47, lfd_i hS_o rfl hS_x_41⟩, by omega, (oth (on := on) hER36 hOK36 (fun _ => ⟨rfl, rfl⟩) (fun _ z => absurd z c_14)).1, fun a b => ⟨((oth (on := on) hER36 hOK36 (fun _ => ⟨rfl, rfl⟩) (fun _ z => absurd z c_14)).2 a b).1, ((oth (on := on) hER36 hOK36 (fun _ => ⟨rfl, rfl⟩) (fun _ z => absurd z c_14)).2 a b).2.1, ((oth (on := on) hER36 hOK36 (fun _ => ⟨rfl, rfl⟩) (fun _ z => absurd z c_14)).2 a b).2.2.1⟩, k_37, by omega, rfl⟩⟩, by rw [ht]; exact hW.1, va_K.moved h9.alike hK, hW.2.1⟩, hW.2.2.F ht⟩) hW.2.2.2.2 dX12_otherRead_27
    · refine lv_aload_n hx hb dX12_otherRead_17 rfl (lv_at hl 1 rfl) ?_
      refine lv_iconst (v := 5) hx hb dX12_otherRead_18 (by decide) ?_
      refine lv_aload_n hx hb dX12_otherRead_19 rfl (lv_at hl 1 rfl) ?_
      refine pl_get (ci := 12) (v := .int ra36) (C := RX12) (T := TX12) (N := 32) hx hb hT iX12 hown hK hW hT_o.1 hS_o rfl 16 (by decide) w1098 rfl dX12_otherRead_20 ?_
      refine pl_callv (va_runV (As := [.int 5, .int ra36]) (rest := []) ⟨hx, hb, hml, hown, hT⟩ (f_fails l dC dI cy L kap pr S_34 H.size o 5 ra36 hTy hT_o g nm sp36 sn wr36 wa36 sen ra36 pa ki rs ⟨MKi (sp := sp36) (sn := sn) (pa := pa) (ki := ki) hS_o rfl rfl rfl rfl rfl rfl (by omega) (by omega) (by omega) (by omega), inf_i hS_o rfl, inf_i hS_o rfl, inf_i hS_o rfl, fld_i hS_o rfl hS_x_47, lfd_i hS_o rfl hS_x_41⟩ (by omega) hg) (cwV 2 hT (gV w1214 w1216 ws59 w14 w1217) rfl rfl rfl (by decide +kernel) ⟨(Nat.le_of_ble_eq_true rfl), (Nat.le_of_ble_eq_true rfl)⟩) ⟨pcN.blind, pl_recv hK hW hT_o.1 hS_o rfl, pcN.pre hW.1 hK hW.2.1 hN (fun q h => absurd h List.not_mem_nil)⟩ rfl rfl hl.1 rfl (lv_room (Nat.le_of_ble_eq_true rfl)) dX12_otherRead_23 ⟨(Nat.le_of_ble_eq_true rfl), (Nat.le_of_ble_eq_true rfl)⟩) hW hA0 hA (fun S_71 H locs hrel hW => ?_)
      obtain ⟨hTy, hF1, hx1⟩ := hrel
      have hFr := hFr.tr hF1 (by decide)
      have hS_x_10 := hF1.at hT_x_10 (by decide) hS_x_10
      have hS_x_4 := hF1.at hT_x_4 (by decide) hS_x_4
      have hS_x_47 := hF1.at hT_x_47 (by decide) hS_x_47
      have hS_x_41 := hF1.at hT_x_41 (by decide) hS_x_41
      obtain ⟨wr72, wa72, hM72, hfa72, hfb72⟩ := hx1
      obtain ⟨x_73, x_74, x_75, x_76, x_77, x_78, x_79, x_80, x_81, x_82, x_83, x_84, x_85, x_86, x_87, x_88, x_89, x_90, x_91, x_92, x_93, x_94, x_95, x_96, x_97, x_98, x_99, x_100, x_101, x_102, x_103, hS_o, hT_x_73, hT_x_74, hT_x_75, hT_x_76, hT_x_77, hb_x_78, hb_x_79, hb_x_80, hT_x_82, hb_q2, hb_x_83, hb_x_84, hT_x_89, hT_x_90, hb_x_91, hT_x_92, hT_x_93, hT_x_94, hT_x_95, hT_x_96, hT_x_97, hT_x_98, hT_x_99, hT_x_100, hT_x_101, hT_x_102, hb_x_103⟩ := hTy.k12 hT_o
      have hb_q2 : pr.2 ≤ 900 := hb_q2
      have hS_o : S_71 o = .inr (12, [.ref x_73, .ref x_74, .ref x_75, .ref x_76, .ref x_77, .int (nI x_78), .int (nI x_79), .int (nI x_80), .int x_81, .ref x_82, .int (nI (pr.2)), .int (nI x_83), .int (nI x_84), .int x_85, .int x_86, .int x_87, .int x_88, .ref x_89, .ref x_90, .int (nI x_91), .ref x_92, .ref x_93, .ref x_94, .ref x_95, .ref x_96, .ref x_97, .ref x_98, .ref x_99, .ref x_100, .ref x_101, .ref x_102, .int (nI x_103)]) := hS_o
      obtain ⟨hMK_, h14_, h15_, h16_, h9_, h3_⟩ := hM72
      obtain ⟨e12_, e11_, e13_, e5_, e6_, e0_⟩ := MKe hMK_ hS_o rfl rfl rfl rfl rfl rfl (by omega) (by omega) (by omega) (by omega)
      subst e12_ e11_ e13_ e5_ e6_ e0_
      have e14_ := h14_.symm.trans (inf_i hS_o rfl)
      subst e14_
      have e15_ := h15_.symm.trans (inf_i hS_o rfl)
      subst e15_
      have e16_ := h16_.symm.trans (inf_i hS_o rfl)
      subst e16_
      obtain ⟨f_104, hS_x_82⟩ := hTy.k55 hT_x_82
      have e9_ := h9_.symm.trans (fld_i hS_o rfl hS_x_82)
      subst e9_
      obtain ⟨f_105, hS_x_76⟩ := hTy.k53 hT_x_76
      have e3_ := h3_.symm.trans (lfd_i hS_o rfl hS_x_76)
      subst e3_
      refine lv_iload_n hx hb dX12_otherRead_26 rfl (lv_at hl 0 rfl) ?_
      exact W.iret (v := nI k_37) hx hb hr (fun t ht h9 => ⟨⟨nI k_37, S_71, rfl, ⟨hTy, hFr, ⟨sp36, _, _, _, ⟨MKi (sp := sp36) (sn := sn) (pa := pa) (ki := ki) hS_o rfl rfl rfl rfl rfl rfl (by omega) (by omega) (by omega) (by omega), inf_i hS_o rfl, inf_i hS_o rfl, inf_i hS_o rfl, fld_i hS_o rfl hS_x_82, lfd_i hS_o rfl hS_x_76⟩, by omega, (oth (on := on) hER36 hOK36 (fun z => z.elim (fun q => absurd c_9 q) (fun q => absurd c_14 q)) (fun a _ => hfb72 a)).1, fun a b => ⟨((oth (on := on) hER36 hOK36 (fun z => z.elim (fun q => absurd c_9 q) (fun q => absurd c_14 q)) (fun a _ => hfb72 a)).2 a b).1, ((oth (on := on) hER36 hOK36 (fun z => z.elim (fun q => absurd c_9 q) (fun q => absurd c_14 q)) (fun a _ => hfb72 a)).2 a b).2.1, ((oth (on := on) hER36 hOK36 (fun z => z.elim (fun q => absurd c_9 q) (fun q => absurd c_14 q)) (fun a _ => hfb72 a)).2 a b).2.2.1⟩, k_37, by omega, rfl⟩⟩, by rw [ht]; exact hW.1, va_K.moved h9.alike hK, hW.2.1⟩, hW.2.2.F ht⟩) hW.2.2.2.2 dX12_otherRead_27

set_option maxHeartbeats 4000000 in
set_option maxRecDepth 100000 in
theorem f_newName (l : Launch) (dC : Nat → ClassId) (dI : Nat → Nat → Nat) (cy : Nat → ClassId) (L : List Nat) (kap : Nat → Nat) (pr : Pr) (ad : (Nat → Nat) × (Nat → Nat)) (S : Nat → va_E) (sz : Nat) (o : Nat) (ax : Nat) (hTy : Ty cy L kap pr S) (hT_o : TK L kap o 12) (hb_ax : ax < 12) (g : Nat → Int32) (nm : Nat → Int64) (sp : Nat) (sn : Nat) (wr : Int32) (wa : Int32) (sen : Int32) (ra : Int32) (pa : Nat) (ki : Nat) (rs : Nat) (hM : MF S o g nm sp sn wr wa sen ra pa ki rs) (hsp : sp ≤ sn) (hg : BR g) (df : Nat → Nat × Nat) (hN0 : NMR g df nm 0 pa) (hN8 : NMR g df nm 8 ki) : Met l yX12_newName (wT yX12_newName cX12_newName 4 none) ({ frames := 6, cells := 0, slots := 0, locals := 135 }) (pcS dC dI [.ref o, .int (nI ax)] sz L S (cyT cy) NLs ad) (va_Qv (fun S' => Ty cy L kap pr S' ∧ Fr kap [12, 53, 112] S S' ∧ (∃ sp' wr' wa' ra' nm', MF S' o g nm' sp' sn wr' wa' sen ra' pa ki rs ∧ sp' ≤ sn ∧ ERR wr wa (nnc g sn df pa ki sp) (SK g sn sp) wr' wa' ∧ (wr = 0 → nnc g sn df pa ki sp = 0 → sp' = tke g sn sp ∧ nm' = vp_updL nm ax (encI g (SK g sn sp) (tke g sn sp - SK g sn sp))))) (fun S' t => pB dC dI (AL L sz) (va_pl L S') (cyT cy) t) (AL L sz)) 0 0 (AL L sz) := by
  refine Met.ofW (cc := cX12_newName) (maxL := 4) (ret := none) (by decide) rfl ?_
  intro p e s m args below meth c s₁ B hml hv
  obtain ⟨rfl, hsz, hP, hK, hD0, hN, hSTR⟩ := hv
  have hx := B.exec
  have hb := B.bytes
  have hr := B.returns
  have hT : ∀ wd ∈ TB, wd.before [.ref o, .int (nI ax)].toArray s = true := fun wd h => atoms_spec (ws := wT yX12_newName cX12_newName 4 none) B.pre wd (List.mem_cons_of_mem _ h)
  have hown : s.vm.findClass RX12 = some m.cls := findClass_of_methodNamed B.named
  have hlocks := B.notSynchronized
  subst hsz
  have hW : PW dC dI L (AL L s.heap.size) s.heap S s.heap [] := ⟨hP, pl_self hD0, va_S.rf⟩
  have hA0 : ∀ q, q ∈ L → AL L s.heap.size q := fun _ h => Or.inl h
  have hA : ∀ q, s.heap.size ≤ q → AL L s.heap.size q := fun _ h => Or.inr h
  have hFr : Fr kap [12, 53, 112] S S := Fr.rf
  have hl := lv_entry ([.ref o, .int (nI ax)]) (n := 4) (Nat.le_of_ble_eq_true rfl)
  rw [lg_entry_eq]
  generalize (lg_sl ([.ref o, .int (nI ax)]) ++ List.replicate (4 - (lg_sl ([.ref o, .int (nI ax)])).length) Slot.unset).toArray = ls at hl ⊢
  have hl : lv_has ls 4 [(0, .ref o), (1, .int (nI ax))] := hl
  obtain ⟨x_1, x_2, x_3, x_4, x_5, x_6, x_7, x_8, x_9, x_10, x_11, x_12, x_13, x_14, x_15, x_16, x_17, x_18, x_19, x_20, x_21, x_22, x_23, x_24, x_25, x_26, x_27, x_28, x_29, x_30, x_31, hS_o, hT_x_1, hT_x_2, hT_x_3, hT_x_4, hT_x_5, hb_x_6, hb_x_7, hb_x_8, hT_x_10, hb_q2, hb_x_11, hb_x_12, hT_x_17, hT_x_18, hb_x_19, hT_x_20, hT_x_21, hT_x_22, hT_x_23, hT_x_24, hT_x_25, hT_x_26, hT_x_27, hT_x_28, hT_x_29, hT_x_30, hb_x_31⟩ := hTy.k12 hT_o
  have hb_q2 : pr.2 ≤ 900 := hb_q2
  have hS_o : S o = .inr (12, [.ref x_1, .ref x_2, .ref x_3, .ref x_4, .ref x_5, .int (nI x_6), .int (nI x_7), .int (nI x_8), .int x_9, .ref x_10, .int (nI (pr.2)), .int (nI x_11), .int (nI x_12), .int x_13, .int x_14, .int x_15, .int x_16, .ref x_17, .ref x_18, .int (nI x_19), .ref x_20, .ref x_21, .ref x_22, .ref x_23, .ref x_24, .ref x_25, .ref x_26, .ref x_27, .ref x_28, .ref x_29, .ref x_30, .int (nI x_31)]) := hS_o
  obtain ⟨hMK_, h14_, h15_, h16_, h9_, h3_⟩ := hM
  obtain ⟨e12_, e11_, e13_, e5_, e6_, e0_⟩ := MKe hMK_ hS_o rfl rfl rfl rfl rfl rfl (by omega) (by omega) (by omega) (by omega)
  subst e12_ e11_ e13_ e5_ e6_ e0_
  have e14_ := h14_.symm.trans (inf_i hS_o rfl)
  subst e14_
  have e15_ := h15_.symm.trans (inf_i hS_o rfl)
  subst e15_
  have e16_ := h16_.symm.trans (inf_i hS_o rfl)
  subst e16_
  obtain ⟨f_32, hS_x_10⟩ := hTy.k55 hT_x_10
  have e9_ := h9_.symm.trans (fld_i hS_o rfl hS_x_10)
  subst e9_
  obtain ⟨f_33, hS_x_4⟩ := hTy.k53 hT_x_4
  have e3_ := h3_.symm.trans (lfd_i hS_o rfl hS_x_4)
  subst e3_
  refine lv_aload_n hx hb dX12_newName_0 rfl (lv_at hl 0 rfl) ?_
  refine pl_calll (va_runV (As := []) (rest := []) ⟨hx, hb, hml, hown, hT⟩ (f_name l dC dI cy L kap pr ad S s.heap.size o hTy hT_o g nm sp sn wr wa sen ra pa ki rs ⟨MKi (sp := sp) (sn := sn) (pa := pa) (ki := ki) hS_o rfl rfl rfl rfl rfl rfl (by omega) (by omega) (by omega) (by omega), inf_i hS_o rfl, inf_i hS_o rfl, inf_i hS_o rfl, fld_i hS_o rfl hS_x_10, lfd_i hS_o rfl hS_x_4⟩ (by omega) hg) (cwV 0 hT (gV w1230 w1232 ws63 w14 w1233) rfl rfl rfl (by decide +kernel) ⟨(Nat.le_of_ble_eq_true rfl), (Nat.le_of_ble_eq_true rfl)⟩) ⟨pcS.blind, pl_recv hK hW hT_o.1 hS_o rfl, pcS.pre hW.1 hK hW.2.1 hN hSTR hW.2.2⟩ rfl rfl hl.1 rfl (lv_room (Nat.le_of_ble_eq_true rfl)) dX12_newName_1 ⟨(Nat.le_of_ble_eq_true rfl), (Nat.le_of_ble_eq_true rfl)⟩) hW hA0 hA (fun r_35 S_34 H locs hrel hW => ?_)
  obtain ⟨hTy, hF1, hx1⟩ := hrel
  have hFr := hFr.tr hF1 (by decide)
  have hS_x_10 := hF1.at hT_x_10 (by decide) hS_x_10
  have hS_x_4 := hF1.at hT_x_4 (by decide) hS_x_4
  obtain ⟨sp36, wr36, wa36, ra36, hM36, hsb36, hER36, hOK36⟩ := hx1
  obtain ⟨x_37, x_38, x_39, x_40, x_41, x_42, x_43, x_44, x_45, x_46, x_47, x_48, x_49, x_50, x_51, x_52, x_53, x_54, x_55, x_56, x_57, x_58, x_59, x_60, x_61, x_62, x_63, x_64, x_65, x_66, x_67, hS_o, hT_x_37, hT_x_38, hT_x_39, hT_x_40, hT_x_41, hb_x_42, hb_x_43, hb_x_44, hT_x_46, hb_q2, hb_x_47, hb_x_48, hT_x_53, hT_x_54, hb_x_55, hT_x_56, hT_x_57, hT_x_58, hT_x_59, hT_x_60, hT_x_61, hT_x_62, hT_x_63, hT_x_64, hT_x_65, hT_x_66, hb_x_67⟩ := hTy.k12 hT_o
  have hb_q2 : pr.2 ≤ 900 := hb_q2
  have hS_o : S_34 o = .inr (12, [.ref x_37, .ref x_38, .ref x_39, .ref x_40, .ref x_41, .int (nI x_42), .int (nI x_43), .int (nI x_44), .int x_45, .ref x_46, .int (nI (pr.2)), .int (nI x_47), .int (nI x_48), .int x_49, .int x_50, .int x_51, .int x_52, .ref x_53, .ref x_54, .int (nI x_55), .ref x_56, .ref x_57, .ref x_58, .ref x_59, .ref x_60, .ref x_61, .ref x_62, .ref x_63, .ref x_64, .ref x_65, .ref x_66, .int (nI x_67)]) := hS_o
  obtain ⟨hMK_, h14_, h15_, h16_, h9_, h3_⟩ := hM36
  obtain ⟨e12_, e11_, e13_, e5_, e6_, e0_⟩ := MKe hMK_ hS_o rfl rfl rfl rfl rfl rfl (by omega) (by omega) (by omega) (by omega)
  subst e12_ e11_ e13_ e5_ e6_ e0_
  have e14_ := h14_.symm.trans (inf_i hS_o rfl)
  subst e14_
  have e15_ := h15_.symm.trans (inf_i hS_o rfl)
  subst e15_
  have e16_ := h16_.symm.trans (inf_i hS_o rfl)
  subst e16_
  obtain ⟨f_68, hS_x_46⟩ := hTy.k55 hT_x_46
  have e9_ := h9_.symm.trans (fld_i hS_o rfl hS_x_46)
  subst e9_
  obtain ⟨f_69, hS_x_40⟩ := hTy.k53 hT_x_40
  have e3_ := h3_.symm.trans (lfd_i hS_o rfl hS_x_40)
  subst e3_
  refine lv_lstore_n (lv' := [(2, .long r_35), (0, .ref o), (1, .int (nI ax))]) hx hb dX12_newName_4 rfl hl (by decide) rfl (fun ls hl => ?_)
  refine lv_aload_n hx hb dX12_newName_5 rfl (lv_at hl 1 rfl) ?_
  refine pl_get (ci := 12) (v := .int wr36) (C := RX12) (T := TX12) (N := 32) hx hb hT iX12 hown hK hW hT_o.1 hS_o rfl 13 (by decide) w1095 rfl dX12_newName_6 ?_
  refine lv_if_ne (tgt := 50) hx hb dX12_newName_9 (by decide) (fun c_9 => ?_) (fun c_9 => ?_)
  · refine lv_aload_n hx hb dX12_newName_50 rfl (lv_at hl 1 rfl) ?_
    refine pl_get (ci := 12) (v := .ref x_40) (C := RX12) (T := TX12) (N := 32) hx hb hT iX12 hown hK hW hT_o.1 hS_o rfl 3 (by decide) w1085 rfl dX12_newName_51 ?_
    refine lv_iload_n hx hb dX12_newName_54 rfl (lv_at hl 2 rfl) ?_
    refine lv_lload_n hx hb dX12_newName_55 rfl (lv_at hl 0 rfl) ?_
    refine pl_last hx hb hK hW hT_x_40.1 hS_x_40 (vp_in_nI (n := ax) (N := 12) (by omega) (by omega)) dX12_newName_56 (fun H locs f_71 S_70 ef_f_71 e1 hW => ?_)
    have hTy := hTy.u53 e1 hT_x_40 ⟨f_71, rfl⟩
    have hS_x_10 := un e1 hT_x_10 hT_x_40 (by decide) hS_x_10
    have hS_o := un e1 hT_o hT_x_40 (by decide) hS_o
    have hS_x_46 := un e1 hT_x_46 hT_x_40 (by decide) hS_x_46
    have hFr := uf hFr e1 hT_x_40 (by decide) (by decide)
    have hS_x_40 := us e1
    exact W.vret hx hb hr (fun t ht h9 => ⟨⟨S_70, rfl, ⟨hTy, hFr, ⟨sp36, _, _, _, f_71, ⟨MKi (sp := sp36) (sn := sn) (pa := pa) (ki := ki) hS_o rfl rfl rfl rfl rfl rfl (by omega) (by omega) (by omega) (by omega), inf_i hS_o rfl, inf_i hS_o rfl, inf_i hS_o rfl, fld_i hS_o rfl hS_x_46, lfd_i hS_o rfl hS_x_40⟩, by omega, (nwn (r := 0) (r2 := 0) hN0 hN8 (by omega) (by omega) (by omega) hER36 hOK36 (fun z => absurd z c_9) (fun _ => ⟨rfl, rfl⟩)).1, fun a b => ⟨((nwn (r := 0) (r2 := 0) hN0 hN8 (by omega) (by omega) (by omega) hER36 hOK36 (fun z => absurd z c_9) (fun _ => ⟨rfl, rfl⟩)).2 a b).1, by rw [ef_f_71, nI_clamp (by omega), ((nwn (r := 0) (r2 := 0) hN0 hN8 (by omega) (by omega) (by omega) hER36 hOK36 (fun z => absurd z c_9) (fun _ => ⟨rfl, rfl⟩)).2 a b).2.1]⟩⟩⟩, by rw [ht]; exact hW.1, va_K.moved h9.alike hK, hW.2.1⟩, hW.2.2.F ht⟩) hW.2.2.2.2 dX12_newName_57
  · refine lv_aload_n hx hb dX12_newName_12 rfl (lv_at hl 1 rfl) ?_
    refine lv_lload_n hx hb dX12_newName_13 rfl (lv_at hl 0 rfl) ?_
    refine lv_iconst (v := 0) hx hb dX12_newName_14 (by decide) ?_
    refine lv_aload_n hx hb dX12_newName_15 rfl (lv_at hl 1 rfl) ?_
    refine pl_get (ci := 12) (v := .int (nI pa)) (C := RX12) (T := TX12) (N := 32) hx hb hT iX12 hown hK hW hT_o.1 hS_o rfl 5 (by decide) w1087 rfl dX12_newName_16 ?_
    refine vp_callSi (va_Run.run (va_runV (As := [.long r_35, .int 0, .int (nI pa)]) (rest := []) ⟨hx, hb, hml, hown, hT⟩ (f_find l dC dI cy L kap pr S_34 H.size o r_35 0 pa hTy hT_o (by omega) (by omega) nm (lfd_i hS_o rfl hS_x_40)) (cwV 3 hT (gV w1234 w1236 ws64 w14 w1237) rfl rfl rfl (by decide +kernel) ⟨(Nat.le_of_ble_eq_true rfl), (Nat.le_of_ble_eq_true rfl)⟩) ⟨pcN.blind, pl_recv hK hW hT_o.1 hS_o rfl, pcN.pre hW.1 hK hW.2.1 hN (fun q h => absurd h List.not_mem_nil)⟩ rfl rfl hl.1 rfl (lv_room (Nat.le_of_ble_eq_true rfl)) dX12_newName_19 ⟨(Nat.le_of_ble_eq_true rfl), (Nat.le_of_ble_eq_true rfl)⟩)) (fun r_72 hr_72 => ?_)
    refine lv_iconst (v := (-1)) hx hb dX12_newName_22 (by decide) ?_
    refine lv_icmp_ne (tgt := 41) hx hb dX12_newName_23 (by decide) (fun c_23 => ?_) (fun c_23 => ?_)
    · refine lv_aload_n hx hb dX12_newName_41 rfl (lv_at hl 1 rfl) ?_
      refine lv_iconst (v := 3) hx hb dX12_newName_42 (by decide) ?_
      refine lv_aload_n hx hb dX12_newName_43 rfl (lv_at hl 1 rfl) ?_
      refine pl_get (ci := 12) (v := .int ra36) (C := RX12) (T := TX12) (N := 32) hx hb hT iX12 hown hK hW hT_o.1 hS_o rfl 16 (by decide) w1098 rfl dX12_newName_44 ?_
      refine pl_callv (va_runV (As := [.int 3, .int ra36]) (rest := []) ⟨hx, hb, hml, hown, hT⟩ (f_fails l dC dI cy L kap pr S_34 H.size o 3 ra36 hTy hT_o g nm sp36 sn wr36 wa36 sen ra36 pa ki rs ⟨MKi (sp := sp36) (sn := sn) (pa := pa) (ki := ki) hS_o rfl rfl rfl rfl rfl rfl (by omega) (by omega) (by omega) (by omega), inf_i hS_o rfl, inf_i hS_o rfl, inf_i hS_o rfl, fld_i hS_o rfl hS_x_46, lfd_i hS_o rfl hS_x_40⟩ (by omega) hg) (cwV 2 hT (gV w1214 w1216 ws59 w14 w1217) rfl rfl rfl (by decide +kernel) ⟨(Nat.le_of_ble_eq_true rfl), (Nat.le_of_ble_eq_true rfl)⟩) ⟨pcN.blind, pl_recv hK hW hT_o.1 hS_o rfl, pcN.pre hW.1 hK hW.2.1 hN (fun q h => absurd h List.not_mem_nil)⟩ rfl rfl hl.1 rfl (lv_room (Nat.le_of_ble_eq_true rfl)) dX12_newName_47 ⟨(Nat.le_of_ble_eq_true rfl), (Nat.le_of_ble_eq_true rfl)⟩) hW hA0 hA (fun S_73 H locs hrel hW => ?_)
      obtain ⟨hTy, hF1, hx1⟩ := hrel
      have hFr := hFr.tr hF1 (by decide)
      have hS_x_10 := hF1.at hT_x_10 (by decide) hS_x_10
      have hS_x_4 := hF1.at hT_x_4 (by decide) hS_x_4
      have hS_x_46 := hF1.at hT_x_46 (by decide) hS_x_46
      have hS_x_40 := hF1.at hT_x_40 (by decide) hS_x_40
      obtain ⟨wr74, wa74, hM74, hfa74, hfb74⟩ := hx1
      obtain ⟨x_75, x_76, x_77, x_78, x_79, x_80, x_81, x_82, x_83, x_84, x_85, x_86, x_87, x_88, x_89, x_90, x_91, x_92, x_93, x_94, x_95, x_96, x_97, x_98, x_99, x_100, x_101, x_102, x_103, x_104, x_105, hS_o, hT_x_75, hT_x_76, hT_x_77, hT_x_78, hT_x_79, hb_x_80, hb_x_81, hb_x_82, hT_x_84, hb_q2, hb_x_85, hb_x_86, hT_x_91, hT_x_92, hb_x_93, hT_x_94, hT_x_95, hT_x_96, hT_x_97, hT_x_98, hT_x_99, hT_x_100, hT_x_101, hT_x_102, hT_x_103, hT_x_104, hb_x_105⟩ := hTy.k12 hT_o
      have hb_q2 : pr.2 ≤ 900 := hb_q2
      have hS_o : S_73 o = .inr (12, [.ref x_75, .ref x_76, .ref x_77, .ref x_78, .ref x_79, .int (nI x_80), .int (nI x_81), .int (nI x_82), .int x_83, .ref x_84, .int (nI (pr.2)), .int (nI x_85), .int (nI x_86), .int x_87, .int x_88, .int x_89, .int x_90, .ref x_91, .ref x_92, .int (nI x_93), .ref x_94, .ref x_95, .ref x_96, .ref x_97, .ref x_98, .ref x_99, .ref x_100, .ref x_101, .ref x_102, .ref x_103, .ref x_104, .int (nI x_105)]) := hS_o
      obtain ⟨hMK_, h14_, h15_, h16_, h9_, h3_⟩ := hM74
      obtain ⟨e12_, e11_, e13_, e5_, e6_, e0_⟩ := MKe hMK_ hS_o rfl rfl rfl rfl rfl rfl (by omega) (by omega) (by omega) (by omega)
      subst e12_ e11_ e13_ e5_ e6_ e0_
      have e14_ := h14_.symm.trans (inf_i hS_o rfl)
      subst e14_
      have e15_ := h15_.symm.trans (inf_i hS_o rfl)
      subst e15_
      have e16_ := h16_.symm.trans (inf_i hS_o rfl)
      subst e16_
      obtain ⟨f_106, hS_x_84⟩ := hTy.k55 hT_x_84
      have e9_ := h9_.symm.trans (fld_i hS_o rfl hS_x_84)
      subst e9_
      obtain ⟨f_107, hS_x_78⟩ := hTy.k53 hT_x_78
      have e3_ := h3_.symm.trans (lfd_i hS_o rfl hS_x_78)
      subst e3_
      refine lv_aload_n hx hb dX12_newName_50 rfl (lv_at hl 1 rfl) ?_
      refine pl_get (ci := 12) (v := .ref x_78) (C := RX12) (T := TX12) (N := 32) hx hb hT iX12 hown hK hW hT_o.1 hS_o rfl 3 (by decide) w1085 rfl dX12_newName_51 ?_
      refine lv_iload_n hx hb dX12_newName_54 rfl (lv_at hl 2 rfl) ?_
      refine lv_lload_n hx hb dX12_newName_55 rfl (lv_at hl 0 rfl) ?_
      refine pl_last hx hb hK hW hT_x_78.1 hS_x_78 (vp_in_nI (n := ax) (N := 12) (by omega) (by omega)) dX12_newName_56 (fun H locs f_109 S_108 ef_f_109 e1 hW => ?_)
      have hTy := hTy.u53 e1 hT_x_78 ⟨f_109, rfl⟩
      have hS_x_10 := un e1 hT_x_10 hT_x_78 (by decide) hS_x_10
      have hS_x_46 := un e1 hT_x_46 hT_x_78 (by decide) hS_x_46
      have hS_o := un e1 hT_o hT_x_78 (by decide) hS_o
      have hS_x_84 := un e1 hT_x_84 hT_x_78 (by decide) hS_x_84
      have hFr := uf hFr e1 hT_x_78 (by decide) (by decide)
      have hS_x_78 := us e1
      exact W.vret hx hb hr (fun t ht h9 => ⟨⟨S_108, rfl, ⟨hTy, hFr, ⟨sp36, _, _, _, f_109, ⟨MKi (sp := sp36) (sn := sn) (pa := pa) (ki := ki) hS_o rfl rfl rfl rfl rfl rfl (by omega) (by omega) (by omega) (by omega), inf_i hS_o rfl, inf_i hS_o rfl, inf_i hS_o rfl, fld_i hS_o rfl hS_x_84, lfd_i hS_o rfl hS_x_78⟩, by omega, (nwn (r := r_72) (r2 := 0) hN0 hN8 (by omega) (by omega) (by omega) hER36 hOK36 (fun z => Or.inl ⟨Or.inl ⟨hr_72, c_23⟩, hfb74 z⟩) hfa74).1, fun a b => ⟨((nwn (r := r_72) (r2 := 0) hN0 hN8 (by omega) (by omega) (by omega) hER36 hOK36 (fun z => Or.inl ⟨Or.inl ⟨hr_72, c_23⟩, hfb74 z⟩) hfa74).2 a b).1, by rw [ef_f_109, nI_clamp (by omega), ((nwn (r := r_72) (r2 := 0) hN0 hN8 (by omega) (by omega) (by omega) hER36 hOK36 (fun z => Or.inl ⟨Or.inl ⟨hr_72, c_23⟩, hfb74 z⟩) hfa74).2 a b).2.1]⟩⟩⟩, by rw [ht]; exact hW.1, va_K.moved h9.alike hK, hW.2.1⟩, hW.2.2.F ht⟩) hW.2.2.2.2 dX12_newName_57
    · refine lv_aload_n hx hb dX12_newName_26 rfl (lv_at hl 1 rfl) ?_
      refine lv_lload_n hx hb dX12_newName_27 rfl (lv_at hl 0 rfl) ?_
      refine lv_bipush (v := 8) hx hb dX12_newName_28 (by decide) ?_
      refine lv_aload_n hx hb dX12_newName_30 rfl (lv_at hl 1 rfl) ?_
      refine pl_get (ci := 12) (v := .int (nI ki)) (C := RX12) (T := TX12) (N := 32) hx hb hT iX12 hown hK hW hT_o.1 hS_o rfl 6 (by decide) w1088 rfl dX12_newName_31 ?_
      refine vp_callSi (va_Run.run (va_runV (As := [.long r_35, .int 8, .int (nI ki)]) (rest := []) ⟨hx, hb, hml, hown, hT⟩ (f_find l dC dI cy L kap pr S_34 H.size o r_35 8 ki hTy hT_o (by omega) (by omega) nm (lfd_i hS_o rfl hS_x_40)) (cwV 3 hT (gV w1234 w1236 ws64 w14 w1237) rfl rfl rfl (by decide +kernel) ⟨(Nat.le_of_ble_eq_true rfl), (Nat.le_of_ble_eq_true rfl)⟩) ⟨pcN.blind, pl_recv hK hW hT_o.1 hS_o rfl, pcN.pre hW.1 hK hW.2.1 hN (fun q h => absurd h List.not_mem_nil)⟩ rfl rfl hl.1 rfl (lv_room (Nat.le_of_ble_eq_true rfl)) dX12_newName_34 ⟨(Nat.le_of_ble_eq_true rfl), (Nat.le_of_ble_eq_true rfl)⟩)) (fun r_110 hr_110 => ?_)
      refine lv_iconst (v := (-1)) hx hb dX12_newName_37 (by decide) ?_
      refine lv_icmp_eq (tgt := 50) hx hb dX12_newName_38 (by decide) (fun c_38 => ?_) (fun c_38 => ?_)
      · refine lv_aload_n hx hb dX12_newName_50 rfl (lv_at hl 1 rfl) ?_
        refine pl_get (ci := 12) (v := .ref x_40) (C := RX12) (T := TX12) (N := 32) hx hb hT iX12 hown hK hW hT_o.1 hS_o rfl 3 (by decide) w1085 rfl dX12_newName_51 ?_
        refine lv_iload_n hx hb dX12_newName_54 rfl (lv_at hl 2 rfl) ?_
        refine lv_lload_n hx hb dX12_newName_55 rfl (lv_at hl 0 rfl) ?_
        refine pl_last hx hb hK hW hT_x_40.1 hS_x_40 (vp_in_nI (n := ax) (N := 12) (by omega) (by omega)) dX12_newName_56 (fun H locs f_112 S_111 ef_f_112 e1 hW => ?_)
        have hTy := hTy.u53 e1 hT_x_40 ⟨f_112, rfl⟩
        have hS_x_10 := un e1 hT_x_10 hT_x_40 (by decide) hS_x_10
        have hS_o := un e1 hT_o hT_x_40 (by decide) hS_o
        have hS_x_46 := un e1 hT_x_46 hT_x_40 (by decide) hS_x_46
        have hFr := uf hFr e1 hT_x_40 (by decide) (by decide)
        have hS_x_40 := us e1
        exact W.vret hx hb hr (fun t ht h9 => ⟨⟨S_111, rfl, ⟨hTy, hFr, ⟨sp36, _, _, _, f_112, ⟨MKi (sp := sp36) (sn := sn) (pa := pa) (ki := ki) hS_o rfl rfl rfl rfl rfl rfl (by omega) (by omega) (by omega) (by omega), inf_i hS_o rfl, inf_i hS_o rfl, inf_i hS_o rfl, fld_i hS_o rfl hS_x_46, lfd_i hS_o rfl hS_x_40⟩, by omega, (nwn (r := r_72) (r2 := r_110) hN0 hN8 (by omega) (by omega) (by omega) hER36 hOK36 (fun _ => Or.inr ⟨⟨hr_72, c_23, hr_110, c_38⟩, rfl, rfl⟩) (fun _ => ⟨rfl, rfl⟩)).1, fun a b => ⟨((nwn (r := r_72) (r2 := r_110) hN0 hN8 (by omega) (by omega) (by omega) hER36 hOK36 (fun _ => Or.inr ⟨⟨hr_72, c_23, hr_110, c_38⟩, rfl, rfl⟩) (fun _ => ⟨rfl, rfl⟩)).2 a b).1, by rw [ef_f_112, nI_clamp (by omega), ((nwn (r := r_72) (r2 := r_110) hN0 hN8 (by omega) (by omega) (by omega) hER36 hOK36 (fun _ => Or.inr ⟨⟨hr_72, c_23, hr_110, c_38⟩, rfl, rfl⟩) (fun _ => ⟨rfl, rfl⟩)).2 a b).2.1]⟩⟩⟩, by rw [ht]; exact hW.1, va_K.moved h9.alike hK, hW.2.1⟩, hW.2.2.F ht⟩) hW.2.2.2.2 dX12_newName_57
      · refine lv_aload_n hx hb dX12_newName_41 rfl (lv_at hl 1 rfl) ?_
        refine lv_iconst (v := 3) hx hb dX12_newName_42 (by decide) ?_
        refine lv_aload_n hx hb dX12_newName_43 rfl (lv_at hl 1 rfl) ?_
        refine pl_get (ci := 12) (v := .int ra36) (C := RX12) (T := TX12) (N := 32) hx hb hT iX12 hown hK hW hT_o.1 hS_o rfl 16 (by decide) w1098 rfl dX12_newName_44 ?_
        refine pl_callv (va_runV (As := [.int 3, .int ra36]) (rest := []) ⟨hx, hb, hml, hown, hT⟩ (f_fails l dC dI cy L kap pr S_34 H.size o 3 ra36 hTy hT_o g nm sp36 sn wr36 wa36 sen ra36 pa ki rs ⟨MKi (sp := sp36) (sn := sn) (pa := pa) (ki := ki) hS_o rfl rfl rfl rfl rfl rfl (by omega) (by omega) (by omega) (by omega), inf_i hS_o rfl, inf_i hS_o rfl, inf_i hS_o rfl, fld_i hS_o rfl hS_x_46, lfd_i hS_o rfl hS_x_40⟩ (by omega) hg) (cwV 2 hT (gV w1214 w1216 ws59 w14 w1217) rfl rfl rfl (by decide +kernel) ⟨(Nat.le_of_ble_eq_true rfl), (Nat.le_of_ble_eq_true rfl)⟩) ⟨pcN.blind, pl_recv hK hW hT_o.1 hS_o rfl, pcN.pre hW.1 hK hW.2.1 hN (fun q h => absurd h List.not_mem_nil)⟩ rfl rfl hl.1 rfl (lv_room (Nat.le_of_ble_eq_true rfl)) dX12_newName_47 ⟨(Nat.le_of_ble_eq_true rfl), (Nat.le_of_ble_eq_true rfl)⟩) hW hA0 hA (fun S_113 H locs hrel hW => ?_)
        obtain ⟨hTy, hF1, hx1⟩ := hrel
        have hFr := hFr.tr hF1 (by decide)
        have hS_x_10 := hF1.at hT_x_10 (by decide) hS_x_10
        have hS_x_4 := hF1.at hT_x_4 (by decide) hS_x_4
        have hS_x_46 := hF1.at hT_x_46 (by decide) hS_x_46
        have hS_x_40 := hF1.at hT_x_40 (by decide) hS_x_40
        obtain ⟨wr114, wa114, hM114, hfa114, hfb114⟩ := hx1
        obtain ⟨x_115, x_116, x_117, x_118, x_119, x_120, x_121, x_122, x_123, x_124, x_125, x_126, x_127, x_128, x_129, x_130, x_131, x_132, x_133, x_134, x_135, x_136, x_137, x_138, x_139, x_140, x_141, x_142, x_143, x_144, x_145, hS_o, hT_x_115, hT_x_116, hT_x_117, hT_x_118, hT_x_119, hb_x_120, hb_x_121, hb_x_122, hT_x_124, hb_q2, hb_x_125, hb_x_126, hT_x_131, hT_x_132, hb_x_133, hT_x_134, hT_x_135, hT_x_136, hT_x_137, hT_x_138, hT_x_139, hT_x_140, hT_x_141, hT_x_142, hT_x_143, hT_x_144, hb_x_145⟩ := hTy.k12 hT_o
        have hb_q2 : pr.2 ≤ 900 := hb_q2
        have hS_o : S_113 o = .inr (12, [.ref x_115, .ref x_116, .ref x_117, .ref x_118, .ref x_119, .int (nI x_120), .int (nI x_121), .int (nI x_122), .int x_123, .ref x_124, .int (nI (pr.2)), .int (nI x_125), .int (nI x_126), .int x_127, .int x_128, .int x_129, .int x_130, .ref x_131, .ref x_132, .int (nI x_133), .ref x_134, .ref x_135, .ref x_136, .ref x_137, .ref x_138, .ref x_139, .ref x_140, .ref x_141, .ref x_142, .ref x_143, .ref x_144, .int (nI x_145)]) := hS_o
        obtain ⟨hMK_, h14_, h15_, h16_, h9_, h3_⟩ := hM114
        obtain ⟨e12_, e11_, e13_, e5_, e6_, e0_⟩ := MKe hMK_ hS_o rfl rfl rfl rfl rfl rfl (by omega) (by omega) (by omega) (by omega)
        subst e12_ e11_ e13_ e5_ e6_ e0_
        have e14_ := h14_.symm.trans (inf_i hS_o rfl)
        subst e14_
        have e15_ := h15_.symm.trans (inf_i hS_o rfl)
        subst e15_
        have e16_ := h16_.symm.trans (inf_i hS_o rfl)
        subst e16_
        obtain ⟨f_146, hS_x_124⟩ := hTy.k55 hT_x_124
        have e9_ := h9_.symm.trans (fld_i hS_o rfl hS_x_124)
        subst e9_
        obtain ⟨f_147, hS_x_118⟩ := hTy.k53 hT_x_118
        have e3_ := h3_.symm.trans (lfd_i hS_o rfl hS_x_118)
        subst e3_
        refine lv_aload_n hx hb dX12_newName_50 rfl (lv_at hl 1 rfl) ?_
        refine pl_get (ci := 12) (v := .ref x_118) (C := RX12) (T := TX12) (N := 32) hx hb hT iX12 hown hK hW hT_o.1 hS_o rfl 3 (by decide) w1085 rfl dX12_newName_51 ?_
        refine lv_iload_n hx hb dX12_newName_54 rfl (lv_at hl 2 rfl) ?_
        refine lv_lload_n hx hb dX12_newName_55 rfl (lv_at hl 0 rfl) ?_
        refine pl_last hx hb hK hW hT_x_118.1 hS_x_118 (vp_in_nI (n := ax) (N := 12) (by omega) (by omega)) dX12_newName_56 (fun H locs f_149 S_148 ef_f_149 e1 hW => ?_)
        have hTy := hTy.u53 e1 hT_x_118 ⟨f_149, rfl⟩
        have hS_x_10 := un e1 hT_x_10 hT_x_118 (by decide) hS_x_10
        have hS_x_46 := un e1 hT_x_46 hT_x_118 (by decide) hS_x_46
        have hS_o := un e1 hT_o hT_x_118 (by decide) hS_o
        have hS_x_124 := un e1 hT_x_124 hT_x_118 (by decide) hS_x_124
        have hFr := uf hFr e1 hT_x_118 (by decide) (by decide)
        have hS_x_118 := us e1
        exact W.vret hx hb hr (fun t ht h9 => ⟨⟨S_148, rfl, ⟨hTy, hFr, ⟨sp36, _, _, _, f_149, ⟨MKi (sp := sp36) (sn := sn) (pa := pa) (ki := ki) hS_o rfl rfl rfl rfl rfl rfl (by omega) (by omega) (by omega) (by omega), inf_i hS_o rfl, inf_i hS_o rfl, inf_i hS_o rfl, fld_i hS_o rfl hS_x_124, lfd_i hS_o rfl hS_x_118⟩, by omega, (nwn (r := r_72) (r2 := r_110) hN0 hN8 (by omega) (by omega) (by omega) hER36 hOK36 (fun z => Or.inl ⟨Or.inr ⟨hr_110, c_38⟩, hfb114 z⟩) hfa114).1, fun a b => ⟨((nwn (r := r_72) (r2 := r_110) hN0 hN8 (by omega) (by omega) (by omega) hER36 hOK36 (fun z => Or.inl ⟨Or.inr ⟨hr_110, c_38⟩, hfb114 z⟩) hfa114).2 a b).1, by rw [ef_f_149, nI_clamp (by omega), ((nwn (r := r_72) (r2 := r_110) hN0 hN8 (by omega) (by omega) (by omega) hER36 hOK36 (fun z => Or.inl ⟨Or.inr ⟨hr_110, c_38⟩, hfb114 z⟩) hfa114).2 a b).2.1]⟩⟩⟩, by rw [ht]; exact hW.1, va_K.moved h9.alike hK, hW.2.1⟩, hW.2.2.F ht⟩) hW.2.2.2.2 dX12_newName_57

set_option maxHeartbeats 4000000 in
set_option maxRecDepth 100000 in
theorem f_isFull (l : Launch) (dC : Nat → ClassId) (dI : Nat → Nat → Nat) (cy : Nat → ClassId) (L : List Nat) (kap : Nat → Nat) (pr : Pr) (S : Nat → va_E) (sz : Nat) (o : Nat) (wz : Int32) (hTy : Ty cy L kap pr S) (hT_o : TK L kap o 12) (g : Nat → Int32) (nm : Nat → Int64) (sp : Nat) (sn : Nat) (wr : Int32) (wa : Int32) (sen : Int32) (ra : Int32) (pa : Nat) (ki : Nat) (rs : Nat) (hM : MF S o g nm sp sn wr wa sen ra pa ki rs) (hsp : sp ≤ sn) (hg : BR g) (mn : Nat) (hmn : mny S o mn) (hm40 : mn ≤ 40) : Met l yX12_isFull (wT yX12_isFull cX12_isFull 2 (some .boolean)) ({ frames := 0, cells := 0, slots := 0, locals := 0 }) (pcN dC dI [.ref o, .int wz] sz (va_pl L S) (cyT cy) NLs []) (vp_Si (fun r => (r = 1 ∧ ((wz = 0 ∧ pa = 8) ∨ (wz = 1 ∧ ki = 4) ∨ (wz = 2 ∧ mn = 40))) ∨ (r = 0 ∧ ¬ ((wz = 0 ∧ pa = 8) ∨ (wz = 1 ∧ ki = 4) ∨ (wz = 2 ∧ mn = 40))))) 0 0 (fun _ => False) := by
  refine Met.ofW (cc := cX12_isFull) (maxL := 2) (ret := (some .boolean)) (by decide) rfl ?_
  intro p e s m args below meth c s₁ B hml hv
  obtain ⟨rfl, hsz, hP, hK, hD0, hN, -⟩ := hv
  have hx := B.exec
  have hb := B.bytes
  have hr := B.returns
  have hT : ∀ wd ∈ TB, wd.before [.ref o, .int wz].toArray s = true := fun wd h => atoms_spec (ws := wT yX12_isFull cX12_isFull 2 (some .boolean)) B.pre wd (List.mem_cons_of_mem _ h)
  have hown : s.vm.findClass RX12 = some m.cls := findClass_of_methodNamed B.named
  have hlocks := B.notSynchronized
  subst hsz
  have hW : PW dC dI L (AL L s.heap.size) s.heap S s.heap [] := ⟨hP, pl_self hD0, va_S.rf⟩
  have hFr : Fr kap [] S S := Fr.rf
  have hl := lv_entry ([.ref o, .int wz]) (n := 2) (Nat.le_of_ble_eq_true rfl)
  rw [lg_entry_eq]
  generalize (lg_sl ([.ref o, .int wz]) ++ List.replicate (2 - (lg_sl ([.ref o, .int wz])).length) Slot.unset).toArray = ls at hl ⊢
  have hl : lv_has ls 2 [(0, .ref o), (1, .int wz)] := hl
  obtain ⟨x_1, x_2, x_3, x_4, x_5, x_6, x_7, x_8, x_9, x_10, x_11, x_12, x_13, x_14, x_15, x_16, x_17, x_18, x_19, x_20, x_21, x_22, x_23, x_24, x_25, x_26, x_27, x_28, x_29, x_30, x_31, hS_o, hT_x_1, hT_x_2, hT_x_3, hT_x_4, hT_x_5, hb_x_6, hb_x_7, hb_x_8, hT_x_10, hb_q2, hb_x_11, hb_x_12, hT_x_17, hT_x_18, hb_x_19, hT_x_20, hT_x_21, hT_x_22, hT_x_23, hT_x_24, hT_x_25, hT_x_26, hT_x_27, hT_x_28, hT_x_29, hT_x_30, hb_x_31⟩ := hTy.k12 hT_o
  have hb_q2 : pr.2 ≤ 900 := hb_q2
  have hS_o : S o = .inr (12, [.ref x_1, .ref x_2, .ref x_3, .ref x_4, .ref x_5, .int (nI x_6), .int (nI x_7), .int (nI x_8), .int x_9, .ref x_10, .int (nI (pr.2)), .int (nI x_11), .int (nI x_12), .int x_13, .int x_14, .int x_15, .int x_16, .ref x_17, .ref x_18, .int (nI x_19), .ref x_20, .ref x_21, .ref x_22, .ref x_23, .ref x_24, .ref x_25, .ref x_26, .ref x_27, .ref x_28, .ref x_29, .ref x_30, .int (nI x_31)]) := hS_o
  obtain ⟨hMK_, h14_, h15_, h16_, h9_, h3_⟩ := hM
  obtain ⟨e12_, e11_, e13_, e5_, e6_, e0_⟩ := MKe hMK_ hS_o rfl rfl rfl rfl rfl rfl (by omega) (by omega) (by omega) (by omega)
  subst e12_ e11_ e13_ e5_ e6_ e0_
  have e14_ := h14_.symm.trans (inf_i hS_o rfl)
  subst e14_
  have e15_ := h15_.symm.trans (inf_i hS_o rfl)
  subst e15_
  have e16_ := h16_.symm.trans (inf_i hS_o rfl)
  subst e16_
  obtain ⟨f_32, hS_x_10⟩ := hTy.k55 hT_x_10
  have e9_ := h9_.symm.trans (fld_i hS_o rfl hS_x_10)
  subst e9_
  obtain ⟨f_33, hS_x_4⟩ := hTy.k53 hT_x_4
  have e3_ := h3_.symm.trans (lfd_i hS_o rfl hS_x_4)
  subst e3_
  obtain ⟨f_34, hS_rs, hi_f_34⟩ := hTy.k50 hT_x_1
  have h0_ : f_34 0 = nI mn := mnye hmn hS_o rfl hS_rs
  refine lv_iload_n hx hb dX12_isFull_0 rfl (lv_at hl 1 rfl) ?_
  refine lv_if_ne (tgt := 13) hx hb dX12_isFull_1 (by decide) (fun c_1 => ?_) (fun c_1 => ?_)
  · refine lv_iload_n hx hb dX12_isFull_13 rfl (lv_at hl 1 rfl) ?_
    refine lv_iconst (v := 1) hx hb dX12_isFull_14 (by decide) ?_
    refine lv_icmp_ne (tgt := 26) hx hb dX12_isFull_15 (by decide) (fun c_15 => ?_) (fun c_15 => ?_)
    · refine lv_iload_n hx hb dX12_isFull_26 rfl (lv_at hl 1 rfl) ?_
      refine lv_iconst (v := 2) hx hb dX12_isFull_27 (by decide) ?_
      refine lv_icmp_ne (tgt := 46) hx hb dX12_isFull_28 (by decide) (fun c_28 => ?_) (fun c_28 => ?_)
      · refine lv_iconst (v := 0) hx hb dX12_isFull_46 (by decide) ?_
        exact W.zret (ty := .boolean) (v := 0) hx hb hr (by decide) (fun t ht h9 => ⟨0, rfl, Or.inr ⟨rfl, fun z => z.elim (fun z => absurd z.1 c_1) (fun z => z.elim (fun z => absurd z.1 c_15) (fun z => absurd z.1 c_28))⟩, ht⟩) (fun q h => by cases h) dX12_isFull_47
      · refine lv_aload_n hx hb dX12_isFull_31 rfl (lv_at hl 0 rfl) ?_
        refine pl_get (ci := 12) (v := .ref rs) (C := RX12) (T := TX12) (N := 32) hx hb hT iX12 hown hK hW hT_o.1 hS_o rfl 0 (by decide) w1082 rfl dX12_isFull_32 ?_
        refine lv_iconst (v := 0) hx hb dX12_isFull_35 (by decide) ?_
        refine pl_iald hx hb hK hW hT_x_1.1 hS_rs (vp_in_nI (n := 0) (N := 266) (by omega) (by omega)) dX12_isFull_36 ?_
        refine lv_topi (fun y_35 ey_35 => ?_)
        obtain rfl : y_35 = nI mn := ey_35.trans h0_
        refine lv_bipush (v := 40) hx hb dX12_isFull_37 (by decide) ?_
        refine lv_icmp_ne (tgt := 46) hx hb dX12_isFull_39 (by decide) (fun c_39 => ?_) (fun c_39 => ?_)
        · have c_39 : ¬ (mn = 40) := fun hh9 => c_39 ((nI_eq (a := mn) (b := 40) (by omega) (by omega)).mpr hh9)
          refine lv_iconst (v := 0) hx hb dX12_isFull_46 (by decide) ?_
          exact W.zret (ty := .boolean) (v := 0) hx hb hr (by decide) (fun t ht h9 => ⟨0, rfl, Or.inr ⟨rfl, fun z => z.elim (fun z => absurd z.1 c_1) (fun z => z.elim (fun z => absurd z.1 c_15) (fun z => by omega))⟩, ht⟩) (fun q h => by cases h) dX12_isFull_47
        · have c_39 : mn = 40 := (nI_eq (a := mn) (b := 40) (by omega) (by omega)).mp c_39
          refine lv_iconst (v := 1) hx hb dX12_isFull_42 (by decide) ?_
          refine lv_goto (tgt := 47) hx hb dX12_isFull_43 (by decide) ?_
          exact W.zret (ty := .boolean) (v := 1) hx hb hr (by decide) (fun t ht h9 => ⟨1, rfl, Or.inl ⟨rfl, Or.inr (Or.inr ⟨c_28, by omega⟩)⟩, ht⟩) (fun q h => by cases h) dX12_isFull_47
    · refine lv_aload_n hx hb dX12_isFull_18 rfl (lv_at hl 0 rfl) ?_
      refine pl_get (ci := 12) (v := .int (nI ki)) (C := RX12) (T := TX12) (N := 32) hx hb hT iX12 hown hK hW hT_o.1 hS_o rfl 6 (by decide) w1088 rfl dX12_isFull_19 ?_
      refine lv_iconst (v := 4) hx hb dX12_isFull_22 (by decide) ?_
      refine lv_icmp_eq (tgt := 42) hx hb dX12_isFull_23 (by decide) (fun c_23 => ?_) (fun c_23 => ?_)
      · have c_23 : ki = 4 := (nI_eq (a := ki) (b := 4) (by omega) (by omega)).mp c_23
        refine lv_iconst (v := 1) hx hb dX12_isFull_42 (by decide) ?_
        refine lv_goto (tgt := 47) hx hb dX12_isFull_43 (by decide) ?_
        exact W.zret (ty := .boolean) (v := 1) hx hb hr (by decide) (fun t ht h9 => ⟨1, rfl, Or.inl ⟨rfl, Or.inr (Or.inl ⟨c_15, by omega⟩)⟩, ht⟩) (fun q h => by cases h) dX12_isFull_47
      · have c_23 : ¬ (ki = 4) := fun hh9 => c_23 ((nI_eq (a := ki) (b := 4) (by omega) (by omega)).mpr hh9)
        refine lv_iload_n hx hb dX12_isFull_26 rfl (lv_at hl 1 rfl) ?_
        refine lv_iconst (v := 2) hx hb dX12_isFull_27 (by decide) ?_
        refine lv_icmp_ne (tgt := 46) hx hb dX12_isFull_28 (by decide) (fun c_28 => ?_) (fun c_28 => ?_)
        · refine lv_iconst (v := 0) hx hb dX12_isFull_46 (by decide) ?_
          exact W.zret (ty := .boolean) (v := 0) hx hb hr (by decide) (fun t ht h9 => ⟨0, rfl, Or.inr ⟨rfl, fun z => z.elim (fun z => absurd z.1 c_1) (fun z => z.elim (fun z => by omega) (fun z => absurd z.1 c_28))⟩, ht⟩) (fun q h => by cases h) dX12_isFull_47
        · refine lv_aload_n hx hb dX12_isFull_31 rfl (lv_at hl 0 rfl) ?_
          refine pl_get (ci := 12) (v := .ref rs) (C := RX12) (T := TX12) (N := 32) hx hb hT iX12 hown hK hW hT_o.1 hS_o rfl 0 (by decide) w1082 rfl dX12_isFull_32 ?_
          refine lv_iconst (v := 0) hx hb dX12_isFull_35 (by decide) ?_
          refine pl_iald hx hb hK hW hT_x_1.1 hS_rs (vp_in_nI (n := 0) (N := 266) (by omega) (by omega)) dX12_isFull_36 ?_
          refine lv_topi (fun y_36 ey_36 => ?_)
          obtain rfl : y_36 = nI mn := ey_36.trans h0_
          refine lv_bipush (v := 40) hx hb dX12_isFull_37 (by decide) ?_
          refine lv_icmp_ne (tgt := 46) hx hb dX12_isFull_39 (by decide) (fun c_39 => ?_) (fun c_39 => ?_)
          · have c_39 : ¬ (mn = 40) := fun hh9 => c_39 ((nI_eq (a := mn) (b := 40) (by omega) (by omega)).mpr hh9)
            refine lv_iconst (v := 0) hx hb dX12_isFull_46 (by decide) ?_
            exact W.zret (ty := .boolean) (v := 0) hx hb hr (by decide) (fun t ht h9 => ⟨0, rfl, Or.inr ⟨rfl, fun z => z.elim (fun z => absurd z.1 c_1) (fun z => z.elim (fun z => by omega) (fun z => by omega))⟩, ht⟩) (fun q h => by cases h) dX12_isFull_47
          · have c_39 : mn = 40 := (nI_eq (a := mn) (b := 40) (by omega) (by omega)).mp c_39
            refine lv_iconst (v := 1) hx hb dX12_isFull_42 (by decide) ?_
            refine lv_goto (tgt := 47) hx hb dX12_isFull_43 (by decide) ?_
            exact W.zret (ty := .boolean) (v := 1) hx hb hr (by decide) (fun t ht h9 => ⟨1, rfl, Or.inl ⟨rfl, Or.inr (Or.inr ⟨c_28, by omega⟩)⟩, ht⟩) (fun q h => by cases h) dX12_isFull_47
  · refine lv_aload_n hx hb dX12_isFull_4 rfl (lv_at hl 0 rfl) ?_
    refine pl_get (ci := 12) (v := .int (nI pa)) (C := RX12) (T := TX12) (N := 32) hx hb hT iX12 hown hK hW hT_o.1 hS_o rfl 5 (by decide) w1087 rfl dX12_isFull_5 ?_
    refine lv_bipush (v := 8) hx hb dX12_isFull_8 (by decide) ?_
    refine lv_icmp_eq (tgt := 42) hx hb dX12_isFull_10 (by decide) (fun c_10 => ?_) (fun c_10 => ?_)
    · have c_10 : pa = 8 := (nI_eq (a := pa) (b := 8) (by omega) (by omega)).mp c_10
      refine lv_iconst (v := 1) hx hb dX12_isFull_42 (by decide) ?_
      refine lv_goto (tgt := 47) hx hb dX12_isFull_43 (by decide) ?_
      exact W.zret (ty := .boolean) (v := 1) hx hb hr (by decide) (fun t ht h9 => ⟨1, rfl, Or.inl ⟨rfl, Or.inl ⟨c_1, by omega⟩⟩, ht⟩) (fun q h => by cases h) dX12_isFull_47
    · have c_10 : ¬ (pa = 8) := fun hh9 => c_10 ((nI_eq (a := pa) (b := 8) (by omega) (by omega)).mpr hh9)
      refine lv_iload_n hx hb dX12_isFull_13 rfl (lv_at hl 1 rfl) ?_
      refine lv_iconst (v := 1) hx hb dX12_isFull_14 (by decide) ?_
      refine lv_icmp_ne (tgt := 26) hx hb dX12_isFull_15 (by decide) (fun c_15 => ?_) (fun c_15 => ?_)
      · refine lv_iload_n hx hb dX12_isFull_26 rfl (lv_at hl 1 rfl) ?_
        refine lv_iconst (v := 2) hx hb dX12_isFull_27 (by decide) ?_
        refine lv_icmp_ne (tgt := 46) hx hb dX12_isFull_28 (by decide) (fun c_28 => ?_) (fun c_28 => ?_)
        · refine lv_iconst (v := 0) hx hb dX12_isFull_46 (by decide) ?_
          exact W.zret (ty := .boolean) (v := 0) hx hb hr (by decide) (fun t ht h9 => ⟨0, rfl, Or.inr ⟨rfl, fun z => z.elim (fun z => by omega) (fun z => z.elim (fun z => absurd z.1 c_15) (fun z => absurd z.1 c_28))⟩, ht⟩) (fun q h => by cases h) dX12_isFull_47
        · refine lv_aload_n hx hb dX12_isFull_31 rfl (lv_at hl 0 rfl) ?_
          refine pl_get (ci := 12) (v := .ref rs) (C := RX12) (T := TX12) (N := 32) hx hb hT iX12 hown hK hW hT_o.1 hS_o rfl 0 (by decide) w1082 rfl dX12_isFull_32 ?_
          refine lv_iconst (v := 0) hx hb dX12_isFull_35 (by decide) ?_
          refine pl_iald hx hb hK hW hT_x_1.1 hS_rs (vp_in_nI (n := 0) (N := 266) (by omega) (by omega)) dX12_isFull_36 ?_
          refine lv_topi (fun y_37 ey_37 => ?_)
          obtain rfl : y_37 = nI mn := ey_37.trans h0_
          refine lv_bipush (v := 40) hx hb dX12_isFull_37 (by decide) ?_
          refine lv_icmp_ne (tgt := 46) hx hb dX12_isFull_39 (by decide) (fun c_39 => ?_) (fun c_39 => ?_)
          · have c_39 : ¬ (mn = 40) := fun hh9 => c_39 ((nI_eq (a := mn) (b := 40) (by omega) (by omega)).mpr hh9)
            refine lv_iconst (v := 0) hx hb dX12_isFull_46 (by decide) ?_
            exact W.zret (ty := .boolean) (v := 0) hx hb hr (by decide) (fun t ht h9 => ⟨0, rfl, Or.inr ⟨rfl, fun z => z.elim (fun z => by omega) (fun z => z.elim (fun z => absurd z.1 c_15) (fun z => by omega))⟩, ht⟩) (fun q h => by cases h) dX12_isFull_47
          · have c_39 : mn = 40 := (nI_eq (a := mn) (b := 40) (by omega) (by omega)).mp c_39
            refine lv_iconst (v := 1) hx hb dX12_isFull_42 (by decide) ?_
            refine lv_goto (tgt := 47) hx hb dX12_isFull_43 (by decide) ?_
            exact W.zret (ty := .boolean) (v := 1) hx hb hr (by decide) (fun t ht h9 => ⟨1, rfl, Or.inl ⟨rfl, Or.inr (Or.inr ⟨c_28, by omega⟩)⟩, ht⟩) (fun q h => by cases h) dX12_isFull_47
      · refine lv_aload_n hx hb dX12_isFull_18 rfl (lv_at hl 0 rfl) ?_
        refine pl_get (ci := 12) (v := .int (nI ki)) (C := RX12) (T := TX12) (N := 32) hx hb hT iX12 hown hK hW hT_o.1 hS_o rfl 6 (by decide) w1088 rfl dX12_isFull_19 ?_
        refine lv_iconst (v := 4) hx hb dX12_isFull_22 (by decide) ?_
        refine lv_icmp_eq (tgt := 42) hx hb dX12_isFull_23 (by decide) (fun c_23 => ?_) (fun c_23 => ?_)
        · have c_23 : ki = 4 := (nI_eq (a := ki) (b := 4) (by omega) (by omega)).mp c_23
          refine lv_iconst (v := 1) hx hb dX12_isFull_42 (by decide) ?_
          refine lv_goto (tgt := 47) hx hb dX12_isFull_43 (by decide) ?_
          exact W.zret (ty := .boolean) (v := 1) hx hb hr (by decide) (fun t ht h9 => ⟨1, rfl, Or.inl ⟨rfl, Or.inr (Or.inl ⟨c_15, by omega⟩)⟩, ht⟩) (fun q h => by cases h) dX12_isFull_47
        · have c_23 : ¬ (ki = 4) := fun hh9 => c_23 ((nI_eq (a := ki) (b := 4) (by omega) (by omega)).mpr hh9)
          refine lv_iload_n hx hb dX12_isFull_26 rfl (lv_at hl 1 rfl) ?_
          refine lv_iconst (v := 2) hx hb dX12_isFull_27 (by decide) ?_
          refine lv_icmp_ne (tgt := 46) hx hb dX12_isFull_28 (by decide) (fun c_28 => ?_) (fun c_28 => ?_)
          · refine lv_iconst (v := 0) hx hb dX12_isFull_46 (by decide) ?_
            exact W.zret (ty := .boolean) (v := 0) hx hb hr (by decide) (fun t ht h9 => ⟨0, rfl, Or.inr ⟨rfl, fun z => z.elim (fun z => by omega) (fun z => z.elim (fun z => by omega) (fun z => absurd z.1 c_28))⟩, ht⟩) (fun q h => by cases h) dX12_isFull_47
          · refine lv_aload_n hx hb dX12_isFull_31 rfl (lv_at hl 0 rfl) ?_
            refine pl_get (ci := 12) (v := .ref rs) (C := RX12) (T := TX12) (N := 32) hx hb hT iX12 hown hK hW hT_o.1 hS_o rfl 0 (by decide) w1082 rfl dX12_isFull_32 ?_
            refine lv_iconst (v := 0) hx hb dX12_isFull_35 (by decide) ?_
            refine pl_iald hx hb hK hW hT_x_1.1 hS_rs (vp_in_nI (n := 0) (N := 266) (by omega) (by omega)) dX12_isFull_36 ?_
            refine lv_topi (fun y_38 ey_38 => ?_)
            obtain rfl : y_38 = nI mn := ey_38.trans h0_
            refine lv_bipush (v := 40) hx hb dX12_isFull_37 (by decide) ?_
            refine lv_icmp_ne (tgt := 46) hx hb dX12_isFull_39 (by decide) (fun c_39 => ?_) (fun c_39 => ?_)
            · have c_39 : ¬ (mn = 40) := fun hh9 => c_39 ((nI_eq (a := mn) (b := 40) (by omega) (by omega)).mpr hh9)
              refine lv_iconst (v := 0) hx hb dX12_isFull_46 (by decide) ?_
              exact W.zret (ty := .boolean) (v := 0) hx hb hr (by decide) (fun t ht h9 => ⟨0, rfl, Or.inr ⟨rfl, fun z => z.elim (fun z => by omega) (fun z => z.elim (fun z => by omega) (fun z => by omega))⟩, ht⟩) (fun q h => by cases h) dX12_isFull_47
            · have c_39 : mn = 40 := (nI_eq (a := mn) (b := 40) (by omega) (by omega)).mp c_39
              refine lv_iconst (v := 1) hx hb dX12_isFull_42 (by decide) ?_
              refine lv_goto (tgt := 47) hx hb dX12_isFull_43 (by decide) ?_
              exact W.zret (ty := .boolean) (v := 1) hx hb hr (by decide) (fun t ht h9 => ⟨1, rfl, Or.inl ⟨rfl, Or.inr (Or.inr ⟨c_28, by omega⟩)⟩, ht⟩) (fun q h => by cases h) dX12_isFull_47

