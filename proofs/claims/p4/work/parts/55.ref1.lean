theorem sk_up {g : Nat → Int32} {sp gs sn : Nat} {y : Int32} (h : ∀ k, sp ≤ k → k < gs → k < sn ∧ g k = 32) (h1 : gs < sn) (hn : sn ≤ 900) (ey : y = g (nI gs).toNatClampNeg) (h2 : y = 32) : ∀ k, sp ≤ k → k < gs + 1 → k < sn ∧ g k = 32 := fun k a b => by
  rw [nI_clamp (by omega)] at ey
  by_cases e : k = gs
  · rw [e, ← ey]; exact ⟨h1, h2⟩
  · exact h k a (by omega)
theorem lt_up {g : Nat → Int32} {sp i sn : Nat} {P : Int32 → Prop} (h : ∀ k, sp ≤ k → k < sp + i → k < sn ∧ P (g k)) (h1 : sp + i < sn) (h2 : P (g (sp + i))) : ∀ k, sp ≤ k → k < sp + (i + 1) → k < sn ∧ P (g k) := fun k a b => by
  by_cases e : k = sp + i
  · rw [e]; exact ⟨h1, h2⟩
  · exact h k a (by omega)
set_option maxHeartbeats 4000000 in
set_option maxRecDepth 100000 in
theorem f_isLetter (l : Launch) (dC : Nat → ClassId) (dI : Nat → Nat → Nat) (sz : Nat) (v : Int32) : Met l yX12_isLetter (wT yX12_isLetter cX12_isLetter 1 (some .boolean)) ({ frames := 1, cells := 0, slots := 0, locals := 25 }) (pcW dC dI [.int v] sz [] []) (vp_Si (fun r => (r = 1 ∧ isL v = true) ∨ (r = 0 ∧ ¬ isL v = true))) 0 0 (fun _ => False) := by
  refine Met.ofW (cc := cX12_isLetter) (maxL := 1) (ret := (some .boolean)) (by decide) rfl ?_
  intro p e s m args below meth c s₁ B hml hv
  obtain ⟨rfl, hsz, hP, hK, hD0⟩ := hv
  have hx := B.exec
  have hb := B.bytes
  have hr := B.returns
  have hT : ∀ wd ∈ TB, wd.before [.int v].toArray s = true := fun wd h => atoms_spec (ws := wT yX12_isLetter cX12_isLetter 1 (some .boolean)) B.pre wd (List.mem_cons_of_mem _ h)
  have hown : s.vm.findClass RX12 = some m.cls := findClass_of_methodNamed B.named
  have hlocks := B.notSynchronized
  subst hsz
  have hl := lv_entry ([.int v]) (n := 1) (Nat.le_of_ble_eq_true rfl)
  rw [lg_entry_eq]
  generalize (lg_sl ([.int v]) ++ List.replicate (1 - (lg_sl ([.int v])).length) Slot.unset).toArray = ls at hl ⊢
  have hl : lv_has ls 1 [(0, .int v)] := hl
  refine lv_iload_n hx hb dX12_isLetter_0 rfl (lv_at hl 0 rfl) ?_
  refine lv_i2l hx hb dX12_isLetter_1 rfl ?_
  refine lv_topl (fun z_1 ez_1 => ?_)
  refine lv_ldc2 (v := 97) hx hb hown (hT _ w1205) dX12_isLetter_2 ?_
  refine lv_ldc2 (v := 122) hx hb hown (hT _ w1206) dX12_isLetter_5 ?_
  refine vp_callSi (va_Run.run (va_runS (As := [.long z_1, .long 97, .long 122]) (rest := []) ⟨hx, hb, hml, hown, hT⟩ (m_isIn l dC dI s.heap.size z_1 97 122) (va_cwS 3 hT (gS w1187 w1188 w14 w1189) rfl rfl rfl (by decide +kernel) ⟨(Nat.le_of_ble_eq_true rfl), (Nat.le_of_ble_eq_true rfl)⟩) ⟨pcW.blind, pcW.pre (va_P0 _ _ _) (hK.sub (tys' := []) [] rfl) (va_D0 (fun _ => True))⟩ rfl rfl hl.1 rfl (lv_room (Nat.le_of_ble_eq_true rfl)) dX12_isLetter_8 ⟨(Nat.le_of_ble_eq_true rfl), (Nat.le_of_ble_eq_true rfl)⟩)) (fun r_2 hr_2 => ?_)
  rcases isInc hr_2 with hc_ | hc_
  · obtain ⟨rfl, hin_⟩ := hc_
    have hL := (isL_6 ez_1).mp hin_
    exact W.zret (ty := .boolean) (v := 1) hx hb hr (by decide) (fun t ht h9 => ⟨1, rfl, Or.inl ⟨rfl, hL⟩, ht⟩) (fun q h => by cases h) dX12_isLetter_11
  · obtain ⟨rfl, hin_⟩ := hc_
    have hL := fun q => hin_ ((isL_6 ez_1).mpr q)
    exact W.zret (ty := .boolean) (v := 0) hx hb hr (by decide) (fun t ht h9 => ⟨0, rfl, Or.inr ⟨rfl, hL⟩, ht⟩) (fun q h => by cases h) dX12_isLetter_11

set_option maxHeartbeats 4000000 in
set_option maxRecDepth 100000 in
theorem f_isDigit (l : Launch) (dC : Nat → ClassId) (dI : Nat → Nat → Nat) (sz : Nat) (v : Int32) : Met l yX12_isDigit (wT yX12_isDigit cX12_isDigit 1 (some .boolean)) ({ frames := 1, cells := 0, slots := 0, locals := 25 }) (pcW dC dI [.int v] sz [] []) (vp_Si (fun r => (r = 1 ∧ isD v = true) ∨ (r = 0 ∧ ¬ isD v = true))) 0 0 (fun _ => False) := by
  refine Met.ofW (cc := cX12_isDigit) (maxL := 1) (ret := (some .boolean)) (by decide) rfl ?_
  intro p e s m args below meth c s₁ B hml hv
  obtain ⟨rfl, hsz, hP, hK, hD0⟩ := hv
  have hx := B.exec
  have hb := B.bytes
  have hr := B.returns
  have hT : ∀ wd ∈ TB, wd.before [.int v].toArray s = true := fun wd h => atoms_spec (ws := wT yX12_isDigit cX12_isDigit 1 (some .boolean)) B.pre wd (List.mem_cons_of_mem _ h)
  have hown : s.vm.findClass RX12 = some m.cls := findClass_of_methodNamed B.named
  have hlocks := B.notSynchronized
  subst hsz
  have hl := lv_entry ([.int v]) (n := 1) (Nat.le_of_ble_eq_true rfl)
  rw [lg_entry_eq]
  generalize (lg_sl ([.int v]) ++ List.replicate (1 - (lg_sl ([.int v])).length) Slot.unset).toArray = ls at hl ⊢
  have hl : lv_has ls 1 [(0, .int v)] := hl
  refine lv_iload_n hx hb dX12_isDigit_0 rfl (lv_at hl 0 rfl) ?_
  refine lv_i2l hx hb dX12_isDigit_1 rfl ?_
  refine lv_topl (fun z_1 ez_1 => ?_)
  refine lv_ldc2 (v := 48) hx hb hown (hT _ w1245) dX12_isDigit_2 ?_
  refine lv_ldc2 (v := 57) hx hb hown (hT _ w1246) dX12_isDigit_5 ?_
  refine vp_callSi (va_Run.run (va_runS (As := [.long z_1, .long 48, .long 57]) (rest := []) ⟨hx, hb, hml, hown, hT⟩ (m_isIn l dC dI s.heap.size z_1 48 57) (va_cwS 3 hT (gS w1187 w1188 w14 w1189) rfl rfl rfl (by decide +kernel) ⟨(Nat.le_of_ble_eq_true rfl), (Nat.le_of_ble_eq_true rfl)⟩) ⟨pcW.blind, pcW.pre (va_P0 _ _ _) (hK.sub (tys' := []) [] rfl) (va_D0 (fun _ => True))⟩ rfl rfl hl.1 rfl (lv_room (Nat.le_of_ble_eq_true rfl)) dX12_isDigit_8 ⟨(Nat.le_of_ble_eq_true rfl), (Nat.le_of_ble_eq_true rfl)⟩)) (fun r_2 hr_2 => ?_)
  rcases isInc hr_2 with hc_ | hc_
  · obtain ⟨rfl, hin_⟩ := hc_
    have hL := (isD_6 ez_1).mp hin_
    exact W.zret (ty := .boolean) (v := 1) hx hb hr (by decide) (fun t ht h9 => ⟨1, rfl, Or.inl ⟨rfl, hL⟩, ht⟩) (fun q h => by cases h) dX12_isDigit_11
  · obtain ⟨rfl, hin_⟩ := hc_
    have hL := fun q => hin_ ((isD_6 ez_1).mpr q)
    exact W.zret (ty := .boolean) (v := 0) hx hb hr (by decide) (fun t ht h9 => ⟨0, rfl, Or.inr ⟨rfl, hL⟩, ht⟩) (fun q h => by cases h) dX12_isDigit_11

set_option maxHeartbeats 4000000 in
set_option maxRecDepth 100000 in
theorem f_peek (l : Launch) (dC : Nat → ClassId) (dI : Nat → Nat → Nat) (cy : Nat → ClassId) (L : List Nat) (kap : Nat → Nat) (pr : Pr) (S : Nat → va_E) (sz : Nat) (o : Nat) (hTy : Ty cy L kap pr S) (hT_o : TK L kap o 12) (g : Nat → Int32) (nm : Nat → Int64) (sp : Nat) (sn : Nat) (wr : Int32) (wa : Int32) (sen : Int32) (ra : Int32) (pa : Nat) (ki : Nat) (rs : Nat) (hM : MF S o g nm sp sn wr wa sen ra pa ki rs) (hsp : sp ≤ sn) (hg : BR g) : Met l yX12_peek (wT yX12_peek cX12_peek 1 (some .int)) ({ frames := 0, cells := 0, slots := 0, locals := 0 }) (pcN dC dI [.ref o] sz (va_pl L S) (cyT cy) NLs []) (va_Qi (fun r S' => Ty cy L kap pr S' ∧ Fr kap [12] S S' ∧ (MF S' o g nm (SK g sn sp) sn wr wa sen ra pa ki rs ∧ r = PK g sn sp)) (fun S' t => pB dC dI (AL L sz) (va_pl L S') (cyT cy) t) (AL L sz)) 0 0 (AL L sz) := by
  refine Met.ofW (cc := cX12_peek) (maxL := 1) (ret := (some .int)) (by decide) rfl ?_
  intro p e s m args below meth c s₁ B hml hv
  obtain ⟨rfl, hsz, hP, hK, hD0, hN, -⟩ := hv
  have hx := B.exec
  have hb := B.bytes
  have hr := B.returns
  have hT : ∀ wd ∈ TB, wd.before [.ref o].toArray s = true := fun wd h => atoms_spec (ws := wT yX12_peek cX12_peek 1 (some .int)) B.pre wd (List.mem_cons_of_mem _ h)
  have hown : s.vm.findClass RX12 = some m.cls := findClass_of_methodNamed B.named
  have hlocks := B.notSynchronized
  subst hsz
  have hW : PW dC dI L (AL L s.heap.size) s.heap S s.heap [] := ⟨hP, pl_self hD0, va_S.rf⟩
  have hA0 : ∀ q, q ∈ L → AL L s.heap.size q := fun _ h => Or.inl h
  have hA : ∀ q, s.heap.size ≤ q → AL L s.heap.size q := fun _ h => Or.inr h
  have hFr : Fr kap [12] S S := Fr.rf
  have hl := lv_entry ([.ref o]) (n := 1) (Nat.le_of_ble_eq_true rfl)
  rw [lg_entry_eq]
  generalize (lg_sl ([.ref o]) ++ List.replicate (1 - (lg_sl ([.ref o])).length) Slot.unset).toArray = ls at hl ⊢
  have hl : lv_has ls 1 [(0, .ref o)] := hl
  obtain ⟨x_1, x_2, x_3, x_4, x_5, x_6, x_7, x_8, x_9, x_10, x_11, x_12, x_13, x_14, x_15, x_16, x_17, x_18, x_19, x_20, x_21, x_22, x_23, x_24, x_25, x_26, x_27, x_28, x_29, x_30, x_31, hS_o, hT_x_1, hT_x_2, hT_x_3, hT_x_4, hT_x_5, hb_x_6, hb_x_7, hb_x_8, hT_x_10, hb_q2, hb_x_11, hb_x_12, hT_x_17, hT_x_18, hb_x_19, hT_x_20, hT_x_21, hT_x_22, hT_x_23, hT_x_24, hT_x_25, hT_x_26, hT_x_27, hT_x_28, hT_x_29, hT_x_30, hb_x_31⟩ := hTy.k12 hT_o
  have hb_q2 : pr.2 ≤ 900 := hb_q2
  have hS_o : S o = .inr (12, [.ref x_1, .ref x_2, .ref x_3, .ref x_4, .ref x_5, .int (nI x_6), .int (nI x_7), .int (nI x_8), .int x_9, .ref x_10, .int (nI (pr.2)), .int (nI x_11), .int (nI x_12), .int x_13, .int x_14, .int x_15, .int x_16, .ref x_17, .ref x_18, .int (nI x_19), .ref x_20, .ref x_21, .ref x_22, .ref x_23, .ref x_24, .ref x_25, .ref x_26, .ref x_27, .ref x_28, .ref x_29, .ref x_30, .int (nI x_31)]) := hS_o
  obtain ⟨hMK_, h14_, h15_, h16_, h9_, h3_⟩ := hM
  obtain ⟨e12_, e11_, e13_, e5_, e6_, e0_⟩ := MKe hMK_ hS_o rfl rfl rfl rfl rfl rfl (by omega) (by omega) (by omega) (by omega)
  subst e12_ e11_ e13_ e5_ e6_ e0_
  have e14_ := h14_.symm.trans (inf_i hS_o rfl)
  subst e14_
  have e15_ := h15_.symm.trans (inf_i hS_o rfl)
  subst e15_
  have e16_ := h16_.symm.trans (inf_i hS_o rfl)
  subst e16_
  obtain ⟨f_32, hS_x_10⟩ := hTy.k55 hT_x_10
  have e9_ := h9_.symm.trans (fld_i hS_o rfl hS_x_10)
  subst e9_
  obtain ⟨f_33, hS_x_4⟩ := hTy.k53 hT_x_4
  have e3_ := h3_.symm.trans (lfd_i hS_o rfl hS_x_4)
  subst e3_
  have loop : ∀ (fuel : Nat) (gs : Nat) (SS : Nat → va_E) (H : Heap) (locs : List Loc) (ls : Array Slot), 901 - gs < fuel → (SS o = .inr (12, [.ref rs, .ref x_2, .ref x_3, .ref x_4, .ref x_5, .int (nI pa), .int (nI ki), .int (nI x_8), .int x_9, .ref x_10, .int (nI (pr.2)), .int (nI sn), .int (nI gs), .int wr, .int wa, .int sen, .int ra, .ref x_17, .ref x_18, .int (nI x_19), .ref x_20, .ref x_21, .ref x_22, .ref x_23, .ref x_24, .ref x_25, .ref x_26, .ref x_27, .ref x_28, .ref x_29, .ref x_30, .int (nI x_31)])) → (gs ≤ sn) → (sp ≤ gs) → (∀ k, sp ≤ k → k < gs → k < sn ∧ g k = 32) → Ty cy L kap pr SS → Fr kap [12] S SS → Fr kap [12, 112] S SS → PW dC dI L (AL L s.heap.size) s.heap SS H locs → lv_has ls 1 [(0, .ref o)] → W p l e (headSpec (wT yX12_peek cX12_peek 1 (some .int)) { frames := 0, cells := 0, slots := 0, locals := 0 }).room s m [.ref o].toArray below meth c H locs 0 0 (MQ below (va_Qi (fun r S' => Ty cy L kap pr S' ∧ Fr kap [12] S S' ∧ (MF S' o g nm (SK g sn sp) sn wr wa sen ra pa ki rs ∧ r = PK g sn sp)) (fun S' t => pB dC dI (AL L s.heap.size) (va_pl L S') (cyT cy) t) (AL L s.heap.size)) [.ref o].toArray s 0 0 (AL L s.heap.size)) (F0 m 0 ls []) := by
    intro fuel
    induction fuel with
    | zero => intro gs SS H locs ls h; exact absurd h (Nat.not_lt_zero _)
    | succ fu0 ih0 =>
      intro gs S_34 H locs ls hm0 hSl hx9 hy9 hsk hTy hFr hFl0 hW hl
      have hS_x_10 := hFl0.at hT_x_10 (by decide) hS_x_10
      have hS_x_4 := hFl0.at hT_x_4 (by decide) hS_x_4
      refine lv_aload_n hx hb dX12_peek_0 rfl (lv_at hl 0 rfl) ?_
      refine pl_get (ci := 12) (v := .int (nI gs)) (C := RX12) (T := TX12) (N := 32) hx hb hT iX12 hown hK hW hT_o.1 hSl rfl 12 (by decide) w1094 rfl dX12_peek_1 ?_
      refine lv_aload_n hx hb dX12_peek_4 rfl (lv_at hl 0 rfl) ?_
      refine pl_get (ci := 12) (v := .int (nI sn)) (C := RX12) (T := TX12) (N := 32) hx hb hT iX12 hown hK hW hT_o.1 hSl rfl 11 (by decide) w1093 rfl dX12_peek_5 ?_
      refine lv_icmp_ge (tgt := 38) hx hb dX12_peek_8 (by decide) (fun c_8 => ?_) (fun c_8 => ?_)
      · have c_8 : sn ≤ gs := (nI_leI (a := sn) (b := gs) (by omega) (by omega)).mp c_8
        have hSK : SK g sn sp = gs := SK_s (by omega) (by omega) hsk (fun z => by omega)
        refine lv_aload_n hx hb dX12_peek_38 rfl (lv_at hl 0 rfl) ?_
        refine pl_get (ci := 12) (v := .int (nI gs)) (C := RX12) (T := TX12) (N := 32) hx hb hT iX12 hown hK hW hT_o.1 hSl rfl 12 (by decide) w1094 rfl dX12_peek_39 ?_
        refine lv_aload_n hx hb dX12_peek_42 rfl (lv_at hl 0 rfl) ?_
        refine pl_get (ci := 12) (v := .int (nI sn)) (C := RX12) (T := TX12) (N := 32) hx hb hT iX12 hown hK hW hT_o.1 hSl rfl 11 (by decide) w1093 rfl dX12_peek_43 ?_
        refine lv_icmp_ge (tgt := 65) hx hb dX12_peek_46 (by decide) (fun c_46 => ?_) (fun c_46 => ?_)
        · have c_46 : sn ≤ gs := (nI_leI (a := sn) (b := gs) (by omega) (by omega)).mp c_46
          refine lv_iconst (v := (-1)) hx hb dX12_peek_65 (by decide) ?_
          exact W.iret (v := (-1)) hx hb hr (fun t ht h9 => ⟨⟨(-1), S_34, rfl, ⟨hTy, hFr, ⟨by rw [hSK]; exact ⟨MKi (sp := gs) (sn := sn) (pa := pa) (ki := ki) hSl rfl rfl rfl rfl rfl rfl (by omega) (by omega) (by omega) (by omega), inf_i hSl rfl, inf_i hSl rfl, inf_i hSl rfl, fld_i hSl rfl hS_x_10, lfd_i hSl rfl hS_x_4⟩, by rw [PK, hSK, if_neg (by omega)]⟩⟩, by rw [ht]; exact hW.1, va_K.moved h9.alike hK, hW.2.1⟩, hW.2.2.F ht⟩) hW.2.2.2.2 dX12_peek_66
        · have c_46 : ¬ (sn ≤ gs) := fun hh9 => c_46 ((nI_leI (a := sn) (b := gs) (by omega) (by omega)).mpr hh9)
          refine lv_aload_n hx hb dX12_peek_49 rfl (lv_at hl 0 rfl) ?_
          refine pl_get (ci := 12) (v := .ref x_10) (C := RX12) (T := TX12) (N := 32) hx hb hT iX12 hown hK hW hT_o.1 hSl rfl 9 (by decide) w1091 rfl dX12_peek_50 ?_
          refine lv_aload_n hx hb dX12_peek_53 rfl (lv_at hl 0 rfl) ?_
          refine pl_get (ci := 12) (v := .int (nI gs)) (C := RX12) (T := TX12) (N := 32) hx hb hT iX12 hown hK hW hT_o.1 hSl rfl 12 (by decide) w1094 rfl dX12_peek_54 ?_
          refine pl_bald hx hb hK hW hT_x_10.1 hS_x_10 (vp_in_nI (n := gs) (N := 900) (by omega) (by omega)) dX12_peek_57 ?_
          refine lv_topi (fun y_35 ey_35 => ?_)
          refine lv_sipush (v := 255) hx hb dX12_peek_58 (by decide) ?_
          refine lv_iand hx hb dX12_peek_61 ?_
          refine lv_topi (fun z_36 ez_36 => ?_)
          refine lv_goto (tgt := 66) hx hb dX12_peek_62 (by decide) ?_
          exact W.iret (v := z_36) hx hb hr (fun t ht h9 => ⟨⟨z_36, S_34, rfl, ⟨hTy, hFr, ⟨by rw [hSK]; exact ⟨MKi (sp := gs) (sn := sn) (pa := pa) (ki := ki) hSl rfl rfl rfl rfl rfl rfl (by omega) (by omega) (by omega) (by omega), inf_i hSl rfl, inf_i hSl rfl, inf_i hSl rfl, fld_i hSl rfl hS_x_10, lfd_i hSl rfl hS_x_4⟩, by rw [PK, hSK, if_pos (by omega), ez_36, ey_35, nI_clamp (by omega)]⟩⟩, by rw [ht]; exact hW.1, va_K.moved h9.alike hK, hW.2.1⟩, hW.2.2.F ht⟩) hW.2.2.2.2 dX12_peek_66
      · have c_8 : ¬ (sn ≤ gs) := fun hh9 => c_8 ((nI_leI (a := sn) (b := gs) (by omega) (by omega)).mpr hh9)
        refine lv_aload_n hx hb dX12_peek_11 rfl (lv_at hl 0 rfl) ?_
        refine pl_get (ci := 12) (v := .ref x_10) (C := RX12) (T := TX12) (N := 32) hx hb hT iX12 hown hK hW hT_o.1 hSl rfl 9 (by decide) w1091 rfl dX12_peek_12 ?_
        refine lv_aload_n hx hb dX12_peek_15 rfl (lv_at hl 0 rfl) ?_
        refine pl_get (ci := 12) (v := .int (nI gs)) (C := RX12) (T := TX12) (N := 32) hx hb hT iX12 hown hK hW hT_o.1 hSl rfl 12 (by decide) w1094 rfl dX12_peek_16 ?_
        refine pl_bald hx hb hK hW hT_x_10.1 hS_x_10 (vp_in_nI (n := gs) (N := 900) (by omega) (by omega)) dX12_peek_19 ?_
        refine lv_topi (fun y_37 ey_37 => ?_)
        refine lv_bipush (v := 32) hx hb dX12_peek_20 (by decide) ?_
        refine lv_icmp_ne (tgt := 38) hx hb dX12_peek_22 (by decide) (fun c_22 => ?_) (fun c_22 => ?_)
        · have hSK : SK g sn sp = gs := SK_s (by omega) (by omega) hsk (fun z => c_22 (by rw [ey_37, nI_clamp (by omega)]; exact z.2))
          refine lv_aload_n hx hb dX12_peek_38 rfl (lv_at hl 0 rfl) ?_
          refine pl_get (ci := 12) (v := .int (nI gs)) (C := RX12) (T := TX12) (N := 32) hx hb hT iX12 hown hK hW hT_o.1 hSl rfl 12 (by decide) w1094 rfl dX12_peek_39 ?_
          refine lv_aload_n hx hb dX12_peek_42 rfl (lv_at hl 0 rfl) ?_
          refine pl_get (ci := 12) (v := .int (nI sn)) (C := RX12) (T := TX12) (N := 32) hx hb hT iX12 hown hK hW hT_o.1 hSl rfl 11 (by decide) w1093 rfl dX12_peek_43 ?_
          refine lv_icmp_ge (tgt := 65) hx hb dX12_peek_46 (by decide) (fun c_46 => ?_) (fun c_46 => ?_)
          · have c_46 : sn ≤ gs := (nI_leI (a := sn) (b := gs) (by omega) (by omega)).mp c_46
            refine lv_iconst (v := (-1)) hx hb dX12_peek_65 (by decide) ?_
            exact W.iret (v := (-1)) hx hb hr (fun t ht h9 => ⟨⟨(-1), S_34, rfl, ⟨hTy, hFr, ⟨by rw [hSK]; exact ⟨MKi (sp := gs) (sn := sn) (pa := pa) (ki := ki) hSl rfl rfl rfl rfl rfl rfl (by omega) (by omega) (by omega) (by omega), inf_i hSl rfl, inf_i hSl rfl, inf_i hSl rfl, fld_i hSl rfl hS_x_10, lfd_i hSl rfl hS_x_4⟩, by rw [PK, hSK, if_neg (by omega)]⟩⟩, by rw [ht]; exact hW.1, va_K.moved h9.alike hK, hW.2.1⟩, hW.2.2.F ht⟩) hW.2.2.2.2 dX12_peek_66
          · have c_46 : ¬ (sn ≤ gs) := fun hh9 => c_46 ((nI_leI (a := sn) (b := gs) (by omega) (by omega)).mpr hh9)
            refine lv_aload_n hx hb dX12_peek_49 rfl (lv_at hl 0 rfl) ?_
            refine pl_get (ci := 12) (v := .ref x_10) (C := RX12) (T := TX12) (N := 32) hx hb hT iX12 hown hK hW hT_o.1 hSl rfl 9 (by decide) w1091 rfl dX12_peek_50 ?_
            refine lv_aload_n hx hb dX12_peek_53 rfl (lv_at hl 0 rfl) ?_
            refine pl_get (ci := 12) (v := .int (nI gs)) (C := RX12) (T := TX12) (N := 32) hx hb hT iX12 hown hK hW hT_o.1 hSl rfl 12 (by decide) w1094 rfl dX12_peek_54 ?_
            refine pl_bald hx hb hK hW hT_x_10.1 hS_x_10 (vp_in_nI (n := gs) (N := 900) (by omega) (by omega)) dX12_peek_57 ?_
            refine lv_topi (fun y_38 ey_38 => ?_)
            refine lv_sipush (v := 255) hx hb dX12_peek_58 (by decide) ?_
            refine lv_iand hx hb dX12_peek_61 ?_
            refine lv_topi (fun z_39 ez_39 => ?_)
            refine lv_goto (tgt := 66) hx hb dX12_peek_62 (by decide) ?_
            exact W.iret (v := z_39) hx hb hr (fun t ht h9 => ⟨⟨z_39, S_34, rfl, ⟨hTy, hFr, ⟨by rw [hSK]; exact ⟨MKi (sp := gs) (sn := sn) (pa := pa) (ki := ki) hSl rfl rfl rfl rfl rfl rfl (by omega) (by omega) (by omega) (by omega), inf_i hSl rfl, inf_i hSl rfl, inf_i hSl rfl, fld_i hSl rfl hS_x_10, lfd_i hSl rfl hS_x_4⟩, by rw [PK, hSK, if_pos (by omega), ez_39, ey_38, nI_clamp (by omega)]⟩⟩, by rw [ht]; exact hW.1, va_K.moved h9.alike hK, hW.2.1⟩, hW.2.2.F ht⟩) hW.2.2.2.2 dX12_peek_66
        · refine lv_aload_n hx hb dX12_peek_25 rfl (lv_at hl 0 rfl) ?_
          refine lv_dup hx hb dX12_peek_26 rfl ?_
          refine pl_get (ci := 12) (v := .int (nI gs)) (C := RX12) (T := TX12) (N := 32) hx hb hT iX12 hown hK hW hT_o.1 hSl rfl 12 (by decide) w1094 rfl dX12_peek_27 ?_
          refine lv_iconst (v := 1) hx hb dX12_peek_30 (by decide) ?_
          refine lv_iadd hx hb dX12_peek_31 ?_
          refine lv_topi (fun z_40 ez_40 => ?_)
          obtain rfl : z_40 = nI (gs + 1) := ez_40.trans (nI_add (gs) (1))
          refine pl_put (ci := 12) (v := .int (nI (gs + 1))) (ty := .int) (C := RX12) (T := TX12) (N := 32) (fs' := [.ref rs, .ref x_2, .ref x_3, .ref x_4, .ref x_5, .int (nI pa), .int (nI ki), .int (nI x_8), .int x_9, .ref x_10, .int (nI (pr.2)), .int (nI sn), .int (nI (gs + 1)), .int wr, .int wa, .int sen, .int ra, .ref x_17, .ref x_18, .int (nI x_19), .ref x_20, .ref x_21, .ref x_22, .ref x_23, .ref x_24, .ref x_25, .ref x_26, .ref x_27, .ref x_28, .ref x_29, .ref x_30, .int (nI x_31)]) hx hb hT iX12 tyX12 tyX12_ok nmX12 hown hK hW hT_o.1 hSl rfl 12 (by decide) w1094 rfl (by decide +kernel) rfl rfl (Nat.le_of_ble_eq_true rfl) rfl dX12_peek_32 (fun H locs S_41 e1 hW => ?_)
          have hTy := hTy.u12 e1 hT_o ⟨rs, x_2, x_3, x_4, x_5, pa, ki, x_8, x_9, x_10, sn, gs + 1, wr, wa, sen, ra, x_17, x_18, x_19, x_20, x_21, x_22, x_23, x_24, x_25, x_26, x_27, x_28, x_29, x_30, x_31, rfl, hT_x_1, hT_x_2, hT_x_3, hT_x_4, hT_x_5, (by omega), (by omega), (by omega), hT_x_10, (by show pr.2 ≤ 900; omega), (by omega), (by omega), hT_x_17, hT_x_18, (by omega), hT_x_20, hT_x_21, hT_x_22, hT_x_23, hT_x_24, hT_x_25, hT_x_26, hT_x_27, hT_x_28, hT_x_29, hT_x_30, (by omega)⟩
          have hS_x_10 := un e1 hT_x_10 hT_o (by decide) hS_x_10
          have hS_x_4 := un e1 hT_x_4 hT_o (by decide) hS_x_4
          have hws := (show wrs (.inr (12, [.ref rs, .ref x_2, .ref x_3, .ref x_4, .ref x_5, .int (nI pa), .int (nI ki), .int (nI x_8), .int x_9, .ref x_10, .int (nI (pr.2)), .int (nI sn), .int (nI (gs + 1)), .int wr, .int wa, .int sen, .int ra, .ref x_17, .ref x_18, .int (nI x_19), .ref x_20, .ref x_21, .ref x_22, .ref x_23, .ref x_24, .ref x_25, .ref x_26, .ref x_27, .ref x_28, .ref x_29, .ref x_30, .int (nI x_31)])) = wrs (S_34 o) from by rw [hSl]; rfl)
          have hFr := ufs hFr e1 hT_o (by decide) hws
          have hFl0 := ufs hFl0 e1 hT_o (by decide) hws
          have hSl := us e1
          refine lv_goto (tgt := 0) hx hb dX12_peek_35 (by decide) ?_
          exact ih0 (gs + 1) _ _ _ ls (by omega) hSl (by omega) (by omega) (sk_up hsk (by omega) (by omega) ey_37 c_22) hTy hFr hFl0 hW (lv_sub hl [0] rfl)
  exact loop ((901 - sp) + 1) sp _ _ _ ls (Nat.lt_succ_self _) hS_o (by omega) (by omega) (fun k a b => by omega) hTy hFr Fr.rf hW (lv_sub hl [0] rfl)

set_option maxHeartbeats 4000000 in
set_option maxRecDepth 100000 in
theorem f_fails (l : Launch) (dC : Nat → ClassId) (dI : Nat → Nat → Nat) (cy : Nat → ClassId) (L : List Nat) (kap : Nat → Nat) (pr : Pr) (S : Nat → va_E) (sz : Nat) (o : Nat) (wh : Int32) (pl : Int32) (hTy : Ty cy L kap pr S) (hT_o : TK L kap o 12) (g : Nat → Int32) (nm : Nat → Int64) (sp : Nat) (sn : Nat) (wr : Int32) (wa : Int32) (sen : Int32) (ra : Int32) (pa : Nat) (ki : Nat) (rs : Nat) (hM : MF S o g nm sp sn wr wa sen ra pa ki rs) (hsp : sp ≤ sn) (hg : BR g) : Met l yX12_fails (wT yX12_fails cX12_fails 3 none) ({ frames := 0, cells := 0, slots := 0, locals := 0 }) (pcN dC dI [.ref o, .int wh, .int pl] sz (va_pl L S) (cyT cy) NLs []) (va_Qv (fun S' => Ty cy L kap pr S' ∧ Fr kap [12, 112] S S' ∧ (∃ wr' wa', MF S' o g nm sp sn wr' wa' sen ra pa ki rs ∧ (wr ≠ 0 → wr' = wr ∧ wa' = wa) ∧ (wr = 0 → wr' = wh ∧ wa' = pl))) (fun S' t => pB dC dI (AL L sz) (va_pl L S') (cyT cy) t) (AL L sz)) 0 0 (AL L sz) := by
  refine Met.ofW (cc := cX12_fails) (maxL := 3) (ret := none) (by decide) rfl ?_
  intro p e s m args below meth c s₁ B hml hv
  obtain ⟨rfl, hsz, hP, hK, hD0, hN, -⟩ := hv
  have hx := B.exec
  have hb := B.bytes
  have hr := B.returns
  have hT : ∀ wd ∈ TB, wd.before [.ref o, .int wh, .int pl].toArray s = true := fun wd h => atoms_spec (ws := wT yX12_fails cX12_fails 3 none) B.pre wd (List.mem_cons_of_mem _ h)
  have hown : s.vm.findClass RX12 = some m.cls := findClass_of_methodNamed B.named
  have hlocks := B.notSynchronized
  subst hsz
  have hW : PW dC dI L (AL L s.heap.size) s.heap S s.heap [] := ⟨hP, pl_self hD0, va_S.rf⟩
  have hA0 : ∀ q, q ∈ L → AL L s.heap.size q := fun _ h => Or.inl h
  have hA : ∀ q, s.heap.size ≤ q → AL L s.heap.size q := fun _ h => Or.inr h
  have hFr : Fr kap [12, 112] S S := Fr.rf
  have hl := lv_entry ([.ref o, .int wh, .int pl]) (n := 3) (Nat.le_of_ble_eq_true rfl)
  rw [lg_entry_eq]
  generalize (lg_sl ([.ref o, .int wh, .int pl]) ++ List.replicate (3 - (lg_sl ([.ref o, .int wh, .int pl])).length) Slot.unset).toArray = ls at hl ⊢
  have hl : lv_has ls 3 [(0, .ref o), (1, .int wh), (2, .int pl)] := hl
  obtain ⟨x_1, x_2, x_3, x_4, x_5, x_6, x_7, x_8, x_9, x_10, x_11, x_12, x_13, x_14, x_15, x_16, x_17, x_18, x_19, x_20, x_21, x_22, x_23, x_24, x_25, x_26, x_27, x_28, x_29, x_30, x_31, hS_o, hT_x_1, hT_x_2, hT_x_3, hT_x_4, hT_x_5, hb_x_6, hb_x_7, hb_x_8, hT_x_10, hb_q2, hb_x_11, hb_x_12, hT_x_17, hT_x_18, hb_x_19, hT_x_20, hT_x_21, hT_x_22, hT_x_23, hT_x_24, hT_x_25, hT_x_26, hT_x_27, hT_x_28, hT_x_29, hT_x_30, hb_x_31⟩ := hTy.k12 hT_o
  have hb_q2 : pr.2 ≤ 900 := hb_q2
  have hS_o : S o = .inr (12, [.ref x_1, .ref x_2, .ref x_3, .ref x_4, .ref x_5, .int (nI x_6), .int (nI x_7), .int (nI x_8), .int x_9, .ref x_10, .int (nI (pr.2)), .int (nI x_11), .int (nI x_12), .int x_13, .int x_14, .int x_15, .int x_16, .ref x_17, .ref x_18, .int (nI x_19), .ref x_20, .ref x_21, .ref x_22, .ref x_23, .ref x_24, .ref x_25, .ref x_26, .ref x_27, .ref x_28, .ref x_29, .ref x_30, .int (nI x_31)]) := hS_o
  obtain ⟨hMK_, h14_, h15_, h16_, h9_, h3_⟩ := hM
  obtain ⟨e12_, e11_, e13_, e5_, e6_, e0_⟩ := MKe hMK_ hS_o rfl rfl rfl rfl rfl rfl (by omega) (by omega) (by omega) (by omega)
  subst e12_ e11_ e13_ e5_ e6_ e0_
  have e14_ := h14_.symm.trans (inf_i hS_o rfl)
  subst e14_
  have e15_ := h15_.symm.trans (inf_i hS_o rfl)
  subst e15_
  have e16_ := h16_.symm.trans (inf_i hS_o rfl)
  subst e16_
  obtain ⟨f_32, hS_x_10⟩ := hTy.k55 hT_x_10
  have e9_ := h9_.symm.trans (fld_i hS_o rfl hS_x_10)
  subst e9_
  obtain ⟨f_33, hS_x_4⟩ := hTy.k53 hT_x_4
  have e3_ := h3_.symm.trans (lfd_i hS_o rfl hS_x_4)
  subst e3_
  refine lv_aload_n hx hb dX12_fails_0 rfl (lv_at hl 0 rfl) ?_
  refine pl_get (ci := 12) (v := .int wr) (C := RX12) (T := TX12) (N := 32) hx hb hT iX12 hown hK hW hT_o.1 hS_o rfl 13 (by decide) w1095 rfl dX12_fails_1 ?_
  refine lv_if_eq (tgt := 8) hx hb dX12_fails_4 (by decide) (fun c_4 => ?_) (fun c_4 => ?_)
  · refine lv_aload_n hx hb dX12_fails_8 rfl (lv_at hl 0 rfl) ?_
    refine lv_iload_n hx hb dX12_fails_9 rfl (lv_at hl 1 rfl) ?_
    refine pl_put (ci := 12) (v := .int wh) (ty := .int) (C := RX12) (T := TX12) (N := 32) (fs' := [.ref rs, .ref x_2, .ref x_3, .ref x_4, .ref x_5, .int (nI pa), .int (nI ki), .int (nI x_8), .int x_9, .ref x_10, .int (nI (pr.2)), .int (nI sn), .int (nI sp), .int wh, .int wa, .int sen, .int ra, .ref x_17, .ref x_18, .int (nI x_19), .ref x_20, .ref x_21, .ref x_22, .ref x_23, .ref x_24, .ref x_25, .ref x_26, .ref x_27, .ref x_28, .ref x_29, .ref x_30, .int (nI x_31)]) hx hb hT iX12 tyX12 tyX12_ok nmX12 hown hK hW hT_o.1 hS_o rfl 13 (by decide) w1095 rfl (by decide +kernel) rfl rfl (Nat.le_of_ble_eq_true rfl) rfl dX12_fails_10 (fun H locs S_34 e1 hW => ?_)
    have hTy := hTy.u12 e1 hT_o ⟨rs, x_2, x_3, x_4, x_5, pa, ki, x_8, x_9, x_10, sn, sp, wh, wa, sen, ra, x_17, x_18, x_19, x_20, x_21, x_22, x_23, x_24, x_25, x_26, x_27, x_28, x_29, x_30, x_31, rfl, hT_x_1, hT_x_2, hT_x_3, hT_x_4, hT_x_5, (by omega), (by omega), (by omega), hT_x_10, (by show pr.2 ≤ 900; omega), (by omega), (by omega), hT_x_17, hT_x_18, (by omega), hT_x_20, hT_x_21, hT_x_22, hT_x_23, hT_x_24, hT_x_25, hT_x_26, hT_x_27, hT_x_28, hT_x_29, hT_x_30, (by omega)⟩
    have hS_x_10 := un e1 hT_x_10 hT_o (by decide) hS_x_10
    have hS_x_4 := un e1 hT_x_4 hT_o (by decide) hS_x_4
    have hws := trivial
    have hFr := ufw hFr e1 hT_o (by decide) (by decide)
    have hS_o := us e1
    refine lv_aload_n hx hb dX12_fails_13 rfl (lv_at hl 0 rfl) ?_
    refine lv_iload_n hx hb dX12_fails_14 rfl (lv_at hl 2 rfl) ?_
    refine pl_put (ci := 12) (v := .int pl) (ty := .int) (C := RX12) (T := TX12) (N := 32) (fs' := [.ref rs, .ref x_2, .ref x_3, .ref x_4, .ref x_5, .int (nI pa), .int (nI ki), .int (nI x_8), .int x_9, .ref x_10, .int (nI (pr.2)), .int (nI sn), .int (nI sp), .int wh, .int pl, .int sen, .int ra, .ref x_17, .ref x_18, .int (nI x_19), .ref x_20, .ref x_21, .ref x_22, .ref x_23, .ref x_24, .ref x_25, .ref x_26, .ref x_27, .ref x_28, .ref x_29, .ref x_30, .int (nI x_31)]) hx hb hT iX12 tyX12 tyX12_ok nmX12 hown hK hW hT_o.1 hS_o rfl 14 (by decide) w1096 rfl (by decide +kernel) rfl rfl (Nat.le_of_ble_eq_true rfl) rfl dX12_fails_15 (fun H locs S_35 e1 hW => ?_)
    have hTy := hTy.u12 e1 hT_o ⟨rs, x_2, x_3, x_4, x_5, pa, ki, x_8, x_9, x_10, sn, sp, wh, pl, sen, ra, x_17, x_18, x_19, x_20, x_21, x_22, x_23, x_24, x_25, x_26, x_27, x_28, x_29, x_30, x_31, rfl, hT_x_1, hT_x_2, hT_x_3, hT_x_4, hT_x_5, (by omega), (by omega), (by omega), hT_x_10, (by show pr.2 ≤ 900; omega), (by omega), (by omega), hT_x_17, hT_x_18, (by omega), hT_x_20, hT_x_21, hT_x_22, hT_x_23, hT_x_24, hT_x_25, hT_x_26, hT_x_27, hT_x_28, hT_x_29, hT_x_30, (by omega)⟩
    have hS_x_10 := un e1 hT_x_10 hT_o (by decide) hS_x_10
    have hS_x_4 := un e1 hT_x_4 hT_o (by decide) hS_x_4
    have hws := trivial
    have hFr := ufw hFr e1 hT_o (by decide) (by decide)
    have hS_o := us e1
    exact W.vret hx hb hr (fun t ht h9 => ⟨⟨S_35, rfl, ⟨hTy, hFr, ⟨wh, pl, ⟨MKi (sp := sp) (sn := sn) (pa := pa) (ki := ki) hS_o rfl rfl rfl rfl rfl rfl (by omega) (by omega) (by omega) (by omega), inf_i hS_o rfl, inf_i hS_o rfl, inf_i hS_o rfl, fld_i hS_o rfl hS_x_10, lfd_i hS_o rfl hS_x_4⟩, fun z => absurd c_4 z, fun _ => ⟨rfl, rfl⟩⟩⟩, by rw [ht]; exact hW.1, va_K.moved h9.alike hK, hW.2.1⟩, hW.2.2.F ht⟩) hW.2.2.2.2 dX12_fails_18
  · exact W.vret hx hb hr (fun t ht h9 => ⟨⟨S, rfl, ⟨hTy, hFr, ⟨wr, wa, ⟨MKi (sp := sp) (sn := sn) (pa := pa) (ki := ki) hS_o rfl rfl rfl rfl rfl rfl (by omega) (by omega) (by omega) (by omega), inf_i hS_o rfl, inf_i hS_o rfl, inf_i hS_o rfl, fld_i hS_o rfl hS_x_10, lfd_i hS_o rfl hS_x_4⟩, fun _ => ⟨rfl, rfl⟩, fun z => absurd z c_4⟩⟩, by rw [ht]; exact hW.1, va_K.moved h9.alike hK, hW.2.1⟩, hW.2.2.F ht⟩) hW.2.2.2.2 dX12_fails_7

set_option maxHeartbeats 4000000 in
set_option maxRecDepth 100000 in
theorem f_letters (l : Launch) (dC : Nat → ClassId) (dI : Nat → Nat → Nat) (cy : Nat → ClassId) (L : List Nat) (kap : Nat → Nat) (pr : Pr) (S : Nat → va_E) (sz : Nat) (o : Nat) (hTy : Ty cy L kap pr S) (hT_o : TK L kap o 12) (g : Nat → Int32) (nm : Nat → Int64) (sp : Nat) (sn : Nat) (wr : Int32) (wa : Int32) (sen : Int32) (ra : Int32) (pa : Nat) (ki : Nat) (rs : Nat) (hM : MF S o g nm sp sn wr wa sen ra pa ki rs) (hsp : sp ≤ sn) (hg : BR g) : Met l yX12_lettersHere (wT yX12_lettersHere cX12_lettersHere 2 (some .int)) ({ frames := 2, cells := 0, slots := 0, locals := 45 }) (pcN dC dI [.ref o] sz (va_pl L S) (cyT cy) NLs []) (vp_Si (fun r => r = nI (LT g sn sp - sp))) 0 0 (fun _ => False) := by
  refine Met.ofW (cc := cX12_lettersHere) (maxL := 2) (ret := (some .int)) (by decide) rfl ?_
  intro p e s m args below meth c s₁ B hml hv
  obtain ⟨rfl, hsz, hP, hK, hD0, hN, -⟩ := hv
  have hx := B.exec
  have hb := B.bytes
  have hr := B.returns
  have hT : ∀ wd ∈ TB, wd.before [.ref o].toArray s = true := fun wd h => atoms_spec (ws := wT yX12_lettersHere cX12_lettersHere 2 (some .int)) B.pre wd (List.mem_cons_of_mem _ h)
  have hown : s.vm.findClass RX12 = some m.cls := findClass_of_methodNamed B.named
  have hlocks := B.notSynchronized
  subst hsz
  have hW : PW dC dI L (AL L s.heap.size) s.heap S s.heap [] := ⟨hP, pl_self hD0, va_S.rf⟩
  have hFr : Fr kap [] S S := Fr.rf
  have hl := lv_entry ([.ref o]) (n := 2) (Nat.le_of_ble_eq_true rfl)
  rw [lg_entry_eq]
  generalize (lg_sl ([.ref o]) ++ List.replicate (2 - (lg_sl ([.ref o])).length) Slot.unset).toArray = ls at hl ⊢
  have hl : lv_has ls 2 [(0, .ref o)] := hl
  obtain ⟨x_1, x_2, x_3, x_4, x_5, x_6, x_7, x_8, x_9, x_10, x_11, x_12, x_13, x_14, x_15, x_16, x_17, x_18, x_19, x_20, x_21, x_22, x_23, x_24, x_25, x_26, x_27, x_28, x_29, x_30, x_31, hS_o, hT_x_1, hT_x_2, hT_x_3, hT_x_4, hT_x_5, hb_x_6, hb_x_7, hb_x_8, hT_x_10, hb_q2, hb_x_11, hb_x_12, hT_x_17, hT_x_18, hb_x_19, hT_x_20, hT_x_21, hT_x_22, hT_x_23, hT_x_24, hT_x_25, hT_x_26, hT_x_27, hT_x_28, hT_x_29, hT_x_30, hb_x_31⟩ := hTy.k12 hT_o
  have hb_q2 : pr.2 ≤ 900 := hb_q2
  have hS_o : S o = .inr (12, [.ref x_1, .ref x_2, .ref x_3, .ref x_4, .ref x_5, .int (nI x_6), .int (nI x_7), .int (nI x_8), .int x_9, .ref x_10, .int (nI (pr.2)), .int (nI x_11), .int (nI x_12), .int x_13, .int x_14, .int x_15, .int x_16, .ref x_17, .ref x_18, .int (nI x_19), .ref x_20, .ref x_21, .ref x_22, .ref x_23, .ref x_24, .ref x_25, .ref x_26, .ref x_27, .ref x_28, .ref x_29, .ref x_30, .int (nI x_31)]) := hS_o
  obtain ⟨hMK_, h14_, h15_, h16_, h9_, h3_⟩ := hM
  obtain ⟨e12_, e11_, e13_, e5_, e6_, e0_⟩ := MKe hMK_ hS_o rfl rfl rfl rfl rfl rfl (by omega) (by omega) (by omega) (by omega)
  subst e12_ e11_ e13_ e5_ e6_ e0_
  have e14_ := h14_.symm.trans (inf_i hS_o rfl)
  subst e14_
  have e15_ := h15_.symm.trans (inf_i hS_o rfl)
  subst e15_
  have e16_ := h16_.symm.trans (inf_i hS_o rfl)
  subst e16_
  obtain ⟨f_32, hS_x_10⟩ := hTy.k55 hT_x_10
  have e9_ := h9_.symm.trans (fld_i hS_o rfl hS_x_10)
  subst e9_
  obtain ⟨f_33, hS_x_4⟩ := hTy.k53 hT_x_4
  have e3_ := h3_.symm.trans (lfd_i hS_o rfl hS_x_4)
  subst e3_
  refine lv_iconst (v := 0) hx hb dX12_lettersHere_0 (by decide) ?_
  refine lv_istore_n (lv' := [(1, .int 0), (0, .ref o)]) hx hb dX12_lettersHere_1 rfl hl (by decide) rfl (fun ls hl => ?_)
  have loop : ∀ (fuel : Nat) (i : Nat) (ls : Array Slot), 901 - i < fuel → (i ≤ 900) → (sp + i ≤ sn) → (∀ k, sp ≤ k → k < sp + i → k < sn ∧ isL (g k) = true) → lv_has ls 2 [(1, .int (nI i)), (0, .ref o)] → W p l e (headSpec (wT yX12_lettersHere cX12_lettersHere 2 (some .int)) { frames := 2, cells := 0, slots := 0, locals := 45 }).room s m [.ref o].toArray below meth c s.heap [] 0 0 (MQ below (vp_Si (fun r => r = nI (LT g sn sp - sp))) [.ref o].toArray s 0 0 (fun _ => False)) (F0 m 2 ls []) := by
    intro fuel
    induction fuel with
    | zero => intro i ls h; exact absurd h (Nat.not_lt_zero _)
    | succ fu2 ih2 =>
      intro i ls hm2 hb_i hsi hlt hl
      refine lv_aload_n hx hb dX12_lettersHere_2 rfl (lv_at hl 1 rfl) ?_
      refine pl_get (ci := 12) (v := .int (nI sp)) (C := RX12) (T := TX12) (N := 32) hx hb hT iX12 hown hK hW hT_o.1 hS_o rfl 12 (by decide) w1094 rfl dX12_lettersHere_3 ?_
      refine lv_iload_n hx hb dX12_lettersHere_6 rfl (lv_at hl 0 rfl) ?_
      refine lv_iadd hx hb dX12_lettersHere_7 ?_
      refine lv_topi (fun z_34 ez_34 => ?_)
      obtain rfl : z_34 = nI (sp + i) := ez_34.trans (nI_add (sp) (i))
      refine lv_aload_n hx hb dX12_lettersHere_8 rfl (lv_at hl 1 rfl) ?_
      refine pl_get (ci := 12) (v := .int (nI sn)) (C := RX12) (T := TX12) (N := 32) hx hb hT iX12 hown hK hW hT_o.1 hS_o rfl 11 (by decide) w1093 rfl dX12_lettersHere_9 ?_
      refine lv_icmp_ge (tgt := 38) hx hb dX12_lettersHere_12 (by decide) (fun c_12 => ?_) (fun c_12 => ?_)
      · have c_12 : sn ≤ (sp + i) := (nI_leI (a := sn) (b := sp + i) (by omega) (by omega)).mp c_12
        have hLT : LT g sn sp = sp + i := LT_s (by omega) (by omega) hlt (fun z => by omega)
        refine lv_iload_n hx hb dX12_lettersHere_38 rfl (lv_at hl 0 rfl) ?_
        exact W.iret (v := nI i) hx hb hr (fun t ht h9 => ⟨nI i, rfl, (by rw [hLT, Nat.add_sub_cancel_left]), ht⟩) (fun q h => by cases h) dX12_lettersHere_39
      · have c_12 : ¬ (sn ≤ (sp + i)) := fun hh9 => c_12 ((nI_leI (a := sn) (b := sp + i) (by omega) (by omega)).mpr hh9)
        refine lv_aload_n hx hb dX12_lettersHere_15 rfl (lv_at hl 1 rfl) ?_
        refine pl_get (ci := 12) (v := .ref x_10) (C := RX12) (T := TX12) (N := 32) hx hb hT iX12 hown hK hW hT_o.1 hS_o rfl 9 (by decide) w1091 rfl dX12_lettersHere_16 ?_
        refine lv_aload_n hx hb dX12_lettersHere_19 rfl (lv_at hl 1 rfl) ?_
        refine pl_get (ci := 12) (v := .int (nI sp)) (C := RX12) (T := TX12) (N := 32) hx hb hT iX12 hown hK hW hT_o.1 hS_o rfl 12 (by decide) w1094 rfl dX12_lettersHere_20 ?_
        refine lv_iload_n hx hb dX12_lettersHere_23 rfl (lv_at hl 0 rfl) ?_
        refine lv_iadd hx hb dX12_lettersHere_24 ?_
        refine lv_topi (fun z_35 ez_35 => ?_)
        obtain rfl : z_35 = nI (sp + i) := ez_35.trans (nI_add (sp) (i))
        refine pl_bald hx hb hK hW hT_x_10.1 hS_x_10 (vp_in_nI (n := sp + i) (N := 900) (by omega) (by omega)) dX12_lettersHere_25 ?_
        refine lv_topi (fun y_36 ey_36 => ?_)
        refine vp_callSi (va_Run.run (va_runS (As := [.int y_36]) (rest := []) ⟨hx, hb, hml, hown, hT⟩ (f_isLetter l dC dI s.heap.size y_36) (va_cwS 1 hT (gS w1202 w1203 w14 w1204) rfl rfl rfl (by decide +kernel) ⟨(Nat.le_of_ble_eq_true rfl), (Nat.le_of_ble_eq_true rfl)⟩) ⟨pcW.blind, pcW.pre (va_P0 _ _ _) (hK.sub (tys' := []) [] rfl) (va_D0 (fun _ => True))⟩ rfl rfl hl.1 rfl (lv_room (Nat.le_of_ble_eq_true rfl)) dX12_lettersHere_26 ⟨(Nat.le_of_ble_eq_true rfl), (Nat.le_of_ble_eq_true rfl)⟩)) (fun r_37 hr_37 => ?_)
        rcases hr_37 with hc_ | hc_
        · obtain ⟨rfl, hL_29⟩ := hc_
          refine lv_if_eq (tgt := 38) hx hb dX12_lettersHere_29 (by decide) (fun h => absurd h (by decide)) (fun _ => ?_)
          refine lv_iinc (v := nI (i + 1)) (lv' := [(1, .int (nI (i + 1))), (0, .ref o)]) hx hb dX12_lettersHere_32 hl (k := 0) rfl (nI_add (i) 1) (by decide) rfl (fun ls hl => ?_)
          refine lv_goto (tgt := 2) hx hb dX12_lettersHere_35 (by decide) ?_
          exact ih2 (i + 1) ls (by omega) (by omega) (by omega) (lt_up (P := fun x => isL x = true) hlt (by omega) (by have q := hL_29; rw [ey_36, nI_clamp (by omega)] at q; exact q)) (lv_sub hl [0, 1] rfl)
        · obtain ⟨rfl, hL_29⟩ := hc_
          refine lv_if_eq (tgt := 38) hx hb dX12_lettersHere_29 (by decide) (fun _ => ?_) (fun h => absurd (by decide) h)
          have hLT : LT g sn sp = sp + i := LT_s (by omega) (by omega) hlt (fun z => hL_29 (by rw [ey_36, nI_clamp (by omega)]; exact z.2))
          refine lv_iload_n hx hb dX12_lettersHere_38 rfl (lv_at hl 0 rfl) ?_
          exact W.iret (v := nI i) hx hb hr (fun t ht h9 => ⟨nI i, rfl, (by rw [hLT, Nat.add_sub_cancel_left]), ht⟩) (fun q h => by cases h) dX12_lettersHere_39
  exact loop ((901 - 0) + 1) 0 ls (Nat.lt_succ_self _) (by omega) (by omega) (fun k a b => by omega) (lv_sub hl [0, 1] rfl)

