def EB (g : Nat → Int32) (n : Nat) (df : Nat → Nat × Nat) (np nk mn : Nat) (kf : Nat → Bool) (w p : Nat) : Nat × Nat := if w = 0 ∨ w = 1 then (nnc g n df np nk p, SK g n p) else if w = 3 then fe (nbc g n p 0 (pd mn), SK g n p) (if kf (NV g (SK g n p) (tke g n p - SK g n p)) = true then (5, SK g n p) else (0, 0)) else if w = 5 then (nbc g n p 0 3, SK g n p) else E2 g n df np nk w p
def PB (g : Nat → Int32) (n w p : Nat) : Nat := if w = 2 ∨ w = 4 then P2 g n w p else tke g n p
def Nnp (w np : Nat) : Nat := if w = 0 then np + 1 else np
def Nnk (w nk : Nat) : Nat := if w = 1 then nk + 1 else nk
def Ndf (g : Nat → Int32) (n w np nk : Nat) (df : Nat → Nat × Nat) (p : Nat) : Nat → Nat × Nat := if w = 0 then ud df np (SK g n p, tke g n p - SK g n p) else if w = 1 then ud df (8 + nk) (SK g n p, tke g n p - SK g n p) else df
def Nmn (w mn : Nat) : Nat := if w = 2 then mn + 1 else mn
def Nkf (g : Nat → Int32) (n w mn : Nat) (kf : Nat → Bool) (p : Nat) : Nat → Bool := if w = 2 then ub kf mn false else if w = 3 then ub kf (NV g (SK g n p) (tke g n p - SK g n p)) true else kf
section NEXT
variable {g : Nat → Int32} {n np nk w p mn a l : Nat} {df : Nat → Nat × Nat} {kf : Nat → Bool} {nm : Nat → Int64} {x : Int64}
theorem NMR_0 (h : NMR g df nm 0 np) (hn : NOK g a l) (hx : x = encI g a l) : NMR g (ud df np (a, l)) (vp_updL nm np x) 0 (np + 1) := fun k hk => by
  unfold ud
  by_cases q : k = np
  · subst q
    rw [Nat.zero_add, pk_uLs, if_pos rfl]
    exact ⟨hx, hn⟩
  · have e := h k (by omega)
    rw [Nat.zero_add] at e ⊢
    rw [pk_uLn q, if_neg q]
    exact e
theorem NMR_08 (h : NMR g df nm 8 nk) (hn : np < 8) {d : Nat × Nat} : NMR g (ud df np d) (vp_updL nm np x) 8 nk := fun k hk => by
  unfold ud
  rw [pk_uLn (by omega), if_neg (by omega)]
  exact h k hk
theorem NMR_8 (h : NMR g df nm 8 nk) (hn : NOK g a l) (hx : x = encI g a l) : NMR g (ud df (8 + nk) (a, l)) (vp_updL nm (8 + nk) x) 8 (nk + 1) := fun k hk => by
  unfold ud
  by_cases q : k = nk
  · subst q
    rw [pk_uLs, if_pos rfl]
    exact ⟨hx, hn⟩
  · rw [pk_uLn (by omega), if_neg (by omega)]
    exact h k (by omega)
theorem NMR_80 (h : NMR g df nm 0 np) (hn : np ≤ 8) {d : Nat × Nat} : NMR g (ud df (8 + nk) d) (vp_updL nm (8 + nk) x) 0 np := fun k hk => by
  unfold ud
  rw [pk_uLn (by omega), if_neg (by omega)]
  exact h k hk
theorem nnc_4 (h : nnc g n df np nk p = 0) : tkc g n p = 4 := by
  by_cases q : tkc g n p = 4
  · exact q
  · unfold nnc at h
    rw [if_neg q] at h
    omega
theorem nbc_v {hi : Int32} (h : nbc g n p 0 hi = 0) : tkc g n p = 3 ∧ tke g n p - SK g n p ≤ 8 ∧ nI (NV g (SK g n p) (tke g n p - SK g n p)) ≤ hi := by
  unfold nbc at h
  by_cases q : tkc g n p = 3
  · rw [if_pos q] at h
    by_cases q2 : tke g n p - SK g n p ≤ 8 ∧ (0 : Int32) ≤ nI (NV g (SK g n p) (tke g n p - SK g n p)) ∧ nI (NV g (SK g n p) (tke g n p - SK g n p)) ≤ hi
    · exact ⟨q, q2.1, q2.2.2⟩
    · rw [if_neg q2] at h
      omega
  · rw [if_neg q] at h
    omega
theorem tk3_d (h : tkc g n p = 3) : tke g n p = DT g n (SK g n p) := by
  by_cases h1 : SK g n p < n
  · by_cases hl : isL (g (SK g n p)) = true
    · rcases wdx_c g (SK g n p) (LT g n (SK g n p) - SK g n p) with ⟨-, hk⟩ | ⟨hw, hk⟩
      · rw [(tk_name h1 hl hk).1] at h
        split at h <;> omega
      · rw [(tk_word h1 hl hw hk).1] at h
        omega
    · by_cases hd : isD (g (SK g n p)) = true
      · exact (tk_num h1 hl hd).2
      · rw [(tk_sign h1 hl hd).1] at h
        split at h <;> omega
  · rw [(tk_end h1).1] at h
    omega
theorem NV_8 (h : tkc g n p = 3) (hl : tke g n p - SK g n p ≤ 8) : NV g (SK g n p) (tke g n p - SK g n p) < 100000000 := by
  have e := tk3_d h
  have q := NV_b (g := g) (a := SK g n p) (tke g n p - SK g n p) (fun j hj => DT_in (n := n) (i := SK g n p) (by omega) (by omega))
  have hp : 10 ^ (tke g n p - SK g n p) ≤ 10 ^ 8 := Nat.pow_le_pow_right (by decide) hl
  have hp8 : (10 : Nat) ^ 8 = 100000000 := by decide
  omega
theorem nbc_m (h : nbc g n p 0 (pd mn) = 0) (hm : mn ≤ 40) : NV g (SK g n p) (tke g n p - SK g n p) < mn := by
  obtain ⟨h1, h2, h3⟩ := nbc_v h
  have hv := NV_8 h1 h2
  rw [Int32.le_iff_toInt_le, nI_toInt (by omega), pd_toInt (by omega)] at h3
  omega
end NEXT

set_option maxHeartbeats 4000000 in
set_option maxRecDepth 100000 in
theorem f_behind (l : Launch) (dC : Nat → ClassId) (dI : Nat → Nat → Nat) (cy : Nat → ClassId) (L : List Nat) (kap : Nat → Nat) (pr : Pr) (ad : (Nat → Nat) × (Nat → Nat)) (S : Nat → va_E) (sz : Nat) (o : Nat) (wz : Nat) (hTy : Ty cy L kap pr S) (hT_o : TK L kap o 12) (hb_wz : wz < 6) (g : Nat → Int32) (nm : Nat → Int64) (sp : Nat) (sn : Nat) (wr : Int32) (wa : Int32) (sen : Int32) (ra : Int32) (pa : Nat) (ki : Nat) (rs : Nat) (hM : MF S o g nm sp sn wr wa sen ra pa ki rs) (hsp : sp ≤ sn) (hg : BR g) (df : Nat → Nat × Nat) (hN0 : NMR g df nm 0 pa) (hN8 : NMR g df nm 8 ki) (mn : Nat) (kf : Nat → Bool) (hsm : SM (fld S o 0) mn kf) (hdg : dg (fld S o 0)) (hw0 : wr = 0) (h0 : wz = 0 → pa < 8) (h1 : wz = 1 → ki < 4) (h2 : wz = 2 → mn < 40) : Met l yX12_behind (wT yX12_behind cX12_behind 3 none) ({ frames := 9, cells := 0, slots := 0, locals := 203 }) (pcS dC dI [.ref o, .int (nI wz)] sz L S (cyT cy) NLs ad) (va_Qv (fun S' => Ty cy L kap pr S' ∧ Fr kap [12, 50, 53, 112] S S' ∧ (∃ sp' wr' wa' ra' nm' pa' ki', MF S' o g nm' sp' sn wr' wa' sen ra' pa' ki' rs ∧ sp' ≤ sn ∧ ERR wr wa (EB g sn df pa ki mn kf wz sp).1 (EB g sn df pa ki mn kf wz sp).2 wr' wa' ∧ ((EB g sn df pa ki mn kf wz sp).1 = 0 → sp' = PB g sn wz sp ∧ pa' = Nnp wz pa ∧ ki' = Nnk wz ki ∧ NMR g (Ndf g sn wz pa ki df sp) nm' 0 pa' ∧ NMR g (Ndf g sn wz pa ki df sp) nm' 8 ki' ∧ SM (fld S' o 0) (Nmn wz mn) (Nkf g sn wz mn kf sp)) ∧ dg (fld S' o 0))) (fun S' t => pB dC dI (AL L sz) (va_pl L S') (cyT cy) t) (AL L sz)) 0 0 (AL L sz) := by
  refine Met.ofW (cc := cX12_behind) (maxL := 3) (ret := none) (by decide) rfl ?_
  intro p e s m args below meth c s₁ B hml hv
  obtain ⟨rfl, hsz, hP, hK, hD0, hN, hSTR⟩ := hv
  have hx := B.exec
  have hb := B.bytes
  have hr := B.returns
  have hT : ∀ wd ∈ TB, wd.before [.ref o, .int (nI wz)].toArray s = true := fun wd h => atoms_spec (ws := wT yX12_behind cX12_behind 3 none) B.pre wd (List.mem_cons_of_mem _ h)
  have hown : s.vm.findClass RX12 = some m.cls := findClass_of_methodNamed B.named
  have hlocks := B.notSynchronized
  subst hsz
  have hW : PW dC dI L (AL L s.heap.size) s.heap S s.heap [] := ⟨hP, pl_self hD0, va_S.rf⟩
  have hA0 : ∀ q, q ∈ L → AL L s.heap.size q := fun _ h => Or.inl h
  have hA : ∀ q, s.heap.size ≤ q → AL L s.heap.size q := fun _ h => Or.inr h
  have hFr : Fr kap [12, 50, 53, 112] S S := Fr.rf
  have hl := lv_entry ([.ref o, .int (nI wz)]) (n := 3) (Nat.le_of_ble_eq_true rfl)
  rw [lg_entry_eq]
  generalize (lg_sl ([.ref o, .int (nI wz)]) ++ List.replicate (3 - (lg_sl ([.ref o, .int (nI wz)])).length) Slot.unset).toArray = ls at hl ⊢
  have hl : lv_has ls 3 [(0, .ref o), (1, .int (nI wz))] := hl
  obtain ⟨x_1, x_2, x_3, x_4, x_5, x_6, x_7, x_8, x_9, x_10, x_11, x_12, x_13, x_14, x_15, x_16, x_17, x_18, x_19, x_20, x_21, x_22, x_23, x_24, x_25, x_26, x_27, x_28, x_29, x_30, x_31, hS_o, hT_x_1, hT_x_2, hT_x_3, hT_x_4, hT_x_5, hb_x_6, hb_x_7, hb_x_8, hT_x_10, hb_q2, hb_x_11, hb_x_12, hT_x_17, hT_x_18, hb_x_19, hT_x_20, hT_x_21, hT_x_22, hT_x_23, hT_x_24, hT_x_25, hT_x_26, hT_x_27, hT_x_28, hT_x_29, hT_x_30, hb_x_31⟩ := hTy.k12 hT_o
  have hb_q2 : pr.2 ≤ 900 := hb_q2
  have hS_o : S o = .inr (12, [.ref x_1, .ref x_2, .ref x_3, .ref x_4, .ref x_5, .int (nI x_6), .int (nI x_7), .int (nI x_8), .int x_9, .ref x_10, .int (nI (pr.2)), .int (nI x_11), .int (nI x_12), .int x_13, .int x_14, .int x_15, .int x_16, .ref x_17, .ref x_18, .int (nI x_19), .ref x_20, .ref x_21, .ref x_22, .ref x_23, .ref x_24, .ref x_25, .ref x_26, .ref x_27, .ref x_28, .ref x_29, .ref x_30, .int (nI x_31)]) := hS_o
  obtain ⟨hMK_, h14_, h15_, h16_, h9_, h3_⟩ := hM
  obtain ⟨e12_, e11_, e13_, e5_, e6_, e0_⟩ := MKe hMK_ hS_o rfl rfl rfl rfl rfl rfl (by omega) (by omega) (by omega) (by omega)
  subst e12_ e11_ e13_ e5_ e6_ e0_
  have e14_ := h14_.symm.trans (inf_i hS_o rfl)
  subst e14_
  have e15_ := h15_.symm.trans (inf_i hS_o rfl)
  subst e15_
  have e16_ := h16_.symm.trans (inf_i hS_o rfl)
  subst e16_
  obtain ⟨f_32, hS_x_10⟩ := hTy.k55 hT_x_10
  have e9_ := h9_.symm.trans (fld_i hS_o rfl hS_x_10)
  subst e9_
  obtain ⟨f_33, hS_x_4⟩ := hTy.k53 hT_x_4
  have e3_ := h3_.symm.trans (lfd_i hS_o rfl hS_x_4)
  subst e3_
  obtain ⟨f_34, hS_rs, hi_f_34⟩ := hTy.k50 hT_x_1
  have hsm_ := hsm
  rw [fld_i hS_o rfl hS_rs] at hsm_
  have hdg_ : dg f_34 := by have q := hdg; rw [fld_i hS_o rfl hS_rs] at q; exact q
  have h0_ := hsm_.1
  refine lv_iload_n hx hb dX12_behind_0 rfl (lv_at hl 1 rfl) ?_
  refine lv_if_ne (tgt := 36) hx hb dX12_behind_1 (by decide) (fun c_1 => ?_) (fun c_1 => ?_)
  · have c_1 : ¬ (wz = 0) := fun hh9 => c_1 ((nI_eq (a := wz) (b := 0) (by omega) (by omega)).mpr hh9)
    refine lv_iload_n hx hb dX12_behind_36 rfl (lv_at hl 1 rfl) ?_
    refine lv_iconst (v := 1) hx hb dX12_behind_37 (by decide) ?_
    refine lv_icmp_ne (tgt := 76) hx hb dX12_behind_38 (by decide) (fun c_38 => ?_) (fun c_38 => ?_)
    · have c_38 : ¬ (wz = 1) := fun hh9 => c_38 ((nI_eq (a := wz) (b := 1) (by omega) (by omega)).mpr hh9)
      refine lv_iload_n hx hb dX12_behind_76 rfl (lv_at hl 1 rfl) ?_
      refine lv_iconst (v := 3) hx hb dX12_behind_77 (by decide) ?_
      refine lv_icmp_ne (tgt := 144) hx hb dX12_behind_78 (by decide) (fun c_78 => ?_) (fun c_78 => ?_)
      · have c_78 : ¬ (wz = 3) := fun hh9 => c_78 ((nI_eq (a := wz) (b := 3) (by omega) (by omega)).mpr hh9)
        refine lv_iload_n hx hb dX12_behind_144 rfl (lv_at hl 1 rfl) ?_
        refine lv_iconst (v := 5) hx hb dX12_behind_145 (by decide) ?_
        refine lv_icmp_ne (tgt := 164) hx hb dX12_behind_146 (by decide) (fun c_146 => ?_) (fun c_146 => ?_)
        · have c_146 : ¬ (wz = 5) := fun hh9 => c_146 ((nI_eq (a := wz) (b := 5) (by omega) (by omega)).mpr hh9)
          have hEB : EB g sn df pa ki mn kf wz sp = E2 g sn df pa ki wz sp := by unfold EB; rw [if_neg (by omega), if_neg (by omega), if_neg (by omega)]
          have hPB : PB g sn wz sp = P2 g sn wz sp := by unfold PB; rw [if_pos (by omega)]
          have hNp : Nnp wz pa = pa := by unfold Nnp; rw [if_neg (by omega)]
          have hNk : Nnk wz ki = ki := by unfold Nnk; rw [if_neg (by omega)]
          have hNd : Ndf g sn wz pa ki df sp = df := by unfold Ndf; rw [if_neg (by omega), if_neg (by omega)]
          have hNm : Nmn wz mn = (if wz = 2 then mn + 1 else mn) := rfl
          have hNf : Nkf g sn wz mn kf sp = (if wz = 2 then ub kf mn false else kf) := by unfold Nkf; rw [show (if wz = 3 then ub kf (NV g (SK g sn sp) (tke g sn sp - SK g sn sp)) true else kf) = kf from if_neg (by omega)]
          refine lv_aload_n hx hb dX12_behind_164 rfl (lv_at hl 0 rfl) ?_
          refine lv_iload_n hx hb dX12_behind_165 rfl (lv_at hl 1 rfl) ?_
          refine pl_callv (va_runV (As := [.int (nI wz)]) (rest := []) ⟨hx, hb, hml, hown, hT⟩ (f_two l dC dI cy L kap pr ad S s.heap.size o wz hTy hT_o (by omega) g nm sp sn wr wa sen ra pa ki rs ⟨MKi (sp := sp) (sn := sn) (pa := pa) (ki := ki) hS_o rfl rfl rfl rfl rfl rfl (by omega) (by omega) (by omega) (by omega), inf_i hS_o rfl, inf_i hS_o rfl, inf_i hS_o rfl, fld_i hS_o rfl hS_x_10, lfd_i hS_o rfl hS_x_4⟩ (by omega) hg df hN0 hN8 mn kf (by rw [fld_i hS_o rfl hS_rs]; exact hsm_) (by rw [fld_i hS_o rfl hS_rs]; exact hdg_) h2) (cwV 1 hT (gV w1251 w1253 ws67 w14 w1254) rfl rfl rfl (by decide +kernel) ⟨(Nat.le_of_ble_eq_true rfl), (Nat.le_of_ble_eq_true rfl)⟩) ⟨pcS.blind, pl_recv hK hW hT_o.1 hS_o rfl, pcS.pre hW.1 hK hW.2.1 hN hSTR hW.2.2⟩ rfl rfl hl.1 rfl (lv_room (Nat.le_of_ble_eq_true rfl)) dX12_behind_166 ⟨(Nat.le_of_ble_eq_true rfl), (Nat.le_of_ble_eq_true rfl)⟩) hW hA0 hA (fun S_35 H locs hrel hW => ?_)
          obtain ⟨hTy, hF1, hx1⟩ := hrel
          have hFr := hFr.tr hF1 (by decide)
          have hS_x_10 := hF1.at hT_x_10 (by decide) hS_x_10
          have hS_x_4 := hF1.at hT_x_4 (by decide) hS_x_4
          obtain ⟨sp36, wr36, wa36, ra36, hM36, hsb36, hER36, hOK36, hdg9_⟩ := hx1
          obtain ⟨x_37, x_38, x_39, x_40, x_41, x_42, x_43, x_44, x_45, x_46, x_47, x_48, x_49, x_50, x_51, x_52, x_53, x_54, x_55, x_56, x_57, x_58, x_59, x_60, x_61, x_62, x_63, x_64, x_65, x_66, x_67, hS_o, hT_x_37, hT_x_38, hT_x_39, hT_x_40, hT_x_41, hb_x_42, hb_x_43, hb_x_44, hT_x_46, hb_q2, hb_x_47, hb_x_48, hT_x_53, hT_x_54, hb_x_55, hT_x_56, hT_x_57, hT_x_58, hT_x_59, hT_x_60, hT_x_61, hT_x_62, hT_x_63, hT_x_64, hT_x_65, hT_x_66, hb_x_67⟩ := hTy.k12 hT_o
          have hb_q2 : pr.2 ≤ 900 := hb_q2
          have hS_o : S_35 o = .inr (12, [.ref x_37, .ref x_38, .ref x_39, .ref x_40, .ref x_41, .int (nI x_42), .int (nI x_43), .int (nI x_44), .int x_45, .ref x_46, .int (nI (pr.2)), .int (nI x_47), .int (nI x_48), .int x_49, .int x_50, .int x_51, .int x_52, .ref x_53, .ref x_54, .int (nI x_55), .ref x_56, .ref x_57, .ref x_58, .ref x_59, .ref x_60, .ref x_61, .ref x_62, .ref x_63, .ref x_64, .ref x_65, .ref x_66, .int (nI x_67)]) := hS_o
          obtain ⟨hMK_, h14_, h15_, h16_, h9_, h3_⟩ := hM36
          obtain ⟨e12_, e11_, e13_, e5_, e6_, e0_⟩ := MKe hMK_ hS_o rfl rfl rfl rfl rfl rfl (by omega) (by omega) (by omega) (by omega)
          subst e12_ e11_ e13_ e5_ e6_ e0_
          have e14_ := h14_.symm.trans (inf_i hS_o rfl)
          subst e14_
          have e15_ := h15_.symm.trans (inf_i hS_o rfl)
          subst e15_
          have e16_ := h16_.symm.trans (inf_i hS_o rfl)
          subst e16_
          obtain ⟨f_68, hS_x_46⟩ := hTy.k55 hT_x_46
          have e9_ := h9_.symm.trans (fld_i hS_o rfl hS_x_46)
          subst e9_
          obtain ⟨f_69, hS_x_40⟩ := hTy.k53 hT_x_40
          have e3_ := h3_.symm.trans (lfd_i hS_o rfl hS_x_40)
          subst e3_
          obtain ⟨f_70, hS_rs, hi_f_70⟩ := hTy.k50 hT_x_1
          have hdg_ : dg f_70 := by have q := hdg9_; rw [fld_i hS_o rfl hS_rs] at q; exact q
          exact W.vret hx hb hr (fun t ht h9 => ⟨⟨S_35, rfl, ⟨hTy, hFr, ⟨sp36, _, _, _, _, pa, ki, ⟨MKi (sp := sp36) (sn := sn) (pa := pa) (ki := ki) hS_o rfl rfl rfl rfl rfl rfl (by omega) (by omega) (by omega) (by omega), inf_i hS_o rfl, inf_i hS_o rfl, inf_i hS_o rfl, fld_i hS_o rfl hS_x_46, lfd_i hS_o rfl hS_x_40⟩, by omega, by rw [hEB]; exact hER36, fun z => by rw [hEB] at z; rw [hPB, hNp, hNk, hNd, hNm, hNf]; have q := hOK36 hw0 z; exact ⟨q.1, rfl, rfl, hN0, hN8, q.2⟩, (by rw [fld_i hS_o rfl hS_rs]; exact hdg_)⟩⟩, by rw [ht]; exact hW.1, va_K.moved h9.alike hK, hW.2.1⟩, hW.2.2.F ht⟩) hW.2.2.2.2 dX12_behind_169
        · have c_146 : wz = 5 := (nI_eq (a := wz) (b := 5) (by omega) (by omega)).mp c_146
          have hEB : EB g sn df pa ki mn kf wz sp = (nbc g sn sp 0 3, SK g sn sp) := by unfold EB; rw [if_neg (by omega), if_neg (by omega), if_pos c_146]
          have hPB : PB g sn wz sp = tke g sn sp := by unfold PB; rw [if_neg (by omega)]
          have hNp : Nnp wz pa = pa := by unfold Nnp; rw [if_neg (by omega)]
          have hNk : Nnk wz ki = ki := by unfold Nnk; rw [if_neg (by omega)]
          have hNd : Ndf g sn wz pa ki df sp = df := by unfold Ndf; rw [if_neg (by omega), if_neg (by omega)]
          have hNm : Nmn wz mn = mn := by unfold Nmn; rw [if_neg (by omega)]
          have hNf : Nkf g sn wz mn kf sp = kf := by unfold Nkf; rw [if_neg (by omega), if_neg (by omega)]
          refine lv_aload_n hx hb dX12_behind_149 rfl (lv_at hl 0 rfl) ?_
          refine pl_get (ci := 12) (v := .ref rs) (C := RX12) (T := TX12) (N := 32) hx hb hT iX12 hown hK hW hT_o.1 hS_o rfl 0 (by decide) w1082 rfl dX12_behind_150 ?_
          refine lv_iconst (v := 1) hx hb dX12_behind_153 (by decide) ?_
          refine lv_aload_n hx hb dX12_behind_154 rfl (lv_at hl 0 rfl) ?_
          refine lv_iconst (v := 0) hx hb dX12_behind_155 (by decide) ?_
          refine lv_iconst (v := 3) hx hb dX12_behind_156 (by decide) ?_
          refine pl_calli (va_runV (As := [.int 0, .int 3]) (rest := [.int 1, .ref rs]) ⟨hx, hb, hml, hown, hT⟩ (f_numeral l dC dI cy L kap pr S s.heap.size o 0 3 hTy hT_o g nm sp sn wr wa sen ra pa ki rs ⟨MKi (sp := sp) (sn := sn) (pa := pa) (ki := ki) hS_o rfl rfl rfl rfl rfl rfl (by omega) (by omega) (by omega) (by omega), inf_i hS_o rfl, inf_i hS_o rfl, inf_i hS_o rfl, fld_i hS_o rfl hS_x_10, lfd_i hS_o rfl hS_x_4⟩ (by omega) hg) (cwV 2 hT (gV w1238 w1240 ws65 w14 w1241) rfl rfl rfl (by decide +kernel) ⟨(Nat.le_of_ble_eq_true rfl), (Nat.le_of_ble_eq_true rfl)⟩) ⟨pcN.blind, pl_recv hK hW hT_o.1 hS_o rfl, pcN.pre hW.1 hK hW.2.1 hN (fun q h => absurd h List.not_mem_nil)⟩ rfl rfl hl.1 rfl (lv_room (Nat.le_of_ble_eq_true rfl)) dX12_behind_157 ⟨(Nat.le_of_ble_eq_true rfl), (Nat.le_of_ble_eq_true rfl)⟩) hW hA0 hA (fun r_72 S_71 H locs hrel hW => ?_)
          obtain ⟨hTy, hF1, hx1⟩ := hrel
          have hFr := hFr.tr hF1 (by decide)
          have hS_x_10 := hF1.at hT_x_10 (by decide) hS_x_10
          have hS_x_4 := hF1.at hT_x_4 (by decide) hS_x_4
          have hS_rs := hF1.at hT_x_1 (by decide) hS_rs
          obtain ⟨sp73, wr73, wa73, ra73, hM73, hsb73, hER73, hOK73⟩ := hx1
          obtain ⟨x_74, x_75, x_76, x_77, x_78, x_79, x_80, x_81, x_82, x_83, x_84, x_85, x_86, x_87, x_88, x_89, x_90, x_91, x_92, x_93, x_94, x_95, x_96, x_97, x_98, x_99, x_100, x_101, x_102, x_103, x_104, hS_o, hT_x_74, hT_x_75, hT_x_76, hT_x_77, hT_x_78, hb_x_79, hb_x_80, hb_x_81, hT_x_83, hb_q2, hb_x_84, hb_x_85, hT_x_90, hT_x_91, hb_x_92, hT_x_93, hT_x_94, hT_x_95, hT_x_96, hT_x_97, hT_x_98, hT_x_99, hT_x_100, hT_x_101, hT_x_102, hT_x_103, hb_x_104⟩ := hTy.k12 hT_o
          have hb_q2 : pr.2 ≤ 900 := hb_q2
          have hS_o : S_71 o = .inr (12, [.ref x_74, .ref x_75, .ref x_76, .ref x_77, .ref x_78, .int (nI x_79), .int (nI x_80), .int (nI x_81), .int x_82, .ref x_83, .int (nI (pr.2)), .int (nI x_84), .int (nI x_85), .int x_86, .int x_87, .int x_88, .int x_89, .ref x_90, .ref x_91, .int (nI x_92), .ref x_93, .ref x_94, .ref x_95, .ref x_96, .ref x_97, .ref x_98, .ref x_99, .ref x_100, .ref x_101, .ref x_102, .ref x_103, .int (nI x_104)]) := hS_o
          obtain ⟨hMK_, h14_, h15_, h16_, h9_, h3_⟩ := hM73
          obtain ⟨e12_, e11_, e13_, e5_, e6_, e0_⟩ := MKe hMK_ hS_o rfl rfl rfl rfl rfl rfl (by omega) (by omega) (by omega) (by omega)
          subst e12_ e11_ e13_ e5_ e6_ e0_
          have e14_ := h14_.symm.trans (inf_i hS_o rfl)
          subst e14_
          have e15_ := h15_.symm.trans (inf_i hS_o rfl)
          subst e15_
          have e16_ := h16_.symm.trans (inf_i hS_o rfl)
          subst e16_
          obtain ⟨f_105, hS_x_83⟩ := hTy.k55 hT_x_83
          have e9_ := h9_.symm.trans (fld_i hS_o rfl hS_x_83)
          subst e9_
          obtain ⟨f_106, hS_x_77⟩ := hTy.k53 hT_x_77
          have e3_ := h3_.symm.trans (lfd_i hS_o rfl hS_x_77)
          subst e3_
          refine pl_iast hx hb hK hW hT_x_1.1 hS_rs (vp_in_nI (n := 1) (N := 266) (by omega) (by omega)) dX12_behind_160 (fun H locs f_108 S_107 ef_f_108 e1 hW => ?_)
          have hi_f_108 := okS_up (i := 1) (by omega) hi_f_34 ef_f_108 (okS_any (by omega))
          have hTy := hTy.u50 e1 hT_x_1 ⟨f_108, rfl, hi_f_108⟩
          have hS_x_10 := un e1 hT_x_10 hT_x_1 (by decide) hS_x_10
          have hS_x_4 := un e1 hT_x_4 hT_x_1 (by decide) hS_x_4
          have hS_o := un e1 hT_o hT_x_1 (by decide) hS_o
          have hS_x_83 := un e1 hT_x_83 hT_x_1 (by decide) hS_x_83
          have hS_x_77 := un e1 hT_x_77 hT_x_1 (by decide) hS_x_77
          have hFr := uf hFr e1 hT_x_1 (by decide) (by decide)
          have hS_rs := us e1
          have h0_ : f_108 0 = nI mn := up0 (i := 1) (by omega) (by omega) h0_ ef_f_108
          have hdg_ := dg_up (i := 1) hdg_ ef_f_108 (by omega) (by omega)
          have hsm_ := SM_up (i := 1) hsm_ ef_f_108 (by omega) (by omega)
          refine lv_goto (tgt := 169) hx hb dX12_behind_161 (by decide) ?_
          exact W.vret hx hb hr (fun t ht h9 => ⟨⟨S_107, rfl, ⟨hTy, hFr, ⟨sp73, _, _, _, _, pa, ki, ⟨MKi (sp := sp73) (sn := sn) (pa := pa) (ki := ki) hS_o rfl rfl rfl rfl rfl rfl (by omega) (by omega) (by omega) (by omega), inf_i hS_o rfl, inf_i hS_o rfl, inf_i hS_o rfl, fld_i hS_o rfl hS_x_83, lfd_i hS_o rfl hS_x_77⟩, by omega, by rw [hEB]; exact hER73, fun z => by rw [hEB] at z; rw [hPB, hNp, hNk, hNd, hNm, hNf]; exact ⟨(hOK73 hw0 z).1, rfl, rfl, hN0, hN8, (by rw [fld_i hS_o rfl hS_rs]; exact hsm_)⟩, (by rw [fld_i hS_o rfl hS_rs]; exact hdg_)⟩⟩, by rw [ht]; exact hW.1, va_K.moved h9.alike hK, hW.2.1⟩, hW.2.2.F ht⟩) hW.2.2.2.2 dX12_behind_169
      · have c_78 : wz = 3 := (nI_eq (a := wz) (b := 3) (by omega) (by omega)).mp c_78
        have hEB : EB g sn df pa ki mn kf wz sp = fe (nbc g sn sp 0 (pd mn), SK g sn sp) (if kf (NV g (SK g sn sp) (tke g sn sp - SK g sn sp)) = true then (5, SK g sn sp) else (0, 0)) := by unfold EB; rw [if_neg (by omega), if_pos c_78]
        have hPB : PB g sn wz sp = tke g sn sp := by unfold PB; rw [if_neg (by omega)]
        have hNp : Nnp wz pa = pa := by unfold Nnp; rw [if_neg (by omega)]
        have hNk : Nnk wz ki = ki := by unfold Nnk; rw [if_neg (by omega)]
        have hNd : Ndf g sn wz pa ki df sp = df := by unfold Ndf; rw [if_neg (by omega), if_neg (by omega)]
        have hNm : Nmn wz mn = mn := by unfold Nmn; rw [if_neg (by omega)]
        have hNf : Nkf g sn wz mn kf sp = ub kf (NV g (SK g sn sp) (tke g sn sp - SK g sn sp)) true := by unfold Nkf; rw [if_neg (by omega), if_pos (by omega)]
        refine lv_aload_n hx hb dX12_behind_81 rfl (lv_at hl 0 rfl) ?_
        refine lv_iconst (v := 0) hx hb dX12_behind_82 (by decide) ?_
        refine lv_aload_n hx hb dX12_behind_83 rfl (lv_at hl 0 rfl) ?_
        refine pl_get (ci := 12) (v := .ref rs) (C := RX12) (T := TX12) (N := 32) hx hb hT iX12 hown hK hW hT_o.1 hS_o rfl 0 (by decide) w1082 rfl dX12_behind_84 ?_
        refine lv_iconst (v := 0) hx hb dX12_behind_87 (by decide) ?_
        refine pl_iald hx hb hK hW hT_x_1.1 hS_rs (vp_in_nI (n := 0) (N := 266) (by omega) (by omega)) dX12_behind_88 ?_
        refine lv_topi (fun y_109 ey_109 => ?_)
        obtain rfl : y_109 = nI mn := ey_109.trans h0_
        refine lv_iconst (v := 1) hx hb dX12_behind_89 (by decide) ?_
        refine lv_isub hx hb dX12_behind_90 ?_
        refine lv_topi (fun z_110 ez_110 => ?_)
        obtain rfl : z_110 = pd (mn) := ez_110
        refine pl_calli (va_runV (As := [.int 0, .int (pd mn)]) (rest := []) ⟨hx, hb, hml, hown, hT⟩ (f_numeral l dC dI cy L kap pr S s.heap.size o 0 (pd mn) hTy hT_o g nm sp sn wr wa sen ra pa ki rs ⟨MKi (sp := sp) (sn := sn) (pa := pa) (ki := ki) hS_o rfl rfl rfl rfl rfl rfl (by omega) (by omega) (by omega) (by omega), inf_i hS_o rfl, inf_i hS_o rfl, inf_i hS_o rfl, fld_i hS_o rfl hS_x_10, lfd_i hS_o rfl hS_x_4⟩ (by omega) hg) (cwV 2 hT (gV w1238 w1240 ws65 w14 w1241) rfl rfl rfl (by decide +kernel) ⟨(Nat.le_of_ble_eq_true rfl), (Nat.le_of_ble_eq_true rfl)⟩) ⟨pcN.blind, pl_recv hK hW hT_o.1 hS_o rfl, pcN.pre hW.1 hK hW.2.1 hN (fun q h => absurd h List.not_mem_nil)⟩ rfl rfl hl.1 rfl (lv_room (Nat.le_of_ble_eq_true rfl)) dX12_behind_91 ⟨(Nat.le_of_ble_eq_true rfl), (Nat.le_of_ble_eq_true rfl)⟩) hW hA0 hA (fun r_112 S_111 H locs hrel hW => ?_)
        obtain ⟨hTy, hF1, hx1⟩ := hrel
        have hFr := hFr.tr hF1 (by decide)
        have hS_x_10 := hF1.at hT_x_10 (by decide) hS_x_10
        have hS_x_4 := hF1.at hT_x_4 (by decide) hS_x_4
        have hS_rs := hF1.at hT_x_1 (by decide) hS_rs
        obtain ⟨sp113, wr113, wa113, ra113, hM113, hsb113, hER113, hOK113⟩ := hx1
        obtain ⟨x_114, x_115, x_116, x_117, x_118, x_119, x_120, x_121, x_122, x_123, x_124, x_125, x_126, x_127, x_128, x_129, x_130, x_131, x_132, x_133, x_134, x_135, x_136, x_137, x_138, x_139, x_140, x_141, x_142, x_143, x_144, hS_o, hT_x_114, hT_x_115, hT_x_116, hT_x_117, hT_x_118, hb_x_119, hb_x_120, hb_x_121, hT_x_123, hb_q2, hb_x_124, hb_x_125, hT_x_130, hT_x_131, hb_x_132, hT_x_133, hT_x_134, hT_x_135, hT_x_136, hT_x_137, hT_x_138, hT_x_139, hT_x_140, hT_x_141, hT_x_142, hT_x_143, hb_x_144⟩ := hTy.k12 hT_o
        have hb_q2 : pr.2 ≤ 900 := hb_q2
        have hS_o : S_111 o = .inr (12, [.ref x_114, .ref x_115, .ref x_116, .ref x_117, .ref x_118, .int (nI x_119), .int (nI x_120), .int (nI x_121), .int x_122, .ref x_123, .int (nI (pr.2)), .int (nI x_124), .int (nI x_125), .int x_126, .int x_127, .int x_128, .int x_129, .ref x_130, .ref x_131, .int (nI x_132), .ref x_133, .ref x_134, .ref x_135, .ref x_136, .ref x_137, .ref x_138, .ref x_139, .ref x_140, .ref x_141, .ref x_142, .ref x_143, .int (nI x_144)]) := hS_o
        obtain ⟨hMK_, h14_, h15_, h16_, h9_, h3_⟩ := hM113
        obtain ⟨e12_, e11_, e13_, e5_, e6_, e0_⟩ := MKe hMK_ hS_o rfl rfl rfl rfl rfl rfl (by omega) (by omega) (by omega) (by omega)
        subst e12_ e11_ e13_ e5_ e6_ e0_
        have e14_ := h14_.symm.trans (inf_i hS_o rfl)
        subst e14_
        have e15_ := h15_.symm.trans (inf_i hS_o rfl)
        subst e15_
        have e16_ := h16_.symm.trans (inf_i hS_o rfl)
        subst e16_
        obtain ⟨f_145, hS_x_123⟩ := hTy.k55 hT_x_123
        have e9_ := h9_.symm.trans (fld_i hS_o rfl hS_x_123)
        subst e9_
        obtain ⟨f_146, hS_x_117⟩ := hTy.k53 hT_x_117
        have e3_ := h3_.symm.trans (lfd_i hS_o rfl hS_x_117)
        subst e3_
        refine lv_istore_n (lv' := [(2, .int r_112), (0, .ref o), (1, .int (nI wz))]) hx hb dX12_behind_94 rfl hl (by decide) rfl (fun ls hl => ?_)
        refine lv_aload_n hx hb dX12_behind_95 rfl (lv_at hl 1 rfl) ?_
        refine pl_get (ci := 12) (v := .int wr113) (C := RX12) (T := TX12) (N := 32) hx hb hT iX12 hown hK hW hT_o.1 hS_o rfl 13 (by decide) w1095 rfl dX12_behind_96 ?_
        refine lv_if_ne (tgt := 121) hx hb dX12_behind_99 (by decide) (fun c_99 => ?_) (fun c_99 => ?_)
        · have hkE_ : ERR wr wa (EB g sn df pa ki mn kf wz sp).1 (EB g sn df pa ki mn kf wz sp).2 wr113 wa113 := by rw [hEB]; exact ERR_t nbc_b hER113 (fun _ => ⟨rfl, rfl⟩) (fun a b => absurd (ERR_z hER113 a b).1 c_99)
          refine lv_aload_n hx hb dX12_behind_121 rfl (lv_at hl 1 rfl) ?_
          refine pl_get (ci := 12) (v := .int wr113) (C := RX12) (T := TX12) (N := 32) hx hb hT iX12 hown hK hW hT_o.1 hS_o rfl 13 (by decide) w1095 rfl dX12_behind_122 ?_
          refine lv_if_ne (tgt := 141) hx hb dX12_behind_125 (by decide) (fun _ => ?_) (fun h => absurd h c_99)
          refine lv_goto (tgt := 169) hx hb dX12_behind_141 (by decide) ?_
          exact W.vret hx hb hr (fun t ht h9 => ⟨⟨S_111, rfl, ⟨hTy, hFr, ⟨sp113, _, _, _, _, pa, ki, ⟨MKi (sp := sp113) (sn := sn) (pa := pa) (ki := ki) hS_o rfl rfl rfl rfl rfl rfl (by omega) (by omega) (by omega) (by omega), inf_i hS_o rfl, inf_i hS_o rfl, inf_i hS_o rfl, fld_i hS_o rfl hS_x_123, lfd_i hS_o rfl hS_x_117⟩, by omega, hkE_, fun z => by rw [hEB] at z; exact absurd (ERR_z hER113 hw0 (fe_0 z).1).1 c_99, (by rw [fld_i hS_o rfl hS_rs]; exact hdg_)⟩⟩, by rw [ht]; exact hW.1, va_K.moved h9.alike hK, hW.2.1⟩, hW.2.2.F ht⟩) hW.2.2.2.2 dX12_behind_169
        · have hnz_ : nbc g sn sp 0 (pd mn) = 0 := by by_cases q : nbc g sn sp 0 (pd mn) = 0; exact q; exact absurd c_99 (ERR_n hER113 hw0 q nbc_b).1
          have hok9 := hOK113 hw0 hnz_
          have hvm_ := nbc_m hnz_ hsm_.2.1
          have hm40_ := hsm_.2.1
          obtain rfl : r_112 = nI (NV g (SK g sn sp) (tke g sn sp - SK g sn sp)) := hok9.2.2
          refine lv_aload_n hx hb dX12_behind_102 rfl (lv_at hl 1 rfl) ?_
          refine lv_iload_n hx hb dX12_behind_103 rfl (lv_at hl 0 rfl) ?_
          refine lv_iconst (v := 4) hx hb dX12_behind_104 (by decide) ?_
          refine vp_callSi (va_Run.run (va_runV (As := [.int (nI (NV g (SK g sn sp) (tke g sn sp - SK g sn sp))), .int 4]) (rest := []) ⟨hx, hb, hml, hown, hT⟩ (m_tradeAt l dC dI cy L kap pr S_111 H.size o (NV g (SK g sn sp) (tke g sn sp - SK g sn sp)) 4 hTy hT_o (by omega) (by omega)) (cwV 2 hT (gV w1247 w1249 ws66 w14 w1250) rfl rfl rfl (by decide +kernel) ⟨(Nat.le_of_ble_eq_true rfl), (Nat.le_of_ble_eq_true rfl)⟩) ⟨pcN.blind, pl_recv hK hW hT_o.1 hS_o rfl, pcN.pre hW.1 hK hW.2.1 hN (fun q h => absurd h List.not_mem_nil)⟩ rfl rfl hl.1 rfl (lv_room (Nat.le_of_ble_eq_true rfl)) dX12_behind_105 ⟨(Nat.le_of_ble_eq_true rfl), (Nat.le_of_ble_eq_true rfl)⟩)) (fun r_147 hr_147 => ?_)
          have hkv_ : r_147 = (if kf (NV g (SK g sn sp) (tke g sn sp - SK g sn sp)) = true then 1 else 0) := hr_147.2.trans ((congrFun (show af (S_111 (rf (S_111 o) 0)) = f_34 from fld_i (S := S_111) hS_o rfl hS_rs) _).trans (hsm_.2.2 _ hvm_))
          refine lv_iconst (v := 1) hx hb dX12_behind_108 (by decide) ?_
          refine lv_icmp_ne (tgt := 121) hx hb dX12_behind_109 (by decide) (fun c_109 => ?_) (fun c_109 => ?_)
          · have hkk : (if kf (NV g (SK g sn sp) (tke g sn sp - SK g sn sp)) = true then ((5 : Nat), SK g sn sp) else (0, 0)) = (0, 0) := by by_cases q : kf (NV g (SK g sn sp) (tke g sn sp - SK g sn sp)) = true; rw [if_pos q] at hkv_; exact absurd hkv_ c_109; exact if_neg q
            have hkE_ : ERR wr wa (EB g sn df pa ki mn kf wz sp).1 (EB g sn df pa ki mn kf wz sp).2 wr113 wa113 := by rw [hEB, hkk]; exact ERR_t nbc_b hER113 (fun a => absurd c_99 a) (fun _ _ => ERR_0)
            refine lv_aload_n hx hb dX12_behind_121 rfl (lv_at hl 1 rfl) ?_
            refine pl_get (ci := 12) (v := .int wr113) (C := RX12) (T := TX12) (N := 32) hx hb hT iX12 hown hK hW hT_o.1 hS_o rfl 13 (by decide) w1095 rfl dX12_behind_122 ?_
            refine lv_if_ne (tgt := 141) hx hb dX12_behind_125 (by decide) (fun h => absurd c_99 h) (fun _ => ?_)
            refine lv_aload_n hx hb dX12_behind_128 rfl (lv_at hl 1 rfl) ?_
            refine pl_get (ci := 12) (v := .ref rs) (C := RX12) (T := TX12) (N := 32) hx hb hT iX12 hown hK hW hT_o.1 hS_o rfl 0 (by decide) w1082 rfl dX12_behind_129 ?_
            refine lv_iconst (v := 2) hx hb dX12_behind_132 (by decide) ?_
            refine lv_iconst (v := 5) hx hb dX12_behind_133 (by decide) ?_
            refine lv_iload_n hx hb dX12_behind_134 rfl (lv_at hl 0 rfl) ?_
            refine lv_imul hx hb dX12_behind_135 ?_
            refine lv_topi (fun z_148 ez_148 => ?_)
            obtain rfl : z_148 = nI (5 * (NV g (SK g sn sp) (tke g sn sp - SK g sn sp))) := ez_148.trans (pk_mul (5) (NV g (SK g sn sp) (tke g sn sp - SK g sn sp)))
            refine lv_iadd hx hb dX12_behind_136 ?_
            refine lv_topi (fun z_149 ez_149 => ?_)
            obtain rfl : z_149 = nI (2 + (5 * (NV g (SK g sn sp) (tke g sn sp - SK g sn sp)))) := ez_149.trans (nI_add (2) (5 * (NV g (SK g sn sp) (tke g sn sp - SK g sn sp))))
            refine lv_iconst (v := 4) hx hb dX12_behind_137 (by decide) ?_
            refine lv_iadd hx hb dX12_behind_138 ?_
            refine lv_topi (fun z_150 ez_150 => ?_)
            obtain rfl : z_150 = nI ((2 + (5 * (NV g (SK g sn sp) (tke g sn sp - SK g sn sp)))) + 4) := ez_150.trans (nI_add (2 + (5 * (NV g (SK g sn sp) (tke g sn sp - SK g sn sp)))) (4))
            refine lv_iconst (v := 1) hx hb dX12_behind_139 (by decide) ?_
            refine pl_iast hx hb hK hW hT_x_1.1 hS_rs (vp_in_nI (n := (2 + (5 * (NV g (SK g sn sp) (tke g sn sp - SK g sn sp)))) + 4) (N := 266) (by omega) (by omega)) dX12_behind_140 (fun H locs f_152 S_151 ef_f_152 e1 hW => ?_)
            have hok_ : okS ((2 + (5 * (NV g (SK g sn sp) (tke g sn sp - SK g sn sp)))) + 4) (nI (1)) := (okS_n (by omega) (by omega) (by omega))
            have hi_f_152 := okS_up (i := (2 + (5 * (NV g (SK g sn sp) (tke g sn sp - SK g sn sp)))) + 4) (by omega) hi_f_34 ef_f_152 hok_
            have hTy := hTy.u50 e1 hT_x_1 ⟨f_152, rfl, hi_f_152⟩
            have hS_x_10 := un e1 hT_x_10 hT_x_1 (by decide) hS_x_10
            have hS_x_4 := un e1 hT_x_4 hT_x_1 (by decide) hS_x_4
            have hS_o := un e1 hT_o hT_x_1 (by decide) hS_o
            have hS_x_123 := un e1 hT_x_123 hT_x_1 (by decide) hS_x_123
            have hS_x_117 := un e1 hT_x_117 hT_x_1 (by decide) hS_x_117
            have hFr := uf hFr e1 hT_x_1 (by decide) (by decide)
            have hS_rs := us e1
            have h0_ : f_152 0 = nI mn := up0 (i := (2 + (5 * (NV g (SK g sn sp) (tke g sn sp - SK g sn sp)))) + 4) (by omega) (by omega) h0_ ef_f_152
            have hdg_ := dg_up (i := (2 + (5 * (NV g (SK g sn sp) (tke g sn sp - SK g sn sp)))) + 4) hdg_ ef_f_152 (by omega) (by omega)
            have hsm_ := SM_k hsm_ hvm_ ef_f_152 (by omega)
            refine lv_goto (tgt := 169) hx hb dX12_behind_141 (by decide) ?_
            exact W.vret hx hb hr (fun t ht h9 => ⟨⟨S_151, rfl, ⟨hTy, hFr, ⟨sp113, _, _, _, _, pa, ki, ⟨MKi (sp := sp113) (sn := sn) (pa := pa) (ki := ki) hS_o rfl rfl rfl rfl rfl rfl (by omega) (by omega) (by omega) (by omega), inf_i hS_o rfl, inf_i hS_o rfl, inf_i hS_o rfl, fld_i hS_o rfl hS_x_123, lfd_i hS_o rfl hS_x_117⟩, by omega, hkE_, fun z => by rw [hPB, hNp, hNk, hNd, hNm, hNf]; exact ⟨hok9.1, rfl, rfl, hN0, hN8, (by rw [fld_i hS_o rfl hS_rs]; exact hsm_)⟩, (by rw [fld_i hS_o rfl hS_rs]; exact hdg_)⟩⟩, by rw [ht]; exact hW.1, va_K.moved h9.alike hK, hW.2.1⟩, hW.2.2.F ht⟩) hW.2.2.2.2 dX12_behind_169
          · have hkk : (if kf (NV g (SK g sn sp) (tke g sn sp - SK g sn sp)) = true then ((5 : Nat), SK g sn sp) else (0, 0)) = (5, SK g sn sp) := by by_cases q : kf (NV g (SK g sn sp) (tke g sn sp - SK g sn sp)) = true; exact if_pos q; rw [if_neg q] at hkv_; rw [hkv_] at c_109; exact absurd c_109 (by decide)
            refine lv_aload_n hx hb dX12_behind_112 rfl (lv_at hl 1 rfl) ?_
            refine lv_iconst (v := 5) hx hb dX12_behind_113 (by decide) ?_
            refine lv_aload_n hx hb dX12_behind_114 rfl (lv_at hl 1 rfl) ?_
            refine pl_get (ci := 12) (v := .int ra113) (C := RX12) (T := TX12) (N := 32) hx hb hT iX12 hown hK hW hT_o.1 hS_o rfl 16 (by decide) w1098 rfl dX12_behind_115 ?_
            refine pl_callv (va_runV (As := [.int 5, .int ra113]) (rest := []) ⟨hx, hb, hml, hown, hT⟩ (f_fails l dC dI cy L kap pr S_111 H.size o 5 ra113 hTy hT_o g nm sp113 sn wr113 wa113 sen ra113 pa ki rs ⟨MKi (sp := sp113) (sn := sn) (pa := pa) (ki := ki) hS_o rfl rfl rfl rfl rfl rfl (by omega) (by omega) (by omega) (by omega), inf_i hS_o rfl, inf_i hS_o rfl, inf_i hS_o rfl, fld_i hS_o rfl hS_x_123, lfd_i hS_o rfl hS_x_117⟩ (by omega) hg) (cwV 2 hT (gV w1214 w1216 ws59 w14 w1217) rfl rfl rfl (by decide +kernel) ⟨(Nat.le_of_ble_eq_true rfl), (Nat.le_of_ble_eq_true rfl)⟩) ⟨pcN.blind, pl_recv hK hW hT_o.1 hS_o rfl, pcN.pre hW.1 hK hW.2.1 hN (fun q h => absurd h List.not_mem_nil)⟩ rfl rfl hl.1 rfl (lv_room (Nat.le_of_ble_eq_true rfl)) dX12_behind_118 ⟨(Nat.le_of_ble_eq_true rfl), (Nat.le_of_ble_eq_true rfl)⟩) hW hA0 hA (fun S_153 H locs hrel hW => ?_)
            obtain ⟨hTy, hF1, hx1⟩ := hrel
            have hFr := hFr.tr hF1 (by decide)
            have hS_x_10 := hF1.at hT_x_10 (by decide) hS_x_10
            have hS_x_4 := hF1.at hT_x_4 (by decide) hS_x_4
            have hS_rs := hF1.at hT_x_1 (by decide) hS_rs
            have hS_x_123 := hF1.at hT_x_123 (by decide) hS_x_123
            have hS_x_117 := hF1.at hT_x_117 (by decide) hS_x_117
            obtain ⟨wr154, wa154, hM154, hfa154, hfb154⟩ := hx1
            obtain ⟨x_155, x_156, x_157, x_158, x_159, x_160, x_161, x_162, x_163, x_164, x_165, x_166, x_167, x_168, x_169, x_170, x_171, x_172, x_173, x_174, x_175, x_176, x_177, x_178, x_179, x_180, x_181, x_182, x_183, x_184, x_185, hS_o, hT_x_155, hT_x_156, hT_x_157, hT_x_158, hT_x_159, hb_x_160, hb_x_161, hb_x_162, hT_x_164, hb_q2, hb_x_165, hb_x_166, hT_x_171, hT_x_172, hb_x_173, hT_x_174, hT_x_175, hT_x_176, hT_x_177, hT_x_178, hT_x_179, hT_x_180, hT_x_181, hT_x_182, hT_x_183, hT_x_184, hb_x_185⟩ := hTy.k12 hT_o
            have hb_q2 : pr.2 ≤ 900 := hb_q2
            have hS_o : S_153 o = .inr (12, [.ref x_155, .ref x_156, .ref x_157, .ref x_158, .ref x_159, .int (nI x_160), .int (nI x_161), .int (nI x_162), .int x_163, .ref x_164, .int (nI (pr.2)), .int (nI x_165), .int (nI x_166), .int x_167, .int x_168, .int x_169, .int x_170, .ref x_171, .ref x_172, .int (nI x_173), .ref x_174, .ref x_175, .ref x_176, .ref x_177, .ref x_178, .ref x_179, .ref x_180, .ref x_181, .ref x_182, .ref x_183, .ref x_184, .int (nI x_185)]) := hS_o
            obtain ⟨hMK_, h14_, h15_, h16_, h9_, h3_⟩ := hM154
            obtain ⟨e12_, e11_, e13_, e5_, e6_, e0_⟩ := MKe hMK_ hS_o rfl rfl rfl rfl rfl rfl (by omega) (by omega) (by omega) (by omega)
            subst e12_ e11_ e13_ e5_ e6_ e0_
            have e14_ := h14_.symm.trans (inf_i hS_o rfl)
            subst e14_
            have e15_ := h15_.symm.trans (inf_i hS_o rfl)
            subst e15_
            have e16_ := h16_.symm.trans (inf_i hS_o rfl)
            subst e16_
            obtain ⟨f_186, hS_x_164⟩ := hTy.k55 hT_x_164
            have e9_ := h9_.symm.trans (fld_i hS_o rfl hS_x_164)
            subst e9_
            obtain ⟨f_187, hS_x_158⟩ := hTy.k53 hT_x_158
            have e3_ := h3_.symm.trans (lfd_i hS_o rfl hS_x_158)
            subst e3_
            have hkE_ : ERR wr wa (EB g sn df pa ki mn kf wz sp).1 (EB g sn df pa ki mn kf wz sp).2 wr154 wa154 := by rw [hEB, hkk]; exact ERR_t nbc_b hER113 (fun a => absurd c_99 a) (fun _ _ => ERR_e c_99 (show (5 : Nat) ≠ 0 from by decide) (by have q := hfb154 c_99; exact ⟨q.1, q.2.trans hok9.2.1⟩))
            refine lv_aload_n hx hb dX12_behind_121 rfl (lv_at hl 1 rfl) ?_
            refine pl_get (ci := 12) (v := .int wr154) (C := RX12) (T := TX12) (N := 32) hx hb hT iX12 hown hK hW hT_o.1 hS_o rfl 13 (by decide) w1095 rfl dX12_behind_122 ?_
            refine lv_if_ne (tgt := 141) hx hb dX12_behind_125 (by decide) (fun _ => ?_) (fun h => absurd h (by rw [(hfb154 c_99).1]; decide))
            refine lv_goto (tgt := 169) hx hb dX12_behind_141 (by decide) ?_
            exact W.vret hx hb hr (fun t ht h9 => ⟨⟨S_153, rfl, ⟨hTy, hFr, ⟨sp113, _, _, _, _, pa, ki, ⟨MKi (sp := sp113) (sn := sn) (pa := pa) (ki := ki) hS_o rfl rfl rfl rfl rfl rfl (by omega) (by omega) (by omega) (by omega), inf_i hS_o rfl, inf_i hS_o rfl, inf_i hS_o rfl, fld_i hS_o rfl hS_x_164, lfd_i hS_o rfl hS_x_158⟩, by omega, hkE_, fun z => by rw [hEB, hkk] at z; exact absurd (show (5 : Nat) = 0 from (fe_0 z).2) (by decide), (by rw [fld_i hS_o rfl hS_rs]; exact hdg_)⟩⟩, by rw [ht]; exact hW.1, va_K.moved h9.alike hK, hW.2.1⟩, hW.2.2.F ht⟩) hW.2.2.2.2 dX12_behind_169
    · have c_38 : wz = 1 := (nI_eq (a := wz) (b := 1) (by omega) (by omega)).mp c_38
      have hEB : EB g sn df pa ki mn kf wz sp = (nnc g sn df pa ki sp, SK g sn sp) := by unfold EB; rw [if_pos (Or.inr c_38)]
      have hPB : PB g sn wz sp = tke g sn sp := by unfold PB; rw [if_neg (by omega)]
      have hNp : Nnp wz pa = pa := by unfold Nnp; rw [if_neg (by omega)]
      have hNk : Nnk wz ki = ki + 1 := by unfold Nnk; rw [if_pos (by omega)]
      have hNd : Ndf g sn wz pa ki df sp = ud df (8 + ki) (SK g sn sp, tke g sn sp - SK g sn sp) := by unfold Ndf; rw [if_neg (by omega), if_pos (by omega)]
      have hNm : Nmn wz mn = mn := by unfold Nmn; rw [if_neg (by omega)]
      have hNf : Nkf g sn wz mn kf sp = kf := by unfold Nkf; rw [if_neg (by omega), if_neg (by omega)]
      have hfl_ := h1 c_38
      refine lv_aload_n hx hb dX12_behind_41 rfl (lv_at hl 0 rfl) ?_
      refine lv_bipush (v := 8) hx hb dX12_behind_42 (by decide) ?_
      refine lv_aload_n hx hb dX12_behind_44 rfl (lv_at hl 0 rfl) ?_
      refine pl_get (ci := 12) (v := .int (nI ki)) (C := RX12) (T := TX12) (N := 32) hx hb hT iX12 hown hK hW hT_o.1 hS_o rfl 6 (by decide) w1088 rfl dX12_behind_45 ?_
      refine lv_iadd hx hb dX12_behind_48 ?_
      refine lv_topi (fun z_188 ez_188 => ?_)
      obtain rfl : z_188 = nI (8 + ki) := ez_188.trans (nI_add (8) (ki))
      refine pl_callv (va_runV (As := [.int (nI (8 + ki))]) (rest := []) ⟨hx, hb, hml, hown, hT⟩ (f_newName l dC dI cy L kap pr ad S s.heap.size o (8 + ki) hTy hT_o (by omega) g nm sp sn wr wa sen ra pa ki rs ⟨MKi (sp := sp) (sn := sn) (pa := pa) (ki := ki) hS_o rfl rfl rfl rfl rfl rfl (by omega) (by omega) (by omega) (by omega), inf_i hS_o rfl, inf_i hS_o rfl, inf_i hS_o rfl, fld_i hS_o rfl hS_x_10, lfd_i hS_o rfl hS_x_4⟩ (by omega) hg df hN0 hN8) (cwV 1 hT (gV w1226 w1228 ws62 w14 w1229) rfl rfl rfl (by decide +kernel) ⟨(Nat.le_of_ble_eq_true rfl), (Nat.le_of_ble_eq_true rfl)⟩) ⟨pcS.blind, pl_recv hK hW hT_o.1 hS_o rfl, pcS.pre hW.1 hK hW.2.1 hN hSTR hW.2.2⟩ rfl rfl hl.1 rfl (lv_room (Nat.le_of_ble_eq_true rfl)) dX12_behind_49 ⟨(Nat.le_of_ble_eq_true rfl), (Nat.le_of_ble_eq_true rfl)⟩) hW hA0 hA (fun S_189 H locs hrel hW => ?_)
      obtain ⟨hTy, hF1, hx1⟩ := hrel
      have hFr := hFr.tr hF1 (by decide)
      have hS_x_10 := hF1.at hT_x_10 (by decide) hS_x_10
      have hS_rs := hF1.at hT_x_1 (by decide) hS_rs
      obtain ⟨sp190, wr190, wa190, ra190, nm190, hM190, hsb190, hER190, hOK190⟩ := hx1
      obtain ⟨x_191, x_192, x_193, x_194, x_195, x_196, x_197, x_198, x_199, x_200, x_201, x_202, x_203, x_204, x_205, x_206, x_207, x_208, x_209, x_210, x_211, x_212, x_213, x_214, x_215, x_216, x_217, x_218, x_219, x_220, x_221, hS_o, hT_x_191, hT_x_192, hT_x_193, hT_x_194, hT_x_195, hb_x_196, hb_x_197, hb_x_198, hT_x_200, hb_q2, hb_x_201, hb_x_202, hT_x_207, hT_x_208, hb_x_209, hT_x_210, hT_x_211, hT_x_212, hT_x_213, hT_x_214, hT_x_215, hT_x_216, hT_x_217, hT_x_218, hT_x_219, hT_x_220, hb_x_221⟩ := hTy.k12 hT_o
      have hb_q2 : pr.2 ≤ 900 := hb_q2
      have hS_o : S_189 o = .inr (12, [.ref x_191, .ref x_192, .ref x_193, .ref x_194, .ref x_195, .int (nI x_196), .int (nI x_197), .int (nI x_198), .int x_199, .ref x_200, .int (nI (pr.2)), .int (nI x_201), .int (nI x_202), .int x_203, .int x_204, .int x_205, .int x_206, .ref x_207, .ref x_208, .int (nI x_209), .ref x_210, .ref x_211, .ref x_212, .ref x_213, .ref x_214, .ref x_215, .ref x_216, .ref x_217, .ref x_218, .ref x_219, .ref x_220, .int (nI x_221)]) := hS_o
      obtain ⟨hMK_, h14_, h15_, h16_, h9_, h3_⟩ := hM190
      obtain ⟨e12_, e11_, e13_, e5_, e6_, e0_⟩ := MKe hMK_ hS_o rfl rfl rfl rfl rfl rfl (by omega) (by omega) (by omega) (by omega)
      subst e12_ e11_ e13_ e5_ e6_ e0_
      have e14_ := h14_.symm.trans (inf_i hS_o rfl)
      subst e14_
      have e15_ := h15_.symm.trans (inf_i hS_o rfl)
      subst e15_
      have e16_ := h16_.symm.trans (inf_i hS_o rfl)
      subst e16_
      obtain ⟨f_222, hS_x_200⟩ := hTy.k55 hT_x_200
      have e9_ := h9_.symm.trans (fld_i hS_o rfl hS_x_200)
      subst e9_
      obtain ⟨f_223, hS_x_194⟩ := hTy.k53 hT_x_194
      have e3_ := h3_.symm.trans (lfd_i hS_o rfl hS_x_194)
      subst e3_
      refine lv_aload_n hx hb dX12_behind_52 rfl (lv_at hl 0 rfl) ?_
      refine lv_dup hx hb dX12_behind_53 rfl ?_
      refine pl_get (ci := 12) (v := .int (nI ki)) (C := RX12) (T := TX12) (N := 32) hx hb hT iX12 hown hK hW hT_o.1 hS_o rfl 6 (by decide) w1088 rfl dX12_behind_54 ?_
      refine lv_aload_n hx hb dX12_behind_57 rfl (lv_at hl 0 rfl) ?_
      refine pl_get (ci := 12) (v := .int wr190) (C := RX12) (T := TX12) (N := 32) hx hb hT iX12 hown hK hW hT_o.1 hS_o rfl 13 (by decide) w1095 rfl dX12_behind_58 ?_
      refine lv_if_ne (tgt := 68) hx hb dX12_behind_61 (by decide) (fun c_61 => ?_) (fun c_61 => ?_)
      · refine lv_iconst (v := 0) hx hb dX12_behind_68 (by decide) ?_
        refine lv_iadd hx hb dX12_behind_69 ?_
        refine lv_topi (fun z_224 ez_224 => ?_)
        obtain rfl : z_224 = nI (ki + 0) := ez_224.trans (nI_add (ki) (0))
        refine pl_put (ci := 12) (v := .int (nI (ki + 0))) (ty := .int) (C := RX12) (T := TX12) (N := 32) (fs' := [.ref rs, .ref x_192, .ref x_193, .ref x_194, .ref x_195, .int (nI pa), .int (nI (ki + 0)), .int (nI x_198), .int x_199, .ref x_200, .int (nI (pr.2)), .int (nI sn), .int (nI sp190), .int wr190, .int wa190, .int sen, .int ra190, .ref x_207, .ref x_208, .int (nI x_209), .ref x_210, .ref x_211, .ref x_212, .ref x_213, .ref x_214, .ref x_215, .ref x_216, .ref x_217, .ref x_218, .ref x_219, .ref x_220, .int (nI x_221)]) hx hb hT iX12 tyX12 tyX12_ok nmX12 hown hK hW hT_o.1 hS_o rfl 6 (by decide) w1088 rfl (by decide +kernel) rfl rfl (Nat.le_of_ble_eq_true rfl) rfl dX12_behind_70 (fun H locs S_225 e1 hW => ?_)
        have hTy := hTy.u12 e1 hT_o ⟨rs, x_192, x_193, x_194, x_195, pa, ki + 0, x_198, x_199, x_200, sn, sp190, wr190, wa190, sen, ra190, x_207, x_208, x_209, x_210, x_211, x_212, x_213, x_214, x_215, x_216, x_217, x_218, x_219, x_220, x_221, rfl, hT_x_1, hT_x_192, hT_x_193, hT_x_194, hT_x_195, (by omega), (by omega), (by omega), hT_x_200, (by show pr.2 ≤ 900; omega), (by omega), (by omega), hT_x_207, hT_x_208, (by omega), hT_x_210, hT_x_211, hT_x_212, hT_x_213, hT_x_214, hT_x_215, hT_x_216, hT_x_217, hT_x_218, hT_x_219, hT_x_220, (by omega)⟩
        have hS_x_10 := un e1 hT_x_10 hT_o (by decide) hS_x_10
        have hS_rs := un e1 hT_x_1 hT_o (by decide) hS_rs
        have hS_x_200 := un e1 hT_x_200 hT_o (by decide) hS_x_200
        have hS_x_194 := un e1 hT_x_194 hT_o (by decide) hS_x_194
        have hws := (show wrs (.inr (12, [.ref rs, .ref x_192, .ref x_193, .ref x_194, .ref x_195, .int (nI pa), .int (nI (ki + 0)), .int (nI x_198), .int x_199, .ref x_200, .int (nI (pr.2)), .int (nI sn), .int (nI sp190), .int wr190, .int wa190, .int sen, .int ra190, .ref x_207, .ref x_208, .int (nI x_209), .ref x_210, .ref x_211, .ref x_212, .ref x_213, .ref x_214, .ref x_215, .ref x_216, .ref x_217, .ref x_218, .ref x_219, .ref x_220, .int (nI x_221)])) = wrs (S_189 o) from by rw [hS_o]; rfl)
        have hFr := ufs hFr e1 hT_o (by decide) hws
        have hS_o := us e1
        refine lv_goto (tgt := 169) hx hb dX12_behind_73 (by decide) ?_
        exact W.vret hx hb hr (fun t ht h9 => ⟨⟨S_225, rfl, ⟨hTy, hFr, ⟨sp190, _, _, _, _, pa, (ki + 0), ⟨MKi (sp := sp190) (sn := sn) (pa := pa) (ki := (ki + 0)) hS_o rfl rfl rfl rfl rfl rfl (by omega) (by omega) (by omega) (by omega), inf_i hS_o rfl, inf_i hS_o rfl, inf_i hS_o rfl, fld_i hS_o rfl hS_x_200, lfd_i hS_o rfl hS_x_194⟩, by omega, by rw [hEB]; exact hER190, fun z => by rw [hEB] at z; exact absurd (ERR_z hER190 hw0 z).1 c_61, (by rw [fld_i hS_o rfl hS_rs]; exact hdg_)⟩⟩, by rw [ht]; exact hW.1, va_K.moved h9.alike hK, hW.2.1⟩, hW.2.2.F ht⟩) hW.2.2.2.2 dX12_behind_169
      · refine lv_iconst (v := 1) hx hb dX12_behind_64 (by decide) ?_
        refine lv_goto (tgt := 69) hx hb dX12_behind_65 (by decide) ?_
        refine lv_iadd hx hb dX12_behind_69 ?_
        refine lv_topi (fun z_226 ez_226 => ?_)
        obtain rfl : z_226 = nI (ki + 1) := ez_226.trans (nI_add (ki) (1))
        refine pl_put (ci := 12) (v := .int (nI (ki + 1))) (ty := .int) (C := RX12) (T := TX12) (N := 32) (fs' := [.ref rs, .ref x_192, .ref x_193, .ref x_194, .ref x_195, .int (nI pa), .int (nI (ki + 1)), .int (nI x_198), .int x_199, .ref x_200, .int (nI (pr.2)), .int (nI sn), .int (nI sp190), .int wr190, .int wa190, .int sen, .int ra190, .ref x_207, .ref x_208, .int (nI x_209), .ref x_210, .ref x_211, .ref x_212, .ref x_213, .ref x_214, .ref x_215, .ref x_216, .ref x_217, .ref x_218, .ref x_219, .ref x_220, .int (nI x_221)]) hx hb hT iX12 tyX12 tyX12_ok nmX12 hown hK hW hT_o.1 hS_o rfl 6 (by decide) w1088 rfl (by decide +kernel) rfl rfl (Nat.le_of_ble_eq_true rfl) rfl dX12_behind_70 (fun H locs S_227 e1 hW => ?_)
        have hTy := hTy.u12 e1 hT_o ⟨rs, x_192, x_193, x_194, x_195, pa, ki + 1, x_198, x_199, x_200, sn, sp190, wr190, wa190, sen, ra190, x_207, x_208, x_209, x_210, x_211, x_212, x_213, x_214, x_215, x_216, x_217, x_218, x_219, x_220, x_221, rfl, hT_x_1, hT_x_192, hT_x_193, hT_x_194, hT_x_195, (by omega), (by omega), (by omega), hT_x_200, (by show pr.2 ≤ 900; omega), (by omega), (by omega), hT_x_207, hT_x_208, (by omega), hT_x_210, hT_x_211, hT_x_212, hT_x_213, hT_x_214, hT_x_215, hT_x_216, hT_x_217, hT_x_218, hT_x_219, hT_x_220, (by omega)⟩
        have hS_x_10 := un e1 hT_x_10 hT_o (by decide) hS_x_10
        have hS_rs := un e1 hT_x_1 hT_o (by decide) hS_rs
        have hS_x_200 := un e1 hT_x_200 hT_o (by decide) hS_x_200
        have hS_x_194 := un e1 hT_x_194 hT_o (by decide) hS_x_194
        have hws := (show wrs (.inr (12, [.ref rs, .ref x_192, .ref x_193, .ref x_194, .ref x_195, .int (nI pa), .int (nI (ki + 1)), .int (nI x_198), .int x_199, .ref x_200, .int (nI (pr.2)), .int (nI sn), .int (nI sp190), .int wr190, .int wa190, .int sen, .int ra190, .ref x_207, .ref x_208, .int (nI x_209), .ref x_210, .ref x_211, .ref x_212, .ref x_213, .ref x_214, .ref x_215, .ref x_216, .ref x_217, .ref x_218, .ref x_219, .ref x_220, .int (nI x_221)])) = wrs (S_189 o) from by rw [hS_o]; rfl)
        have hFr := ufs hFr e1 hT_o (by decide) hws
        have hS_o := us e1
        refine lv_goto (tgt := 169) hx hb dX12_behind_73 (by decide) ?_
        exact W.vret hx hb hr (fun t ht h9 => ⟨⟨S_227, rfl, ⟨hTy, hFr, ⟨sp190, _, _, _, _, pa, (ki + 1), ⟨MKi (sp := sp190) (sn := sn) (pa := pa) (ki := (ki + 1)) hS_o rfl rfl rfl rfl rfl rfl (by omega) (by omega) (by omega) (by omega), inf_i hS_o rfl, inf_i hS_o rfl, inf_i hS_o rfl, fld_i hS_o rfl hS_x_200, lfd_i hS_o rfl hS_x_194⟩, by omega, by rw [hEB]; exact hER190, fun z => by rw [hEB] at z; rw [hPB, hNp, hNk, hNd, hNm, hNf]; have q := hOK190 hw0 z; rw [q.2]; exact ⟨q.1, rfl, rfl, NMR_80 hN0 (by omega), NMR_8 hN8 (NOK_t (nnc_4 z) (by omega)) rfl, (by rw [fld_i hS_o rfl hS_rs]; exact hsm_)⟩, (by rw [fld_i hS_o rfl hS_rs]; exact hdg_)⟩⟩, by rw [ht]; exact hW.1, va_K.moved h9.alike hK, hW.2.1⟩, hW.2.2.F ht⟩) hW.2.2.2.2 dX12_behind_169
  · have c_1 : wz = 0 := (nI_eq (a := wz) (b := 0) (by omega) (by omega)).mp c_1
    have hEB : EB g sn df pa ki mn kf wz sp = (nnc g sn df pa ki sp, SK g sn sp) := by unfold EB; rw [if_pos (Or.inl c_1)]
    have hPB : PB g sn wz sp = tke g sn sp := by unfold PB; rw [if_neg (by omega)]
    have hNp : Nnp wz pa = pa + 1 := by unfold Nnp; rw [if_pos (by omega)]
    have hNk : Nnk wz ki = ki := by unfold Nnk; rw [if_neg (by omega)]
    have hNd : Ndf g sn wz pa ki df sp = ud df pa (SK g sn sp, tke g sn sp - SK g sn sp) := by unfold Ndf; rw [if_pos (by omega)]
    have hNm : Nmn wz mn = mn := by unfold Nmn; rw [if_neg (by omega)]
    have hNf : Nkf g sn wz mn kf sp = kf := by unfold Nkf; rw [if_neg (by omega), if_neg (by omega)]
    have hfl_ := h0 c_1
    refine lv_aload_n hx hb dX12_behind_4 rfl (lv_at hl 0 rfl) ?_
    refine lv_aload_n hx hb dX12_behind_5 rfl (lv_at hl 0 rfl) ?_
    refine pl_get (ci := 12) (v := .int (nI pa)) (C := RX12) (T := TX12) (N := 32) hx hb hT iX12 hown hK hW hT_o.1 hS_o rfl 5 (by decide) w1087 rfl dX12_behind_6 ?_
    refine pl_callv (va_runV (As := [.int (nI pa)]) (rest := []) ⟨hx, hb, hml, hown, hT⟩ (f_newName l dC dI cy L kap pr ad S s.heap.size o pa hTy hT_o (by omega) g nm sp sn wr wa sen ra pa ki rs ⟨MKi (sp := sp) (sn := sn) (pa := pa) (ki := ki) hS_o rfl rfl rfl rfl rfl rfl (by omega) (by omega) (by omega) (by omega), inf_i hS_o rfl, inf_i hS_o rfl, inf_i hS_o rfl, fld_i hS_o rfl hS_x_10, lfd_i hS_o rfl hS_x_4⟩ (by omega) hg df hN0 hN8) (cwV 1 hT (gV w1226 w1228 ws62 w14 w1229) rfl rfl rfl (by decide +kernel) ⟨(Nat.le_of_ble_eq_true rfl), (Nat.le_of_ble_eq_true rfl)⟩) ⟨pcS.blind, pl_recv hK hW hT_o.1 hS_o rfl, pcS.pre hW.1 hK hW.2.1 hN hSTR hW.2.2⟩ rfl rfl hl.1 rfl (lv_room (Nat.le_of_ble_eq_true rfl)) dX12_behind_9 ⟨(Nat.le_of_ble_eq_true rfl), (Nat.le_of_ble_eq_true rfl)⟩) hW hA0 hA (fun S_228 H locs hrel hW => ?_)
    obtain ⟨hTy, hF1, hx1⟩ := hrel
    have hFr := hFr.tr hF1 (by decide)
    have hS_x_10 := hF1.at hT_x_10 (by decide) hS_x_10
    have hS_rs := hF1.at hT_x_1 (by decide) hS_rs
    obtain ⟨sp229, wr229, wa229, ra229, nm229, hM229, hsb229, hER229, hOK229⟩ := hx1
    obtain ⟨x_230, x_231, x_232, x_233, x_234, x_235, x_236, x_237, x_238, x_239, x_240, x_241, x_242, x_243, x_244, x_245, x_246, x_247, x_248, x_249, x_250, x_251, x_252, x_253, x_254, x_255, x_256, x_257, x_258, x_259, x_260, hS_o, hT_x_230, hT_x_231, hT_x_232, hT_x_233, hT_x_234, hb_x_235, hb_x_236, hb_x_237, hT_x_239, hb_q2, hb_x_240, hb_x_241, hT_x_246, hT_x_247, hb_x_248, hT_x_249, hT_x_250, hT_x_251, hT_x_252, hT_x_253, hT_x_254, hT_x_255, hT_x_256, hT_x_257, hT_x_258, hT_x_259, hb_x_260⟩ := hTy.k12 hT_o
    have hb_q2 : pr.2 ≤ 900 := hb_q2
    have hS_o : S_228 o = .inr (12, [.ref x_230, .ref x_231, .ref x_232, .ref x_233, .ref x_234, .int (nI x_235), .int (nI x_236), .int (nI x_237), .int x_238, .ref x_239, .int (nI (pr.2)), .int (nI x_240), .int (nI x_241), .int x_242, .int x_243, .int x_244, .int x_245, .ref x_246, .ref x_247, .int (nI x_248), .ref x_249, .ref x_250, .ref x_251, .ref x_252, .ref x_253, .ref x_254, .ref x_255, .ref x_256, .ref x_257, .ref x_258, .ref x_259, .int (nI x_260)]) := hS_o
    obtain ⟨hMK_, h14_, h15_, h16_, h9_, h3_⟩ := hM229
    obtain ⟨e12_, e11_, e13_, e5_, e6_, e0_⟩ := MKe hMK_ hS_o rfl rfl rfl rfl rfl rfl (by omega) (by omega) (by omega) (by omega)
    subst e12_ e11_ e13_ e5_ e6_ e0_
    have e14_ := h14_.symm.trans (inf_i hS_o rfl)
    subst e14_
    have e15_ := h15_.symm.trans (inf_i hS_o rfl)
    subst e15_
    have e16_ := h16_.symm.trans (inf_i hS_o rfl)
    subst e16_
    obtain ⟨f_261, hS_x_239⟩ := hTy.k55 hT_x_239
    have e9_ := h9_.symm.trans (fld_i hS_o rfl hS_x_239)
    subst e9_
    obtain ⟨f_262, hS_x_233⟩ := hTy.k53 hT_x_233
    have e3_ := h3_.symm.trans (lfd_i hS_o rfl hS_x_233)
    subst e3_
    refine lv_aload_n hx hb dX12_behind_12 rfl (lv_at hl 0 rfl) ?_
    refine lv_dup hx hb dX12_behind_13 rfl ?_
    refine pl_get (ci := 12) (v := .int (nI pa)) (C := RX12) (T := TX12) (N := 32) hx hb hT iX12 hown hK hW hT_o.1 hS_o rfl 5 (by decide) w1087 rfl dX12_behind_14 ?_
    refine lv_aload_n hx hb dX12_behind_17 rfl (lv_at hl 0 rfl) ?_
    refine pl_get (ci := 12) (v := .int wr229) (C := RX12) (T := TX12) (N := 32) hx hb hT iX12 hown hK hW hT_o.1 hS_o rfl 13 (by decide) w1095 rfl dX12_behind_18 ?_
    refine lv_if_ne (tgt := 28) hx hb dX12_behind_21 (by decide) (fun c_21 => ?_) (fun c_21 => ?_)
    · refine lv_iconst (v := 0) hx hb dX12_behind_28 (by decide) ?_
      refine lv_iadd hx hb dX12_behind_29 ?_
      refine lv_topi (fun z_263 ez_263 => ?_)
      obtain rfl : z_263 = nI (pa + 0) := ez_263.trans (nI_add (pa) (0))
      refine pl_put (ci := 12) (v := .int (nI (pa + 0))) (ty := .int) (C := RX12) (T := TX12) (N := 32) (fs' := [.ref rs, .ref x_231, .ref x_232, .ref x_233, .ref x_234, .int (nI (pa + 0)), .int (nI ki), .int (nI x_237), .int x_238, .ref x_239, .int (nI (pr.2)), .int (nI sn), .int (nI sp229), .int wr229, .int wa229, .int sen, .int ra229, .ref x_246, .ref x_247, .int (nI x_248), .ref x_249, .ref x_250, .ref x_251, .ref x_252, .ref x_253, .ref x_254, .ref x_255, .ref x_256, .ref x_257, .ref x_258, .ref x_259, .int (nI x_260)]) hx hb hT iX12 tyX12 tyX12_ok nmX12 hown hK hW hT_o.1 hS_o rfl 5 (by decide) w1087 rfl (by decide +kernel) rfl rfl (Nat.le_of_ble_eq_true rfl) rfl dX12_behind_30 (fun H locs S_264 e1 hW => ?_)
      have hTy := hTy.u12 e1 hT_o ⟨rs, x_231, x_232, x_233, x_234, pa + 0, ki, x_237, x_238, x_239, sn, sp229, wr229, wa229, sen, ra229, x_246, x_247, x_248, x_249, x_250, x_251, x_252, x_253, x_254, x_255, x_256, x_257, x_258, x_259, x_260, rfl, hT_x_1, hT_x_231, hT_x_232, hT_x_233, hT_x_234, (by omega), (by omega), (by omega), hT_x_239, (by show pr.2 ≤ 900; omega), (by omega), (by omega), hT_x_246, hT_x_247, (by omega), hT_x_249, hT_x_250, hT_x_251, hT_x_252, hT_x_253, hT_x_254, hT_x_255, hT_x_256, hT_x_257, hT_x_258, hT_x_259, (by omega)⟩
      have hS_x_10 := un e1 hT_x_10 hT_o (by decide) hS_x_10
      have hS_rs := un e1 hT_x_1 hT_o (by decide) hS_rs
      have hS_x_239 := un e1 hT_x_239 hT_o (by decide) hS_x_239
      have hS_x_233 := un e1 hT_x_233 hT_o (by decide) hS_x_233
      have hws := (show wrs (.inr (12, [.ref rs, .ref x_231, .ref x_232, .ref x_233, .ref x_234, .int (nI (pa + 0)), .int (nI ki), .int (nI x_237), .int x_238, .ref x_239, .int (nI (pr.2)), .int (nI sn), .int (nI sp229), .int wr229, .int wa229, .int sen, .int ra229, .ref x_246, .ref x_247, .int (nI x_248), .ref x_249, .ref x_250, .ref x_251, .ref x_252, .ref x_253, .ref x_254, .ref x_255, .ref x_256, .ref x_257, .ref x_258, .ref x_259, .int (nI x_260)])) = wrs (S_228 o) from by rw [hS_o]; rfl)
      have hFr := ufs hFr e1 hT_o (by decide) hws
      have hS_o := us e1
      refine lv_goto (tgt := 169) hx hb dX12_behind_33 (by decide) ?_
      exact W.vret hx hb hr (fun t ht h9 => ⟨⟨S_264, rfl, ⟨hTy, hFr, ⟨sp229, _, _, _, _, (pa + 0), ki, ⟨MKi (sp := sp229) (sn := sn) (pa := (pa + 0)) (ki := ki) hS_o rfl rfl rfl rfl rfl rfl (by omega) (by omega) (by omega) (by omega), inf_i hS_o rfl, inf_i hS_o rfl, inf_i hS_o rfl, fld_i hS_o rfl hS_x_239, lfd_i hS_o rfl hS_x_233⟩, by omega, by rw [hEB]; exact hER229, fun z => by rw [hEB] at z; exact absurd (ERR_z hER229 hw0 z).1 c_21, (by rw [fld_i hS_o rfl hS_rs]; exact hdg_)⟩⟩, by rw [ht]; exact hW.1, va_K.moved h9.alike hK, hW.2.1⟩, hW.2.2.F ht⟩) hW.2.2.2.2 dX12_behind_169
    · refine lv_iconst (v := 1) hx hb dX12_behind_24 (by decide) ?_
      refine lv_goto (tgt := 29) hx hb dX12_behind_25 (by decide) ?_
      refine lv_iadd hx hb dX12_behind_29 ?_
      refine lv_topi (fun z_265 ez_265 => ?_)
      obtain rfl : z_265 = nI (pa + 1) := ez_265.trans (nI_add (pa) (1))
      refine pl_put (ci := 12) (v := .int (nI (pa + 1))) (ty := .int) (C := RX12) (T := TX12) (N := 32) (fs' := [.ref rs, .ref x_231, .ref x_232, .ref x_233, .ref x_234, .int (nI (pa + 1)), .int (nI ki), .int (nI x_237), .int x_238, .ref x_239, .int (nI (pr.2)), .int (nI sn), .int (nI sp229), .int wr229, .int wa229, .int sen, .int ra229, .ref x_246, .ref x_247, .int (nI x_248), .ref x_249, .ref x_250, .ref x_251, .ref x_252, .ref x_253, .ref x_254, .ref x_255, .ref x_256, .ref x_257, .ref x_258, .ref x_259, .int (nI x_260)]) hx hb hT iX12 tyX12 tyX12_ok nmX12 hown hK hW hT_o.1 hS_o rfl 5 (by decide) w1087 rfl (by decide +kernel) rfl rfl (Nat.le_of_ble_eq_true rfl) rfl dX12_behind_30 (fun H locs S_266 e1 hW => ?_)
      have hTy := hTy.u12 e1 hT_o ⟨rs, x_231, x_232, x_233, x_234, pa + 1, ki, x_237, x_238, x_239, sn, sp229, wr229, wa229, sen, ra229, x_246, x_247, x_248, x_249, x_250, x_251, x_252, x_253, x_254, x_255, x_256, x_257, x_258, x_259, x_260, rfl, hT_x_1, hT_x_231, hT_x_232, hT_x_233, hT_x_234, (by omega), (by omega), (by omega), hT_x_239, (by show pr.2 ≤ 900; omega), (by omega), (by omega), hT_x_246, hT_x_247, (by omega), hT_x_249, hT_x_250, hT_x_251, hT_x_252, hT_x_253, hT_x_254, hT_x_255, hT_x_256, hT_x_257, hT_x_258, hT_x_259, (by omega)⟩
      have hS_x_10 := un e1 hT_x_10 hT_o (by decide) hS_x_10
      have hS_rs := un e1 hT_x_1 hT_o (by decide) hS_rs
      have hS_x_239 := un e1 hT_x_239 hT_o (by decide) hS_x_239
      have hS_x_233 := un e1 hT_x_233 hT_o (by decide) hS_x_233
      have hws := (show wrs (.inr (12, [.ref rs, .ref x_231, .ref x_232, .ref x_233, .ref x_234, .int (nI (pa + 1)), .int (nI ki), .int (nI x_237), .int x_238, .ref x_239, .int (nI (pr.2)), .int (nI sn), .int (nI sp229), .int wr229, .int wa229, .int sen, .int ra229, .ref x_246, .ref x_247, .int (nI x_248), .ref x_249, .ref x_250, .ref x_251, .ref x_252, .ref x_253, .ref x_254, .ref x_255, .ref x_256, .ref x_257, .ref x_258, .ref x_259, .int (nI x_260)])) = wrs (S_228 o) from by rw [hS_o]; rfl)
      have hFr := ufs hFr e1 hT_o (by decide) hws
      have hS_o := us e1
      refine lv_goto (tgt := 169) hx hb dX12_behind_33 (by decide) ?_
      exact W.vret hx hb hr (fun t ht h9 => ⟨⟨S_266, rfl, ⟨hTy, hFr, ⟨sp229, _, _, _, _, (pa + 1), ki, ⟨MKi (sp := sp229) (sn := sn) (pa := (pa + 1)) (ki := ki) hS_o rfl rfl rfl rfl rfl rfl (by omega) (by omega) (by omega) (by omega), inf_i hS_o rfl, inf_i hS_o rfl, inf_i hS_o rfl, fld_i hS_o rfl hS_x_239, lfd_i hS_o rfl hS_x_233⟩, by omega, by rw [hEB]; exact hER229, fun z => by rw [hEB] at z; rw [hPB, hNp, hNk, hNd, hNm, hNf]; have q := hOK229 hw0 z; rw [q.2]; exact ⟨q.1, rfl, rfl, NMR_0 hN0 (NOK_t (nnc_4 z) (by omega)) rfl, NMR_08 hN8 (by omega), (by rw [fld_i hS_o rfl hS_rs]; exact hsm_)⟩, (by rw [fld_i hS_o rfl hS_rs]; exact hdg_)⟩⟩, by rw [ht]; exact hW.1, va_K.moved h9.alike hK, hW.2.1⟩, hW.2.2.F ht⟩) hW.2.2.2.2 dX12_behind_169

