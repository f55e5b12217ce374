def WS (k : Nat) : Nat := [1, 7, 12, 18, 23, 27, 32].getD k 32
theorem kt1 : ∀ k, k < 6 → sc_ch 6 (WS (k + 1) - 1) = 32 := by decide
theorem kt2 : ∀ k, k < 6 → ∀ e, e < 32 → WS k ≤ e → e < WS (k + 1) - 1 → sc_ch 6 e ≠ 32 := by decide
theorem kt3 : ∀ k, k < 6 → lenJS.getD k 0 + WS k + 1 = WS (k + 1) ∧ WS (k + 1) ≤ 32 ∧ 1 ≤ WS k ∧ WS k < 32 := by decide
theorem kt4 : ∀ k, k < 6 → ∀ j, j < lenJS.getD k 0 → sc_ch 6 (WS k + j) = (bytJS.getD k []).getD j 0 := by decide
theorem kt5 : ∀ k, k ≤ 6 → 32 ≤ WS k → k = 6 := by decide
/-- the word here; -1: none -/
def WR (g : Nat → Int32) (n p : Nat) : Int32 := if 5 ≤ tkc g n p then nI (tkc g n p - 5) else -1
section WRS
variable {g : Nat → Int32} {n p w : Nat}
theorem WR_n (hg : BR g) (hn : n ≤ 900) (h : ¬ isL (PK g n p) = true) : WR g n p = -1 := by
  unfold WR
  rw [PK_L hg hn] at h
  by_cases h1 : SK g n p < n
  · have hl : ¬ isL (g (SK g n p)) = true := fun z => h ⟨h1, z⟩
    by_cases hd : isD (g (SK g n p)) = true
    · rw [(tk_num h1 hl hd).1, if_neg (by omega)]
    · rw [(tk_sign h1 hl hd).1, if_neg (by split <;> omega)]
  · rw [(tk_end h1).1, if_neg (by omega)]
theorem WR_6 (h : SK g n p < n) (hl : isL (g (SK g n p)) = true) (hk : ∀ w, w < 6 → ¬ KW g (SK g n p) (LT g n (SK g n p) - SK g n p) w) : WR g n p = -1 := by
  unfold WR
  rw [(tk_name h hl hk).1, if_neg (by split <;> omega)]
theorem WR_w (h : SK g n p < n) (hl : isL (g (SK g n p)) = true) (hw : w < 6) (hk : KW g (SK g n p) (LT g n (SK g n p) - SK g n p) w) : WR g n p = nI w := by
  unfold WR
  rw [(tk_word h hl hw hk).1, if_pos (by omega), Nat.add_sub_cancel_left]
end WRS
def LK (g : Nat → Int32) (q l k i : Nat) (lk : Int32) : Prop := (lk = 1 ∧ l = lenJS.getD k 0 ∧ ∀ j, j < i → g (q + j) = (bytJS.getD k []).getD j 0) ∨ (lk = 0 ∧ ¬ KW g q l k)
theorem LK_s {g : Nat → Int32} {q l k i : Nat} {lk c y : Int32} (h : LK g q l k i lk) (hn : ¬ lk = 0) (hk : k < 6) (hi : i < l) (hc : c = sc_ch 6 (WS k + i)) (hy : y = g (q + i)) : (c = y → LK g q l k (i + 1) 1) ∧ (c ≠ y → LK g q l k (i + 1) 0) := by
  rcases h with ⟨-, h1, h2⟩ | ⟨h1, -⟩
  · have e : c = (bytJS.getD k []).getD i 0 := hc.trans (kt4 k hk i (by omega))
    refine ⟨fun z => Or.inl ⟨rfl, h1, fun j hj => ?_⟩, fun z => Or.inr ⟨rfl, fun hK => z ?_⟩⟩
    · by_cases q1 : j = i
      · rw [q1, ← hy, ← z, e]
      · exact h2 j (by omega)
    · rw [hy, hK.2 i hi, e]
  · exact absurd h1 hn
theorem LK_l {g : Nat → Int32} {q l k i : Nat} {lk : Int32} (h : LK g q l k i lk) (hn : ¬ lk = 0) : l = lenJS.getD k 0 := by
  rcases h with ⟨-, h1, -⟩ | ⟨h1, -⟩
  · exact h1
  · exact absurd h1 hn
theorem LK_y {g : Nat → Int32} {q l k i : Nat} {lk : Int32} (h : LK g q l k i lk) (hn : ¬ lk = 0) (hi : l ≤ i) : KW g q l k := by
  rcases h with ⟨-, h1, h2⟩ | ⟨h1, -⟩
  · exact ⟨h1, fun j hj => h2 j (by omega)⟩
  · exact absurd h1 hn
theorem LK_n {g : Nat → Int32} {q l k i : Nat} {lk : Int32} (h : LK g q l k i lk) (hn : lk = 0) : ¬ KW g q l k := by
  rcases h with ⟨h1, -⟩ | ⟨-, h1⟩
  · rw [hn] at h1
    exact absurd h1 (by decide)
  · exact h1
set_option maxHeartbeats 4000000 in
set_option maxRecDepth 100000 in
theorem f_word (l : Launch) (dC : Nat → ClassId) (dI : Nat → Nat → Nat) (cy : Nat → ClassId) (L : List Nat) (kap : Nat → Nat) (pr : Pr) (ad : (Nat → Nat) × (Nat → Nat)) (S : Nat → va_E) (sz : Nat) (o : Nat) (hTy : Ty cy L kap pr S) (hT_o : TK L kap o 12) (g : Nat → Int32) (nm : Nat → Int64) (sp : Nat) (sn : Nat) (wr : Int32) (wa : Int32) (sen : Int32) (ra : Int32) (pa : Nat) (ki : Nat) (rs : Nat) (hM : MF S o g nm sp sn wr wa sen ra pa ki rs) (hsp : sp ≤ sn) (hg : BR g) : Met l yX12_wordHere (wT yX12_wordHere cX12_wordHere 7 (some .int)) ({ frames := 4, cells := 0, slots := 0, locals := 85 }) (pcS dC dI [.ref o] sz L S (cyT cy) NLs ad) (va_Qi (fun r S' => Ty cy L kap pr S' ∧ Fr kap [12] S S' ∧ (∃ sp', MF S' o g nm sp' sn wr wa sen ra pa ki rs ∧ (wr ≠ 0 → sp' = sp ∧ r = -1) ∧ (wr = 0 → sp' = SK g sn sp ∧ r = WR g sn sp))) (fun S' t => pB dC dI (AL L sz) (va_pl L S') (cyT cy) t) (AL L sz)) 0 0 (AL L sz) := by
  refine Met.ofW (cc := cX12_wordHere) (maxL := 7) (ret := (some .int)) (by decide) rfl ?_
  intro p e s m args below meth c s₁ B hml hv
  obtain ⟨rfl, hsz, hP, hK, hD0, hN, hSTR⟩ := hv
  have hx := B.exec
  have hb := B.bytes
  have hr := B.returns
  have hT : ∀ wd ∈ TB, wd.before [.ref o].toArray s = true := fun wd h => atoms_spec (ws := wT yX12_wordHere cX12_wordHere 7 (some .int)) B.pre wd (List.mem_cons_of_mem _ h)
  have hown : s.vm.findClass RX12 = some m.cls := findClass_of_methodNamed B.named
  have hlocks := B.notSynchronized
  subst hsz
  have hW : PW dC dI L (AL L s.heap.size) s.heap S s.heap [] := ⟨hP, pl_self hD0, va_S.rf⟩
  have hA0 : ∀ q, q ∈ L → AL L s.heap.size q := fun _ h => Or.inl h
  have hA : ∀ q, s.heap.size ≤ q → AL L s.heap.size q := fun _ h => Or.inr h
  have hFr : Fr kap [12] S S := Fr.rf
  have hl := lv_entry ([.ref o]) (n := 7) (Nat.le_of_ble_eq_true rfl)
  rw [lg_entry_eq]
  generalize (lg_sl ([.ref o]) ++ List.replicate (7 - (lg_sl ([.ref o])).length) Slot.unset).toArray = ls at hl ⊢
  have hl : lv_has ls 7 [(0, .ref o)] := hl
  obtain ⟨x_1, x_2, x_3, x_4, x_5, x_6, x_7, x_8, x_9, x_10, x_11, x_12, x_13, x_14, x_15, x_16, x_17, x_18, x_19, x_20, x_21, x_22, x_23, x_24, x_25, x_26, x_27, x_28, x_29, x_30, x_31, hS_o, hT_x_1, hT_x_2, hT_x_3, hT_x_4, hT_x_5, hb_x_6, hb_x_7, hb_x_8, hT_x_10, hb_q2, hb_x_11, hb_x_12, hT_x_17, hT_x_18, hb_x_19, hT_x_20, hT_x_21, hT_x_22, hT_x_23, hT_x_24, hT_x_25, hT_x_26, hT_x_27, hT_x_28, hT_x_29, hT_x_30, hb_x_31⟩ := hTy.k12 hT_o
  have hb_q2 : pr.2 ≤ 900 := hb_q2
  have hS_o : S o = .inr (12, [.ref x_1, .ref x_2, .ref x_3, .ref x_4, .ref x_5, .int (nI x_6), .int (nI x_7), .int (nI x_8), .int x_9, .ref x_10, .int (nI (pr.2)), .int (nI x_11), .int (nI x_12), .int x_13, .int x_14, .int x_15, .int x_16, .ref x_17, .ref x_18, .int (nI x_19), .ref x_20, .ref x_21, .ref x_22, .ref x_23, .ref x_24, .ref x_25, .ref x_26, .ref x_27, .ref x_28, .ref x_29, .ref x_30, .int (nI x_31)]) := hS_o
  obtain ⟨hMK_, h14_, h15_, h16_, h9_, h3_⟩ := hM
  obtain ⟨e12_, e11_, e13_, e5_, e6_, e0_⟩ := MKe hMK_ hS_o rfl rfl rfl rfl rfl rfl (by omega) (by omega) (by omega) (by omega)
  subst e12_ e11_ e13_ e5_ e6_ e0_
  have e14_ := h14_.symm.trans (inf_i hS_o rfl)
  subst e14_
  have e15_ := h15_.symm.trans (inf_i hS_o rfl)
  subst e15_
  have e16_ := h16_.symm.trans (inf_i hS_o rfl)
  subst e16_
  obtain ⟨f_32, hS_x_10⟩ := hTy.k55 hT_x_10
  have e9_ := h9_.symm.trans (fld_i hS_o rfl hS_x_10)
  subst e9_
  obtain ⟨f_33, hS_x_4⟩ := hTy.k53 hT_x_4
  have e3_ := h3_.symm.trans (lfd_i hS_o rfl hS_x_4)
  subst e3_
  have hl6 : lenJS.getD 6 0 = 32 := rfl
  refine lv_aload_n hx hb dX12_wordHere_0 rfl (lv_at hl 0 rfl) ?_
  refine pl_get (ci := 12) (v := .int wr) (C := RX12) (T := TX12) (N := 32) hx hb hT iX12 hown hK hW hT_o.1 hS_o rfl 13 (by decide) w1095 rfl dX12_wordHere_1 ?_
  refine lv_if_ne (tgt := 17) hx hb dX12_wordHere_4 (by decide) (fun c_4 => ?_) (fun c_4 => ?_)
  · refine lv_iconst (v := (-1)) hx hb dX12_wordHere_17 (by decide) ?_
    exact W.iret (v := (-1)) hx hb hr (fun t ht h9 => ⟨⟨(-1), S, rfl, ⟨hTy, hFr, ⟨sp, ⟨MKi (sp := sp) (sn := sn) (pa := pa) (ki := ki) hS_o rfl rfl rfl rfl rfl rfl (by omega) (by omega) (by omega) (by omega), inf_i hS_o rfl, inf_i hS_o rfl, inf_i hS_o rfl, fld_i hS_o rfl hS_x_10, lfd_i hS_o rfl hS_x_4⟩, fun _ => ⟨rfl, rfl⟩, fun z => absurd z c_4⟩⟩, by rw [ht]; exact hW.1, va_K.moved h9.alike hK, hW.2.1⟩, hW.2.2.F ht⟩) hW.2.2.2.2 dX12_wordHere_18
  · refine lv_aload_n hx hb dX12_wordHere_7 rfl (lv_at hl 0 rfl) ?_
    refine pl_calli (va_runV (As := []) (rest := []) ⟨hx, hb, hml, hown, hT⟩ (f_peek l dC dI cy L kap pr S s.heap.size o hTy hT_o g nm sp sn wr wa sen ra pa ki rs ⟨MKi (sp := sp) (sn := sn) (pa := pa) (ki := ki) hS_o rfl rfl rfl rfl rfl rfl (by omega) (by omega) (by omega) (by omega), inf_i hS_o rfl, inf_i hS_o rfl, inf_i hS_o rfl, fld_i hS_o rfl hS_x_10, lfd_i hS_o rfl hS_x_4⟩ (by omega) hg) (cwV 0 hT (gV w1190 w1192 ws55 w14 w1193) rfl rfl rfl (by decide +kernel) ⟨(Nat.le_of_ble_eq_true rfl), (Nat.le_of_ble_eq_true rfl)⟩) ⟨pcN.blind, pl_recv hK hW hT_o.1 hS_o rfl, pcN.pre hW.1 hK hW.2.1 hN (fun q h => absurd h List.not_mem_nil)⟩ rfl rfl hl.1 rfl (lv_room (Nat.le_of_ble_eq_true rfl)) dX12_wordHere_8 ⟨(Nat.le_of_ble_eq_true rfl), (Nat.le_of_ble_eq_true rfl)⟩) hW hA0 hA (fun r_35 S_34 H locs hrel hW => ?_)
    obtain ⟨hTy, hF1, hx1⟩ := hrel
    have hFr := hFr.tr hF1 (by decide)
    have hS_x_10 := hF1.at hT_x_10 (by decide) hS_x_10
    have hS_x_4 := hF1.at hT_x_4 (by decide) hS_x_4
    have hpk_ := hx1.2
    have hpb_ := SK_le (g := g) (n := sn) (i := sp) (by omega)
    have hpg_ := SK_ge (g := g) (n := sn) (i := sp)
    obtain ⟨x_36, x_37, x_38, x_39, x_40, x_41, x_42, x_43, x_44, x_45, x_46, x_47, x_48, x_49, x_50, x_51, x_52, x_53, x_54, x_55, x_56, x_57, x_58, x_59, x_60, x_61, x_62, x_63, x_64, x_65, x_66, hS_o, hT_x_36, hT_x_37, hT_x_38, hT_x_39, hT_x_40, hb_x_41, hb_x_42, hb_x_43, hT_x_45, hb_q2, hb_x_46, hb_x_47, hT_x_52, hT_x_53, hb_x_54, hT_x_55, hT_x_56, hT_x_57, hT_x_58, hT_x_59, hT_x_60, hT_x_61, hT_x_62, hT_x_63, hT_x_64, hT_x_65, hb_x_66⟩ := hTy.k12 hT_o
    have hb_q2 : pr.2 ≤ 900 := hb_q2
    have hS_o : S_34 o = .inr (12, [.ref x_36, .ref x_37, .ref x_38, .ref x_39, .ref x_40, .int (nI x_41), .int (nI x_42), .int (nI x_43), .int x_44, .ref x_45, .int (nI (pr.2)), .int (nI x_46), .int (nI x_47), .int x_48, .int x_49, .int x_50, .int x_51, .ref x_52, .ref x_53, .int (nI x_54), .ref x_55, .ref x_56, .ref x_57, .ref x_58, .ref x_59, .ref x_60, .ref x_61, .ref x_62, .ref x_63, .ref x_64, .ref x_65, .int (nI x_66)]) := hS_o
    obtain ⟨hMK_, h14_, h15_, h16_, h9_, h3_⟩ := hx1.1
    obtain ⟨e12_, e11_, e13_, e5_, e6_, e0_⟩ := MKe hMK_ hS_o rfl rfl rfl rfl rfl rfl (by omega) (by omega) (by omega) (by omega)
    subst e12_ e11_ e13_ e5_ e6_ e0_
    have e14_ := h14_.symm.trans (inf_i hS_o rfl)
    subst e14_
    have e15_ := h15_.symm.trans (inf_i hS_o rfl)
    subst e15_
    have e16_ := h16_.symm.trans (inf_i hS_o rfl)
    subst e16_
    obtain ⟨f_67, hS_x_45⟩ := hTy.k55 hT_x_45
    have e9_ := h9_.symm.trans (fld_i hS_o rfl hS_x_45)
    subst e9_
    obtain ⟨f_68, hS_x_39⟩ := hTy.k53 hT_x_39
    have e3_ := h3_.symm.trans (lfd_i hS_o rfl hS_x_39)
    subst e3_
    refine vp_callSi (va_Run.run (va_runS (As := [.int r_35]) (rest := []) ⟨hx, hb, hml, hown, hT⟩ (f_isLetter l dC dI H.size r_35) (va_cwS 1 hT (gS w1202 w1203 w14 w1204) rfl rfl rfl (by decide +kernel) ⟨(Nat.le_of_ble_eq_true rfl), (Nat.le_of_ble_eq_true rfl)⟩) ⟨pcW.blind, pcW.pre (va_P0 _ _ _) (hK.sub (tys' := []) [] rfl) (va_D0 (fun _ => True))⟩ rfl rfl hl.1 rfl (lv_room (Nat.le_of_ble_eq_true rfl)) dX12_wordHere_11 ⟨(Nat.le_of_ble_eq_true rfl), (Nat.le_of_ble_eq_true rfl)⟩)) (fun r_69 hr_69 => ?_)
    rcases hr_69 with hc_ | hc_
    · obtain ⟨rfl, hL_14⟩ := hc_
      refine lv_if_ne (tgt := 19) hx hb dX12_wordHere_14 (by decide) (fun _ => ?_) (fun h => absurd h (by decide))
      have hpl := (PK_L hg (by omega)).mp (by rw [← hpk_]; exact hL_14)
      refine lv_aload_n hx hb dX12_wordHere_19 rfl (lv_at hl 0 rfl) ?_
      refine vp_callSi (va_Run.run (va_runV (As := []) (rest := []) ⟨hx, hb, hml, hown, hT⟩ (f_letters l dC dI cy L kap pr S_34 H.size o hTy hT_o g nm (SK g sn sp) sn wr wa sen ra pa ki rs ⟨MKi (sp := (SK g sn sp)) (sn := sn) (pa := pa) (ki := ki) hS_o rfl rfl rfl rfl rfl rfl (by omega) (by omega) (by omega) (by omega), inf_i hS_o rfl, inf_i hS_o rfl, inf_i hS_o rfl, fld_i hS_o rfl hS_x_45, lfd_i hS_o rfl hS_x_39⟩ (by omega) hg) (cwV 0 hT (gV w1207 w1209 ws58 w14 w1210) rfl rfl rfl (by decide +kernel) ⟨(Nat.le_of_ble_eq_true rfl), (Nat.le_of_ble_eq_true rfl)⟩) ⟨pcN.blind, pl_recv hK hW hT_o.1 hS_o rfl, pcN.pre hW.1 hK hW.2.1 hN (fun q h => absurd h List.not_mem_nil)⟩ rfl rfl hl.1 rfl (lv_room (Nat.le_of_ble_eq_true rfl)) dX12_wordHere_20 ⟨(Nat.le_of_ble_eq_true rfl), (Nat.le_of_ble_eq_true rfl)⟩)) (fun r_70 hr_70 => ?_)
      have hlb_ := LT_le (g := g) (n := sn) (i := SK g sn sp) (by omega)
      have hlg_ := LT_ge (g := g) (n := sn) (i := SK g sn sp)
      obtain rfl : r_70 = nI (LT g sn (SK g sn sp) - (SK g sn sp)) := hr_70
      refine lv_istore_n (lv' := [(1, .int (nI (LT g sn (SK g sn sp) - (SK g sn sp)))), (0, .ref o)]) hx hb dX12_wordHere_23 rfl hl (by decide) rfl (fun ls hl => ?_)
      refine lv_iconst (v := 0) hx hb dX12_wordHere_24 (by decide) ?_
      refine lv_istore_n (lv' := [(2, .int 0), (1, .int (nI (LT g sn (SK g sn sp) - (SK g sn sp)))), (0, .ref o)]) hx hb dX12_wordHere_25 rfl hl (by decide) rfl (fun ls hl => ?_)
      refine lv_iconst (v := 1) hx hb dX12_wordHere_26 (by decide) ?_
      refine lv_istore_n (lv' := [(3, .int 1), (2, .int 0), (1, .int (nI (LT g sn (SK g sn sp) - (SK g sn sp)))), (0, .ref o)]) hx hb dX12_wordHere_27 rfl hl (by decide) rfl (fun ls hl => ?_)
      have loop : ∀ (fuel : Nat) (k9 : Nat) (nn : Nat) (SS : Nat → va_E) (H : Heap) (locs : List Loc) (ls : Array Slot), 33 - k9 < fuel → (k9 ≤ 32) → (nn ≤ 6) → (k9 = WS nn) → (∀ v, v < nn → ¬ KW g (SK g sn sp) (LT g sn (SK g sn sp) - (SK g sn sp)) v) → Ty cy L kap pr SS → Fr kap [12] S SS → Fr kap [] S_34 SS → PW dC dI L (AL L s.heap.size) s.heap SS H locs → lv_has ls 7 [(3, .int (nI k9)), (2, .int (nI nn)), (1, .int (nI (LT g sn (SK g sn sp) - (SK g sn sp)))), (0, .ref o)] → W p l e (headSpec (wT yX12_wordHere cX12_wordHere 7 (some .int)) { frames := 4, cells := 0, slots := 0, locals := 85 }).room s m [.ref o].toArray below meth c H locs 0 0 (MQ below (va_Qi (fun r S' => Ty cy L kap pr S' ∧ Fr kap [12] S S' ∧ (∃ sp', MF S' o g nm sp' sn wr wa sen ra pa ki rs ∧ (wr ≠ 0 → sp' = sp ∧ r = -1) ∧ (wr = 0 → sp' = SK g sn sp ∧ r = WR g sn sp))) (fun S' t => pB dC dI (AL L s.heap.size) (va_pl L S') (cyT cy) t) (AL L s.heap.size)) [.ref o].toArray s 0 0 (AL L s.heap.size)) (F0 m 28 ls []) := by
        intro fuel
        induction fuel with
        | zero => intro k9 nn SS H locs ls h; exact absurd h (Nat.not_lt_zero _)
        | succ fu28 ih28 =>
          intro k9 nn S_71 H locs ls hm28 hb_k9 hb_nn hk9 hno hTy hFr hFl28 hW hl
          have hS_x_10 := hFl28.at hT_x_10 (by decide) hS_x_10
          have hS_x_4 := hFl28.at hT_x_4 (by decide) hS_x_4
          have hS_o := hFl28.at hT_o (by decide) hS_o
          have hS_x_45 := hFl28.at hT_x_45 (by decide) hS_x_45
          have hS_x_39 := hFl28.at hT_x_39 (by decide) hS_x_39
          refine lv_iload_n hx hb dX12_wordHere_28 rfl (lv_at hl 0 rfl) ?_
          refine va_ldcS hx hb hown (hSTR.2.2.2 6 (by decide)) dX12_wordHere_29 ?_
          refine vp_callSi (va_Run.run (va_runV (As := []) (rest := [.int (nI k9)]) ⟨hx, hb, hml, hown, hT⟩ (j_length l ad (AL L s.heap.size) H.size 6 (by omega)) (cwV 0 hT (gV w1212 w437 w438 w16 w439) rfl rfl rfl (by decide +kernel) ⟨(Nat.le_of_ble_eq_true rfl), (Nat.le_of_ble_eq_true rfl)⟩) ⟨pcT.blind, vk_recv hSTR.1 (i := 6) (by omega) hW.2.2, pcT.pre hSTR hW.2.2⟩ rfl rfl hl.1 rfl (lv_room (Nat.le_of_ble_eq_true rfl)) dX12_wordHere_31 ⟨(Nat.le_of_ble_eq_true rfl), (Nat.le_of_ble_eq_true rfl)⟩)) (fun r_72 hr_72 => ?_)
          obtain rfl : r_72 = nI 32 := hr_72
          refine lv_icmp_ge (tgt := 142) hx hb dX12_wordHere_34 (by decide) (fun c_34 => ?_) (fun c_34 => ?_)
          · have c_34 : 32 ≤ k9 := (nI_leI (a := 32) (b := k9) (by omega) (by omega)).mp c_34
            refine lv_iconst (v := (-1)) hx hb dX12_wordHere_142 (by decide) ?_
            exact W.iret (v := (-1)) hx hb hr (fun t ht h9 => ⟨⟨(-1), S_71, rfl, ⟨hTy, hFr, ⟨_, ⟨MKi (sp := (SK g sn sp)) (sn := sn) (pa := pa) (ki := ki) hS_o rfl rfl rfl rfl rfl rfl (by omega) (by omega) (by omega) (by omega), inf_i hS_o rfl, inf_i hS_o rfl, inf_i hS_o rfl, fld_i hS_o rfl hS_x_45, lfd_i hS_o rfl hS_x_39⟩, fun z => absurd c_4 z, fun _ => ⟨rfl, (WR_6 hpl.1 hpl.2 (fun v hv => hno v (by have q := kt5 nn (by omega) (by omega); omega))).symm⟩⟩⟩, by rw [ht]; exact hW.1, va_K.moved h9.alike hK, hW.2.1⟩, hW.2.2.F ht⟩) hW.2.2.2.2 dX12_wordHere_143
          · have c_34 : ¬ (32 ≤ k9) := fun hh9 => c_34 ((nI_leI (a := 32) (b := k9) (by omega) (by omega)).mpr hh9)
            have hq6 : nn ≠ 6 := fun e_ => by rw [e_] at hk9; have q2 : WS 6 = 32 := rfl; omega
            have hn6 : nn < 6 := by omega
            refine lv_iload_n hx hb dX12_wordHere_37 rfl (lv_at hl 0 rfl) ?_
            refine lv_istore (lv' := [(4, .int (nI k9)), (3, .int (nI k9)), (2, .int (nI nn)), (1, .int (nI (LT g sn (SK g sn sp) - (SK g sn sp)))), (0, .ref o)]) hx hb dX12_wordHere_38 hl (by decide) rfl (fun ls hl => ?_)
            have loop : ∀ (fuel : Nat) (e9 : Nat) (SS : Nat → va_E) (H : Heap) (locs : List Loc) (ls : Array Slot), 32 - e9 < fuel → (e9 ≤ 31) → (k9 ≤ e9) → (e9 < WS (nn + 1)) → Ty cy L kap pr SS → Fr kap [12] S SS → Fr kap [] S_71 SS → PW dC dI L (AL L s.heap.size) s.heap SS H locs → lv_has ls 7 [(4, .int (nI e9)), (3, .int (nI k9)), (2, .int (nI nn)), (1, .int (nI (LT g sn (SK g sn sp) - (SK g sn sp)))), (0, .ref o)] → W p l e (headSpec (wT yX12_wordHere cX12_wordHere 7 (some .int)) { frames := 4, cells := 0, slots := 0, locals := 85 }).room s m [.ref o].toArray below meth c H locs 0 0 (MQ below (va_Qi (fun r S' => Ty cy L kap pr S' ∧ Fr kap [12] S S' ∧ (∃ sp', MF S' o g nm sp' sn wr wa sen ra pa ki rs ∧ (wr ≠ 0 → sp' = sp ∧ r = -1) ∧ (wr = 0 → sp' = SK g sn sp ∧ r = WR g sn sp))) (fun S' t => pB dC dI (AL L s.heap.size) (va_pl L S') (cyT cy) t) (AL L s.heap.size)) [.ref o].toArray s 0 0 (AL L s.heap.size)) (F0 m 40 ls []) := by
              intro fuel
              induction fuel with
              | zero => intro e9 SS H locs ls h; exact absurd h (Nat.not_lt_zero _)
              | succ fu40 ih40 =>
                intro e9 S_73 H locs ls hm40 hb_e9 hke hee hTy hFr hFl40 hW hl
                have hS_x_10 := hFl40.at hT_x_10 (by decide) hS_x_10
                have hS_x_4 := hFl40.at hT_x_4 (by decide) hS_x_4
                have hS_o := hFl40.at hT_o (by decide) hS_o
                have hS_x_45 := hFl40.at hT_x_45 (by decide) hS_x_45
                have hS_x_39 := hFl40.at hT_x_39 (by decide) hS_x_39
                have hFl28 := hFl28.tr hFl40 (by decide)
                have hk32 := kt3 nn hn6
                refine va_ldcS hx hb hown (hSTR.2.2.2 6 (by decide)) dX12_wordHere_40 ?_
                refine lv_iload hx hb dX12_wordHere_42 (lv_at hl 0 rfl) ?_
                refine vp_callSi (va_Run.run (va_runV (As := [.int (nI e9)]) (rest := []) ⟨hx, hb, hml, hown, hT⟩ (j_charAt l ad (AL L s.heap.size) H.size 6 e9 (by omega) (by omega)) (cwV 1 hT (gV w1213 w447 w448 w16 w449) rfl rfl rfl (by decide +kernel) ⟨(Nat.le_of_ble_eq_true rfl), (Nat.le_of_ble_eq_true rfl)⟩) ⟨pcT.blind, vk_recv hSTR.1 (i := 6) (by omega) hW.2.2, pcT.pre hSTR hW.2.2⟩ rfl rfl hl.1 rfl (lv_room (Nat.le_of_ble_eq_true rfl)) dX12_wordHere_44 ⟨(Nat.le_of_ble_eq_true rfl), (Nat.le_of_ble_eq_true rfl)⟩)) (fun r_74 hr_74 => ?_)
                refine lv_bipush (v := 32) hx hb dX12_wordHere_47 (by decide) ?_
                refine lv_icmp_eq (tgt := 58) hx hb dX12_wordHere_49 (by decide) (fun c_49 => ?_) (fun c_49 => ?_)
                · have heq : e9 = WS (nn + 1) - 1 := by
                    by_cases e_ : e9 = WS (nn + 1) - 1
                    · exact e_
                    · exact absurd (hr_74.symm.trans c_49) (kt2 nn hn6 e9 (by omega) (by omega) (by omega))
                  refine lv_iload hx hb dX12_wordHere_58 (lv_at hl 0 rfl) ?_
                  refine lv_iload_n hx hb dX12_wordHere_60 rfl (lv_at hl 1 rfl) ?_
                  refine lv_isub hx hb dX12_wordHere_61 ?_
                  refine lv_topi (fun z_75 ez_75 => ?_)
                  obtain rfl : z_75 = nI (e9 - k9) := ez_75.trans (pk_sub (a := e9) (b := k9) (by omega))
                  refine lv_iload_n hx hb dX12_wordHere_62 rfl (lv_at hl 3 rfl) ?_
                  refine lv_icmp_ne (tgt := 70) hx hb dX12_wordHere_63 (by decide) (fun c_63 => ?_) (fun c_63 => ?_)
                  · have c_63 : ¬ ((e9 - k9) = (LT g sn (SK g sn sp) - (SK g sn sp))) := fun hh9 => c_63 ((nI_eq (a := e9 - k9) (b := LT g sn (SK g sn sp) - (SK g sn sp)) (by omega) (by omega)).mpr hh9)
                    refine lv_iconst (v := 0) hx hb dX12_wordHere_70 (by decide) ?_
                    refine lv_istore (lv' := [(5, .int 0), (4, .int (nI e9)), (3, .int (nI k9)), (2, .int (nI nn)), (1, .int (nI (LT g sn (SK g sn sp) - (SK g sn sp)))), (0, .ref o)]) hx hb dX12_wordHere_71 hl (by decide) rfl (fun ls hl => ?_)
                    refine lv_iconst (v := 0) hx hb dX12_wordHere_73 (by decide) ?_
                    refine lv_istore (lv' := [(6, .int 0), (5, .int 0), (4, .int (nI e9)), (3, .int (nI k9)), (2, .int (nI nn)), (1, .int (nI (LT g sn (SK g sn sp) - (SK g sn sp)))), (0, .ref o)]) hx hb dX12_wordHere_74 hl (by decide) rfl (fun ls hl => ?_)
                    have loop : ∀ (fuel : Nat) (i : Nat) (lk : Int32) (SS : Nat → va_E) (H : Heap) (locs : List Loc) (ls : Array Slot), 901 - i < fuel → (i ≤ 900) → (LK g (SK g sn sp) (LT g sn (SK g sn sp) - (SK g sn sp)) nn i lk) → (i ≤ (LT g sn (SK g sn sp) - (SK g sn sp))) → Ty cy L kap pr SS → Fr kap [12] S SS → Fr kap [] S_73 SS → PW dC dI L (AL L s.heap.size) s.heap SS H locs → lv_has ls 7 [(6, .int (nI i)), (5, .int lk), (4, .int (nI e9)), (3, .int (nI k9)), (2, .int (nI nn)), (1, .int (nI (LT g sn (SK g sn sp) - (SK g sn sp)))), (0, .ref o)] → W p l e (headSpec (wT yX12_wordHere cX12_wordHere 7 (some .int)) { frames := 4, cells := 0, slots := 0, locals := 85 }).room s m [.ref o].toArray below meth c H locs 0 0 (MQ below (va_Qi (fun r S' => Ty cy L kap pr S' ∧ Fr kap [12] S S' ∧ (∃ sp', MF S' o g nm sp' sn wr wa sen ra pa ki rs ∧ (wr ≠ 0 → sp' = sp ∧ r = -1) ∧ (wr = 0 → sp' = SK g sn sp ∧ r = WR g sn sp))) (fun S' t => pB dC dI (AL L s.heap.size) (va_pl L S') (cyT cy) t) (AL L s.heap.size)) [.ref o].toArray s 0 0 (AL L s.heap.size)) (F0 m 76 ls []) := by
                      intro fuel
                      induction fuel with
                      | zero => intro i lk SS H locs ls h; exact absurd h (Nat.not_lt_zero _)
                      | succ fu76 ih76 =>
                        intro i lk S_76 H locs ls hm76 hb_i hlk hil hTy hFr hFl76 hW hl
                        have hS_x_10 := hFl76.at hT_x_10 (by decide) hS_x_10
                        have hS_x_4 := hFl76.at hT_x_4 (by decide) hS_x_4
                        have hS_o := hFl76.at hT_o (by decide) hS_o
                        have hS_x_45 := hFl76.at hT_x_45 (by decide) hS_x_45
                        have hS_x_39 := hFl76.at hT_x_39 (by decide) hS_x_39
                        have hFl28 := hFl28.tr hFl76 (by decide)
                        have hFl40 := hFl40.tr hFl76 (by decide)
                        refine lv_iload hx hb dX12_wordHere_76 (lv_at hl 0 rfl) ?_
                        refine lv_iload_n hx hb dX12_wordHere_78 rfl (lv_at hl 5 rfl) ?_
                        refine lv_icmp_ge (tgt := 124) hx hb dX12_wordHere_79 (by decide) (fun c_79 => ?_) (fun c_79 => ?_)
                        · have c_79 : (LT g sn (SK g sn sp) - (SK g sn sp)) ≤ i := (nI_leI (a := LT g sn (SK g sn sp) - (SK g sn sp)) (b := i) (by omega) (by omega)).mp c_79
                          refine lv_iload hx hb dX12_wordHere_124 (lv_at hl 1 rfl) ?_
                          refine lv_if_eq (tgt := 131) hx hb dX12_wordHere_126 (by decide) (fun c_126 => ?_) (fun c_126 => ?_)
                          · refine lv_iinc (v := nI (nn + 1)) (lv' := [(2, .int (nI (nn + 1))), (6, .int (nI i)), (5, .int lk), (4, .int (nI e9)), (3, .int (nI k9)), (1, .int (nI (LT g sn (SK g sn sp) - (SK g sn sp)))), (0, .ref o)]) hx hb dX12_wordHere_131 hl (k := 4) rfl (nI_add (nn) 1) (by decide) rfl (fun ls hl => ?_)
                            refine lv_iload hx hb dX12_wordHere_134 (lv_at hl 3 rfl) ?_
                            refine lv_iconst (v := 1) hx hb dX12_wordHere_136 (by decide) ?_
                            refine lv_iadd hx hb dX12_wordHere_137 ?_
                            refine lv_topi (fun z_77 ez_77 => ?_)
                            obtain rfl : z_77 = nI (e9 + 1) := ez_77.trans (nI_add (e9) (1))
                            refine lv_istore_n (lv' := [(3, .int (nI (e9 + 1))), (2, .int (nI (nn + 1))), (6, .int (nI i)), (5, .int lk), (4, .int (nI e9)), (1, .int (nI (LT g sn (SK g sn sp) - (SK g sn sp)))), (0, .ref o)]) hx hb dX12_wordHere_138 rfl hl (by decide) rfl (fun ls hl => ?_)
                            refine lv_goto (tgt := 28) hx hb dX12_wordHere_139 (by decide) ?_
                            exact ih28 (e9 + 1) (nn + 1) _ _ _ ls (by omega) (by omega) (by omega) (by have q := kt3 nn hn6; omega) (fun v hv => by by_cases e_ : v = nn; rw [e_]; exact LK_n hlk c_126; exact hno v (by omega)) hTy hFr hFl28 hW (lv_sub hl [0, 1, 5, 6] rfl)
                          · refine lv_iload_n hx hb dX12_wordHere_129 rfl (lv_at hl 4 rfl) ?_
                            exact W.iret (v := nI nn) hx hb hr (fun t ht h9 => ⟨⟨nI nn, S_76, rfl, ⟨hTy, hFr, ⟨_, ⟨MKi (sp := (SK g sn sp)) (sn := sn) (pa := pa) (ki := ki) hS_o rfl rfl rfl rfl rfl rfl (by omega) (by omega) (by omega) (by omega), inf_i hS_o rfl, inf_i hS_o rfl, inf_i hS_o rfl, fld_i hS_o rfl hS_x_45, lfd_i hS_o rfl hS_x_39⟩, fun z => absurd c_4 z, fun _ => ⟨rfl, (WR_w hpl.1 hpl.2 hn6 (LK_y hlk c_126 (by omega))).symm⟩⟩⟩, by rw [ht]; exact hW.1, va_K.moved h9.alike hK, hW.2.1⟩, hW.2.2.F ht⟩) hW.2.2.2.2 dX12_wordHere_130
                        · have c_79 : ¬ ((LT g sn (SK g sn sp) - (SK g sn sp)) ≤ i) := fun hh9 => c_79 ((nI_leI (a := LT g sn (SK g sn sp) - (SK g sn sp)) (b := i) (by omega) (by omega)).mpr hh9)
                          refine lv_iload hx hb dX12_wordHere_82 (lv_at hl 1 rfl) ?_
                          refine lv_if_eq (tgt := 124) hx hb dX12_wordHere_84 (by decide) (fun c_84 => ?_) (fun c_84 => ?_)
                          · refine lv_iload hx hb dX12_wordHere_124 (lv_at hl 1 rfl) ?_
                            refine lv_if_eq (tgt := 131) hx hb dX12_wordHere_126 (by decide) (fun c_126 => ?_) (fun c_126 => ?_)
                            · refine lv_iinc (v := nI (nn + 1)) (lv' := [(2, .int (nI (nn + 1))), (6, .int (nI i)), (5, .int lk), (4, .int (nI e9)), (3, .int (nI k9)), (1, .int (nI (LT g sn (SK g sn sp) - (SK g sn sp)))), (0, .ref o)]) hx hb dX12_wordHere_131 hl (k := 4) rfl (nI_add (nn) 1) (by decide) rfl (fun ls hl => ?_)
                              refine lv_iload hx hb dX12_wordHere_134 (lv_at hl 3 rfl) ?_
                              refine lv_iconst (v := 1) hx hb dX12_wordHere_136 (by decide) ?_
                              refine lv_iadd hx hb dX12_wordHere_137 ?_
                              refine lv_topi (fun z_78 ez_78 => ?_)
                              obtain rfl : z_78 = nI (e9 + 1) := ez_78.trans (nI_add (e9) (1))
                              refine lv_istore_n (lv' := [(3, .int (nI (e9 + 1))), (2, .int (nI (nn + 1))), (6, .int (nI i)), (5, .int lk), (4, .int (nI e9)), (1, .int (nI (LT g sn (SK g sn sp) - (SK g sn sp)))), (0, .ref o)]) hx hb dX12_wordHere_138 rfl hl (by decide) rfl (fun ls hl => ?_)
                              refine lv_goto (tgt := 28) hx hb dX12_wordHere_139 (by decide) ?_
                              exact ih28 (e9 + 1) (nn + 1) _ _ _ ls (by omega) (by omega) (by omega) (by have q := kt3 nn hn6; omega) (fun v hv => by by_cases e_ : v = nn; rw [e_]; exact LK_n hlk c_126; exact hno v (by omega)) hTy hFr hFl28 hW (lv_sub hl [0, 1, 5, 6] rfl)
                            · refine lv_iload_n hx hb dX12_wordHere_129 rfl (lv_at hl 4 rfl) ?_
                              exact W.iret (v := nI nn) hx hb hr (fun t ht h9 => ⟨⟨nI nn, S_76, rfl, ⟨hTy, hFr, ⟨_, ⟨MKi (sp := (SK g sn sp)) (sn := sn) (pa := pa) (ki := ki) hS_o rfl rfl rfl rfl rfl rfl (by omega) (by omega) (by omega) (by omega), inf_i hS_o rfl, inf_i hS_o rfl, inf_i hS_o rfl, fld_i hS_o rfl hS_x_45, lfd_i hS_o rfl hS_x_39⟩, fun z => absurd c_4 z, fun _ => absurd c_84 c_126⟩⟩, by rw [ht]; exact hW.1, va_K.moved h9.alike hK, hW.2.1⟩, hW.2.2.F ht⟩) hW.2.2.2.2 dX12_wordHere_130
                          · have hll := LK_l hlk c_84
                            refine va_ldcS hx hb hown (hSTR.2.2.2 6 (by decide)) dX12_wordHere_87 ?_
                            refine lv_iload_n hx hb dX12_wordHere_89 rfl (lv_at hl 3 rfl) ?_
                            refine lv_iload hx hb dX12_wordHere_90 (lv_at hl 0 rfl) ?_
                            refine lv_iadd hx hb dX12_wordHere_92 ?_
                            refine lv_topi (fun z_79 ez_79 => ?_)
                            obtain rfl : z_79 = nI (k9 + i) := ez_79.trans (nI_add (k9) (i))
                            refine vp_callSi (va_Run.run (va_runV (As := [.int (nI (k9 + i))]) (rest := []) ⟨hx, hb, hml, hown, hT⟩ (j_charAt l ad (AL L s.heap.size) H.size 6 (k9 + i) (by omega) (by omega)) (cwV 1 hT (gV w1213 w447 w448 w16 w449) rfl rfl rfl (by decide +kernel) ⟨(Nat.le_of_ble_eq_true rfl), (Nat.le_of_ble_eq_true rfl)⟩) ⟨pcT.blind, vk_recv hSTR.1 (i := 6) (by omega) hW.2.2, pcT.pre hSTR hW.2.2⟩ rfl rfl hl.1 rfl (lv_room (Nat.le_of_ble_eq_true rfl)) dX12_wordHere_93 ⟨(Nat.le_of_ble_eq_true rfl), (Nat.le_of_ble_eq_true rfl)⟩)) (fun r_80 hr_80 => ?_)
                            refine lv_aload_n hx hb dX12_wordHere_96 rfl (lv_at hl 6 rfl) ?_
                            refine pl_get (ci := 12) (v := .ref x_45) (C := RX12) (T := TX12) (N := 32) hx hb hT iX12 hown hK hW hT_o.1 hS_o rfl 9 (by decide) w1091 rfl dX12_wordHere_97 ?_
                            refine lv_aload_n hx hb dX12_wordHere_100 rfl (lv_at hl 6 rfl) ?_
                            refine pl_get (ci := 12) (v := .int (nI (SK g sn sp))) (C := RX12) (T := TX12) (N := 32) hx hb hT iX12 hown hK hW hT_o.1 hS_o rfl 12 (by decide) w1094 rfl dX12_wordHere_101 ?_
                            refine lv_iload hx hb dX12_wordHere_104 (lv_at hl 0 rfl) ?_
                            refine lv_iadd hx hb dX12_wordHere_106 ?_
                            refine lv_topi (fun z_81 ez_81 => ?_)
                            obtain rfl : z_81 = nI ((SK g sn sp) + i) := ez_81.trans (nI_add (SK g sn sp) (i))
                            refine pl_bald hx hb hK hW hT_x_45.1 hS_x_45 (vp_in_nI (n := (SK g sn sp) + i) (N := 900) (by omega) (by omega)) dX12_wordHere_107 ?_
                            refine lv_topi (fun y_82 ey_82 => ?_)
                            have hls := LK_s (c := r_80) (y := y_82) hlk c_84 hn6 (by omega) (by rw [hr_80, hk9]) (by rw [ey_82, nI_clamp (by omega)])
                            refine lv_icmp_ne (tgt := 115) hx hb dX12_wordHere_108 (by decide) (fun c_108 => ?_) (fun c_108 => ?_)
                            · refine lv_iconst (v := 0) hx hb dX12_wordHere_115 (by decide) ?_
                              refine lv_istore (lv' := [(5, .int 0), (6, .int (nI i)), (4, .int (nI e9)), (3, .int (nI k9)), (2, .int (nI nn)), (1, .int (nI (LT g sn (SK g sn sp) - (SK g sn sp)))), (0, .ref o)]) hx hb dX12_wordHere_116 hl (by decide) rfl (fun ls hl => ?_)
                              refine lv_iinc (v := nI (i + 1)) (lv' := [(6, .int (nI (i + 1))), (5, .int 0), (4, .int (nI e9)), (3, .int (nI k9)), (2, .int (nI nn)), (1, .int (nI (LT g sn (SK g sn sp) - (SK g sn sp)))), (0, .ref o)]) hx hb dX12_wordHere_118 hl (k := 1) rfl (nI_add (i) 1) (by decide) rfl (fun ls hl => ?_)
                              refine lv_goto (tgt := 76) hx hb dX12_wordHere_121 (by decide) ?_
                              exact ih76 (i + 1) 0 _ _ _ ls (by omega) (by omega) (hls.2 c_108) (by omega) hTy hFr hFl76 hW (lv_sub hl [0, 1, 2, 3, 4, 5, 6] rfl)
                            · refine lv_iconst (v := 1) hx hb dX12_wordHere_111 (by decide) ?_
                              refine lv_goto (tgt := 116) hx hb dX12_wordHere_112 (by decide) ?_
                              refine lv_istore (lv' := [(5, .int 1), (6, .int (nI i)), (4, .int (nI e9)), (3, .int (nI k9)), (2, .int (nI nn)), (1, .int (nI (LT g sn (SK g sn sp) - (SK g sn sp)))), (0, .ref o)]) hx hb dX12_wordHere_116 hl (by decide) rfl (fun ls hl => ?_)
                              refine lv_iinc (v := nI (i + 1)) (lv' := [(6, .int (nI (i + 1))), (5, .int 1), (4, .int (nI e9)), (3, .int (nI k9)), (2, .int (nI nn)), (1, .int (nI (LT g sn (SK g sn sp) - (SK g sn sp)))), (0, .ref o)]) hx hb dX12_wordHere_118 hl (k := 1) rfl (nI_add (i) 1) (by decide) rfl (fun ls hl => ?_)
                              refine lv_goto (tgt := 76) hx hb dX12_wordHere_121 (by decide) ?_
                              exact ih76 (i + 1) 1 _ _ _ ls (by omega) (by omega) (hls.1 c_108) (by omega) hTy hFr hFl76 hW (lv_sub hl [0, 1, 2, 3, 4, 5, 6] rfl)
                    exact loop ((901 - 0) + 1) 0 0 _ _ _ ls (Nat.lt_succ_self _) (by omega) (Or.inr ⟨rfl, fun hK => c_63 (by have q := hK.1; omega)⟩) (by omega) hTy hFr Fr.rf hW (lv_sub hl [0, 1, 2, 3, 4, 5, 6] rfl)
                  · have c_63 : (e9 - k9) = (LT g sn (SK g sn sp) - (SK g sn sp)) := (nI_eq (a := e9 - k9) (b := LT g sn (SK g sn sp) - (SK g sn sp)) (by omega) (by omega)).mp c_63
                    refine lv_iconst (v := 1) hx hb dX12_wordHere_66 (by decide) ?_
                    refine lv_goto (tgt := 71) hx hb dX12_wordHere_67 (by decide) ?_
                    refine lv_istore (lv' := [(5, .int 1), (4, .int (nI e9)), (3, .int (nI k9)), (2, .int (nI nn)), (1, .int (nI (LT g sn (SK g sn sp) - (SK g sn sp)))), (0, .ref o)]) hx hb dX12_wordHere_71 hl (by decide) rfl (fun ls hl => ?_)
                    refine lv_iconst (v := 0) hx hb dX12_wordHere_73 (by decide) ?_
                    refine lv_istore (lv' := [(6, .int 0), (5, .int 1), (4, .int (nI e9)), (3, .int (nI k9)), (2, .int (nI nn)), (1, .int (nI (LT g sn (SK g sn sp) - (SK g sn sp)))), (0, .ref o)]) hx hb dX12_wordHere_74 hl (by decide) rfl (fun ls hl => ?_)
                    have loop : ∀ (fuel : Nat) (i : Nat) (lk : Int32) (SS : Nat → va_E) (H : Heap) (locs : List Loc) (ls : Array Slot), 901 - i < fuel → (i ≤ 900) → (LK g (SK g sn sp) (LT g sn (SK g sn sp) - (SK g sn sp)) nn i lk) → (i ≤ (LT g sn (SK g sn sp) - (SK g sn sp))) → Ty cy L kap pr SS → Fr kap [12] S SS → Fr kap [] S_73 SS → PW dC dI L (AL L s.heap.size) s.heap SS H locs → lv_has ls 7 [(6, .int (nI i)), (5, .int lk), (4, .int (nI e9)), (3, .int (nI k9)), (2, .int (nI nn)), (1, .int (nI (LT g sn (SK g sn sp) - (SK g sn sp)))), (0, .ref o)] → W p l e (headSpec (wT yX12_wordHere cX12_wordHere 7 (some .int)) { frames := 4, cells := 0, slots := 0, locals := 85 }).room s m [.ref o].toArray below meth c H locs 0 0 (MQ below (va_Qi (fun r S' => Ty cy L kap pr S' ∧ Fr kap [12] S S' ∧ (∃ sp', MF S' o g nm sp' sn wr wa sen ra pa ki rs ∧ (wr ≠ 0 → sp' = sp ∧ r = -1) ∧ (wr = 0 → sp' = SK g sn sp ∧ r = WR g sn sp))) (fun S' t => pB dC dI (AL L s.heap.size) (va_pl L S') (cyT cy) t) (AL L s.heap.size)) [.ref o].toArray s 0 0 (AL L s.heap.size)) (F0 m 76 ls []) := by
                      intro fuel
                      induction fuel with
                      | zero => intro i lk SS H locs ls h; exact absurd h (Nat.not_lt_zero _)
                      | succ fu76 ih76 =>
                        intro i lk S_83 H locs ls hm76 hb_i hlk hil hTy hFr hFl76 hW hl
                        have hS_x_10 := hFl76.at hT_x_10 (by decide) hS_x_10
                        have hS_x_4 := hFl76.at hT_x_4 (by decide) hS_x_4
                        have hS_o := hFl76.at hT_o (by decide) hS_o
                        have hS_x_45 := hFl76.at hT_x_45 (by decide) hS_x_45
                        have hS_x_39 := hFl76.at hT_x_39 (by decide) hS_x_39
                        have hFl28 := hFl28.tr hFl76 (by decide)
                        have hFl40 := hFl40.tr hFl76 (by decide)
                        refine lv_iload hx hb dX12_wordHere_76 (lv_at hl 0 rfl) ?_
                        refine lv_iload_n hx hb dX12_wordHere_78 rfl (lv_at hl 5 rfl) ?_
                        refine lv_icmp_ge (tgt := 124) hx hb dX12_wordHere_79 (by decide) (fun c_79 => ?_) (fun c_79 => ?_)
                        · have c_79 : (LT g sn (SK g sn sp) - (SK g sn sp)) ≤ i := (nI_leI (a := LT g sn (SK g sn sp) - (SK g sn sp)) (b := i) (by omega) (by omega)).mp c_79
                          refine lv_iload hx hb dX12_wordHere_124 (lv_at hl 1 rfl) ?_
                          refine lv_if_eq (tgt := 131) hx hb dX12_wordHere_126 (by decide) (fun c_126 => ?_) (fun c_126 => ?_)
                          · refine lv_iinc (v := nI (nn + 1)) (lv' := [(2, .int (nI (nn + 1))), (6, .int (nI i)), (5, .int lk), (4, .int (nI e9)), (3, .int (nI k9)), (1, .int (nI (LT g sn (SK g sn sp) - (SK g sn sp)))), (0, .ref o)]) hx hb dX12_wordHere_131 hl (k := 4) rfl (nI_add (nn) 1) (by decide) rfl (fun ls hl => ?_)
                            refine lv_iload hx hb dX12_wordHere_134 (lv_at hl 3 rfl) ?_
                            refine lv_iconst (v := 1) hx hb dX12_wordHere_136 (by decide) ?_
                            refine lv_iadd hx hb dX12_wordHere_137 ?_
                            refine lv_topi (fun z_84 ez_84 => ?_)
                            obtain rfl : z_84 = nI (e9 + 1) := ez_84.trans (nI_add (e9) (1))
                            refine lv_istore_n (lv' := [(3, .int (nI (e9 + 1))), (2, .int (nI (nn + 1))), (6, .int (nI i)), (5, .int lk), (4, .int (nI e9)), (1, .int (nI (LT g sn (SK g sn sp) - (SK g sn sp)))), (0, .ref o)]) hx hb dX12_wordHere_138 rfl hl (by decide) rfl (fun ls hl => ?_)
                            refine lv_goto (tgt := 28) hx hb dX12_wordHere_139 (by decide) ?_
                            exact ih28 (e9 + 1) (nn + 1) _ _ _ ls (by omega) (by omega) (by omega) (by have q := kt3 nn hn6; omega) (fun v hv => by by_cases e_ : v = nn; rw [e_]; exact LK_n hlk c_126; exact hno v (by omega)) hTy hFr hFl28 hW (lv_sub hl [0, 1, 5, 6] rfl)
                          · refine lv_iload_n hx hb dX12_wordHere_129 rfl (lv_at hl 4 rfl) ?_
                            exact W.iret (v := nI nn) hx hb hr (fun t ht h9 => ⟨⟨nI nn, S_83, rfl, ⟨hTy, hFr, ⟨_, ⟨MKi (sp := (SK g sn sp)) (sn := sn) (pa := pa) (ki := ki) hS_o rfl rfl rfl rfl rfl rfl (by omega) (by omega) (by omega) (by omega), inf_i hS_o rfl, inf_i hS_o rfl, inf_i hS_o rfl, fld_i hS_o rfl hS_x_45, lfd_i hS_o rfl hS_x_39⟩, fun z => absurd c_4 z, fun _ => ⟨rfl, (WR_w hpl.1 hpl.2 hn6 (LK_y hlk c_126 (by omega))).symm⟩⟩⟩, by rw [ht]; exact hW.1, va_K.moved h9.alike hK, hW.2.1⟩, hW.2.2.F ht⟩) hW.2.2.2.2 dX12_wordHere_130
                        · have c_79 : ¬ ((LT g sn (SK g sn sp) - (SK g sn sp)) ≤ i) := fun hh9 => c_79 ((nI_leI (a := LT g sn (SK g sn sp) - (SK g sn sp)) (b := i) (by omega) (by omega)).mpr hh9)
                          refine lv_iload hx hb dX12_wordHere_82 (lv_at hl 1 rfl) ?_
                          refine lv_if_eq (tgt := 124) hx hb dX12_wordHere_84 (by decide) (fun c_84 => ?_) (fun c_84 => ?_)
                          · refine lv_iload hx hb dX12_wordHere_124 (lv_at hl 1 rfl) ?_
                            refine lv_if_eq (tgt := 131) hx hb dX12_wordHere_126 (by decide) (fun c_126 => ?_) (fun c_126 => ?_)
                            · refine lv_iinc (v := nI (nn + 1)) (lv' := [(2, .int (nI (nn + 1))), (6, .int (nI i)), (5, .int lk), (4, .int (nI e9)), (3, .int (nI k9)), (1, .int (nI (LT g sn (SK g sn sp) - (SK g sn sp)))), (0, .ref o)]) hx hb dX12_wordHere_131 hl (k := 4) rfl (nI_add (nn) 1) (by decide) rfl (fun ls hl => ?_)
                              refine lv_iload hx hb dX12_wordHere_134 (lv_at hl 3 rfl) ?_
                              refine lv_iconst (v := 1) hx hb dX12_wordHere_136 (by decide) ?_
                              refine lv_iadd hx hb dX12_wordHere_137 ?_
                              refine lv_topi (fun z_85 ez_85 => ?_)
                              obtain rfl : z_85 = nI (e9 + 1) := ez_85.trans (nI_add (e9) (1))
                              refine lv_istore_n (lv' := [(3, .int (nI (e9 + 1))), (2, .int (nI (nn + 1))), (6, .int (nI i)), (5, .int lk), (4, .int (nI e9)), (1, .int (nI (LT g sn (SK g sn sp) - (SK g sn sp)))), (0, .ref o)]) hx hb dX12_wordHere_138 rfl hl (by decide) rfl (fun ls hl => ?_)
                              refine lv_goto (tgt := 28) hx hb dX12_wordHere_139 (by decide) ?_
                              exact ih28 (e9 + 1) (nn + 1) _ _ _ ls (by omega) (by omega) (by omega) (by have q := kt3 nn hn6; omega) (fun v hv => by by_cases e_ : v = nn; rw [e_]; exact LK_n hlk c_126; exact hno v (by omega)) hTy hFr hFl28 hW (lv_sub hl [0, 1, 5, 6] rfl)
                            · refine lv_iload_n hx hb dX12_wordHere_129 rfl (lv_at hl 4 rfl) ?_
                              exact W.iret (v := nI nn) hx hb hr (fun t ht h9 => ⟨⟨nI nn, S_83, rfl, ⟨hTy, hFr, ⟨_, ⟨MKi (sp := (SK g sn sp)) (sn := sn) (pa := pa) (ki := ki) hS_o rfl rfl rfl rfl rfl rfl (by omega) (by omega) (by omega) (by omega), inf_i hS_o rfl, inf_i hS_o rfl, inf_i hS_o rfl, fld_i hS_o rfl hS_x_45, lfd_i hS_o rfl hS_x_39⟩, fun z => absurd c_4 z, fun _ => absurd c_84 c_126⟩⟩, by rw [ht]; exact hW.1, va_K.moved h9.alike hK, hW.2.1⟩, hW.2.2.F ht⟩) hW.2.2.2.2 dX12_wordHere_130
                          · have hll := LK_l hlk c_84
                            refine va_ldcS hx hb hown (hSTR.2.2.2 6 (by decide)) dX12_wordHere_87 ?_
                            refine lv_iload_n hx hb dX12_wordHere_89 rfl (lv_at hl 3 rfl) ?_
                            refine lv_iload hx hb dX12_wordHere_90 (lv_at hl 0 rfl) ?_
                            refine lv_iadd hx hb dX12_wordHere_92 ?_
                            refine lv_topi (fun z_86 ez_86 => ?_)
                            obtain rfl : z_86 = nI (k9 + i) := ez_86.trans (nI_add (k9) (i))
                            refine vp_callSi (va_Run.run (va_runV (As := [.int (nI (k9 + i))]) (rest := []) ⟨hx, hb, hml, hown, hT⟩ (j_charAt l ad (AL L s.heap.size) H.size 6 (k9 + i) (by omega) (by omega)) (cwV 1 hT (gV w1213 w447 w448 w16 w449) rfl rfl rfl (by decide +kernel) ⟨(Nat.le_of_ble_eq_true rfl), (Nat.le_of_ble_eq_true rfl)⟩) ⟨pcT.blind, vk_recv hSTR.1 (i := 6) (by omega) hW.2.2, pcT.pre hSTR hW.2.2⟩ rfl rfl hl.1 rfl (lv_room (Nat.le_of_ble_eq_true rfl)) dX12_wordHere_93 ⟨(Nat.le_of_ble_eq_true rfl), (Nat.le_of_ble_eq_true rfl)⟩)) (fun r_87 hr_87 => ?_)
                            refine lv_aload_n hx hb dX12_wordHere_96 rfl (lv_at hl 6 rfl) ?_
                            refine pl_get (ci := 12) (v := .ref x_45) (C := RX12) (T := TX12) (N := 32) hx hb hT iX12 hown hK hW hT_o.1 hS_o rfl 9 (by decide) w1091 rfl dX12_wordHere_97 ?_
                            refine lv_aload_n hx hb dX12_wordHere_100 rfl (lv_at hl 6 rfl) ?_
                            refine pl_get (ci := 12) (v := .int (nI (SK g sn sp))) (C := RX12) (T := TX12) (N := 32) hx hb hT iX12 hown hK hW hT_o.1 hS_o rfl 12 (by decide) w1094 rfl dX12_wordHere_101 ?_
                            refine lv_iload hx hb dX12_wordHere_104 (lv_at hl 0 rfl) ?_
                            refine lv_iadd hx hb dX12_wordHere_106 ?_
                            refine lv_topi (fun z_88 ez_88 => ?_)
                            obtain rfl : z_88 = nI ((SK g sn sp) + i) := ez_88.trans (nI_add (SK g sn sp) (i))
                            refine pl_bald hx hb hK hW hT_x_45.1 hS_x_45 (vp_in_nI (n := (SK g sn sp) + i) (N := 900) (by omega) (by omega)) dX12_wordHere_107 ?_
                            refine lv_topi (fun y_89 ey_89 => ?_)
                            have hls := LK_s (c := r_87) (y := y_89) hlk c_84 hn6 (by omega) (by rw [hr_87, hk9]) (by rw [ey_89, nI_clamp (by omega)])
                            refine lv_icmp_ne (tgt := 115) hx hb dX12_wordHere_108 (by decide) (fun c_108 => ?_) (fun c_108 => ?_)
                            · refine lv_iconst (v := 0) hx hb dX12_wordHere_115 (by decide) ?_
                              refine lv_istore (lv' := [(5, .int 0), (6, .int (nI i)), (4, .int (nI e9)), (3, .int (nI k9)), (2, .int (nI nn)), (1, .int (nI (LT g sn (SK g sn sp) - (SK g sn sp)))), (0, .ref o)]) hx hb dX12_wordHere_116 hl (by decide) rfl (fun ls hl => ?_)
                              refine lv_iinc (v := nI (i + 1)) (lv' := [(6, .int (nI (i + 1))), (5, .int 0), (4, .int (nI e9)), (3, .int (nI k9)), (2, .int (nI nn)), (1, .int (nI (LT g sn (SK g sn sp) - (SK g sn sp)))), (0, .ref o)]) hx hb dX12_wordHere_118 hl (k := 1) rfl (nI_add (i) 1) (by decide) rfl (fun ls hl => ?_)
                              refine lv_goto (tgt := 76) hx hb dX12_wordHere_121 (by decide) ?_
                              exact ih76 (i + 1) 0 _ _ _ ls (by omega) (by omega) (hls.2 c_108) (by omega) hTy hFr hFl76 hW (lv_sub hl [0, 1, 2, 3, 4, 5, 6] rfl)
                            · refine lv_iconst (v := 1) hx hb dX12_wordHere_111 (by decide) ?_
                              refine lv_goto (tgt := 116) hx hb dX12_wordHere_112 (by decide) ?_
                              refine lv_istore (lv' := [(5, .int 1), (6, .int (nI i)), (4, .int (nI e9)), (3, .int (nI k9)), (2, .int (nI nn)), (1, .int (nI (LT g sn (SK g sn sp) - (SK g sn sp)))), (0, .ref o)]) hx hb dX12_wordHere_116 hl (by decide) rfl (fun ls hl => ?_)
                              refine lv_iinc (v := nI (i + 1)) (lv' := [(6, .int (nI (i + 1))), (5, .int 1), (4, .int (nI e9)), (3, .int (nI k9)), (2, .int (nI nn)), (1, .int (nI (LT g sn (SK g sn sp) - (SK g sn sp)))), (0, .ref o)]) hx hb dX12_wordHere_118 hl (k := 1) rfl (nI_add (i) 1) (by decide) rfl (fun ls hl => ?_)
                              refine lv_goto (tgt := 76) hx hb dX12_wordHere_121 (by decide) ?_
                              exact ih76 (i + 1) 1 _ _ _ ls (by omega) (by omega) (hls.1 c_108) (by omega) hTy hFr hFl76 hW (lv_sub hl [0, 1, 2, 3, 4, 5, 6] rfl)
                    exact loop ((901 - 0) + 1) 0 1 _ _ _ ls (Nat.lt_succ_self _) (by omega) (Or.inl ⟨rfl, by omega, fun j h => absurd h (Nat.not_lt_zero _)⟩) (by omega) hTy hFr Fr.rf hW (lv_sub hl [0, 1, 2, 3, 4, 5, 6] rfl)
                · refine lv_iinc (v := nI (e9 + 1)) (lv' := [(4, .int (nI (e9 + 1))), (3, .int (nI k9)), (2, .int (nI nn)), (1, .int (nI (LT g sn (SK g sn sp) - (SK g sn sp)))), (0, .ref o)]) hx hb dX12_wordHere_52 hl (k := 0) rfl (nI_add (e9) 1) (by decide) rfl (fun ls hl => ?_)
                  refine lv_goto (tgt := 40) hx hb dX12_wordHere_55 (by decide) ?_
                  have hqe : e9 ≠ WS (nn + 1) - 1 := fun e_ => c_49 (by rw [hr_74, e_]; exact kt1 nn hn6)
                  exact ih40 (e9 + 1) _ _ _ ls (by omega) (by omega) (by omega) (by omega) hTy hFr hFl40 hW (lv_sub hl [0, 1, 2, 3, 4] rfl)
            exact loop ((32 - k9) + 1) k9 _ _ _ ls (Nat.lt_succ_self _) (by omega) (by omega) (by have q := kt3 nn hn6; omega) hTy hFr Fr.rf hW (lv_sub hl [0, 1, 2, 3, 4] rfl)
      exact loop ((33 - 1) + 1) 1 0 _ _ _ ls (Nat.lt_succ_self _) (by omega) (by omega) rfl (fun v h => absurd h (Nat.not_lt_zero _)) hTy hFr Fr.rf hW (lv_sub hl [0, 1, 2, 3] rfl)
    · obtain ⟨rfl, hL_14⟩ := hc_
      refine lv_if_ne (tgt := 19) hx hb dX12_wordHere_14 (by decide) (fun h => absurd (by decide) h) (fun _ => ?_)
      have hWR := WR_n (p := sp) hg (by omega) (by rw [← hpk_]; exact hL_14)
      refine lv_iconst (v := (-1)) hx hb dX12_wordHere_17 (by decide) ?_
      exact W.iret (v := (-1)) hx hb hr (fun t ht h9 => ⟨⟨(-1), S_34, rfl, ⟨hTy, hFr, ⟨_, ⟨MKi (sp := (SK g sn sp)) (sn := sn) (pa := pa) (ki := ki) hS_o rfl rfl rfl rfl rfl rfl (by omega) (by omega) (by omega) (by omega), inf_i hS_o rfl, inf_i hS_o rfl, inf_i hS_o rfl, fld_i hS_o rfl hS_x_45, lfd_i hS_o rfl hS_x_39⟩, fun z => absurd c_4 z, fun _ => ⟨rfl, hWR.symm⟩⟩⟩, by rw [ht]; exact hW.1, va_K.moved h9.alike hK, hW.2.1⟩, hW.2.2.F ht⟩) hW.2.2.2.2 dX12_wordHere_18

