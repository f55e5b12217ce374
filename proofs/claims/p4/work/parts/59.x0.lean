/-! the class's reader, by the text -/
def RQ (S : Nat → va_E) (o : Nat) (g : Nat → Int32) (fa pl : Int32) (rn rb rt en : Nat) (mt tk : Int32) (ta te : Nat) : Prop := S o = .inr (6, [.int fa, .int pl, .ref rn, .ref rb, .ref rt, .int (nI en), .int mt, .int tk, .int (nI ta), .int (nI te)]) ∧ af (S rt) = g ∧ en ≤ 900 ∧ ta ≤ 900 ∧ te ≤ 900
theorem RQk {cy : Nat → ClassId} {L : List Nat} {kap : Nat → Nat} {pr : Pr} {S : Nat → va_E} {o rn rb rt en ta te : Nat} {g : Nat → Int32} {fa pl mt tk : Int32} (h : Ty cy L kap pr S) (ho : TK L kap o 6) (hQ : RQ S o g fa pl rn rb rt en mt tk ta te) : S o = .inr (6, [.int fa, .int pl, .ref rn, .ref rb, .ref rt, .int (nI en), .int mt, .int tk, .int (nI ta), .int (nI te)]) ∧ TK L kap rn 3 ∧ TK L kap rb 0 ∧ TK L kap rt 27 ∧ af (S rt) = g ∧ en ≤ 900 ∧ ta ≤ 900 ∧ te ≤ 900 := by
  obtain ⟨h1, h2, h3⟩ := hQ
  obtain ⟨t1, t2, t3⟩ := RKr h ho h1
  exact ⟨h1, t1, t2, t3, h2, h3⟩
theorem kt7 : ∀ i, i < 7 → ∀ j, j < lenJS.getD i 0 → sc_ch i j = (bytJS.getD i []).getD j 0 := by decide
theorem isL_y {v : Int32} (h1 : ¬ v < 97) (h2 : ¬ 122 < v) : isL v = true := by
  rw [isL_i]
  rw [Int32.lt_iff_toInt_lt] at h1 h2
  have e1 : (97 : Int32).toInt = 97 := by decide
  have e2 : (122 : Int32).toInt = 122 := by decide
  omega
theorem isL_n {v : Int32} (h : v < 97 ∨ 122 < v) : ¬ isL v = true := by
  rw [isL_i]
  rw [Int32.lt_iff_toInt_lt, Int32.lt_iff_toInt_lt] at h
  have e1 : (97 : Int32).toInt = 97 := by decide
  have e2 : (122 : Int32).toInt = 122 := by decide
  omega
theorem isD_y {v : Int32} (h1 : ¬ v < 48) (h2 : ¬ 57 < v) : isD v = true := by
  rw [isD_i]
  rw [Int32.lt_iff_toInt_lt] at h1 h2
  have e1 : (48 : Int32).toInt = 48 := by decide
  have e2 : (57 : Int32).toInt = 57 := by decide
  omega
theorem isD_n {v : Int32} (h : v < 48 ∨ 57 < v) : ¬ isD v = true := by
  rw [isD_i]
  rw [Int32.lt_iff_toInt_lt, Int32.lt_iff_toInt_lt] at h
  have e1 : (48 : Int32).toInt = 48 := by decide
  have e2 : (57 : Int32).toInt = 57 := by decide
  omega
/-- the token of letters -/
def WT (g : Nat → Int32) (a l : Nat) : Nat := if wdx g a l < 6 then 5 + wdx g a l else if l ≤ 8 then 4 else 1
section TOKS
variable {g : Nat → Int32} {n p a l w : Nat}
theorem WT_w (hw : w < 6) (h : KW g a l w) : WT g a l = 5 + w := by
  unfold WT
  rw [wdx_w hw h, if_pos hw]
theorem WT_n (h0 : ¬ KW g a l 0) (h1 : ¬ KW g a l 1) (h2 : ¬ KW g a l 2) (h3 : ¬ KW g a l 3) (h4 : ¬ KW g a l 4) (h5 : ¬ KW g a l 5) : WT g a l = if l ≤ 8 then 4 else 1 := by
  unfold WT
  rw [wdx_n (fun w hw => by
    rcases (show w = 0 ∨ w = 1 ∨ w = 2 ∨ w = 3 ∨ w = 4 ∨ w = 5 by omega) with rfl | rfl | rfl | rfl | rfl | rfl
    · exact h0
    · exact h1
    · exact h2
    · exact h3
    · exact h4
    · exact h5), if_neg (by omega)]
theorem NX_L (h : SK g n p = a) (h1 : a < n) (hl : isL (g a) = true) : tkc g n p = WT g a (LT g n a - a) ∧ tke g n p = LT g n a := by
  subst h
  unfold tkc tke WT
  rw [if_pos h1, if_pos h1, if_pos hl, if_pos hl]
  exact ⟨rfl, rfl⟩
end TOKS

set_option maxHeartbeats 4000000 in
set_option maxRecDepth 100000 in
theorem q_isLetter (l : Launch) (dC : Nat → ClassId) (dI : Nat → Nat → Nat) (sz : Nat) (v : Int32) : Met l yX6_isLetter (wT yX6_isLetter cX6_isLetter 1 (some .boolean)) ({ frames := 0, cells := 0, slots := 0, locals := 0 }) (pcW dC dI [.int v] sz [] []) (vp_Si (fun r => (r = 1 ∧ isL v = true) ∨ (r = 0 ∧ ¬ isL v = true))) 0 0 (fun _ => False) := by
  refine Met.ofW (cc := cX6_isLetter) (maxL := 1) (ret := (some .boolean)) (by decide) rfl ?_
  intro p e s m args below meth c s₁ B hml hv
  obtain ⟨rfl, hsz, hP, hK, hD0⟩ := hv
  have hx := B.exec
  have hb := B.bytes
  have hr := B.returns
  have hT : ∀ wd ∈ TB, wd.before [.int v].toArray s = true := fun wd h => atoms_spec (ws := wT yX6_isLetter cX6_isLetter 1 (some .boolean)) B.pre wd (List.mem_cons_of_mem _ h)
  have hown : s.vm.findClass RX6 = some m.cls := findClass_of_methodNamed B.named
  have hlocks := B.notSynchronized
  subst hsz
  have hl := lv_entry ([.int v]) (n := 1) (Nat.le_of_ble_eq_true rfl)
  rw [lg_entry_eq]
  generalize (lg_sl ([.int v]) ++ List.replicate (1 - (lg_sl ([.int v])).length) Slot.unset).toArray = ls at hl ⊢
  have hl : lv_has ls 1 [(0, .int v)] := hl
  refine lv_iload_n hx hb dX6_isLetter_0 rfl (lv_at hl 0 rfl) ?_
  refine lv_bipush (v := 97) hx hb dX6_isLetter_1 (by decide) ?_
  refine lv_icmp_lt (tgt := 16) hx hb dX6_isLetter_3 (by decide) (fun c_3 => ?_) (fun c_3 => ?_)
  · refine lv_iconst (v := 0) hx hb dX6_isLetter_16 (by decide) ?_
    exact W.zret (ty := .boolean) (v := 0) hx hb hr (by decide) (fun t ht h9 => ⟨0, rfl, Or.inr ⟨rfl, isL_n (Or.inl c_3)⟩, ht⟩) (fun q h => by cases h) dX6_isLetter_17
  · refine lv_iload_n hx hb dX6_isLetter_6 rfl (lv_at hl 0 rfl) ?_
    refine lv_bipush (v := 122) hx hb dX6_isLetter_7 (by decide) ?_
    refine lv_icmp_gt (tgt := 16) hx hb dX6_isLetter_9 (by decide) (fun c_9 => ?_) (fun c_9 => ?_)
    · refine lv_iconst (v := 0) hx hb dX6_isLetter_16 (by decide) ?_
      exact W.zret (ty := .boolean) (v := 0) hx hb hr (by decide) (fun t ht h9 => ⟨0, rfl, Or.inr ⟨rfl, isL_n (Or.inr c_9)⟩, ht⟩) (fun q h => by cases h) dX6_isLetter_17
    · refine lv_iconst (v := 1) hx hb dX6_isLetter_12 (by decide) ?_
      refine lv_goto (tgt := 17) hx hb dX6_isLetter_13 (by decide) ?_
      exact W.zret (ty := .boolean) (v := 1) hx hb hr (by decide) (fun t ht h9 => ⟨1, rfl, Or.inl ⟨rfl, isL_y c_3 c_9⟩, ht⟩) (fun q h => by cases h) dX6_isLetter_17

set_option maxHeartbeats 4000000 in
set_option maxRecDepth 100000 in
theorem q_isDigit (l : Launch) (dC : Nat → ClassId) (dI : Nat → Nat → Nat) (sz : Nat) (v : Int32) : Met l yX6_isDigit (wT yX6_isDigit cX6_isDigit 1 (some .boolean)) ({ frames := 0, cells := 0, slots := 0, locals := 0 }) (pcW dC dI [.int v] sz [] []) (vp_Si (fun r => (r = 1 ∧ isD v = true) ∨ (r = 0 ∧ ¬ isD v = true))) 0 0 (fun _ => False) := by
  refine Met.ofW (cc := cX6_isDigit) (maxL := 1) (ret := (some .boolean)) (by decide) rfl ?_
  intro p e s m args below meth c s₁ B hml hv
  obtain ⟨rfl, hsz, hP, hK, hD0⟩ := hv
  have hx := B.exec
  have hb := B.bytes
  have hr := B.returns
  have hT : ∀ wd ∈ TB, wd.before [.int v].toArray s = true := fun wd h => atoms_spec (ws := wT yX6_isDigit cX6_isDigit 1 (some .boolean)) B.pre wd (List.mem_cons_of_mem _ h)
  have hown : s.vm.findClass RX6 = some m.cls := findClass_of_methodNamed B.named
  have hlocks := B.notSynchronized
  subst hsz
  have hl := lv_entry ([.int v]) (n := 1) (Nat.le_of_ble_eq_true rfl)
  rw [lg_entry_eq]
  generalize (lg_sl ([.int v]) ++ List.replicate (1 - (lg_sl ([.int v])).length) Slot.unset).toArray = ls at hl ⊢
  have hl : lv_has ls 1 [(0, .int v)] := hl
  refine lv_iload_n hx hb dX6_isDigit_0 rfl (lv_at hl 0 rfl) ?_
  refine lv_bipush (v := 48) hx hb dX6_isDigit_1 (by decide) ?_
  refine lv_icmp_lt (tgt := 16) hx hb dX6_isDigit_3 (by decide) (fun c_3 => ?_) (fun c_3 => ?_)
  · refine lv_iconst (v := 0) hx hb dX6_isDigit_16 (by decide) ?_
    exact W.zret (ty := .boolean) (v := 0) hx hb hr (by decide) (fun t ht h9 => ⟨0, rfl, Or.inr ⟨rfl, isD_n (Or.inl c_3)⟩, ht⟩) (fun q h => by cases h) dX6_isDigit_17
  · refine lv_iload_n hx hb dX6_isDigit_6 rfl (lv_at hl 0 rfl) ?_
    refine lv_bipush (v := 57) hx hb dX6_isDigit_7 (by decide) ?_
    refine lv_icmp_gt (tgt := 16) hx hb dX6_isDigit_9 (by decide) (fun c_9 => ?_) (fun c_9 => ?_)
    · refine lv_iconst (v := 0) hx hb dX6_isDigit_16 (by decide) ?_
      exact W.zret (ty := .boolean) (v := 0) hx hb hr (by decide) (fun t ht h9 => ⟨0, rfl, Or.inr ⟨rfl, isD_n (Or.inr c_9)⟩, ht⟩) (fun q h => by cases h) dX6_isDigit_17
    · refine lv_iconst (v := 1) hx hb dX6_isDigit_12 (by decide) ?_
      refine lv_goto (tgt := 17) hx hb dX6_isDigit_13 (by decide) ?_
      exact W.zret (ty := .boolean) (v := 1) hx hb hr (by decide) (fun t ht h9 => ⟨1, rfl, Or.inl ⟨rfl, isD_y c_3 c_9⟩, ht⟩) (fun q h => by cases h) dX6_isDigit_17

set_option maxHeartbeats 4000000 in
set_option maxRecDepth 100000 in
theorem q_isWord (l : Launch) (dC : Nat → ClassId) (dI : Nat → Nat → Nat) (cy : Nat → ClassId) (L : List Nat) (kap : Nat → Nat) (pr : Pr) (ad : (Nat → Nat) × (Nat → Nat)) (S : Nat → va_E) (sz : Nat) (o : Nat) (li : Nat) (hTy : Ty cy L kap pr S) (hT_o : TK L kap o 6) (hb_li : li < 7) (g : Nat → Int32) (fa : Int32) (pl : Int32) (rn : Nat) (rb : Nat) (rt : Nat) (en : Nat) (mt : Int32) (tk : Int32) (ta : Nat) (te : Nat) (hQ : RQ S o g fa pl rn rb rt en mt tk ta te) (hab : ta ≤ te) : Met l yX6_isWord (wT yX6_isWord cX6_isWord 3 (some .boolean)) ({ frames := 4, cells := 0, slots := 0, locals := 85 }) (pcS dC dI [.ref o, .ref (ad.1 li)] sz L S (cyT cy) NLs ad) (vp_Si (fun r => (r = 1 ∧ KW g ta (te - ta) li) ∨ (r = 0 ∧ ¬ KW g ta (te - ta) li))) 0 0 (fun _ => False) := by
  refine Met.ofW (cc := cX6_isWord) (maxL := 3) (ret := (some .boolean)) (by decide) rfl ?_
  intro p e s m args below meth c s₁ B hml hv
  obtain ⟨rfl, hsz, hP, hK, hD0, hN, hSTR⟩ := hv
  have hx := B.exec
  have hb := B.bytes
  have hr := B.returns
  have hT : ∀ wd ∈ TB, wd.before [.ref o, .ref (ad.1 li)].toArray s = true := fun wd h => atoms_spec (ws := wT yX6_isWord cX6_isWord 3 (some .boolean)) B.pre wd (List.mem_cons_of_mem _ h)
  have hown : s.vm.findClass RX6 = some m.cls := findClass_of_methodNamed B.named
  have hlocks := B.notSynchronized
  subst hsz
  have hW : PW dC dI L (AL L s.heap.size) s.heap S s.heap [] := ⟨hP, pl_self hD0, va_S.rf⟩
  have hFr : Fr kap [] S S := Fr.rf
  have hl := lv_entry ([.ref o, .ref (ad.1 li)]) (n := 3) (Nat.le_of_ble_eq_true rfl)
  rw [lg_entry_eq]
  generalize (lg_sl ([.ref o, .ref (ad.1 li)]) ++ List.replicate (3 - (lg_sl ([.ref o, .ref (ad.1 li)])).length) Slot.unset).toArray = ls at hl ⊢
  have hl : lv_has ls 3 [(0, .ref o), (1, .ref (ad.1 li))] := hl
  obtain ⟨hS_o, hT_rn, hT_rb, hT_rt, hQg_, hen_, hta_, hte_⟩ := RQk hTy hT_o hQ
  obtain ⟨f_1, hS_rt⟩ := hTy.k27 hT_rt
  have eg_ := hQg_.symm.trans (af_i hS_rt)
  subst eg_
  have hle := sc_le li hb_li
  refine lv_aload_n hx hb dX6_isWord_0 rfl (lv_at hl 0 rfl) ?_
  refine pl_get (ci := 6) (v := .int (nI te)) (C := RX6) (T := TX6) (N := 10) hx hb hT iX6 hown hK hW hT_o.1 hS_o rfl 9 (by decide) w152 rfl dX6_isWord_1 ?_
  refine lv_aload_n hx hb dX6_isWord_4 rfl (lv_at hl 0 rfl) ?_
  refine pl_get (ci := 6) (v := .int (nI ta)) (C := RX6) (T := TX6) (N := 10) hx hb hT iX6 hown hK hW hT_o.1 hS_o rfl 8 (by decide) w151 rfl dX6_isWord_5 ?_
  refine lv_isub hx hb dX6_isWord_8 ?_
  refine lv_topi (fun z_2 ez_2 => ?_)
  obtain rfl : z_2 = nI (te - ta) := ez_2.trans (pk_sub (a := te) (b := ta) (by omega))
  refine lv_aload_n hx hb dX6_isWord_9 rfl (lv_at hl 1 rfl) ?_
  refine vp_callSi (va_Run.run (va_runV (As := []) (rest := [.int (nI (te - ta))]) ⟨hx, hb, hml, hown, hT⟩ (j_length l ad (AL L s.heap.size) s.heap.size li (by omega)) (cwV 0 hT (gV w436 w437 w438 w16 w439) rfl rfl rfl (by decide +kernel) ⟨(Nat.le_of_ble_eq_true rfl), (Nat.le_of_ble_eq_true rfl)⟩) ⟨pcT.blind, vk_recv hSTR.1 (i := li) (by omega) hW.2.2, pcT.pre hSTR hW.2.2⟩ rfl rfl hl.1 rfl (lv_room (Nat.le_of_ble_eq_true rfl)) dX6_isWord_10 ⟨(Nat.le_of_ble_eq_true rfl), (Nat.le_of_ble_eq_true rfl)⟩)) (fun r_3 hr_3 => ?_)
  obtain rfl : r_3 = nI (lenJS.getD li 0) := hr_3
  refine lv_icmp_eq (tgt := 18) hx hb dX6_isWord_13 (by decide) (fun c_13 => ?_) (fun c_13 => ?_)
  · have c_13 : (te - ta) = (lenJS.getD li 0) := (nI_eq (a := te - ta) (b := lenJS.getD li 0) (by omega) (by omega)).mp c_13
    refine lv_iconst (v := 0) hx hb dX6_isWord_18 (by decide) ?_
    refine lv_istore_n (lv' := [(2, .int 0), (0, .ref o), (1, .ref (ad.1 li))]) hx hb dX6_isWord_19 rfl hl (by decide) rfl (fun ls hl => ?_)
    have loop : ∀ (fuel : Nat) (i : Nat) (ls : Array Slot), 33 - i < fuel → (i ≤ 32) → (∀ j, j < i → g (ta + j) = (bytJS.getD li []).getD j 0) → lv_has ls 3 [(2, .int (nI i)), (0, .ref o), (1, .ref (ad.1 li))] → W p l e (headSpec (wT yX6_isWord cX6_isWord 3 (some .boolean)) { frames := 4, cells := 0, slots := 0, locals := 85 }).room s m [.ref o, .ref (ad.1 li)].toArray below meth c s.heap [] 0 0 (MQ below (vp_Si (fun r => (r = 1 ∧ KW g ta (te - ta) li) ∨ (r = 0 ∧ ¬ KW g ta (te - ta) li))) [.ref o, .ref (ad.1 li)].toArray s 0 0 (fun _ => False)) (F0 m 20 ls []) := by
      intro fuel
      induction fuel with
      | zero => intro i ls h; exact absurd h (Nat.not_lt_zero _)
      | succ fu20 ih20 =>
        intro i ls hm20 hb_i hmt hl
        refine lv_iload_n hx hb dX6_isWord_20 rfl (lv_at hl 0 rfl) ?_
        refine lv_aload_n hx hb dX6_isWord_21 rfl (lv_at hl 2 rfl) ?_
        refine vp_callSi (va_Run.run (va_runV (As := []) (rest := [.int (nI i)]) ⟨hx, hb, hml, hown, hT⟩ (j_length l ad (AL L s.heap.size) s.heap.size li (by omega)) (cwV 0 hT (gV w436 w437 w438 w16 w439) rfl rfl rfl (by decide +kernel) ⟨(Nat.le_of_ble_eq_true rfl), (Nat.le_of_ble_eq_true rfl)⟩) ⟨pcT.blind, vk_recv hSTR.1 (i := li) (by omega) hW.2.2, pcT.pre hSTR hW.2.2⟩ rfl rfl hl.1 rfl (lv_room (Nat.le_of_ble_eq_true rfl)) dX6_isWord_22 ⟨(Nat.le_of_ble_eq_true rfl), (Nat.le_of_ble_eq_true rfl)⟩)) (fun r_4 hr_4 => ?_)
        obtain rfl : r_4 = nI (lenJS.getD li 0) := hr_4
        refine lv_icmp_ge (tgt := 55) hx hb dX6_isWord_25 (by decide) (fun c_25 => ?_) (fun c_25 => ?_)
        · have c_25 : (lenJS.getD li 0) ≤ i := (nI_leI (a := lenJS.getD li 0) (b := i) (by omega) (by omega)).mp c_25
          refine lv_iconst (v := 1) hx hb dX6_isWord_55 (by decide) ?_
          exact W.zret (ty := .boolean) (v := 1) hx hb hr (by decide) (fun t ht h9 => ⟨1, rfl, Or.inl ⟨rfl, c_13, fun j hj => hmt j (by omega)⟩, ht⟩) (fun q h => by cases h) dX6_isWord_56
        · have c_25 : ¬ ((lenJS.getD li 0) ≤ i) := fun hh9 => c_25 ((nI_leI (a := lenJS.getD li 0) (b := i) (by omega) (by omega)).mpr hh9)
          refine lv_aload_n hx hb dX6_isWord_28 rfl (lv_at hl 1 rfl) ?_
          refine pl_get (ci := 6) (v := .ref rt) (C := RX6) (T := TX6) (N := 10) hx hb hT iX6 hown hK hW hT_o.1 hS_o rfl 4 (by decide) w147 rfl dX6_isWord_29 ?_
          refine lv_aload_n hx hb dX6_isWord_32 rfl (lv_at hl 1 rfl) ?_
          refine pl_get (ci := 6) (v := .int (nI ta)) (C := RX6) (T := TX6) (N := 10) hx hb hT iX6 hown hK hW hT_o.1 hS_o rfl 8 (by decide) w151 rfl dX6_isWord_33 ?_
          refine lv_iload_n hx hb dX6_isWord_36 rfl (lv_at hl 0 rfl) ?_
          refine lv_iadd hx hb dX6_isWord_37 ?_
          refine lv_topi (fun z_5 ez_5 => ?_)
          obtain rfl : z_5 = nI (ta + i) := ez_5.trans (nI_add (ta) (i))
          refine pl_bald hx hb hK hW hT_rt.1 hS_rt (vp_in_nI (n := ta + i) (N := 900) (by omega) (by omega)) dX6_isWord_38 ?_
          refine lv_topi (fun y_6 ey_6 => ?_)
          refine lv_aload_n hx hb dX6_isWord_39 rfl (lv_at hl 2 rfl) ?_
          refine lv_iload_n hx hb dX6_isWord_40 rfl (lv_at hl 0 rfl) ?_
          refine vp_callSi (va_Run.run (va_runV (As := [.int (nI i)]) (rest := [.int y_6]) ⟨hx, hb, hml, hown, hT⟩ (j_charAt l ad (AL L s.heap.size) s.heap.size li i (by omega) (by omega)) (cwV 1 hT (gV w446 w447 w448 w16 w449) rfl rfl rfl (by decide +kernel) ⟨(Nat.le_of_ble_eq_true rfl), (Nat.le_of_ble_eq_true rfl)⟩) ⟨pcT.blind, vk_recv hSTR.1 (i := li) (by omega) hW.2.2, pcT.pre hSTR hW.2.2⟩ rfl rfl hl.1 rfl (lv_room (Nat.le_of_ble_eq_true rfl)) dX6_isWord_41 ⟨(Nat.le_of_ble_eq_true rfl), (Nat.le_of_ble_eq_true rfl)⟩)) (fun r_7 hr_7 => ?_)
          refine lv_icmp_eq (tgt := 49) hx hb dX6_isWord_44 (by decide) (fun c_44 => ?_) (fun c_44 => ?_)
          · have hmi : g (ta + i) = (bytJS.getD li []).getD i 0 := by have q := ey_6; rw [nI_clamp (by omega)] at q; rw [← q, c_44, hr_7]; exact kt7 li hb_li i (by omega)
            refine lv_iinc (v := nI (i + 1)) (lv' := [(2, .int (nI (i + 1))), (0, .ref o), (1, .ref (ad.1 li))]) hx hb dX6_isWord_49 hl (k := 0) rfl (nI_add (i) 1) (by decide) rfl (fun ls hl => ?_)
            refine lv_goto (tgt := 20) hx hb dX6_isWord_52 (by decide) ?_
            exact ih20 (i + 1) ls (by omega) (by omega) (fun j hj => by by_cases q : j = i; rw [q]; exact hmi; exact hmt j (by omega)) (lv_sub hl [0, 1, 2] rfl)
          · refine lv_iconst (v := 0) hx hb dX6_isWord_47 (by decide) ?_
            exact W.zret (ty := .boolean) (v := 0) hx hb hr (by decide) (fun t ht h9 => ⟨0, rfl, Or.inr ⟨rfl, fun z => c_44 (by have q := ey_6; rw [nI_clamp (by omega)] at q; rw [q, z.2 i (by omega), hr_7]; exact (kt7 li hb_li i (by omega)).symm)⟩, ht⟩) (fun q h => by cases h) dX6_isWord_48
    exact loop ((33 - 0) + 1) 0 ls (Nat.lt_succ_self _) (by omega) (fun j h => absurd h (Nat.not_lt_zero _)) (lv_sub hl [0, 1, 2] rfl)
  · have c_13 : ¬ ((te - ta) = (lenJS.getD li 0)) := fun hh9 => c_13 ((nI_eq (a := te - ta) (b := lenJS.getD li 0) (by omega) (by omega)).mpr hh9)
    refine lv_iconst (v := 0) hx hb dX6_isWord_16 (by decide) ?_
    exact W.zret (ty := .boolean) (v := 0) hx hb hr (by decide) (fun t ht h9 => ⟨0, rfl, Or.inr ⟨rfl, fun z => c_13 z.1⟩, ht⟩) (fun q h => by cases h) dX6_isWord_17

set_option maxHeartbeats 4000000 in
set_option maxRecDepth 100000 in
theorem q_wordToken (l : Launch) (dC : Nat → ClassId) (dI : Nat → Nat → Nat) (cy : Nat → ClassId) (L : List Nat) (kap : Nat → Nat) (pr : Pr) (ad : (Nat → Nat) × (Nat → Nat)) (S : Nat → va_E) (sz : Nat) (o : Nat) (hTy : Ty cy L kap pr S) (hT_o : TK L kap o 6) (g : Nat → Int32) (fa : Int32) (pl : Int32) (rn : Nat) (rb : Nat) (rt : Nat) (en : Nat) (mt : Int32) (tk : Int32) (ta : Nat) (te : Nat) (hQ : RQ S o g fa pl rn rb rt en mt tk ta te) (hab : ta ≤ te) : Met l yX6_wordToken (wT yX6_wordToken cX6_wordToken 1 (some .int)) ({ frames := 5, cells := 0, slots := 0, locals := 107 }) (pcS dC dI [.ref o] sz L S (cyT cy) NLs ad) (vp_Si (fun r => r = nI (WT g ta (te - ta)))) 0 0 (fun _ => False) := by
  refine Met.ofW (cc := cX6_wordToken) (maxL := 1) (ret := (some .int)) (by decide) rfl ?_
  intro p e s m args below meth c s₁ B hml hv
  obtain ⟨rfl, hsz, hP, hK, hD0, hN, hSTR⟩ := hv
  have hx := B.exec
  have hb := B.bytes
  have hr := B.returns
  have hT : ∀ wd ∈ TB, wd.before [.ref o].toArray s = true := fun wd h => atoms_spec (ws := wT yX6_wordToken cX6_wordToken 1 (some .int)) B.pre wd (List.mem_cons_of_mem _ h)
  have hown : s.vm.findClass RX6 = some m.cls := findClass_of_methodNamed B.named
  have hlocks := B.notSynchronized
  subst hsz
  have hW : PW dC dI L (AL L s.heap.size) s.heap S s.heap [] := ⟨hP, pl_self hD0, va_S.rf⟩
  have hFr : Fr kap [] S S := Fr.rf
  have hl := lv_entry ([.ref o]) (n := 1) (Nat.le_of_ble_eq_true rfl)
  rw [lg_entry_eq]
  generalize (lg_sl ([.ref o]) ++ List.replicate (1 - (lg_sl ([.ref o])).length) Slot.unset).toArray = ls at hl ⊢
  have hl : lv_has ls 1 [(0, .ref o)] := hl
  obtain ⟨hS_o, hT_rn, hT_rb, hT_rt, hQg_, hen_, hta_, hte_⟩ := RQk hTy hT_o hQ
  obtain ⟨f_1, hS_rt⟩ := hTy.k27 hT_rt
  have eg_ := hQg_.symm.trans (af_i hS_rt)
  subst eg_
  refine lv_aload_n hx hb dX6_wordToken_0 rfl (lv_at hl 0 rfl) ?_
  refine va_ldcS hx hb hown (hSTR.2.2.2 0 (by decide)) dX6_wordToken_1 ?_
  refine vp_callSi (va_Run.run (va_runV (As := [.ref (ad.1 0)]) (rest := []) ⟨hx, hb, hml, hown, hT⟩ (q_isWord l dC dI cy L kap pr ad S s.heap.size o 0 hTy hT_o (by omega) g fa pl rn rb rt en mt tk ta te ⟨hS_o, af_i hS_rt, by omega, by omega, by omega⟩ (by omega)) (cwV 1 hT (gV w432 w434 ws2 w3 w435) rfl rfl rfl (by decide +kernel) ⟨(Nat.le_of_ble_eq_true rfl), (Nat.le_of_ble_eq_true rfl)⟩) ⟨pcS.blind, pl_recv hK hW hT_o.1 hS_o rfl, pcS.pre hW.1 hK hW.2.1 hN hSTR hW.2.2⟩ rfl rfl hl.1 rfl (lv_room (Nat.le_of_ble_eq_true rfl)) dX6_wordToken_3 ⟨(Nat.le_of_ble_eq_true rfl), (Nat.le_of_ble_eq_true rfl)⟩)) (fun r_2 hr_2 => ?_)
  rcases hr_2 with hc_ | hc_
  · obtain ⟨rfl, hW_6⟩ := hc_
    refine lv_if_eq (tgt := 11) hx hb dX6_wordToken_6 (by decide) (fun h => absurd h (by decide)) (fun _ => ?_)
    refine lv_iconst (v := 5) hx hb dX6_wordToken_9 (by decide) ?_
    exact W.iret (v := 5) hx hb hr (fun t ht h9 => ⟨5, rfl, (by rw [WT_w (w := 0) (by omega) hW_6]; rfl), ht⟩) (fun q h => by cases h) dX6_wordToken_10
  · obtain ⟨rfl, hW_6⟩ := hc_
    refine lv_if_eq (tgt := 11) hx hb dX6_wordToken_6 (by decide) (fun _ => ?_) (fun h => absurd (by decide) h)
    refine lv_aload_n hx hb dX6_wordToken_11 rfl (lv_at hl 0 rfl) ?_
    refine va_ldcS hx hb hown (hSTR.2.2.2 1 (by decide)) dX6_wordToken_12 ?_
    refine vp_callSi (va_Run.run (va_runV (As := [.ref (ad.1 1)]) (rest := []) ⟨hx, hb, hml, hown, hT⟩ (q_isWord l dC dI cy L kap pr ad S s.heap.size o 1 hTy hT_o (by omega) g fa pl rn rb rt en mt tk ta te ⟨hS_o, af_i hS_rt, by omega, by omega, by omega⟩ (by omega)) (cwV 1 hT (gV w432 w434 ws2 w3 w435) rfl rfl rfl (by decide +kernel) ⟨(Nat.le_of_ble_eq_true rfl), (Nat.le_of_ble_eq_true rfl)⟩) ⟨pcS.blind, pl_recv hK hW hT_o.1 hS_o rfl, pcS.pre hW.1 hK hW.2.1 hN hSTR hW.2.2⟩ rfl rfl hl.1 rfl (lv_room (Nat.le_of_ble_eq_true rfl)) dX6_wordToken_14 ⟨(Nat.le_of_ble_eq_true rfl), (Nat.le_of_ble_eq_true rfl)⟩)) (fun r_3 hr_3 => ?_)
    rcases hr_3 with hc_ | hc_
    · obtain ⟨rfl, hW_17⟩ := hc_
      refine lv_if_eq (tgt := 23) hx hb dX6_wordToken_17 (by decide) (fun h => absurd h (by decide)) (fun _ => ?_)
      refine lv_bipush (v := 6) hx hb dX6_wordToken_20 (by decide) ?_
      exact W.iret (v := 6) hx hb hr (fun t ht h9 => ⟨6, rfl, (by rw [WT_w (w := 1) (by omega) hW_17]; rfl), ht⟩) (fun q h => by cases h) dX6_wordToken_22
    · obtain ⟨rfl, hW_17⟩ := hc_
      refine lv_if_eq (tgt := 23) hx hb dX6_wordToken_17 (by decide) (fun _ => ?_) (fun h => absurd (by decide) h)
      refine lv_aload_n hx hb dX6_wordToken_23 rfl (lv_at hl 0 rfl) ?_
      refine va_ldcS hx hb hown (hSTR.2.2.2 2 (by decide)) dX6_wordToken_24 ?_
      refine vp_callSi (va_Run.run (va_runV (As := [.ref (ad.1 2)]) (rest := []) ⟨hx, hb, hml, hown, hT⟩ (q_isWord l dC dI cy L kap pr ad S s.heap.size o 2 hTy hT_o (by omega) g fa pl rn rb rt en mt tk ta te ⟨hS_o, af_i hS_rt, by omega, by omega, by omega⟩ (by omega)) (cwV 1 hT (gV w432 w434 ws2 w3 w435) rfl rfl rfl (by decide +kernel) ⟨(Nat.le_of_ble_eq_true rfl), (Nat.le_of_ble_eq_true rfl)⟩) ⟨pcS.blind, pl_recv hK hW hT_o.1 hS_o rfl, pcS.pre hW.1 hK hW.2.1 hN hSTR hW.2.2⟩ rfl rfl hl.1 rfl (lv_room (Nat.le_of_ble_eq_true rfl)) dX6_wordToken_26 ⟨(Nat.le_of_ble_eq_true rfl), (Nat.le_of_ble_eq_true rfl)⟩)) (fun r_4 hr_4 => ?_)
      rcases hr_4 with hc_ | hc_
      · obtain ⟨rfl, hW_29⟩ := hc_
        refine lv_if_eq (tgt := 35) hx hb dX6_wordToken_29 (by decide) (fun h => absurd h (by decide)) (fun _ => ?_)
        refine lv_bipush (v := 7) hx hb dX6_wordToken_32 (by decide) ?_
        exact W.iret (v := 7) hx hb hr (fun t ht h9 => ⟨7, rfl, (by rw [WT_w (w := 2) (by omega) hW_29]; rfl), ht⟩) (fun q h => by cases h) dX6_wordToken_34
      · obtain ⟨rfl, hW_29⟩ := hc_
        refine lv_if_eq (tgt := 35) hx hb dX6_wordToken_29 (by decide) (fun _ => ?_) (fun h => absurd (by decide) h)
        refine lv_aload_n hx hb dX6_wordToken_35 rfl (lv_at hl 0 rfl) ?_
        refine va_ldcS hx hb hown (hSTR.2.2.2 3 (by decide)) dX6_wordToken_36 ?_
        refine vp_callSi (va_Run.run (va_runV (As := [.ref (ad.1 3)]) (rest := []) ⟨hx, hb, hml, hown, hT⟩ (q_isWord l dC dI cy L kap pr ad S s.heap.size o 3 hTy hT_o (by omega) g fa pl rn rb rt en mt tk ta te ⟨hS_o, af_i hS_rt, by omega, by omega, by omega⟩ (by omega)) (cwV 1 hT (gV w432 w434 ws2 w3 w435) rfl rfl rfl (by decide +kernel) ⟨(Nat.le_of_ble_eq_true rfl), (Nat.le_of_ble_eq_true rfl)⟩) ⟨pcS.blind, pl_recv hK hW hT_o.1 hS_o rfl, pcS.pre hW.1 hK hW.2.1 hN hSTR hW.2.2⟩ rfl rfl hl.1 rfl (lv_room (Nat.le_of_ble_eq_true rfl)) dX6_wordToken_38 ⟨(Nat.le_of_ble_eq_true rfl), (Nat.le_of_ble_eq_true rfl)⟩)) (fun r_5 hr_5 => ?_)
        rcases hr_5 with hc_ | hc_
        · obtain ⟨rfl, hW_41⟩ := hc_
          refine lv_if_eq (tgt := 47) hx hb dX6_wordToken_41 (by decide) (fun h => absurd h (by decide)) (fun _ => ?_)
          refine lv_bipush (v := 8) hx hb dX6_wordToken_44 (by decide) ?_
          exact W.iret (v := 8) hx hb hr (fun t ht h9 => ⟨8, rfl, (by rw [WT_w (w := 3) (by omega) hW_41]; rfl), ht⟩) (fun q h => by cases h) dX6_wordToken_46
        · obtain ⟨rfl, hW_41⟩ := hc_
          refine lv_if_eq (tgt := 47) hx hb dX6_wordToken_41 (by decide) (fun _ => ?_) (fun h => absurd (by decide) h)
          refine lv_aload_n hx hb dX6_wordToken_47 rfl (lv_at hl 0 rfl) ?_
          refine va_ldcS hx hb hown (hSTR.2.2.2 4 (by decide)) dX6_wordToken_48 ?_
          refine vp_callSi (va_Run.run (va_runV (As := [.ref (ad.1 4)]) (rest := []) ⟨hx, hb, hml, hown, hT⟩ (q_isWord l dC dI cy L kap pr ad S s.heap.size o 4 hTy hT_o (by omega) g fa pl rn rb rt en mt tk ta te ⟨hS_o, af_i hS_rt, by omega, by omega, by omega⟩ (by omega)) (cwV 1 hT (gV w432 w434 ws2 w3 w435) rfl rfl rfl (by decide +kernel) ⟨(Nat.le_of_ble_eq_true rfl), (Nat.le_of_ble_eq_true rfl)⟩) ⟨pcS.blind, pl_recv hK hW hT_o.1 hS_o rfl, pcS.pre hW.1 hK hW.2.1 hN hSTR hW.2.2⟩ rfl rfl hl.1 rfl (lv_room (Nat.le_of_ble_eq_true rfl)) dX6_wordToken_50 ⟨(Nat.le_of_ble_eq_true rfl), (Nat.le_of_ble_eq_true rfl)⟩)) (fun r_6 hr_6 => ?_)
          rcases hr_6 with hc_ | hc_
          · obtain ⟨rfl, hW_53⟩ := hc_
            refine lv_if_eq (tgt := 59) hx hb dX6_wordToken_53 (by decide) (fun h => absurd h (by decide)) (fun _ => ?_)
            refine lv_bipush (v := 9) hx hb dX6_wordToken_56 (by decide) ?_
            exact W.iret (v := 9) hx hb hr (fun t ht h9 => ⟨9, rfl, (by rw [WT_w (w := 4) (by omega) hW_53]; rfl), ht⟩) (fun q h => by cases h) dX6_wordToken_58
          · obtain ⟨rfl, hW_53⟩ := hc_
            refine lv_if_eq (tgt := 59) hx hb dX6_wordToken_53 (by decide) (fun _ => ?_) (fun h => absurd (by decide) h)
            refine lv_aload_n hx hb dX6_wordToken_59 rfl (lv_at hl 0 rfl) ?_
            refine va_ldcS hx hb hown (hSTR.2.2.2 5 (by decide)) dX6_wordToken_60 ?_
            refine vp_callSi (va_Run.run (va_runV (As := [.ref (ad.1 5)]) (rest := []) ⟨hx, hb, hml, hown, hT⟩ (q_isWord l dC dI cy L kap pr ad S s.heap.size o 5 hTy hT_o (by omega) g fa pl rn rb rt en mt tk ta te ⟨hS_o, af_i hS_rt, by omega, by omega, by omega⟩ (by omega)) (cwV 1 hT (gV w432 w434 ws2 w3 w435) rfl rfl rfl (by decide +kernel) ⟨(Nat.le_of_ble_eq_true rfl), (Nat.le_of_ble_eq_true rfl)⟩) ⟨pcS.blind, pl_recv hK hW hT_o.1 hS_o rfl, pcS.pre hW.1 hK hW.2.1 hN hSTR hW.2.2⟩ rfl rfl hl.1 rfl (lv_room (Nat.le_of_ble_eq_true rfl)) dX6_wordToken_62 ⟨(Nat.le_of_ble_eq_true rfl), (Nat.le_of_ble_eq_true rfl)⟩)) (fun r_7 hr_7 => ?_)
            rcases hr_7 with hc_ | hc_
            · obtain ⟨rfl, hW_65⟩ := hc_
              refine lv_if_eq (tgt := 71) hx hb dX6_wordToken_65 (by decide) (fun h => absurd h (by decide)) (fun _ => ?_)
              refine lv_bipush (v := 10) hx hb dX6_wordToken_68 (by decide) ?_
              exact W.iret (v := 10) hx hb hr (fun t ht h9 => ⟨10, rfl, (by rw [WT_w (w := 5) (by omega) hW_65]; rfl), ht⟩) (fun q h => by cases h) dX6_wordToken_70
            · obtain ⟨rfl, hW_65⟩ := hc_
              refine lv_if_eq (tgt := 71) hx hb dX6_wordToken_65 (by decide) (fun _ => ?_) (fun h => absurd (by decide) h)
              refine lv_aload_n hx hb dX6_wordToken_71 rfl (lv_at hl 0 rfl) ?_
              refine pl_get (ci := 6) (v := .int (nI te)) (C := RX6) (T := TX6) (N := 10) hx hb hT iX6 hown hK hW hT_o.1 hS_o rfl 9 (by decide) w152 rfl dX6_wordToken_72 ?_
              refine lv_aload_n hx hb dX6_wordToken_75 rfl (lv_at hl 0 rfl) ?_
              refine pl_get (ci := 6) (v := .int (nI ta)) (C := RX6) (T := TX6) (N := 10) hx hb hT iX6 hown hK hW hT_o.1 hS_o rfl 8 (by decide) w151 rfl dX6_wordToken_76 ?_
              refine lv_isub hx hb dX6_wordToken_79 ?_
              refine lv_topi (fun z_8 ez_8 => ?_)
              obtain rfl : z_8 = nI (te - ta) := ez_8.trans (pk_sub (a := te) (b := ta) (by omega))
              refine lv_bipush (v := 8) hx hb dX6_wordToken_80 (by decide) ?_
              refine lv_icmp_gt (tgt := 89) hx hb dX6_wordToken_82 (by decide) (fun c_82 => ?_) (fun c_82 => ?_)
              · have c_82 : 8 < (te - ta) := (nI_ltI (a := 8) (b := te - ta) (by omega) (by omega)).mp c_82
                refine lv_iconst (v := 1) hx hb dX6_wordToken_89 (by decide) ?_
                exact W.iret (v := 1) hx hb hr (fun t ht h9 => ⟨1, rfl, (by rw [WT_n hW_6 hW_17 hW_29 hW_41 hW_53 hW_65, if_neg (by omega)]; rfl), ht⟩) (fun q h => by cases h) dX6_wordToken_90
              · have c_82 : ¬ (8 < (te - ta)) := fun hh9 => c_82 ((nI_ltI (a := 8) (b := te - ta) (by omega) (by omega)).mpr hh9)
                refine lv_iconst (v := 4) hx hb dX6_wordToken_85 (by decide) ?_
                refine lv_goto (tgt := 90) hx hb dX6_wordToken_86 (by decide) ?_
                exact W.iret (v := 4) hx hb hr (fun t ht h9 => ⟨4, rfl, (by rw [WT_n hW_6 hW_17 hW_29 hW_41 hW_53 hW_65, if_pos (by omega)]; rfl), ht⟩) (fun q h => by cases h) dX6_wordToken_90

set_option maxHeartbeats 4000000 in
set_option maxRecDepth 100000 in
theorem q_next (l : Launch) (dC : Nat → ClassId) (dI : Nat → Nat → Nat) (cy : Nat → ClassId) (L : List Nat) (kap : Nat → Nat) (pr : Pr) (ad : (Nat → Nat) × (Nat → Nat)) (S : Nat → va_E) (sz : Nat) (o : Nat) (hTy : Ty cy L kap pr S) (hT_o : TK L kap o 6) (g : Nat → Int32) (fa : Int32) (pl : Int32) (rn : Nat) (rb : Nat) (rt : Nat) (en : Nat) (mt : Int32) (tk : Int32) (ta : Nat) (te : Nat) (hQ : RQ S o g fa pl rn rb rt en mt tk ta te) (hte : te ≤ en) : Met l yX6_next (wT yX6_next cX6_next 1 none) ({ frames := 6, cells := 0, slots := 0, locals := 127 }) (pcS dC dI [.ref o] sz L S (cyT cy) NLs ad) (va_Qv (fun S' => Ty cy L kap pr S' ∧ Fr kap [6] S S' ∧ (RQ S' o g fa pl rn rb rt en mt (nI (tkc g en te)) (SK g en te) (tke g en te))) (fun S' t => pB dC dI (AL L sz) (va_pl L S') (cyT cy) t) (AL L sz)) 0 0 (AL L sz) := by
  refine Met.ofW (cc := cX6_next) (maxL := 1) (ret := none) (by decide) rfl ?_
  intro p e s m args below meth c s₁ B hml hv
  obtain ⟨rfl, hsz, hP, hK, hD0, hN, hSTR⟩ := hv
  have hx := B.exec
  have hb := B.bytes
  have hr := B.returns
  have hT : ∀ wd ∈ TB, wd.before [.ref o].toArray s = true := fun wd h => atoms_spec (ws := wT yX6_next cX6_next 1 none) B.pre wd (List.mem_cons_of_mem _ h)
  have hown : s.vm.findClass RX6 = some m.cls := findClass_of_methodNamed B.named
  have hlocks := B.notSynchronized
  subst hsz
  have hW : PW dC dI L (AL L s.heap.size) s.heap S s.heap [] := ⟨hP, pl_self hD0, va_S.rf⟩
  have hA0 : ∀ q, q ∈ L → AL L s.heap.size q := fun _ h => Or.inl h
  have hA : ∀ q, s.heap.size ≤ q → AL L s.heap.size q := fun _ h => Or.inr h
  have hFr : Fr kap [6] S S := Fr.rf
  have hl := lv_entry ([.ref o]) (n := 1) (Nat.le_of_ble_eq_true rfl)
  rw [lg_entry_eq]
  generalize (lg_sl ([.ref o]) ++ List.replicate (1 - (lg_sl ([.ref o])).length) Slot.unset).toArray = ls at hl ⊢
  have hl : lv_has ls 1 [(0, .ref o)] := hl
  obtain ⟨hS_o, hT_rn, hT_rb, hT_rt, hQg_, hen_, hta_, hte_⟩ := RQk hTy hT_o hQ
  obtain ⟨f_1, hS_rt⟩ := hTy.k27 hT_rt
  have eg_ := hQg_.symm.trans (af_i hS_rt)
  subst eg_
  refine lv_aload_n hx hb dX6_next_0 rfl (lv_at hl 0 rfl) ?_
  refine lv_aload_n hx hb dX6_next_1 rfl (lv_at hl 0 rfl) ?_
  refine pl_get (ci := 6) (v := .int (nI te)) (C := RX6) (T := TX6) (N := 10) hx hb hT iX6 hown hK hW hT_o.1 hS_o rfl 9 (by decide) w152 rfl dX6_next_2 ?_
  refine pl_put (ci := 6) (v := .int (nI te)) (ty := .int) (C := RX6) (T := TX6) (N := 10) (fs' := [.int fa, .int pl, .ref rn, .ref rb, .ref rt, .int (nI en), .int mt, .int tk, .int (nI te), .int (nI te)]) hx hb hT iX6 tyX6 tyX6_ok nmX6 hown hK hW hT_o.1 hS_o rfl 8 (by decide) w151 rfl (by decide +kernel) rfl rfl (Nat.le_of_ble_eq_true rfl) rfl dX6_next_5 (fun H locs S_2 e1 hW => ?_)
  have hTy := hTy.u6 e1 hT_o ⟨fa, pl, rn, rb, rt, en, mt, tk, te, te, rfl, hT_rn, hT_rb, hT_rt, (by omega), (by omega), (by omega)⟩
  have hS_rt := un e1 hT_rt hT_o (by decide) hS_rt
  have hFr := uf hFr e1 hT_o (by decide) (by decide)
  have hS_o := us e1
  have loop : ∀ (fuel : Nat) (ga : Nat) (SS : Nat → va_E) (H : Heap) (locs : List Loc) (ls : Array Slot), 901 - ga < fuel → (SS o = .inr (6, [.int fa, .int pl, .ref rn, .ref rb, .ref rt, .int (nI en), .int mt, .int tk, .int (nI ga), .int (nI te)])) → (ga ≤ en) → (te ≤ ga) → (∀ k, te ≤ k → k < ga → k < en ∧ g k = 32) → Ty cy L kap pr SS → Fr kap [6] S SS → Fr kap [6] S_2 SS → PW dC dI L (AL L s.heap.size) s.heap SS H locs → lv_has ls 1 [(0, .ref o)] → W p l e (headSpec (wT yX6_next cX6_next 1 none) { frames := 6, cells := 0, slots := 0, locals := 127 }).room s m [.ref o].toArray below meth c H locs 0 0 (MQ below (va_Qv (fun S' => Ty cy L kap pr S' ∧ Fr kap [6] S S' ∧ (RQ S' o g fa pl rn rb rt en mt (nI (tkc g en te)) (SK g en te) (tke g en te))) (fun S' t => pB dC dI (AL L s.heap.size) (va_pl L S') (cyT cy) t) (AL L s.heap.size)) [.ref o].toArray s 0 0 (AL L s.heap.size)) (F0 m 8 ls []) := by
    intro fuel
    induction fuel with
    | zero => intro ga SS H locs ls h; exact absurd h (Nat.not_lt_zero _)
    | succ fu8 ih8 =>
      intro ga S_3 H locs ls hm8 hSla hxa hya hsk hTy hFr hFl8 hW hl
      have hS_rt := hFl8.at hT_rt (by decide) hS_rt
      refine lv_aload_n hx hb dX6_next_8 rfl (lv_at hl 0 rfl) ?_
      refine pl_get (ci := 6) (v := .int (nI ga)) (C := RX6) (T := TX6) (N := 10) hx hb hT iX6 hown hK hW hT_o.1 hSla rfl 8 (by decide) w151 rfl dX6_next_9 ?_
      refine lv_aload_n hx hb dX6_next_12 rfl (lv_at hl 0 rfl) ?_
      refine pl_get (ci := 6) (v := .int (nI en)) (C := RX6) (T := TX6) (N := 10) hx hb hT iX6 hown hK hW hT_o.1 hSla rfl 5 (by decide) w148 rfl dX6_next_13 ?_
      refine lv_icmp_ge (tgt := 46) hx hb dX6_next_16 (by decide) (fun c_16 => ?_) (fun c_16 => ?_)
      · have c_16 : en ≤ ga := (nI_leI (a := en) (b := ga) (by omega) (by omega)).mp c_16
        have hSK : SK g en te = ga := SK_s (by omega) (by omega) hsk (fun z => by omega)
        refine lv_aload_n hx hb dX6_next_46 rfl (lv_at hl 0 rfl) ?_
        refine lv_aload_n hx hb dX6_next_47 rfl (lv_at hl 0 rfl) ?_
        refine pl_get (ci := 6) (v := .int (nI ga)) (C := RX6) (T := TX6) (N := 10) hx hb hT iX6 hown hK hW hT_o.1 hSla rfl 8 (by decide) w151 rfl dX6_next_48 ?_
        refine pl_put (ci := 6) (v := .int (nI ga)) (ty := .int) (C := RX6) (T := TX6) (N := 10) (fs' := [.int fa, .int pl, .ref rn, .ref rb, .ref rt, .int (nI en), .int mt, .int tk, .int (nI ga), .int (nI ga)]) hx hb hT iX6 tyX6 tyX6_ok nmX6 hown hK hW hT_o.1 hSla rfl 9 (by decide) w152 rfl (by decide +kernel) rfl rfl (Nat.le_of_ble_eq_true rfl) rfl dX6_next_51 (fun H locs S_4 e1 hW => ?_)
        have hTy := hTy.u6 e1 hT_o ⟨fa, pl, rn, rb, rt, en, mt, tk, ga, ga, rfl, hT_rn, hT_rb, hT_rt, (by omega), (by omega), (by omega)⟩
        have hS_rt := un e1 hT_rt hT_o (by decide) hS_rt
        have hFr := uf hFr e1 hT_o (by decide) (by decide)
        have hFl8 := uf hFl8 e1 hT_o (by decide) (by decide)
        have hSla := us e1
        refine lv_aload_n hx hb dX6_next_54 rfl (lv_at hl 0 rfl) ?_
        refine pl_get (ci := 6) (v := .int (nI ga)) (C := RX6) (T := TX6) (N := 10) hx hb hT iX6 hown hK hW hT_o.1 hSla rfl 8 (by decide) w151 rfl dX6_next_55 ?_
        refine lv_aload_n hx hb dX6_next_58 rfl (lv_at hl 0 rfl) ?_
        refine pl_get (ci := 6) (v := .int (nI en)) (C := RX6) (T := TX6) (N := 10) hx hb hT iX6 hown hK hW hT_o.1 hSla rfl 5 (by decide) w148 rfl dX6_next_59 ?_
        refine lv_icmp_lt (tgt := 73) hx hb dX6_next_62 (by decide) (fun c_62 => ?_) (fun c_62 => ?_)
        · have c_62 : ga < en := (nI_ltI (a := ga) (b := en) (by omega) (by omega)).mp c_62
          refine lv_aload_n hx hb dX6_next_73 rfl (lv_at hl 0 rfl) ?_
          refine pl_get (ci := 6) (v := .ref rt) (C := RX6) (T := TX6) (N := 10) hx hb hT iX6 hown hK hW hT_o.1 hSla rfl 4 (by decide) w147 rfl dX6_next_74 ?_
          refine lv_aload_n hx hb dX6_next_77 rfl (lv_at hl 0 rfl) ?_
          refine pl_get (ci := 6) (v := .int (nI ga)) (C := RX6) (T := TX6) (N := 10) hx hb hT iX6 hown hK hW hT_o.1 hSla rfl 8 (by decide) w151 rfl dX6_next_78 ?_
          refine pl_bald hx hb hK hW hT_rt.1 hS_rt (vp_in_nI (n := ga) (N := 900) (by omega) (by omega)) dX6_next_81 ?_
          refine lv_topi (fun y_5 ey_5 => ?_)
          refine vp_callSi (va_Run.run (va_runS (As := [.int y_5]) (rest := []) ⟨hx, hb, hml, hown, hT⟩ (q_isLetter l dC dI H.size y_5) (va_cwS 1 hT (gS w424 w425 w3 w426) rfl rfl rfl (by decide +kernel) ⟨(Nat.le_of_ble_eq_true rfl), (Nat.le_of_ble_eq_true rfl)⟩) ⟨pcW.blind, pcW.pre (va_P0 _ _ _) (hK.sub (tys' := []) [] rfl) (va_D0 (fun _ => True))⟩ rfl rfl hl.1 rfl (lv_room (Nat.le_of_ble_eq_true rfl)) dX6_next_82 ⟨(Nat.le_of_ble_eq_true rfl), (Nat.le_of_ble_eq_true rfl)⟩)) (fun r_6 hr_6 => ?_)
          rcases hr_6 with hc_ | hc_
          · obtain ⟨rfl, hL_85⟩ := hc_
            refine lv_if_eq (tgt := 138) hx hb dX6_next_85 (by decide) (fun h => absurd h (by decide)) (fun _ => ?_)
            have loop : ∀ (fuel : Nat) (gb : Nat) (SS : Nat → va_E) (H : Heap) (locs : List Loc) (ls : Array Slot), 901 - gb < fuel → (SS o = .inr (6, [.int fa, .int pl, .ref rn, .ref rb, .ref rt, .int (nI en), .int mt, .int tk, .int (nI ga), .int (nI gb)])) → (gb ≤ en) → (ga ≤ gb) → (∀ k, ga ≤ k → k < gb → k < en ∧ isL (g k) = true) → Ty cy L kap pr SS → Fr kap [6] S SS → Fr kap [6] S_4 SS → PW dC dI L (AL L s.heap.size) s.heap SS H locs → lv_has ls 1 [(0, .ref o)] → W p l e (headSpec (wT yX6_next cX6_next 1 none) { frames := 6, cells := 0, slots := 0, locals := 127 }).room s m [.ref o].toArray below meth c H locs 0 0 (MQ below (va_Qv (fun S' => Ty cy L kap pr S' ∧ Fr kap [6] S S' ∧ (RQ S' o g fa pl rn rb rt en mt (nI (tkc g en te)) (SK g en te) (tke g en te))) (fun S' t => pB dC dI (AL L s.heap.size) (va_pl L S') (cyT cy) t) (AL L s.heap.size)) [.ref o].toArray s 0 0 (AL L s.heap.size)) (F0 m 88 ls []) := by
              intro fuel
              induction fuel with
              | zero => intro gb SS H locs ls h; exact absurd h (Nat.not_lt_zero _)
              | succ fu88 ih88 =>
                intro gb S_7 H locs ls hm88 hSlgb hxgb hygb hrgb hTy hFr hFl88 hW hl
                have hS_rt := hFl88.at hT_rt (by decide) hS_rt
                have hFl8 := hFl8.tr hFl88 (by decide)
                refine lv_aload_n hx hb dX6_next_88 rfl (lv_at hl 0 rfl) ?_
                refine pl_get (ci := 6) (v := .int (nI gb)) (C := RX6) (T := TX6) (N := 10) hx hb hT iX6 hown hK hW hT_o.1 hSlgb rfl 9 (by decide) w152 rfl dX6_next_89 ?_
                refine lv_aload_n hx hb dX6_next_92 rfl (lv_at hl 0 rfl) ?_
                refine pl_get (ci := 6) (v := .int (nI en)) (C := RX6) (T := TX6) (N := 10) hx hb hT iX6 hown hK hW hT_o.1 hSlgb rfl 5 (by decide) w148 rfl dX6_next_93 ?_
                refine lv_icmp_ge (tgt := 127) hx hb dX6_next_96 (by decide) (fun c_96 => ?_) (fun c_96 => ?_)
                · have c_96 : en ≤ gb := (nI_leI (a := en) (b := gb) (by omega) (by omega)).mp c_96
                  have hLT : LT g en ga = gb := LT_s (by omega) (by omega) hrgb (fun z => by omega)
                  refine lv_aload_n hx hb dX6_next_127 rfl (lv_at hl 0 rfl) ?_
                  refine lv_aload_n hx hb dX6_next_128 rfl (lv_at hl 0 rfl) ?_
                  refine vp_callSi (va_Run.run (va_runV (As := []) (rest := [.ref o]) ⟨hx, hb, hml, hown, hT⟩ (q_wordToken l dC dI cy L kap pr ad S_7 H.size o hTy hT_o g fa pl rn rb rt en mt tk ga gb ⟨hSlgb, af_i hS_rt, by omega, by omega, by omega⟩ (by omega)) (cwV 0 hT (gV w427 w429 ws1 w3 w430) rfl rfl rfl (by decide +kernel) ⟨(Nat.le_of_ble_eq_true rfl), (Nat.le_of_ble_eq_true rfl)⟩) ⟨pcS.blind, pl_recv hK hW hT_o.1 hSlgb rfl, pcS.pre hW.1 hK hW.2.1 hN hSTR hW.2.2⟩ rfl rfl hl.1 rfl (lv_room (Nat.le_of_ble_eq_true rfl)) dX6_next_129 ⟨(Nat.le_of_ble_eq_true rfl), (Nat.le_of_ble_eq_true rfl)⟩)) (fun r_8 hr_8 => ?_)
                  have hwt_ : r_8 = nI (WT g ga (gb - ga)) := hr_8
                  refine pl_put (ci := 6) (v := .int r_8) (ty := .int) (C := RX6) (T := TX6) (N := 10) (fs' := [.int fa, .int pl, .ref rn, .ref rb, .ref rt, .int (nI en), .int mt, .int r_8, .int (nI ga), .int (nI gb)]) hx hb hT iX6 tyX6 tyX6_ok nmX6 hown hK hW hT_o.1 hSlgb rfl 7 (by decide) w150 rfl (by decide +kernel) rfl rfl (Nat.le_of_ble_eq_true rfl) rfl dX6_next_132 (fun H locs S_9 e1 hW => ?_)
                  have hTy := hTy.u6 e1 hT_o ⟨fa, pl, rn, rb, rt, en, mt, r_8, ga, gb, rfl, hT_rn, hT_rb, hT_rt, (by omega), (by omega), (by omega)⟩
                  have hS_rt := un e1 hT_rt hT_o (by decide) hS_rt
                  have hFr := uf hFr e1 hT_o (by decide) (by decide)
                  have hFl8 := uf hFl8 e1 hT_o (by decide) (by decide)
                  have hFl88 := uf hFl88 e1 hT_o (by decide) (by decide)
                  have hSlgb := us e1
                  refine lv_goto (tgt := 230) hx hb dX6_next_135 (by decide) ?_
                  have hT1 := NX_L (g := g) (n := en) (p := te) hSK (by omega) (by have z := hL_85; rw [ey_5, nI_clamp (by omega)] at z; exact z)
                  rw [hLT] at hT1
                  exact W.vret hx hb hr (fun t ht h9 => ⟨⟨S_9, rfl, ⟨hTy, hFr, ⟨by rw [hT1.1, hT1.2, hSK, ← hwt_]; exact hSlgb, af_i hS_rt, by omega, by rw [hSK]; omega, by rw [hT1.2]; omega⟩⟩, by rw [ht]; exact hW.1, va_K.moved h9.alike hK, hW.2.1⟩, hW.2.2.F ht⟩) hW.2.2.2.2 dX6_next_230
                · have c_96 : ¬ (en ≤ gb) := fun hh9 => c_96 ((nI_leI (a := en) (b := gb) (by omega) (by omega)).mpr hh9)
                  refine lv_aload_n hx hb dX6_next_99 rfl (lv_at hl 0 rfl) ?_
                  refine pl_get (ci := 6) (v := .ref rt) (C := RX6) (T := TX6) (N := 10) hx hb hT iX6 hown hK hW hT_o.1 hSlgb rfl 4 (by decide) w147 rfl dX6_next_100 ?_
                  refine lv_aload_n hx hb dX6_next_103 rfl (lv_at hl 0 rfl) ?_
                  refine pl_get (ci := 6) (v := .int (nI gb)) (C := RX6) (T := TX6) (N := 10) hx hb hT iX6 hown hK hW hT_o.1 hSlgb rfl 9 (by decide) w152 rfl dX6_next_104 ?_
                  refine pl_bald hx hb hK hW hT_rt.1 hS_rt (vp_in_nI (n := gb) (N := 900) (by omega) (by omega)) dX6_next_107 ?_
                  refine lv_topi (fun y_10 ey_10 => ?_)
                  refine vp_callSi (va_Run.run (va_runS (As := [.int y_10]) (rest := []) ⟨hx, hb, hml, hown, hT⟩ (q_isLetter l dC dI H.size y_10) (va_cwS 1 hT (gS w424 w425 w3 w426) rfl rfl rfl (by decide +kernel) ⟨(Nat.le_of_ble_eq_true rfl), (Nat.le_of_ble_eq_true rfl)⟩) ⟨pcW.blind, pcW.pre (va_P0 _ _ _) (hK.sub (tys' := []) [] rfl) (va_D0 (fun _ => True))⟩ rfl rfl hl.1 rfl (lv_room (Nat.le_of_ble_eq_true rfl)) dX6_next_108 ⟨(Nat.le_of_ble_eq_true rfl), (Nat.le_of_ble_eq_true rfl)⟩)) (fun r_11 hr_11 => ?_)
                  rcases hr_11 with hc_ | hc_
                  · obtain ⟨rfl, hL_111⟩ := hc_
                    refine lv_if_eq (tgt := 127) hx hb dX6_next_111 (by decide) (fun h => absurd h (by decide)) (fun _ => ?_)
                    refine lv_aload_n hx hb dX6_next_114 rfl (lv_at hl 0 rfl) ?_
                    refine lv_dup hx hb dX6_next_115 rfl ?_
                    refine pl_get (ci := 6) (v := .int (nI gb)) (C := RX6) (T := TX6) (N := 10) hx hb hT iX6 hown hK hW hT_o.1 hSlgb rfl 9 (by decide) w152 rfl dX6_next_116 ?_
                    refine lv_iconst (v := 1) hx hb dX6_next_119 (by decide) ?_
                    refine lv_iadd hx hb dX6_next_120 ?_
                    refine lv_topi (fun z_12 ez_12 => ?_)
                    obtain rfl : z_12 = nI (gb + 1) := ez_12.trans (nI_add (gb) (1))
                    refine pl_put (ci := 6) (v := .int (nI (gb + 1))) (ty := .int) (C := RX6) (T := TX6) (N := 10) (fs' := [.int fa, .int pl, .ref rn, .ref rb, .ref rt, .int (nI en), .int mt, .int tk, .int (nI ga), .int (nI (gb + 1))]) hx hb hT iX6 tyX6 tyX6_ok nmX6 hown hK hW hT_o.1 hSlgb rfl 9 (by decide) w152 rfl (by decide +kernel) rfl rfl (Nat.le_of_ble_eq_true rfl) rfl dX6_next_121 (fun H locs S_13 e1 hW => ?_)
                    have hTy := hTy.u6 e1 hT_o ⟨fa, pl, rn, rb, rt, en, mt, tk, ga, gb + 1, rfl, hT_rn, hT_rb, hT_rt, (by omega), (by omega), (by omega)⟩
                    have hS_rt := un e1 hT_rt hT_o (by decide) hS_rt
                    have hFr := uf hFr e1 hT_o (by decide) (by decide)
                    have hFl8 := uf hFl8 e1 hT_o (by decide) (by decide)
                    have hFl88 := uf hFl88 e1 hT_o (by decide) (by decide)
                    have hSlgb := us e1
                    refine lv_goto (tgt := 88) hx hb dX6_next_124 (by decide) ?_
                    exact ih88 (gb + 1) _ _ _ ls (by omega) hSlgb (by omega) (by omega) (fun k a c9 => by by_cases q : k = gb; rw [q]; exact ⟨by omega, by have z := hL_111; rw [ey_10, nI_clamp (by omega)] at z; exact z⟩; exact hrgb k a (by omega)) hTy hFr hFl88 hW (lv_sub hl [0] rfl)
                  · obtain ⟨rfl, hL_111⟩ := hc_
                    refine lv_if_eq (tgt := 127) hx hb dX6_next_111 (by decide) (fun _ => ?_) (fun h => absurd (by decide) h)
                    have hLT : LT g en ga = gb := LT_s (by omega) (by omega) hrgb (fun z => hL_111 (by rw [ey_10, nI_clamp (by omega)]; exact z.2))
                    refine lv_aload_n hx hb dX6_next_127 rfl (lv_at hl 0 rfl) ?_
                    refine lv_aload_n hx hb dX6_next_128 rfl (lv_at hl 0 rfl) ?_
                    refine vp_callSi (va_Run.run (va_runV (As := []) (rest := [.ref o]) ⟨hx, hb, hml, hown, hT⟩ (q_wordToken l dC dI cy L kap pr ad S_7 H.size o hTy hT_o g fa pl rn rb rt en mt tk ga gb ⟨hSlgb, af_i hS_rt, by omega, by omega, by omega⟩ (by omega)) (cwV 0 hT (gV w427 w429 ws1 w3 w430) rfl rfl rfl (by decide +kernel) ⟨(Nat.le_of_ble_eq_true rfl), (Nat.le_of_ble_eq_true rfl)⟩) ⟨pcS.blind, pl_recv hK hW hT_o.1 hSlgb rfl, pcS.pre hW.1 hK hW.2.1 hN hSTR hW.2.2⟩ rfl rfl hl.1 rfl (lv_room (Nat.le_of_ble_eq_true rfl)) dX6_next_129 ⟨(Nat.le_of_ble_eq_true rfl), (Nat.le_of_ble_eq_true rfl)⟩)) (fun r_14 hr_14 => ?_)
                    have hwt_ : r_14 = nI (WT g ga (gb - ga)) := hr_14
                    refine pl_put (ci := 6) (v := .int r_14) (ty := .int) (C := RX6) (T := TX6) (N := 10) (fs' := [.int fa, .int pl, .ref rn, .ref rb, .ref rt, .int (nI en), .int mt, .int r_14, .int (nI ga), .int (nI gb)]) hx hb hT iX6 tyX6 tyX6_ok nmX6 hown hK hW hT_o.1 hSlgb rfl 7 (by decide) w150 rfl (by decide +kernel) rfl rfl (Nat.le_of_ble_eq_true rfl) rfl dX6_next_132 (fun H locs S_15 e1 hW => ?_)
                    have hTy := hTy.u6 e1 hT_o ⟨fa, pl, rn, rb, rt, en, mt, r_14, ga, gb, rfl, hT_rn, hT_rb, hT_rt, (by omega), (by omega), (by omega)⟩
                    have hS_rt := un e1 hT_rt hT_o (by decide) hS_rt
                    have hFr := uf hFr e1 hT_o (by decide) (by decide)
                    have hFl8 := uf hFl8 e1 hT_o (by decide) (by decide)
                    have hFl88 := uf hFl88 e1 hT_o (by decide) (by decide)
                    have hSlgb := us e1
                    refine lv_goto (tgt := 230) hx hb dX6_next_135 (by decide) ?_
                    have hT1 := NX_L (g := g) (n := en) (p := te) hSK (by omega) (by have z := hL_85; rw [ey_5, nI_clamp (by omega)] at z; exact z)
                    rw [hLT] at hT1
                    exact W.vret hx hb hr (fun t ht h9 => ⟨⟨S_15, rfl, ⟨hTy, hFr, ⟨by rw [hT1.1, hT1.2, hSK, ← hwt_]; exact hSlgb, af_i hS_rt, by omega, by rw [hSK]; omega, by rw [hT1.2]; omega⟩⟩, by rw [ht]; exact hW.1, va_K.moved h9.alike hK, hW.2.1⟩, hW.2.2.F ht⟩) hW.2.2.2.2 dX6_next_230
            exact loop ((901 - ga) + 1) ga _ _ _ ls (Nat.lt_succ_self _) hSla (by omega) (by omega) (fun k a b => by omega) hTy hFr Fr.rf hW (lv_sub hl [0] rfl)
          · obtain ⟨rfl, hL_85⟩ := hc_
            refine lv_if_eq (tgt := 138) hx hb dX6_next_85 (by decide) (fun _ => ?_) (fun h => absurd (by decide) h)
            refine lv_aload_n hx hb dX6_next_138 rfl (lv_at hl 0 rfl) ?_
            refine pl_get (ci := 6) (v := .ref rt) (C := RX6) (T := TX6) (N := 10) hx hb hT iX6 hown hK hW hT_o.1 hSla rfl 4 (by decide) w147 rfl dX6_next_139 ?_
            refine lv_aload_n hx hb dX6_next_142 rfl (lv_at hl 0 rfl) ?_
            refine pl_get (ci := 6) (v := .int (nI ga)) (C := RX6) (T := TX6) (N := 10) hx hb hT iX6 hown hK hW hT_o.1 hSla rfl 8 (by decide) w151 rfl dX6_next_143 ?_
            refine pl_bald hx hb hK hW hT_rt.1 hS_rt (vp_in_nI (n := ga) (N := 900) (by omega) (by omega)) dX6_next_146 ?_
            refine lv_topi (fun y_16 ey_16 => ?_)
            refine vp_callSi (va_Run.run (va_runS (As := [.int y_16]) (rest := []) ⟨hx, hb, hml, hown, hT⟩ (q_isDigit l dC dI H.size y_16) (va_cwS 1 hT (gS w489 w490 w3 w491) rfl rfl rfl (by decide +kernel) ⟨(Nat.le_of_ble_eq_true rfl), (Nat.le_of_ble_eq_true rfl)⟩) ⟨pcW.blind, pcW.pre (va_P0 _ _ _) (hK.sub (tys' := []) [] rfl) (va_D0 (fun _ => True))⟩ rfl rfl hl.1 rfl (lv_room (Nat.le_of_ble_eq_true rfl)) dX6_next_147 ⟨(Nat.le_of_ble_eq_true rfl), (Nat.le_of_ble_eq_true rfl)⟩)) (fun r_17 hr_17 => ?_)
            rcases hr_17 with hc_ | hc_
            · obtain ⟨rfl, hL_150⟩ := hc_
              refine lv_if_eq (tgt := 197) hx hb dX6_next_150 (by decide) (fun h => absurd h (by decide)) (fun _ => ?_)
              refine lv_aload_n hx hb dX6_next_153 rfl (lv_at hl 0 rfl) ?_
              refine lv_iconst (v := 3) hx hb dX6_next_154 (by decide) ?_
              refine pl_put (ci := 6) (v := .int 3) (ty := .int) (C := RX6) (T := TX6) (N := 10) (fs' := [.int fa, .int pl, .ref rn, .ref rb, .ref rt, .int (nI en), .int mt, .int 3, .int (nI ga), .int (nI ga)]) hx hb hT iX6 tyX6 tyX6_ok nmX6 hown hK hW hT_o.1 hSla rfl 7 (by decide) w150 rfl (by decide +kernel) rfl rfl (Nat.le_of_ble_eq_true rfl) rfl dX6_next_155 (fun H locs S_18 e1 hW => ?_)
              have hTy := hTy.u6 e1 hT_o ⟨fa, pl, rn, rb, rt, en, mt, 3, ga, ga, rfl, hT_rn, hT_rb, hT_rt, (by omega), (by omega), (by omega)⟩
              have hS_rt := un e1 hT_rt hT_o (by decide) hS_rt
              have hFr := uf hFr e1 hT_o (by decide) (by decide)
              have hFl8 := uf hFl8 e1 hT_o (by decide) (by decide)
              have hSla := us e1
              have loop : ∀ (fuel : Nat) (gc : Nat) (SS : Nat → va_E) (H : Heap) (locs : List Loc) (ls : Array Slot), 901 - gc < fuel → (SS o = .inr (6, [.int fa, .int pl, .ref rn, .ref rb, .ref rt, .int (nI en), .int mt, .int 3, .int (nI ga), .int (nI gc)])) → (gc ≤ en) → (ga ≤ gc) → (∀ k, ga ≤ k → k < gc → k < en ∧ isD (g k) = true) → Ty cy L kap pr SS → Fr kap [6] S SS → Fr kap [6] S_18 SS → PW dC dI L (AL L s.heap.size) s.heap SS H locs → lv_has ls 1 [(0, .ref o)] → W p l e (headSpec (wT yX6_next cX6_next 1 none) { frames := 6, cells := 0, slots := 0, locals := 127 }).room s m [.ref o].toArray below meth c H locs 0 0 (MQ below (va_Qv (fun S' => Ty cy L kap pr S' ∧ Fr kap [6] S S' ∧ (RQ S' o g fa pl rn rb rt en mt (nI (tkc g en te)) (SK g en te) (tke g en te))) (fun S' t => pB dC dI (AL L s.heap.size) (va_pl L S') (cyT cy) t) (AL L s.heap.size)) [.ref o].toArray s 0 0 (AL L s.heap.size)) (F0 m 158 ls []) := by
                intro fuel
                induction fuel with
                | zero => intro gc SS H locs ls h; exact absurd h (Nat.not_lt_zero _)
                | succ fu158 ih158 =>
                  intro gc S_19 H locs ls hm158 hSlgc hxgc hygc hrgc hTy hFr hFl158 hW hl
                  have hS_rt := hFl158.at hT_rt (by decide) hS_rt
                  have hFl8 := hFl8.tr hFl158 (by decide)
                  refine lv_aload_n hx hb dX6_next_158 rfl (lv_at hl 0 rfl) ?_
                  refine pl_get (ci := 6) (v := .int (nI gc)) (C := RX6) (T := TX6) (N := 10) hx hb hT iX6 hown hK hW hT_o.1 hSlgc rfl 9 (by decide) w152 rfl dX6_next_159 ?_
                  refine lv_aload_n hx hb dX6_next_162 rfl (lv_at hl 0 rfl) ?_
                  refine pl_get (ci := 6) (v := .int (nI en)) (C := RX6) (T := TX6) (N := 10) hx hb hT iX6 hown hK hW hT_o.1 hSlgc rfl 5 (by decide) w148 rfl dX6_next_163 ?_
                  refine lv_icmp_ge (tgt := 230) hx hb dX6_next_166 (by decide) (fun c_166 => ?_) (fun c_166 => ?_)
                  · have c_166 : en ≤ gc := (nI_leI (a := en) (b := gc) (by omega) (by omega)).mp c_166
                    have hDT : DT g en ga = gc := DT_s (by omega) (by omega) hrgc (fun z => by omega)
                    have hT1 := tk_num (g := g) (n := en) (p := te) (by omega) (by rw [hSK]; have z := hL_85; rw [ey_5, nI_clamp (by omega)] at z; exact z) (by rw [hSK]; have z := hL_150; rw [ey_16, nI_clamp (by omega)] at z; exact z)
                    rw [hSK, hDT] at hT1
                    exact W.vret hx hb hr (fun t ht h9 => ⟨⟨S_19, rfl, ⟨hTy, hFr, ⟨by rw [hT1.1, hT1.2, hSK]; exact hSlgc, af_i hS_rt, by omega, by rw [hSK]; omega, by rw [hT1.2]; omega⟩⟩, by rw [ht]; exact hW.1, va_K.moved h9.alike hK, hW.2.1⟩, hW.2.2.F ht⟩) hW.2.2.2.2 dX6_next_230
                  · have c_166 : ¬ (en ≤ gc) := fun hh9 => c_166 ((nI_leI (a := en) (b := gc) (by omega) (by omega)).mpr hh9)
                    refine lv_aload_n hx hb dX6_next_169 rfl (lv_at hl 0 rfl) ?_
                    refine pl_get (ci := 6) (v := .ref rt) (C := RX6) (T := TX6) (N := 10) hx hb hT iX6 hown hK hW hT_o.1 hSlgc rfl 4 (by decide) w147 rfl dX6_next_170 ?_
                    refine lv_aload_n hx hb dX6_next_173 rfl (lv_at hl 0 rfl) ?_
                    refine pl_get (ci := 6) (v := .int (nI gc)) (C := RX6) (T := TX6) (N := 10) hx hb hT iX6 hown hK hW hT_o.1 hSlgc rfl 9 (by decide) w152 rfl dX6_next_174 ?_
                    refine pl_bald hx hb hK hW hT_rt.1 hS_rt (vp_in_nI (n := gc) (N := 900) (by omega) (by omega)) dX6_next_177 ?_
                    refine lv_topi (fun y_20 ey_20 => ?_)
                    refine vp_callSi (va_Run.run (va_runS (As := [.int y_20]) (rest := []) ⟨hx, hb, hml, hown, hT⟩ (q_isDigit l dC dI H.size y_20) (va_cwS 1 hT (gS w489 w490 w3 w491) rfl rfl rfl (by decide +kernel) ⟨(Nat.le_of_ble_eq_true rfl), (Nat.le_of_ble_eq_true rfl)⟩) ⟨pcW.blind, pcW.pre (va_P0 _ _ _) (hK.sub (tys' := []) [] rfl) (va_D0 (fun _ => True))⟩ rfl rfl hl.1 rfl (lv_room (Nat.le_of_ble_eq_true rfl)) dX6_next_178 ⟨(Nat.le_of_ble_eq_true rfl), (Nat.le_of_ble_eq_true rfl)⟩)) (fun r_21 hr_21 => ?_)
                    rcases hr_21 with hc_ | hc_
                    · obtain ⟨rfl, hL_181⟩ := hc_
                      refine lv_if_eq (tgt := 230) hx hb dX6_next_181 (by decide) (fun h => absurd h (by decide)) (fun _ => ?_)
                      refine lv_aload_n hx hb dX6_next_184 rfl (lv_at hl 0 rfl) ?_
                      refine lv_dup hx hb dX6_next_185 rfl ?_
                      refine pl_get (ci := 6) (v := .int (nI gc)) (C := RX6) (T := TX6) (N := 10) hx hb hT iX6 hown hK hW hT_o.1 hSlgc rfl 9 (by decide) w152 rfl dX6_next_186 ?_
                      refine lv_iconst (v := 1) hx hb dX6_next_189 (by decide) ?_
                      refine lv_iadd hx hb dX6_next_190 ?_
                      refine lv_topi (fun z_22 ez_22 => ?_)
                      obtain rfl : z_22 = nI (gc + 1) := ez_22.trans (nI_add (gc) (1))
                      refine pl_put (ci := 6) (v := .int (nI (gc + 1))) (ty := .int) (C := RX6) (T := TX6) (N := 10) (fs' := [.int fa, .int pl, .ref rn, .ref rb, .ref rt, .int (nI en), .int mt, .int 3, .int (nI ga), .int (nI (gc + 1))]) hx hb hT iX6 tyX6 tyX6_ok nmX6 hown hK hW hT_o.1 hSlgc rfl 9 (by decide) w152 rfl (by decide +kernel) rfl rfl (Nat.le_of_ble_eq_true rfl) rfl dX6_next_191 (fun H locs S_23 e1 hW => ?_)
                      have hTy := hTy.u6 e1 hT_o ⟨fa, pl, rn, rb, rt, en, mt, 3, ga, gc + 1, rfl, hT_rn, hT_rb, hT_rt, (by omega), (by omega), (by omega)⟩
                      have hS_rt := un e1 hT_rt hT_o (by decide) hS_rt
                      have hFr := uf hFr e1 hT_o (by decide) (by decide)
                      have hFl8 := uf hFl8 e1 hT_o (by decide) (by decide)
                      have hFl158 := uf hFl158 e1 hT_o (by decide) (by decide)
                      have hSlgc := us e1
                      refine lv_goto (tgt := 158) hx hb dX6_next_194 (by decide) ?_
                      exact ih158 (gc + 1) _ _ _ ls (by omega) hSlgc (by omega) (by omega) (fun k a c9 => by by_cases q : k = gc; rw [q]; exact ⟨by omega, by have z := hL_181; rw [ey_20, nI_clamp (by omega)] at z; exact z⟩; exact hrgc k a (by omega)) hTy hFr hFl158 hW (lv_sub hl [0] rfl)
                    · obtain ⟨rfl, hL_181⟩ := hc_
                      refine lv_if_eq (tgt := 230) hx hb dX6_next_181 (by decide) (fun _ => ?_) (fun h => absurd (by decide) h)
                      have hDT : DT g en ga = gc := DT_s (by omega) (by omega) hrgc (fun z => hL_181 (by rw [ey_20, nI_clamp (by omega)]; exact z.2))
                      have hT1 := tk_num (g := g) (n := en) (p := te) (by omega) (by rw [hSK]; have z := hL_85; rw [ey_5, nI_clamp (by omega)] at z; exact z) (by rw [hSK]; have z := hL_150; rw [ey_16, nI_clamp (by omega)] at z; exact z)
                      rw [hSK, hDT] at hT1
                      exact W.vret hx hb hr (fun t ht h9 => ⟨⟨S_19, rfl, ⟨hTy, hFr, ⟨by rw [hT1.1, hT1.2, hSK]; exact hSlgc, af_i hS_rt, by omega, by rw [hSK]; omega, by rw [hT1.2]; omega⟩⟩, by rw [ht]; exact hW.1, va_K.moved h9.alike hK, hW.2.1⟩, hW.2.2.F ht⟩) hW.2.2.2.2 dX6_next_230
              exact loop ((901 - ga) + 1) ga _ _ _ ls (Nat.lt_succ_self _) hSla (by omega) (by omega) (fun k a b => by omega) hTy hFr Fr.rf hW (lv_sub hl [0] rfl)
            · obtain ⟨rfl, hL_150⟩ := hc_
              refine lv_if_eq (tgt := 197) hx hb dX6_next_150 (by decide) (fun _ => ?_) (fun h => absurd (by decide) h)
              refine lv_aload_n hx hb dX6_next_197 rfl (lv_at hl 0 rfl) ?_
              refine lv_aload_n hx hb dX6_next_198 rfl (lv_at hl 0 rfl) ?_
              refine pl_get (ci := 6) (v := .ref rt) (C := RX6) (T := TX6) (N := 10) hx hb hT iX6 hown hK hW hT_o.1 hSla rfl 4 (by decide) w147 rfl dX6_next_199 ?_
              refine lv_aload_n hx hb dX6_next_202 rfl (lv_at hl 0 rfl) ?_
              refine pl_get (ci := 6) (v := .int (nI ga)) (C := RX6) (T := TX6) (N := 10) hx hb hT iX6 hown hK hW hT_o.1 hSla rfl 8 (by decide) w151 rfl dX6_next_203 ?_
              refine pl_bald hx hb hK hW hT_rt.1 hS_rt (vp_in_nI (n := ga) (N := 900) (by omega) (by omega)) dX6_next_206 ?_
              refine lv_topi (fun y_24 ey_24 => ?_)
              refine lv_bipush (v := 59) hx hb dX6_next_207 (by decide) ?_
              refine lv_icmp_ne (tgt := 216) hx hb dX6_next_209 (by decide) (fun c_209 => ?_) (fun c_209 => ?_)
              · refine lv_iconst (v := 1) hx hb dX6_next_216 (by decide) ?_
                refine pl_put (ci := 6) (v := .int 1) (ty := .int) (C := RX6) (T := TX6) (N := 10) (fs' := [.int fa, .int pl, .ref rn, .ref rb, .ref rt, .int (nI en), .int mt, .int 1, .int (nI ga), .int (nI ga)]) hx hb hT iX6 tyX6 tyX6_ok nmX6 hown hK hW hT_o.1 hSla rfl 7 (by decide) w150 rfl (by decide +kernel) rfl rfl (Nat.le_of_ble_eq_true rfl) rfl dX6_next_217 (fun H locs S_25 e1 hW => ?_)
                have hTy := hTy.u6 e1 hT_o ⟨fa, pl, rn, rb, rt, en, mt, 1, ga, ga, rfl, hT_rn, hT_rb, hT_rt, (by omega), (by omega), (by omega)⟩
                have hS_rt := un e1 hT_rt hT_o (by decide) hS_rt
                have hFr := uf hFr e1 hT_o (by decide) (by decide)
                have hFl8 := uf hFl8 e1 hT_o (by decide) (by decide)
                have hSla := us e1
                refine lv_aload_n hx hb dX6_next_220 rfl (lv_at hl 0 rfl) ?_
                refine lv_dup hx hb dX6_next_221 rfl ?_
                refine pl_get (ci := 6) (v := .int (nI ga)) (C := RX6) (T := TX6) (N := 10) hx hb hT iX6 hown hK hW hT_o.1 hSla rfl 9 (by decide) w152 rfl dX6_next_222 ?_
                refine lv_iconst (v := 1) hx hb dX6_next_225 (by decide) ?_
                refine lv_iadd hx hb dX6_next_226 ?_
                refine lv_topi (fun z_26 ez_26 => ?_)
                obtain rfl : z_26 = nI (ga + 1) := ez_26.trans (nI_add (ga) (1))
                refine pl_put (ci := 6) (v := .int (nI (ga + 1))) (ty := .int) (C := RX6) (T := TX6) (N := 10) (fs' := [.int fa, .int pl, .ref rn, .ref rb, .ref rt, .int (nI en), .int mt, .int 1, .int (nI ga), .int (nI (ga + 1))]) hx hb hT iX6 tyX6 tyX6_ok nmX6 hown hK hW hT_o.1 hSla rfl 9 (by decide) w152 rfl (by decide +kernel) rfl rfl (Nat.le_of_ble_eq_true rfl) rfl dX6_next_227 (fun H locs S_27 e1 hW => ?_)
                have hTy := hTy.u6 e1 hT_o ⟨fa, pl, rn, rb, rt, en, mt, 1, ga, ga + 1, rfl, hT_rn, hT_rb, hT_rt, (by omega), (by omega), (by omega)⟩
                have hS_rt := un e1 hT_rt hT_o (by decide) hS_rt
                have hFr := uf hFr e1 hT_o (by decide) (by decide)
                have hFl8 := uf hFl8 e1 hT_o (by decide) (by decide)
                have hSla := us e1
                have hT1 := tk_sign (g := g) (n := en) (p := te) (by omega) (by rw [hSK]; have z := hL_85; rw [ey_5, nI_clamp (by omega)] at z; exact z) (by rw [hSK]; have z := hL_150; rw [ey_16, nI_clamp (by omega)] at z; exact z)
                have q59 := ey_24
                rw [nI_clamp (by omega)] at q59
                rw [hSK, ← q59, if_neg c_209] at hT1
                exact W.vret hx hb hr (fun t ht h9 => ⟨⟨S_27, rfl, ⟨hTy, hFr, ⟨by rw [hT1.1, hT1.2, hSK]; exact hSla, af_i hS_rt, by omega, by rw [hSK]; omega, by rw [hT1.2]; omega⟩⟩, by rw [ht]; exact hW.1, va_K.moved h9.alike hK, hW.2.1⟩, hW.2.2.F ht⟩) hW.2.2.2.2 dX6_next_230
              · refine lv_iconst (v := 2) hx hb dX6_next_212 (by decide) ?_
                refine lv_goto (tgt := 217) hx hb dX6_next_213 (by decide) ?_
                refine pl_put (ci := 6) (v := .int 2) (ty := .int) (C := RX6) (T := TX6) (N := 10) (fs' := [.int fa, .int pl, .ref rn, .ref rb, .ref rt, .int (nI en), .int mt, .int 2, .int (nI ga), .int (nI ga)]) hx hb hT iX6 tyX6 tyX6_ok nmX6 hown hK hW hT_o.1 hSla rfl 7 (by decide) w150 rfl (by decide +kernel) rfl rfl (Nat.le_of_ble_eq_true rfl) rfl dX6_next_217 (fun H locs S_28 e1 hW => ?_)
                have hTy := hTy.u6 e1 hT_o ⟨fa, pl, rn, rb, rt, en, mt, 2, ga, ga, rfl, hT_rn, hT_rb, hT_rt, (by omega), (by omega), (by omega)⟩
                have hS_rt := un e1 hT_rt hT_o (by decide) hS_rt
                have hFr := uf hFr e1 hT_o (by decide) (by decide)
                have hFl8 := uf hFl8 e1 hT_o (by decide) (by decide)
                have hSla := us e1
                refine lv_aload_n hx hb dX6_next_220 rfl (lv_at hl 0 rfl) ?_
                refine lv_dup hx hb dX6_next_221 rfl ?_
                refine pl_get (ci := 6) (v := .int (nI ga)) (C := RX6) (T := TX6) (N := 10) hx hb hT iX6 hown hK hW hT_o.1 hSla rfl 9 (by decide) w152 rfl dX6_next_222 ?_
                refine lv_iconst (v := 1) hx hb dX6_next_225 (by decide) ?_
                refine lv_iadd hx hb dX6_next_226 ?_
                refine lv_topi (fun z_29 ez_29 => ?_)
                obtain rfl : z_29 = nI (ga + 1) := ez_29.trans (nI_add (ga) (1))
                refine pl_put (ci := 6) (v := .int (nI (ga + 1))) (ty := .int) (C := RX6) (T := TX6) (N := 10) (fs' := [.int fa, .int pl, .ref rn, .ref rb, .ref rt, .int (nI en), .int mt, .int 2, .int (nI ga), .int (nI (ga + 1))]) hx hb hT iX6 tyX6 tyX6_ok nmX6 hown hK hW hT_o.1 hSla rfl 9 (by decide) w152 rfl (by decide +kernel) rfl rfl (Nat.le_of_ble_eq_true rfl) rfl dX6_next_227 (fun H locs S_30 e1 hW => ?_)
                have hTy := hTy.u6 e1 hT_o ⟨fa, pl, rn, rb, rt, en, mt, 2, ga, ga + 1, rfl, hT_rn, hT_rb, hT_rt, (by omega), (by omega), (by omega)⟩
                have hS_rt := un e1 hT_rt hT_o (by decide) hS_rt
                have hFr := uf hFr e1 hT_o (by decide) (by decide)
                have hFl8 := uf hFl8 e1 hT_o (by decide) (by decide)
                have hSla := us e1
                have hT1 := tk_sign (g := g) (n := en) (p := te) (by omega) (by rw [hSK]; have z := hL_85; rw [ey_5, nI_clamp (by omega)] at z; exact z) (by rw [hSK]; have z := hL_150; rw [ey_16, nI_clamp (by omega)] at z; exact z)
                have q59 := ey_24
                rw [nI_clamp (by omega)] at q59
                rw [hSK, ← q59, if_pos c_209] at hT1
                exact W.vret hx hb hr (fun t ht h9 => ⟨⟨S_30, rfl, ⟨hTy, hFr, ⟨by rw [hT1.1, hT1.2, hSK]; exact hSla, af_i hS_rt, by omega, by rw [hSK]; omega, by rw [hT1.2]; omega⟩⟩, by rw [ht]; exact hW.1, va_K.moved h9.alike hK, hW.2.1⟩, hW.2.2.F ht⟩) hW.2.2.2.2 dX6_next_230
        · have c_62 : ¬ (ga < en) := fun hh9 => c_62 ((nI_ltI (a := ga) (b := en) (by omega) (by omega)).mpr hh9)
          refine lv_aload_n hx hb dX6_next_65 rfl (lv_at hl 0 rfl) ?_
          refine lv_iconst (v := 0) hx hb dX6_next_66 (by decide) ?_
          refine pl_put (ci := 6) (v := .int 0) (ty := .int) (C := RX6) (T := TX6) (N := 10) (fs' := [.int fa, .int pl, .ref rn, .ref rb, .ref rt, .int (nI en), .int mt, .int 0, .int (nI ga), .int (nI ga)]) hx hb hT iX6 tyX6 tyX6_ok nmX6 hown hK hW hT_o.1 hSla rfl 7 (by decide) w150 rfl (by decide +kernel) rfl rfl (Nat.le_of_ble_eq_true rfl) rfl dX6_next_67 (fun H locs S_31 e1 hW => ?_)
          have hTy := hTy.u6 e1 hT_o ⟨fa, pl, rn, rb, rt, en, mt, 0, ga, ga, rfl, hT_rn, hT_rb, hT_rt, (by omega), (by omega), (by omega)⟩
          have hS_rt := un e1 hT_rt hT_o (by decide) hS_rt
          have hFr := uf hFr e1 hT_o (by decide) (by decide)
          have hFl8 := uf hFl8 e1 hT_o (by decide) (by decide)
          have hSla := us e1
          refine lv_goto (tgt := 230) hx hb dX6_next_70 (by decide) ?_
          have hT1 := tk_end (g := g) (n := en) (p := te) (by omega)
          exact W.vret hx hb hr (fun t ht h9 => ⟨⟨S_31, rfl, ⟨hTy, hFr, ⟨by rw [hT1.1, hT1.2, hSK]; exact hSla, af_i hS_rt, by omega, by rw [hSK]; omega, by rw [hT1.2]; omega⟩⟩, by rw [ht]; exact hW.1, va_K.moved h9.alike hK, hW.2.1⟩, hW.2.2.F ht⟩) hW.2.2.2.2 dX6_next_230
      · have c_16 : ¬ (en ≤ ga) := fun hh9 => c_16 ((nI_leI (a := en) (b := ga) (by omega) (by omega)).mpr hh9)
        refine lv_aload_n hx hb dX6_next_19 rfl (lv_at hl 0 rfl) ?_
        refine pl_get (ci := 6) (v := .ref rt) (C := RX6) (T := TX6) (N := 10) hx hb hT iX6 hown hK hW hT_o.1 hSla rfl 4 (by decide) w147 rfl dX6_next_20 ?_
        refine lv_aload_n hx hb dX6_next_23 rfl (lv_at hl 0 rfl) ?_
        refine pl_get (ci := 6) (v := .int (nI ga)) (C := RX6) (T := TX6) (N := 10) hx hb hT iX6 hown hK hW hT_o.1 hSla rfl 8 (by decide) w151 rfl dX6_next_24 ?_
        refine pl_bald hx hb hK hW hT_rt.1 hS_rt (vp_in_nI (n := ga) (N := 900) (by omega) (by omega)) dX6_next_27 ?_
        refine lv_topi (fun y_32 ey_32 => ?_)
        refine lv_bipush (v := 32) hx hb dX6_next_28 (by decide) ?_
        refine lv_icmp_ne (tgt := 46) hx hb dX6_next_30 (by decide) (fun c_30 => ?_) (fun c_30 => ?_)
        · have hSK : SK g en te = ga := SK_s (by omega) (by omega) hsk (fun z => c_30 (by rw [ey_32, nI_clamp (by omega)]; exact z.2))
          refine lv_aload_n hx hb dX6_next_46 rfl (lv_at hl 0 rfl) ?_
          refine lv_aload_n hx hb dX6_next_47 rfl (lv_at hl 0 rfl) ?_
          refine pl_get (ci := 6) (v := .int (nI ga)) (C := RX6) (T := TX6) (N := 10) hx hb hT iX6 hown hK hW hT_o.1 hSla rfl 8 (by decide) w151 rfl dX6_next_48 ?_
          refine pl_put (ci := 6) (v := .int (nI ga)) (ty := .int) (C := RX6) (T := TX6) (N := 10) (fs' := [.int fa, .int pl, .ref rn, .ref rb, .ref rt, .int (nI en), .int mt, .int tk, .int (nI ga), .int (nI ga)]) hx hb hT iX6 tyX6 tyX6_ok nmX6 hown hK hW hT_o.1 hSla rfl 9 (by decide) w152 rfl (by decide +kernel) rfl rfl (Nat.le_of_ble_eq_true rfl) rfl dX6_next_51 (fun H locs S_33 e1 hW => ?_)
          have hTy := hTy.u6 e1 hT_o ⟨fa, pl, rn, rb, rt, en, mt, tk, ga, ga, rfl, hT_rn, hT_rb, hT_rt, (by omega), (by omega), (by omega)⟩
          have hS_rt := un e1 hT_rt hT_o (by decide) hS_rt
          have hFr := uf hFr e1 hT_o (by decide) (by decide)
          have hFl8 := uf hFl8 e1 hT_o (by decide) (by decide)
          have hSla := us e1
          refine lv_aload_n hx hb dX6_next_54 rfl (lv_at hl 0 rfl) ?_
          refine pl_get (ci := 6) (v := .int (nI ga)) (C := RX6) (T := TX6) (N := 10) hx hb hT iX6 hown hK hW hT_o.1 hSla rfl 8 (by decide) w151 rfl dX6_next_55 ?_
          refine lv_aload_n hx hb dX6_next_58 rfl (lv_at hl 0 rfl) ?_
          refine pl_get (ci := 6) (v := .int (nI en)) (C := RX6) (T := TX6) (N := 10) hx hb hT iX6 hown hK hW hT_o.1 hSla rfl 5 (by decide) w148 rfl dX6_next_59 ?_
          refine lv_icmp_lt (tgt := 73) hx hb dX6_next_62 (by decide) (fun c_62 => ?_) (fun c_62 => ?_)
          · have c_62 : ga < en := (nI_ltI (a := ga) (b := en) (by omega) (by omega)).mp c_62
            refine lv_aload_n hx hb dX6_next_73 rfl (lv_at hl 0 rfl) ?_
            refine pl_get (ci := 6) (v := .ref rt) (C := RX6) (T := TX6) (N := 10) hx hb hT iX6 hown hK hW hT_o.1 hSla rfl 4 (by decide) w147 rfl dX6_next_74 ?_
            refine lv_aload_n hx hb dX6_next_77 rfl (lv_at hl 0 rfl) ?_
            refine pl_get (ci := 6) (v := .int (nI ga)) (C := RX6) (T := TX6) (N := 10) hx hb hT iX6 hown hK hW hT_o.1 hSla rfl 8 (by decide) w151 rfl dX6_next_78 ?_
            refine pl_bald hx hb hK hW hT_rt.1 hS_rt (vp_in_nI (n := ga) (N := 900) (by omega) (by omega)) dX6_next_81 ?_
            refine lv_topi (fun y_34 ey_34 => ?_)
            refine vp_callSi (va_Run.run (va_runS (As := [.int y_34]) (rest := []) ⟨hx, hb, hml, hown, hT⟩ (q_isLetter l dC dI H.size y_34) (va_cwS 1 hT (gS w424 w425 w3 w426) rfl rfl rfl (by decide +kernel) ⟨(Nat.le_of_ble_eq_true rfl), (Nat.le_of_ble_eq_true rfl)⟩) ⟨pcW.blind, pcW.pre (va_P0 _ _ _) (hK.sub (tys' := []) [] rfl) (va_D0 (fun _ => True))⟩ rfl rfl hl.1 rfl (lv_room (Nat.le_of_ble_eq_true rfl)) dX6_next_82 ⟨(Nat.le_of_ble_eq_true rfl), (Nat.le_of_ble_eq_true rfl)⟩)) (fun r_35 hr_35 => ?_)
            rcases hr_35 with hc_ | hc_
            · obtain ⟨rfl, hL_85⟩ := hc_
              refine lv_if_eq (tgt := 138) hx hb dX6_next_85 (by decide) (fun h => absurd h (by decide)) (fun _ => ?_)
              have loop : ∀ (fuel : Nat) (gb : Nat) (SS : Nat → va_E) (H : Heap) (locs : List Loc) (ls : Array Slot), 901 - gb < fuel → (SS o = .inr (6, [.int fa, .int pl, .ref rn, .ref rb, .ref rt, .int (nI en), .int mt, .int tk, .int (nI ga), .int (nI gb)])) → (gb ≤ en) → (ga ≤ gb) → (∀ k, ga ≤ k → k < gb → k < en ∧ isL (g k) = true) → Ty cy L kap pr SS → Fr kap [6] S SS → Fr kap [6] S_33 SS → PW dC dI L (AL L s.heap.size) s.heap SS H locs → lv_has ls 1 [(0, .ref o)] → W p l e (headSpec (wT yX6_next cX6_next 1 none) { frames := 6, cells := 0, slots := 0, locals := 127 }).room s m [.ref o].toArray below meth c H locs 0 0 (MQ below (va_Qv (fun S' => Ty cy L kap pr S' ∧ Fr kap [6] S S' ∧ (RQ S' o g fa pl rn rb rt en mt (nI (tkc g en te)) (SK g en te) (tke g en te))) (fun S' t => pB dC dI (AL L s.heap.size) (va_pl L S') (cyT cy) t) (AL L s.heap.size)) [.ref o].toArray s 0 0 (AL L s.heap.size)) (F0 m 88 ls []) := by
                intro fuel
                induction fuel with
                | zero => intro gb SS H locs ls h; exact absurd h (Nat.not_lt_zero _)
                | succ fu88 ih88 =>
                  intro gb S_36 H locs ls hm88 hSlgb hxgb hygb hrgb hTy hFr hFl88 hW hl
                  have hS_rt := hFl88.at hT_rt (by decide) hS_rt
                  have hFl8 := hFl8.tr hFl88 (by decide)
                  refine lv_aload_n hx hb dX6_next_88 rfl (lv_at hl 0 rfl) ?_
                  refine pl_get (ci := 6) (v := .int (nI gb)) (C := RX6) (T := TX6) (N := 10) hx hb hT iX6 hown hK hW hT_o.1 hSlgb rfl 9 (by decide) w152 rfl dX6_next_89 ?_
                  refine lv_aload_n hx hb dX6_next_92 rfl (lv_at hl 0 rfl) ?_
                  refine pl_get (ci := 6) (v := .int (nI en)) (C := RX6) (T := TX6) (N := 10) hx hb hT iX6 hown hK hW hT_o.1 hSlgb rfl 5 (by decide) w148 rfl dX6_next_93 ?_
                  refine lv_icmp_ge (tgt := 127) hx hb dX6_next_96 (by decide) (fun c_96 => ?_) (fun c_96 => ?_)
                  · have c_96 : en ≤ gb := (nI_leI (a := en) (b := gb) (by omega) (by omega)).mp c_96
                    have hLT : LT g en ga = gb := LT_s (by omega) (by omega) hrgb (fun z => by omega)
                    refine lv_aload_n hx hb dX6_next_127 rfl (lv_at hl 0 rfl) ?_
                    refine lv_aload_n hx hb dX6_next_128 rfl (lv_at hl 0 rfl) ?_
                    refine vp_callSi (va_Run.run (va_runV (As := []) (rest := [.ref o]) ⟨hx, hb, hml, hown, hT⟩ (q_wordToken l dC dI cy L kap pr ad S_36 H.size o hTy hT_o g fa pl rn rb rt en mt tk ga gb ⟨hSlgb, af_i hS_rt, by omega, by omega, by omega⟩ (by omega)) (cwV 0 hT (gV w427 w429 ws1 w3 w430) rfl rfl rfl (by decide +kernel) ⟨(Nat.le_of_ble_eq_true rfl), (Nat.le_of_ble_eq_true rfl)⟩) ⟨pcS.blind, pl_recv hK hW hT_o.1 hSlgb rfl, pcS.pre hW.1 hK hW.2.1 hN hSTR hW.2.2⟩ rfl rfl hl.1 rfl (lv_room (Nat.le_of_ble_eq_true rfl)) dX6_next_129 ⟨(Nat.le_of_ble_eq_true rfl), (Nat.le_of_ble_eq_true rfl)⟩)) (fun r_37 hr_37 => ?_)
                    have hwt_ : r_37 = nI (WT g ga (gb - ga)) := hr_37
                    refine pl_put (ci := 6) (v := .int r_37) (ty := .int) (C := RX6) (T := TX6) (N := 10) (fs' := [.int fa, .int pl, .ref rn, .ref rb, .ref rt, .int (nI en), .int mt, .int r_37, .int (nI ga), .int (nI gb)]) hx hb hT iX6 tyX6 tyX6_ok nmX6 hown hK hW hT_o.1 hSlgb rfl 7 (by decide) w150 rfl (by decide +kernel) rfl rfl (Nat.le_of_ble_eq_true rfl) rfl dX6_next_132 (fun H locs S_38 e1 hW => ?_)
                    have hTy := hTy.u6 e1 hT_o ⟨fa, pl, rn, rb, rt, en, mt, r_37, ga, gb, rfl, hT_rn, hT_rb, hT_rt, (by omega), (by omega), (by omega)⟩
                    have hS_rt := un e1 hT_rt hT_o (by decide) hS_rt
                    have hFr := uf hFr e1 hT_o (by decide) (by decide)
                    have hFl8 := uf hFl8 e1 hT_o (by decide) (by decide)
                    have hFl88 := uf hFl88 e1 hT_o (by decide) (by decide)
                    have hSlgb := us e1
                    refine lv_goto (tgt := 230) hx hb dX6_next_135 (by decide) ?_
                    have hT1 := NX_L (g := g) (n := en) (p := te) hSK (by omega) (by have z := hL_85; rw [ey_34, nI_clamp (by omega)] at z; exact z)
                    rw [hLT] at hT1
                    exact W.vret hx hb hr (fun t ht h9 => ⟨⟨S_38, rfl, ⟨hTy, hFr, ⟨by rw [hT1.1, hT1.2, hSK, ← hwt_]; exact hSlgb, af_i hS_rt, by omega, by rw [hSK]; omega, by rw [hT1.2]; omega⟩⟩, by rw [ht]; exact hW.1, va_K.moved h9.alike hK, hW.2.1⟩, hW.2.2.F ht⟩) hW.2.2.2.2 dX6_next_230
                  · have c_96 : ¬ (en ≤ gb) := fun hh9 => c_96 ((nI_leI (a := en) (b := gb) (by omega) (by omega)).mpr hh9)
                    refine lv_aload_n hx hb dX6_next_99 rfl (lv_at hl 0 rfl) ?_
                    refine pl_get (ci := 6) (v := .ref rt) (C := RX6) (T := TX6) (N := 10) hx hb hT iX6 hown hK hW hT_o.1 hSlgb rfl 4 (by decide) w147 rfl dX6_next_100 ?_
                    refine lv_aload_n hx hb dX6_next_103 rfl (lv_at hl 0 rfl) ?_
                    refine pl_get (ci := 6) (v := .int (nI gb)) (C := RX6) (T := TX6) (N := 10) hx hb hT iX6 hown hK hW hT_o.1 hSlgb rfl 9 (by decide) w152 rfl dX6_next_104 ?_
                    refine pl_bald hx hb hK hW hT_rt.1 hS_rt (vp_in_nI (n := gb) (N := 900) (by omega) (by omega)) dX6_next_107 ?_
                    refine lv_topi (fun y_39 ey_39 => ?_)
                    refine vp_callSi (va_Run.run (va_runS (As := [.int y_39]) (rest := []) ⟨hx, hb, hml, hown, hT⟩ (q_isLetter l dC dI H.size y_39) (va_cwS 1 hT (gS w424 w425 w3 w426) rfl rfl rfl (by decide +kernel) ⟨(Nat.le_of_ble_eq_true rfl), (Nat.le_of_ble_eq_true rfl)⟩) ⟨pcW.blind, pcW.pre (va_P0 _ _ _) (hK.sub (tys' := []) [] rfl) (va_D0 (fun _ => True))⟩ rfl rfl hl.1 rfl (lv_room (Nat.le_of_ble_eq_true rfl)) dX6_next_108 ⟨(Nat.le_of_ble_eq_true rfl), (Nat.le_of_ble_eq_true rfl)⟩)) (fun r_40 hr_40 => ?_)
                    rcases hr_40 with hc_ | hc_
                    · obtain ⟨rfl, hL_111⟩ := hc_
                      refine lv_if_eq (tgt := 127) hx hb dX6_next_111 (by decide) (fun h => absurd h (by decide)) (fun _ => ?_)
                      refine lv_aload_n hx hb dX6_next_114 rfl (lv_at hl 0 rfl) ?_
                      refine lv_dup hx hb dX6_next_115 rfl ?_
                      refine pl_get (ci := 6) (v := .int (nI gb)) (C := RX6) (T := TX6) (N := 10) hx hb hT iX6 hown hK hW hT_o.1 hSlgb rfl 9 (by decide) w152 rfl dX6_next_116 ?_
                      refine lv_iconst (v := 1) hx hb dX6_next_119 (by decide) ?_
                      refine lv_iadd hx hb dX6_next_120 ?_
                      refine lv_topi (fun z_41 ez_41 => ?_)
                      obtain rfl : z_41 = nI (gb + 1) := ez_41.trans (nI_add (gb) (1))
                      refine pl_put (ci := 6) (v := .int (nI (gb + 1))) (ty := .int) (C := RX6) (T := TX6) (N := 10) (fs' := [.int fa, .int pl, .ref rn, .ref rb, .ref rt, .int (nI en), .int mt, .int tk, .int (nI ga), .int (nI (gb + 1))]) hx hb hT iX6 tyX6 tyX6_ok nmX6 hown hK hW hT_o.1 hSlgb rfl 9 (by decide) w152 rfl (by decide +kernel) rfl rfl (Nat.le_of_ble_eq_true rfl) rfl dX6_next_121 (fun H locs S_42 e1 hW => ?_)
                      have hTy := hTy.u6 e1 hT_o ⟨fa, pl, rn, rb, rt, en, mt, tk, ga, gb + 1, rfl, hT_rn, hT_rb, hT_rt, (by omega), (by omega), (by omega)⟩
                      have hS_rt := un e1 hT_rt hT_o (by decide) hS_rt
                      have hFr := uf hFr e1 hT_o (by decide) (by decide)
                      have hFl8 := uf hFl8 e1 hT_o (by decide) (by decide)
                      have hFl88 := uf hFl88 e1 hT_o (by decide) (by decide)
                      have hSlgb := us e1
                      refine lv_goto (tgt := 88) hx hb dX6_next_124 (by decide) ?_
                      exact ih88 (gb + 1) _ _ _ ls (by omega) hSlgb (by omega) (by omega) (fun k a c9 => by by_cases q : k = gb; rw [q]; exact ⟨by omega, by have z := hL_111; rw [ey_39, nI_clamp (by omega)] at z; exact z⟩; exact hrgb k a (by omega)) hTy hFr hFl88 hW (lv_sub hl [0] rfl)
                    · obtain ⟨rfl, hL_111⟩ := hc_
                      refine lv_if_eq (tgt := 127) hx hb dX6_next_111 (by decide) (fun _ => ?_) (fun h => absurd (by decide) h)
                      have hLT : LT g en ga = gb := LT_s (by omega) (by omega) hrgb (fun z => hL_111 (by rw [ey_39, nI_clamp (by omega)]; exact z.2))
                      refine lv_aload_n hx hb dX6_next_127 rfl (lv_at hl 0 rfl) ?_
                      refine lv_aload_n hx hb dX6_next_128 rfl (lv_at hl 0 rfl) ?_
                      refine vp_callSi (va_Run.run (va_runV (As := []) (rest := [.ref o]) ⟨hx, hb, hml, hown, hT⟩ (q_wordToken l dC dI cy L kap pr ad S_36 H.size o hTy hT_o g fa pl rn rb rt en mt tk ga gb ⟨hSlgb, af_i hS_rt, by omega, by omega, by omega⟩ (by omega)) (cwV 0 hT (gV w427 w429 ws1 w3 w430) rfl rfl rfl (by decide +kernel) ⟨(Nat.le_of_ble_eq_true rfl), (Nat.le_of_ble_eq_true rfl)⟩) ⟨pcS.blind, pl_recv hK hW hT_o.1 hSlgb rfl, pcS.pre hW.1 hK hW.2.1 hN hSTR hW.2.2⟩ rfl rfl hl.1 rfl (lv_room (Nat.le_of_ble_eq_true rfl)) dX6_next_129 ⟨(Nat.le_of_ble_eq_true rfl), (Nat.le_of_ble_eq_true rfl)⟩)) (fun r_43 hr_43 => ?_)
                      have hwt_ : r_43 = nI (WT g ga (gb - ga)) := hr_43
                      refine pl_put (ci := 6) (v := .int r_43) (ty := .int) (C := RX6) (T := TX6) (N := 10) (fs' := [.int fa, .int pl, .ref rn, .ref rb, .ref rt, .int (nI en), .int mt, .int r_43, .int (nI ga), .int (nI gb)]) hx hb hT iX6 tyX6 tyX6_ok nmX6 hown hK hW hT_o.1 hSlgb rfl 7 (by decide) w150 rfl (by decide +kernel) rfl rfl (Nat.le_of_ble_eq_true rfl) rfl dX6_next_132 (fun H locs S_44 e1 hW => ?_)
                      have hTy := hTy.u6 e1 hT_o ⟨fa, pl, rn, rb, rt, en, mt, r_43, ga, gb, rfl, hT_rn, hT_rb, hT_rt, (by omega), (by omega), (by omega)⟩
                      have hS_rt := un e1 hT_rt hT_o (by decide) hS_rt
                      have hFr := uf hFr e1 hT_o (by decide) (by decide)
                      have hFl8 := uf hFl8 e1 hT_o (by decide) (by decide)
                      have hFl88 := uf hFl88 e1 hT_o (by decide) (by decide)
                      have hSlgb := us e1
                      refine lv_goto (tgt := 230) hx hb dX6_next_135 (by decide) ?_
                      have hT1 := NX_L (g := g) (n := en) (p := te) hSK (by omega) (by have z := hL_85; rw [ey_34, nI_clamp (by omega)] at z; exact z)
                      rw [hLT] at hT1
                      exact W.vret hx hb hr (fun t ht h9 => ⟨⟨S_44, rfl, ⟨hTy, hFr, ⟨by rw [hT1.1, hT1.2, hSK, ← hwt_]; exact hSlgb, af_i hS_rt, by omega, by rw [hSK]; omega, by rw [hT1.2]; omega⟩⟩, by rw [ht]; exact hW.1, va_K.moved h9.alike hK, hW.2.1⟩, hW.2.2.F ht⟩) hW.2.2.2.2 dX6_next_230
              exact loop ((901 - ga) + 1) ga _ _ _ ls (Nat.lt_succ_self _) hSla (by omega) (by omega) (fun k a b => by omega) hTy hFr Fr.rf hW (lv_sub hl [0] rfl)
            · obtain ⟨rfl, hL_85⟩ := hc_
              refine lv_if_eq (tgt := 138) hx hb dX6_next_85 (by decide) (fun _ => ?_) (fun h => absurd (by decide) h)
              refine lv_aload_n hx hb dX6_next_138 rfl (lv_at hl 0 rfl) ?_
              refine pl_get (ci := 6) (v := .ref rt) (C := RX6) (T := TX6) (N := 10) hx hb hT iX6 hown hK hW hT_o.1 hSla rfl 4 (by decide) w147 rfl dX6_next_139 ?_
              refine lv_aload_n hx hb dX6_next_142 rfl (lv_at hl 0 rfl) ?_
              refine pl_get (ci := 6) (v := .int (nI ga)) (C := RX6) (T := TX6) (N := 10) hx hb hT iX6 hown hK hW hT_o.1 hSla rfl 8 (by decide) w151 rfl dX6_next_143 ?_
              refine pl_bald hx hb hK hW hT_rt.1 hS_rt (vp_in_nI (n := ga) (N := 900) (by omega) (by omega)) dX6_next_146 ?_
              refine lv_topi (fun y_45 ey_45 => ?_)
              refine vp_callSi (va_Run.run (va_runS (As := [.int y_45]) (rest := []) ⟨hx, hb, hml, hown, hT⟩ (q_isDigit l dC dI H.size y_45) (va_cwS 1 hT (gS w489 w490 w3 w491) rfl rfl rfl (by decide +kernel) ⟨(Nat.le_of_ble_eq_true rfl), (Nat.le_of_ble_eq_true rfl)⟩) ⟨pcW.blind, pcW.pre (va_P0 _ _ _) (hK.sub (tys' := []) [] rfl) (va_D0 (fun _ => True))⟩ rfl rfl hl.1 rfl (lv_room (Nat.le_of_ble_eq_true rfl)) dX6_next_147 ⟨(Nat.le_of_ble_eq_true rfl), (Nat.le_of_ble_eq_true rfl)⟩)) (fun r_46 hr_46 => ?_)
              rcases hr_46 with hc_ | hc_
              · obtain ⟨rfl, hL_150⟩ := hc_
                refine lv_if_eq (tgt := 197) hx hb dX6_next_150 (by decide) (fun h => absurd h (by decide)) (fun _ => ?_)
                refine lv_aload_n hx hb dX6_next_153 rfl (lv_at hl 0 rfl) ?_
                refine lv_iconst (v := 3) hx hb dX6_next_154 (by decide) ?_
                refine pl_put (ci := 6) (v := .int 3) (ty := .int) (C := RX6) (T := TX6) (N := 10) (fs' := [.int fa, .int pl, .ref rn, .ref rb, .ref rt, .int (nI en), .int mt, .int 3, .int (nI ga), .int (nI ga)]) hx hb hT iX6 tyX6 tyX6_ok nmX6 hown hK hW hT_o.1 hSla rfl 7 (by decide) w150 rfl (by decide +kernel) rfl rfl (Nat.le_of_ble_eq_true rfl) rfl dX6_next_155 (fun H locs S_47 e1 hW => ?_)
                have hTy := hTy.u6 e1 hT_o ⟨fa, pl, rn, rb, rt, en, mt, 3, ga, ga, rfl, hT_rn, hT_rb, hT_rt, (by omega), (by omega), (by omega)⟩
                have hS_rt := un e1 hT_rt hT_o (by decide) hS_rt
                have hFr := uf hFr e1 hT_o (by decide) (by decide)
                have hFl8 := uf hFl8 e1 hT_o (by decide) (by decide)
                have hSla := us e1
                have loop : ∀ (fuel : Nat) (gc : Nat) (SS : Nat → va_E) (H : Heap) (locs : List Loc) (ls : Array Slot), 901 - gc < fuel → (SS o = .inr (6, [.int fa, .int pl, .ref rn, .ref rb, .ref rt, .int (nI en), .int mt, .int 3, .int (nI ga), .int (nI gc)])) → (gc ≤ en) → (ga ≤ gc) → (∀ k, ga ≤ k → k < gc → k < en ∧ isD (g k) = true) → Ty cy L kap pr SS → Fr kap [6] S SS → Fr kap [6] S_47 SS → PW dC dI L (AL L s.heap.size) s.heap SS H locs → lv_has ls 1 [(0, .ref o)] → W p l e (headSpec (wT yX6_next cX6_next 1 none) { frames := 6, cells := 0, slots := 0, locals := 127 }).room s m [.ref o].toArray below meth c H locs 0 0 (MQ below (va_Qv (fun S' => Ty cy L kap pr S' ∧ Fr kap [6] S S' ∧ (RQ S' o g fa pl rn rb rt en mt (nI (tkc g en te)) (SK g en te) (tke g en te))) (fun S' t => pB dC dI (AL L s.heap.size) (va_pl L S') (cyT cy) t) (AL L s.heap.size)) [.ref o].toArray s 0 0 (AL L s.heap.size)) (F0 m 158 ls []) := by
                  intro fuel
                  induction fuel with
                  | zero => intro gc SS H locs ls h; exact absurd h (Nat.not_lt_zero _)
                  | succ fu158 ih158 =>
                    intro gc S_48 H locs ls hm158 hSlgc hxgc hygc hrgc hTy hFr hFl158 hW hl
                    have hS_rt := hFl158.at hT_rt (by decide) hS_rt
                    have hFl8 := hFl8.tr hFl158 (by decide)
                    refine lv_aload_n hx hb dX6_next_158 rfl (lv_at hl 0 rfl) ?_
                    refine pl_get (ci := 6) (v := .int (nI gc)) (C := RX6) (T := TX6) (N := 10) hx hb hT iX6 hown hK hW hT_o.1 hSlgc rfl 9 (by decide) w152 rfl dX6_next_159 ?_
                    refine lv_aload_n hx hb dX6_next_162 rfl (lv_at hl 0 rfl) ?_
                    refine pl_get (ci := 6) (v := .int (nI en)) (C := RX6) (T := TX6) (N := 10) hx hb hT iX6 hown hK hW hT_o.1 hSlgc rfl 5 (by decide) w148 rfl dX6_next_163 ?_
                    refine lv_icmp_ge (tgt := 230) hx hb dX6_next_166 (by decide) (fun c_166 => ?_) (fun c_166 => ?_)
                    · have c_166 : en ≤ gc := (nI_leI (a := en) (b := gc) (by omega) (by omega)).mp c_166
                      have hDT : DT g en ga = gc := DT_s (by omega) (by omega) hrgc (fun z => by omega)
                      have hT1 := tk_num (g := g) (n := en) (p := te) (by omega) (by rw [hSK]; have z := hL_85; rw [ey_34, nI_clamp (by omega)] at z; exact z) (by rw [hSK]; have z := hL_150; rw [ey_45, nI_clamp (by omega)] at z; exact z)
                      rw [hSK, hDT] at hT1
                      exact W.vret hx hb hr (fun t ht h9 => ⟨⟨S_48, rfl, ⟨hTy, hFr, ⟨by rw [hT1.1, hT1.2, hSK]; exact hSlgc, af_i hS_rt, by omega, by rw [hSK]; omega, by rw [hT1.2]; omega⟩⟩, by rw [ht]; exact hW.1, va_K.moved h9.alike hK, hW.2.1⟩, hW.2.2.F ht⟩) hW.2.2.2.2 dX6_next_230
                    · have c_166 : ¬ (en ≤ gc) := fun hh9 => c_166 ((nI_leI (a := en) (b := gc) (by omega) (by omega)).mpr hh9)
                      refine lv_aload_n hx hb dX6_next_169 rfl (lv_at hl 0 rfl) ?_
                      refine pl_get (ci := 6) (v := .ref rt) (C := RX6) (T := TX6) (N := 10) hx hb hT iX6 hown hK hW hT_o.1 hSlgc rfl 4 (by decide) w147 rfl dX6_next_170 ?_
                      refine lv_aload_n hx hb dX6_next_173 rfl (lv_at hl 0 rfl) ?_
                      refine pl_get (ci := 6) (v := .int (nI gc)) (C := RX6) (T := TX6) (N := 10) hx hb hT iX6 hown hK hW hT_o.1 hSlgc rfl 9 (by decide) w152 rfl dX6_next_174 ?_
                      refine pl_bald hx hb hK hW hT_rt.1 hS_rt (vp_in_nI (n := gc) (N := 900) (by omega) (by omega)) dX6_next_177 ?_
                      refine lv_topi (fun y_49 ey_49 => ?_)
                      refine vp_callSi (va_Run.run (va_runS (As := [.int y_49]) (rest := []) ⟨hx, hb, hml, hown, hT⟩ (q_isDigit l dC dI H.size y_49) (va_cwS 1 hT (gS w489 w490 w3 w491) rfl rfl rfl (by decide +kernel) ⟨(Nat.le_of_ble_eq_true rfl), (Nat.le_of_ble_eq_true rfl)⟩) ⟨pcW.blind, pcW.pre (va_P0 _ _ _) (hK.sub (tys' := []) [] rfl) (va_D0 (fun _ => True))⟩ rfl rfl hl.1 rfl (lv_room (Nat.le_of_ble_eq_true rfl)) dX6_next_178 ⟨(Nat.le_of_ble_eq_true rfl), (Nat.le_of_ble_eq_true rfl)⟩)) (fun r_50 hr_50 => ?_)
                      rcases hr_50 with hc_ | hc_
                      · obtain ⟨rfl, hL_181⟩ := hc_
                        refine lv_if_eq (tgt := 230) hx hb dX6_next_181 (by decide) (fun h => absurd h (by decide)) (fun _ => ?_)
                        refine lv_aload_n hx hb dX6_next_184 rfl (lv_at hl 0 rfl) ?_
                        refine lv_dup hx hb dX6_next_185 rfl ?_
                        refine pl_get (ci := 6) (v := .int (nI gc)) (C := RX6) (T := TX6) (N := 10) hx hb hT iX6 hown hK hW hT_o.1 hSlgc rfl 9 (by decide) w152 rfl dX6_next_186 ?_
                        refine lv_iconst (v := 1) hx hb dX6_next_189 (by decide) ?_
                        refine lv_iadd hx hb dX6_next_190 ?_
                        refine lv_topi (fun z_51 ez_51 => ?_)
                        obtain rfl : z_51 = nI (gc + 1) := ez_51.trans (nI_add (gc) (1))
                        refine pl_put (ci := 6) (v := .int (nI (gc + 1))) (ty := .int) (C := RX6) (T := TX6) (N := 10) (fs' := [.int fa, .int pl, .ref rn, .ref rb, .ref rt, .int (nI en), .int mt, .int 3, .int (nI ga), .int (nI (gc + 1))]) hx hb hT iX6 tyX6 tyX6_ok nmX6 hown hK hW hT_o.1 hSlgc rfl 9 (by decide) w152 rfl (by decide +kernel) rfl rfl (Nat.le_of_ble_eq_true rfl) rfl dX6_next_191 (fun H locs S_52 e1 hW => ?_)
                        have hTy := hTy.u6 e1 hT_o ⟨fa, pl, rn, rb, rt, en, mt, 3, ga, gc + 1, rfl, hT_rn, hT_rb, hT_rt, (by omega), (by omega), (by omega)⟩
                        have hS_rt := un e1 hT_rt hT_o (by decide) hS_rt
                        have hFr := uf hFr e1 hT_o (by decide) (by decide)
                        have hFl8 := uf hFl8 e1 hT_o (by decide) (by decide)
                        have hFl158 := uf hFl158 e1 hT_o (by decide) (by decide)
                        have hSlgc := us e1
                        refine lv_goto (tgt := 158) hx hb dX6_next_194 (by decide) ?_
                        exact ih158 (gc + 1) _ _ _ ls (by omega) hSlgc (by omega) (by omega) (fun k a c9 => by by_cases q : k = gc; rw [q]; exact ⟨by omega, by have z := hL_181; rw [ey_49, nI_clamp (by omega)] at z; exact z⟩; exact hrgc k a (by omega)) hTy hFr hFl158 hW (lv_sub hl [0] rfl)
                      · obtain ⟨rfl, hL_181⟩ := hc_
                        refine lv_if_eq (tgt := 230) hx hb dX6_next_181 (by decide) (fun _ => ?_) (fun h => absurd (by decide) h)
                        have hDT : DT g en ga = gc := DT_s (by omega) (by omega) hrgc (fun z => hL_181 (by rw [ey_49, nI_clamp (by omega)]; exact z.2))
                        have hT1 := tk_num (g := g) (n := en) (p := te) (by omega) (by rw [hSK]; have z := hL_85; rw [ey_34, nI_clamp (by omega)] at z; exact z) (by rw [hSK]; have z := hL_150; rw [ey_45, nI_clamp (by omega)] at z; exact z)
                        rw [hSK, hDT] at hT1
                        exact W.vret hx hb hr (fun t ht h9 => ⟨⟨S_48, rfl, ⟨hTy, hFr, ⟨by rw [hT1.1, hT1.2, hSK]; exact hSlgc, af_i hS_rt, by omega, by rw [hSK]; omega, by rw [hT1.2]; omega⟩⟩, by rw [ht]; exact hW.1, va_K.moved h9.alike hK, hW.2.1⟩, hW.2.2.F ht⟩) hW.2.2.2.2 dX6_next_230
                exact loop ((901 - ga) + 1) ga _ _ _ ls (Nat.lt_succ_self _) hSla (by omega) (by omega) (fun k a b => by omega) hTy hFr Fr.rf hW (lv_sub hl [0] rfl)
              · obtain ⟨rfl, hL_150⟩ := hc_
                refine lv_if_eq (tgt := 197) hx hb dX6_next_150 (by decide) (fun _ => ?_) (fun h => absurd (by decide) h)
                refine lv_aload_n hx hb dX6_next_197 rfl (lv_at hl 0 rfl) ?_
                refine lv_aload_n hx hb dX6_next_198 rfl (lv_at hl 0 rfl) ?_
                refine pl_get (ci := 6) (v := .ref rt) (C := RX6) (T := TX6) (N := 10) hx hb hT iX6 hown hK hW hT_o.1 hSla rfl 4 (by decide) w147 rfl dX6_next_199 ?_
                refine lv_aload_n hx hb dX6_next_202 rfl (lv_at hl 0 rfl) ?_
                refine pl_get (ci := 6) (v := .int (nI ga)) (C := RX6) (T := TX6) (N := 10) hx hb hT iX6 hown hK hW hT_o.1 hSla rfl 8 (by decide) w151 rfl dX6_next_203 ?_
                refine pl_bald hx hb hK hW hT_rt.1 hS_rt (vp_in_nI (n := ga) (N := 900) (by omega) (by omega)) dX6_next_206 ?_
                refine lv_topi (fun y_53 ey_53 => ?_)
                refine lv_bipush (v := 59) hx hb dX6_next_207 (by decide) ?_
                refine lv_icmp_ne (tgt := 216) hx hb dX6_next_209 (by decide) (fun c_209 => ?_) (fun c_209 => ?_)
                · refine lv_iconst (v := 1) hx hb dX6_next_216 (by decide) ?_
                  refine pl_put (ci := 6) (v := .int 1) (ty := .int) (C := RX6) (T := TX6) (N := 10) (fs' := [.int fa, .int pl, .ref rn, .ref rb, .ref rt, .int (nI en), .int mt, .int 1, .int (nI ga), .int (nI ga)]) hx hb hT iX6 tyX6 tyX6_ok nmX6 hown hK hW hT_o.1 hSla rfl 7 (by decide) w150 rfl (by decide +kernel) rfl rfl (Nat.le_of_ble_eq_true rfl) rfl dX6_next_217 (fun H locs S_54 e1 hW => ?_)
                  have hTy := hTy.u6 e1 hT_o ⟨fa, pl, rn, rb, rt, en, mt, 1, ga, ga, rfl, hT_rn, hT_rb, hT_rt, (by omega), (by omega), (by omega)⟩
                  have hS_rt := un e1 hT_rt hT_o (by decide) hS_rt
                  have hFr := uf hFr e1 hT_o (by decide) (by decide)
                  have hFl8 := uf hFl8 e1 hT_o (by decide) (by decide)
                  have hSla := us e1
                  refine lv_aload_n hx hb dX6_next_220 rfl (lv_at hl 0 rfl) ?_
                  refine lv_dup hx hb dX6_next_221 rfl ?_
                  refine pl_get (ci := 6) (v := .int (nI ga)) (C := RX6) (T := TX6) (N := 10) hx hb hT iX6 hown hK hW hT_o.1 hSla rfl 9 (by decide) w152 rfl dX6_next_222 ?_
                  refine lv_iconst (v := 1) hx hb dX6_next_225 (by decide) ?_
                  refine lv_iadd hx hb dX6_next_226 ?_
                  refine lv_topi (fun z_55 ez_55 => ?_)
                  obtain rfl : z_55 = nI (ga + 1) := ez_55.trans (nI_add (ga) (1))
                  refine pl_put (ci := 6) (v := .int (nI (ga + 1))) (ty := .int) (C := RX6) (T := TX6) (N := 10) (fs' := [.int fa, .int pl, .ref rn, .ref rb, .ref rt, .int (nI en), .int mt, .int 1, .int (nI ga), .int (nI (ga + 1))]) hx hb hT iX6 tyX6 tyX6_ok nmX6 hown hK hW hT_o.1 hSla rfl 9 (by decide) w152 rfl (by decide +kernel) rfl rfl (Nat.le_of_ble_eq_true rfl) rfl dX6_next_227 (fun H locs S_56 e1 hW => ?_)
                  have hTy := hTy.u6 e1 hT_o ⟨fa, pl, rn, rb, rt, en, mt, 1, ga, ga + 1, rfl, hT_rn, hT_rb, hT_rt, (by omega), (by omega), (by omega)⟩
                  have hS_rt := un e1 hT_rt hT_o (by decide) hS_rt
                  have hFr := uf hFr e1 hT_o (by decide) (by decide)
                  have hFl8 := uf hFl8 e1 hT_o (by decide) (by decide)
                  have hSla := us e1
                  have hT1 := tk_sign (g := g) (n := en) (p := te) (by omega) (by rw [hSK]; have z := hL_85; rw [ey_34, nI_clamp (by omega)] at z; exact z) (by rw [hSK]; have z := hL_150; rw [ey_45, nI_clamp (by omega)] at z; exact z)
                  have q59 := ey_53
                  rw [nI_clamp (by omega)] at q59
                  rw [hSK, ← q59, if_neg c_209] at hT1
                  exact W.vret hx hb hr (fun t ht h9 => ⟨⟨S_56, rfl, ⟨hTy, hFr, ⟨by rw [hT1.1, hT1.2, hSK]; exact hSla, af_i hS_rt, by omega, by rw [hSK]; omega, by rw [hT1.2]; omega⟩⟩, by rw [ht]; exact hW.1, va_K.moved h9.alike hK, hW.2.1⟩, hW.2.2.F ht⟩) hW.2.2.2.2 dX6_next_230
                · refine lv_iconst (v := 2) hx hb dX6_next_212 (by decide) ?_
                  refine lv_goto (tgt := 217) hx hb dX6_next_213 (by decide) ?_
                  refine pl_put (ci := 6) (v := .int 2) (ty := .int) (C := RX6) (T := TX6) (N := 10) (fs' := [.int fa, .int pl, .ref rn, .ref rb, .ref rt, .int (nI en), .int mt, .int 2, .int (nI ga), .int (nI ga)]) hx hb hT iX6 tyX6 tyX6_ok nmX6 hown hK hW hT_o.1 hSla rfl 7 (by decide) w150 rfl (by decide +kernel) rfl rfl (Nat.le_of_ble_eq_true rfl) rfl dX6_next_217 (fun H locs S_57 e1 hW => ?_)
                  have hTy := hTy.u6 e1 hT_o ⟨fa, pl, rn, rb, rt, en, mt, 2, ga, ga, rfl, hT_rn, hT_rb, hT_rt, (by omega), (by omega), (by omega)⟩
                  have hS_rt := un e1 hT_rt hT_o (by decide) hS_rt
                  have hFr := uf hFr e1 hT_o (by decide) (by decide)
                  have hFl8 := uf hFl8 e1 hT_o (by decide) (by decide)
                  have hSla := us e1
                  refine lv_aload_n hx hb dX6_next_220 rfl (lv_at hl 0 rfl) ?_
                  refine lv_dup hx hb dX6_next_221 rfl ?_
                  refine pl_get (ci := 6) (v := .int (nI ga)) (C := RX6) (T := TX6) (N := 10) hx hb hT iX6 hown hK hW hT_o.1 hSla rfl 9 (by decide) w152 rfl dX6_next_222 ?_
                  refine lv_iconst (v := 1) hx hb dX6_next_225 (by decide) ?_
                  refine lv_iadd hx hb dX6_next_226 ?_
                  refine lv_topi (fun z_58 ez_58 => ?_)
                  obtain rfl : z_58 = nI (ga + 1) := ez_58.trans (nI_add (ga) (1))
                  refine pl_put (ci := 6) (v := .int (nI (ga + 1))) (ty := .int) (C := RX6) (T := TX6) (N := 10) (fs' := [.int fa, .int pl, .ref rn, .ref rb, .ref rt, .int (nI en), .int mt, .int 2, .int (nI ga), .int (nI (ga + 1))]) hx hb hT iX6 tyX6 tyX6_ok nmX6 hown hK hW hT_o.1 hSla rfl 9 (by decide) w152 rfl (by decide +kernel) rfl rfl (Nat.le_of_ble_eq_true rfl) rfl dX6_next_227 (fun H locs S_59 e1 hW => ?_)
                  have hTy := hTy.u6 e1 hT_o ⟨fa, pl, rn, rb, rt, en, mt, 2, ga, ga + 1, rfl, hT_rn, hT_rb, hT_rt, (by omega), (by omega), (by omega)⟩
                  have hS_rt := un e1 hT_rt hT_o (by decide) hS_rt
                  have hFr := uf hFr e1 hT_o (by decide) (by decide)
                  have hFl8 := uf hFl8 e1 hT_o (by decide) (by decide)
                  have hSla := us e1
                  have hT1 := tk_sign (g := g) (n := en) (p := te) (by omega) (by rw [hSK]; have z := hL_85; rw [ey_34, nI_clamp (by omega)] at z; exact z) (by rw [hSK]; have z := hL_150; rw [ey_45, nI_clamp (by omega)] at z; exact z)
                  have q59 := ey_53
                  rw [nI_clamp (by omega)] at q59
                  rw [hSK, ← q59, if_pos c_209] at hT1
                  exact W.vret hx hb hr (fun t ht h9 => ⟨⟨S_59, rfl, ⟨hTy, hFr, ⟨by rw [hT1.1, hT1.2, hSK]; exact hSla, af_i hS_rt, by omega, by rw [hSK]; omega, by rw [hT1.2]; omega⟩⟩, by rw [ht]; exact hW.1, va_K.moved h9.alike hK, hW.2.1⟩, hW.2.2.F ht⟩) hW.2.2.2.2 dX6_next_230
          · have c_62 : ¬ (ga < en) := fun hh9 => c_62 ((nI_ltI (a := ga) (b := en) (by omega) (by omega)).mpr hh9)
            refine lv_aload_n hx hb dX6_next_65 rfl (lv_at hl 0 rfl) ?_
            refine lv_iconst (v := 0) hx hb dX6_next_66 (by decide) ?_
            refine pl_put (ci := 6) (v := .int 0) (ty := .int) (C := RX6) (T := TX6) (N := 10) (fs' := [.int fa, .int pl, .ref rn, .ref rb, .ref rt, .int (nI en), .int mt, .int 0, .int (nI ga), .int (nI ga)]) hx hb hT iX6 tyX6 tyX6_ok nmX6 hown hK hW hT_o.1 hSla rfl 7 (by decide) w150 rfl (by decide +kernel) rfl rfl (Nat.le_of_ble_eq_true rfl) rfl dX6_next_67 (fun H locs S_60 e1 hW => ?_)
            have hTy := hTy.u6 e1 hT_o ⟨fa, pl, rn, rb, rt, en, mt, 0, ga, ga, rfl, hT_rn, hT_rb, hT_rt, (by omega), (by omega), (by omega)⟩
            have hS_rt := un e1 hT_rt hT_o (by decide) hS_rt
            have hFr := uf hFr e1 hT_o (by decide) (by decide)
            have hFl8 := uf hFl8 e1 hT_o (by decide) (by decide)
            have hSla := us e1
            refine lv_goto (tgt := 230) hx hb dX6_next_70 (by decide) ?_
            have hT1 := tk_end (g := g) (n := en) (p := te) (by omega)
            exact W.vret hx hb hr (fun t ht h9 => ⟨⟨S_60, rfl, ⟨hTy, hFr, ⟨by rw [hT1.1, hT1.2, hSK]; exact hSla, af_i hS_rt, by omega, by rw [hSK]; omega, by rw [hT1.2]; omega⟩⟩, by rw [ht]; exact hW.1, va_K.moved h9.alike hK, hW.2.1⟩, hW.2.2.F ht⟩) hW.2.2.2.2 dX6_next_230
        · refine lv_aload_n hx hb dX6_next_33 rfl (lv_at hl 0 rfl) ?_
          refine lv_dup hx hb dX6_next_34 rfl ?_
          refine pl_get (ci := 6) (v := .int (nI ga)) (C := RX6) (T := TX6) (N := 10) hx hb hT iX6 hown hK hW hT_o.1 hSla rfl 8 (by decide) w151 rfl dX6_next_35 ?_
          refine lv_iconst (v := 1) hx hb dX6_next_38 (by decide) ?_
          refine lv_iadd hx hb dX6_next_39 ?_
          refine lv_topi (fun z_61 ez_61 => ?_)
          obtain rfl : z_61 = nI (ga + 1) := ez_61.trans (nI_add (ga) (1))
          refine pl_put (ci := 6) (v := .int (nI (ga + 1))) (ty := .int) (C := RX6) (T := TX6) (N := 10) (fs' := [.int fa, .int pl, .ref rn, .ref rb, .ref rt, .int (nI en), .int mt, .int tk, .int (nI (ga + 1)), .int (nI te)]) hx hb hT iX6 tyX6 tyX6_ok nmX6 hown hK hW hT_o.1 hSla rfl 8 (by decide) w151 rfl (by decide +kernel) rfl rfl (Nat.le_of_ble_eq_true rfl) rfl dX6_next_40 (fun H locs S_62 e1 hW => ?_)
          have hTy := hTy.u6 e1 hT_o ⟨fa, pl, rn, rb, rt, en, mt, tk, ga + 1, te, rfl, hT_rn, hT_rb, hT_rt, (by omega), (by omega), (by omega)⟩
          have hS_rt := un e1 hT_rt hT_o (by decide) hS_rt
          have hFr := uf hFr e1 hT_o (by decide) (by decide)
          have hFl8 := uf hFl8 e1 hT_o (by decide) (by decide)
          have hSla := us e1
          refine lv_goto (tgt := 8) hx hb dX6_next_43 (by decide) ?_
          exact ih8 (ga + 1) _ _ _ ls (by omega) hSla (by omega) (by omega) (sk_up hsk (by omega) (by omega) ey_32 c_30) hTy hFr hFl8 hW (lv_sub hl [0] rfl)
  exact loop ((901 - te) + 1) te _ _ _ ls (Nat.lt_succ_self _) hS_o (by omega) (by omega) (fun k a b => by omega) hTy hFr Fr.rf hW (lv_sub hl [0] rfl)

