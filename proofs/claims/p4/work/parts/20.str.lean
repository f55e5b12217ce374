theorem w16 : (.initialized RJ0 : Cond) ∈ TB := mTB (List.mem_of_getElem? (i := 16) (by decide +kernel)) (by decide +kernel)
theorem w17 : (.initialized RJ1 : Cond) ∈ TB := mTB (List.mem_of_getElem? (i := 17) (by decide +kernel)) (by decide +kernel)
theorem w18 : (.initialized RJ3 : Cond) ∈ TB := mTB (List.mem_of_getElem? (i := 18) (by decide +kernel)) (by decide +kernel)
theorem w440 : (.methodLink RJ0 335 yJ0_coder_7d493 : Cond) ∈ TB := mTB (List.mem_of_getElem? (i := 440) (by decide +kernel)) (by decide +kernel)
theorem w441 : (.instanceMethod yJ0_coder_7d493 : Cond) ∈ TB := mTB (List.mem_of_getElem? (i := 441) (by decide +kernel)) (by decide +kernel)
theorem w442 : (.selects RJ0 yJ0_coder_7d493 yJ0_coder_7d493 : Cond) ∈ TB := mTB (List.mem_of_getElem? (i := 442) (by decide +kernel)) (by decide +kernel)
theorem w443 : (.code yJ0_coder_7d493 cJ0_coder_7d493 1 (some .byte) : Cond) ∈ TB := mTB (List.mem_of_getElem? (i := 443) (by decide +kernel)) (by decide +kernel)
theorem w444 : (.fieldLink RJ0 38 "java/lang/String" "COMPACT_STRINGS" "Z" : Cond) ∈ TB := mTB (List.mem_of_getElem? (i := 444) (by decide +kernel)) (by decide +kernel)
theorem w450 : (.methodLink RJ0 492 yJ0_isLatin1_aae02 : Cond) ∈ TB := mTB (List.mem_of_getElem? (i := 450) (by decide +kernel)) (by decide +kernel)
theorem w451 : (.instanceMethod yJ0_isLatin1_aae02 : Cond) ∈ TB := mTB (List.mem_of_getElem? (i := 451) (by decide +kernel)) (by decide +kernel)
theorem w452 : (.selects RJ0 yJ0_isLatin1_aae02 yJ0_isLatin1_aae02 : Cond) ∈ TB := mTB (List.mem_of_getElem? (i := 452) (by decide +kernel)) (by decide +kernel)
theorem w453 : (.code yJ0_isLatin1_aae02 cJ0_isLatin1_aae02 1 (some .boolean) : Cond) ∈ TB := mTB (List.mem_of_getElem? (i := 453) (by decide +kernel)) (by decide +kernel)
theorem w454 : (.methodLink RJ0 495 yJ1_charAt_3b067 : Cond) ∈ TB := mTB (List.mem_of_getElem? (i := 454) (by decide +kernel)) (by decide +kernel)
theorem w455 : (.static yJ1_charAt_3b067 : Cond) ∈ TB := mTB (List.mem_of_getElem? (i := 455) (by decide +kernel)) (by decide +kernel)
theorem w456 : (.code yJ1_charAt_3b067 cJ1_charAt_3b067 2 (some .char) : Cond) ∈ TB := mTB (List.mem_of_getElem? (i := 456) (by decide +kernel)) (by decide +kernel)
theorem w457 : (.methodLink RJ1 9 yJ0_checkIndex_df160 : Cond) ∈ TB := mTB (List.mem_of_getElem? (i := 457) (by decide +kernel)) (by decide +kernel)
theorem w458 : (.static yJ0_checkIndex_df160 : Cond) ∈ TB := mTB (List.mem_of_getElem? (i := 458) (by decide +kernel)) (by decide +kernel)
theorem w459 : (.code yJ0_checkIndex_df160 cJ0_checkIndex_df160 2 none : Cond) ∈ TB := mTB (List.mem_of_getElem? (i := 459) (by decide +kernel)) (by decide +kernel)
theorem w460 : (.fieldLink RJ0 1053 "jdk/internal/util/Preconditions" "SIOOBE_FORMATTER" "Ljava/util/function/BiFunction;" : Cond) ∈ TB := mTB (List.mem_of_getElem? (i := 460) (by decide +kernel)) (by decide +kernel)
theorem w462 : (.methodLink RJ0 1059 yJ3_checkIndex_8e157 : Cond) ∈ TB := mTB (List.mem_of_getElem? (i := 462) (by decide +kernel)) (by decide +kernel)
theorem w463 : (.static yJ3_checkIndex_8e157 : Cond) ∈ TB := mTB (List.mem_of_getElem? (i := 463) (by decide +kernel)) (by decide +kernel)
theorem w464 : (.code yJ3_checkIndex_8e157 cJ3_checkIndex_8e157 3 (some .int) : Cond) ∈ TB := mTB (List.mem_of_getElem? (i := 464) (by decide +kernel)) (by decide +kernel)
theorem w1588 : (.fieldLink RJ0 9 "java/lang/String" "value" "[B" : Cond) ∈ TB := mTB (List.mem_of_getElem? (i := 1588) (by decide +kernel)) (by decide +kernel)
theorem w1589 : (.fieldLink RJ0 15 "java/lang/String" "coder" "B" : Cond) ∈ TB := mTB (List.mem_of_getElem? (i := 1589) (by decide +kernel)) (by decide +kernel)
theorem dJ0_charAt_5068e_0 : decode cJ0_charAt_5068e 0 = .ok (.aload_n 0, 1) := by decide +kernel
theorem dJ0_charAt_5068e_1 : decode cJ0_charAt_5068e 1 = .ok (.invokevirtual 492, 3) := by decide +kernel
theorem dJ0_charAt_5068e_4 : decode cJ0_charAt_5068e 4 = .ok (.ifCond .eq 12, 3) := by decide +kernel
theorem dJ0_charAt_5068e_7 : decode cJ0_charAt_5068e 7 = .ok (.aload_n 0, 1) := by decide +kernel
theorem dJ0_charAt_5068e_8 : decode cJ0_charAt_5068e 8 = .ok (.getfield 9, 3) := by decide +kernel
theorem dJ0_charAt_5068e_11 : decode cJ0_charAt_5068e 11 = .ok (.iload_n 1, 1) := by decide +kernel
theorem dJ0_charAt_5068e_12 : decode cJ0_charAt_5068e 12 = .ok (.invokestatic 495, 3) := by decide +kernel
theorem dJ0_charAt_5068e_15 : decode cJ0_charAt_5068e 15 = .ok (.ireturn, 1) := by decide +kernel
theorem dJ0_checkIndex_df160_0 : decode cJ0_checkIndex_df160 0 = .ok (.iload_n 0, 1) := by decide +kernel
theorem dJ0_checkIndex_df160_1 : decode cJ0_checkIndex_df160 1 = .ok (.iload_n 1, 1) := by decide +kernel
theorem dJ0_checkIndex_df160_2 : decode cJ0_checkIndex_df160 2 = .ok (.getstatic 1053, 3) := by decide +kernel
theorem dJ0_checkIndex_df160_5 : decode cJ0_checkIndex_df160 5 = .ok (.invokestatic 1059, 3) := by decide +kernel
theorem dJ0_checkIndex_df160_8 : decode cJ0_checkIndex_df160 8 = .ok (.pop, 1) := by decide +kernel
theorem dJ0_checkIndex_df160_9 : decode cJ0_checkIndex_df160 9 = .ok (.return_, 1) := by decide +kernel
theorem dJ0_coder_7d493_0 : decode cJ0_coder_7d493 0 = .ok (.getstatic 38, 3) := by decide +kernel
theorem dJ0_coder_7d493_3 : decode cJ0_coder_7d493 3 = .ok (.ifCond .eq 10, 3) := by decide +kernel
theorem dJ0_coder_7d493_6 : decode cJ0_coder_7d493 6 = .ok (.aload_n 0, 1) := by decide +kernel
theorem dJ0_coder_7d493_7 : decode cJ0_coder_7d493 7 = .ok (.getfield 15, 3) := by decide +kernel
theorem dJ0_coder_7d493_10 : decode cJ0_coder_7d493 10 = .ok (.goto 4, 3) := by decide +kernel
theorem dJ0_coder_7d493_14 : decode cJ0_coder_7d493 14 = .ok (.ireturn, 1) := by decide +kernel
theorem dJ0_isLatin1_aae02_0 : decode cJ0_isLatin1_aae02 0 = .ok (.getstatic 38, 3) := by decide +kernel
theorem dJ0_isLatin1_aae02_3 : decode cJ0_isLatin1_aae02 3 = .ok (.ifCond .eq 14, 3) := by decide +kernel
theorem dJ0_isLatin1_aae02_6 : decode cJ0_isLatin1_aae02 6 = .ok (.aload_n 0, 1) := by decide +kernel
theorem dJ0_isLatin1_aae02_7 : decode cJ0_isLatin1_aae02 7 = .ok (.getfield 15, 3) := by decide +kernel
theorem dJ0_isLatin1_aae02_10 : decode cJ0_isLatin1_aae02 10 = .ok (.ifCond .ne 7, 3) := by decide +kernel
theorem dJ0_isLatin1_aae02_13 : decode cJ0_isLatin1_aae02 13 = .ok (.iconst 1, 1) := by decide +kernel
theorem dJ0_isLatin1_aae02_14 : decode cJ0_isLatin1_aae02 14 = .ok (.goto 4, 3) := by decide +kernel
theorem dJ0_isLatin1_aae02_18 : decode cJ0_isLatin1_aae02 18 = .ok (.ireturn, 1) := by decide +kernel
theorem dJ0_length_8abf5_0 : decode cJ0_length_8abf5 0 = .ok (.aload_n 0, 1) := by decide +kernel
theorem dJ0_length_8abf5_1 : decode cJ0_length_8abf5 1 = .ok (.getfield 9, 3) := by decide +kernel
theorem dJ0_length_8abf5_4 : decode cJ0_length_8abf5 4 = .ok (.arraylength, 1) := by decide +kernel
theorem dJ0_length_8abf5_5 : decode cJ0_length_8abf5 5 = .ok (.aload_n 0, 1) := by decide +kernel
theorem dJ0_length_8abf5_6 : decode cJ0_length_8abf5 6 = .ok (.invokevirtual 335, 3) := by decide +kernel
theorem dJ0_length_8abf5_9 : decode cJ0_length_8abf5 9 = .ok (.ishr, 1) := by decide +kernel
theorem dJ0_length_8abf5_10 : decode cJ0_length_8abf5 10 = .ok (.ireturn, 1) := by decide +kernel
theorem dJ1_charAt_3b067_0 : decode cJ1_charAt_3b067 0 = .ok (.iload_n 1, 1) := by decide +kernel
theorem dJ1_charAt_3b067_1 : decode cJ1_charAt_3b067 1 = .ok (.aload_n 0, 1) := by decide +kernel
theorem dJ1_charAt_3b067_2 : decode cJ1_charAt_3b067 2 = .ok (.arraylength, 1) := by decide +kernel
theorem dJ1_charAt_3b067_3 : decode cJ1_charAt_3b067 3 = .ok (.invokestatic 9, 3) := by decide +kernel
theorem dJ1_charAt_3b067_6 : decode cJ1_charAt_3b067 6 = .ok (.aload_n 0, 1) := by decide +kernel
theorem dJ1_charAt_3b067_7 : decode cJ1_charAt_3b067 7 = .ok (.iload_n 1, 1) := by decide +kernel
theorem dJ1_charAt_3b067_8 : decode cJ1_charAt_3b067 8 = .ok (.baload, 1) := by decide +kernel
theorem dJ1_charAt_3b067_9 : decode cJ1_charAt_3b067 9 = .ok (.sipush 255, 3) := by decide +kernel
theorem dJ1_charAt_3b067_12 : decode cJ1_charAt_3b067 12 = .ok (.iand, 1) := by decide +kernel
theorem dJ1_charAt_3b067_13 : decode cJ1_charAt_3b067 13 = .ok (.i2c, 1) := by decide +kernel
theorem dJ1_charAt_3b067_14 : decode cJ1_charAt_3b067 14 = .ok (.ireturn, 1) := by decide +kernel
theorem dJ3_checkIndex_8e157_0 : decode cJ3_checkIndex_8e157 0 = .ok (.iload_n 0, 1) := by decide +kernel
theorem dJ3_checkIndex_8e157_1 : decode cJ3_checkIndex_8e157 1 = .ok (.ifCond .lt 8, 3) := by decide +kernel
theorem dJ3_checkIndex_8e157_4 : decode cJ3_checkIndex_8e157 4 = .ok (.iload_n 0, 1) := by decide +kernel
theorem dJ3_checkIndex_8e157_5 : decode cJ3_checkIndex_8e157 5 = .ok (.iload_n 1, 1) := by decide +kernel
theorem dJ3_checkIndex_8e157_6 : decode cJ3_checkIndex_8e157 6 = .ok (.if_icmp .lt 10, 3) := by decide +kernel
theorem dJ3_checkIndex_8e157_16 : decode cJ3_checkIndex_8e157 16 = .ok (.iload_n 0, 1) := by decide +kernel
theorem dJ3_checkIndex_8e157_17 : decode cJ3_checkIndex_8e157 17 = .ok (.ireturn, 1) := by decide +kernel
abbrev lenJS : List Nat := [5, 4, 5, 4, 3, 4, 32]
abbrev bytJS : List (List Int32) := [[112, 97, 114, 116, 121], [107, 105, 110, 100], [116, 114, 97, 100, 101], [107, 101, 101, 112], [99, 97, 112], [109, 111, 100, 101], [32, 112, 97, 114, 116, 121, 32, 107, 105, 110, 100, 32, 116, 114, 97, 100, 101, 32, 107, 101, 101, 112, 32, 99, 97, 112, 32, 109, 111, 100, 101, 32]]
def lit (i : Nat) : String × Nat × String := match i with
  | 0 => (RX6, 180, "party")
  | 1 => (RX6, 186, "kind")
  | 2 => (RX6, 188, "trade")
  | 3 => (RX6, 190, "keep")
  | 4 => (RX6, 192, "cap")
  | 5 => (RX6, 194, "mode")
  | _ => (RX12, 122, " party kind trade keep cap mode ")
theorem sc_le : ∀ i, i < 7 → lenJS.getD i 0 ≤ 32 := by decide
def sc_ch (i k : Nat) : Int32 := (bytJS.getD i []).getD k 0 &&& 255
def STR (ad : (Nat → Nat) × (Nat → Nat)) (A : Nat → Prop) (U : State) (H : Heap) : Prop := vk_S 7 lenJS bytJS ad.1 ad.2 A U H ∧ va_Z "java/lang/String" "COMPACT_STRINGS" "Z" (.int 1) A U H ∧ va_Zq "jdk/internal/util/Preconditions" "SIOOBE_FORMATTER" "Ljava/util/function/BiFunction;" A U H ∧ ∀ i, i < 7 → vk_R (lit i).1 (lit i).2.1 (lit i).2.2 (ad.1 i) U
theorem STR.at {ad : (Nat → Nat) × (Nat → Nat)} {A B : Nat → Prop} {s U : State} {H : Heap} {locs : List Loc} (h : STR ad A s s.heap) (hS : va_S A s.heap H locs) (hAB : ∀ q, B q → A q) (hU : U.heap = H) (hW : s.WarmedH U.vm) : STR ad B U U.heap := by
  rw [hU]
  exact ⟨((h.1.kept hS.2.1).moved hW.alike).narrow hAB, ((h.2.1.kept hS.2.1).moved hW.alike).narrow hAB, ((h.2.2.1.kept hS.2.1).moved hW.alike).narrow hAB, fun i hi => (h.2.2.2 i hi).warm hW⟩
theorem STR.same {ad : (Nat → Nat) × (Nat → Nat)} {A : Nat → Prop} {U V : State} (hh : V.heap = U.heap) (hv : V.vm = U.vm) (h : STR ad A U U.heap) : STR ad A V V.heap := by
  rw [hh]
  have ha : U.vm.Alike V.vm := by rw [hv]; exact Vm.Alike.refl _
  exact ⟨h.1.moved ha, h.2.1.moved ha, h.2.2.1.moved ha, fun i hi => (h.2.2.2 i hi).same hv⟩
def pcT (av : List Value) (sz : Nat) (ad : (Nat → Nat) × (Nat → Nat)) (A : Nat → Prop) : Array Value → State → Prop := va_Pc av (fun U => U.heap.size = sz ∧ STR ad A U U.heap)
theorem pcT.blind {av : List Value} {sz : Nat} {ad : (Nat → Nat) × (Nat → Nat)} {A : Nat → Prop} : FrameBlind (pcT av sz ad A) := fun a U g mk q => by
  obtain ⟨q0, q1, q2⟩ := q
  exact ⟨q0, q1, STR.same (U := U) (V := U.calling g mk a) rfl rfl q2⟩
theorem pcT.pre {av : List Value} {ad : (Nat → Nat) × (Nat → Nat)} {A : Nat → Prop} {s : State} {H : Heap} {locs : List Loc} (h : STR ad A s s.heap) (hS : va_S A s.heap H locs) : ∀ U : State, U.heap = H → s.WarmedH U.vm → pcT av H.size ad A av.toArray U := fun U hU hW => ⟨rfl, by rw [hU], h.at hS (fun _ h => h) hU hW⟩
def pcS (dC : Nat → ClassId) (dI : Nat → Nat → Nat) (av : List Value) (sz : Nat) (L : List Nat) (S : Nat → va_E) (tys : List (ClassId × FieldType)) (ns : List nLk) (ad : (Nat → Nat) × (Nat → Nat)) : Array Value → State → Prop := va_Pc av (fun U => U.heap.size = sz ∧ va_P (dC, dI) vwCl (va_pl L S) U.heap ∧ va_K (dC, dI) vwCl tys U ∧ va_D (fun _ => True) (va_pl L S) ∧ (∀ q ∈ ns, va_Nw (.methodLinkNest q.1 q.2.1 q.2.2.1 q.2.2.2) U) ∧ STR ad (AL L sz) U U.heap)
theorem pcS.blind {dC : Nat → ClassId} {dI : Nat → Nat → Nat} {av : List Value} {sz : Nat} {L : List Nat} {S : Nat → va_E} {tys : List (ClassId × FieldType)} {ns : List nLk} {ad : (Nat → Nat) × (Nat → Nat)} : FrameBlind (pcS dC dI av sz L S tys ns ad) := fun a U g mk q => by
  obtain ⟨q0, q1, qP, qK, qD, qN, qO⟩ := q
  exact ⟨q0, q1, qP, va_K.moved (u := U) (U := U.calling g mk a) (Vm.Alike.refl U.vm) qK, qD, fun q hq => va_Nw.same rfl rfl (qN q hq), STR.same (U := U) (V := U.calling g mk a) rfl rfl qO⟩
theorem pcS.pre {dC : Nat → ClassId} {dI : Nat → Nat → Nat} {av : List Value} {L : List Nat} {S : Nat → va_E} {tys : List (ClassId × FieldType)} {ns : List nLk} {ad : (Nat → Nat) × (Nat → Nat)} {A : Nat → Prop} {s : State} {H : Heap} {locs : List Loc} (hP : va_P (dC, dI) vwCl (va_pl L S) H) (hK : va_K (dC, dI) vwCl tys s) (hD : va_D A (va_pl L S)) (hN : ∀ q ∈ ns, va_Nw (.methodLinkNest q.1 q.2.1 q.2.2.1 q.2.2.2) s) (h : STR ad (AL L s.heap.size) s s.heap) (hS : va_S (AL L s.heap.size) s.heap H locs) : ∀ U : State, U.heap = H → s.WarmedH U.vm → pcS dC dI av H.size L S tys ns ad av.toArray U := fun U hU hW => ⟨rfl, by rw [hU], by rw [hU]; exact hP, va_K.moved hW.alike hK, hD.weaken (fun _ _ _ _ => trivial), fun q hq => va_Nw.warmM hW (hN q hq), h.at hS (fun q h => h.elim Or.inl (fun h => Or.inr (Nat.le_trans hS.1 h))) hU hW⟩
set_option maxHeartbeats 4000000 in
set_option maxRecDepth 100000 in
theorem j_coder (l : Launch) (ad : (Nat → Nat) × (Nat → Nat)) (A : Nat → Prop) (sz : Nat) (i : Nat) (hb_i : i < 7) : Met l yJ0_coder_7d493 (wT yJ0_coder_7d493 cJ0_coder_7d493 1 (some .byte)) ({ frames := 0, cells := 0, slots := 0, locals := 0 }) (pcT [.ref (ad.1 i)] sz ad A) (vp_Si (fun r => r = 0)) 0 0 (fun _ => False) := by
  refine Met.ofW (cc := cJ0_coder_7d493) (maxL := 1) (ret := (some .byte)) (by decide) rfl ?_
  intro p e s m args below meth c s₁ B hml hv
  obtain ⟨rfl, hsz, hSTR⟩ := hv
  have hx := B.exec
  have hb := B.bytes
  have hr := B.returns
  have hT : ∀ wd ∈ TB, wd.before [.ref (ad.1 i)].toArray s = true := fun wd h => atoms_spec (ws := wT yJ0_coder_7d493 cJ0_coder_7d493 1 (some .byte)) B.pre wd (List.mem_cons_of_mem _ h)
  have hown : s.vm.findClass RJ0 = some m.cls := findClass_of_methodNamed B.named
  have hlocks := B.notSynchronized
  subst hsz
  have hl := lv_entry ([.ref (ad.1 i)]) (n := 1) (Nat.le_of_ble_eq_true rfl)
  rw [lg_entry_eq]
  generalize (lg_sl ([.ref (ad.1 i)]) ++ List.replicate (1 - (lg_sl ([.ref (ad.1 i)])).length) Slot.unset).toArray = ls at hl ⊢
  have hl : lv_has ls 1 [(0, .ref (ad.1 i))] := hl
  refine va_gets hx hb hSTR.2.1 va_S.rf hown (hT _ w444) (fun _ h9 => h9) dJ0_coder_7d493_0 ?_
  refine lv_if_eq (tgt := 13) hx hb dJ0_coder_7d493_3 (by decide) (fun h => absurd h (by decide)) (fun _ => ?_)
  refine lv_aload_n hx hb dJ0_coder_7d493_6 rfl (lv_at hl 0 rfl) ?_
  refine vk_getf hx hb (hSTR.1.1 i (by omega)).2.1 va_S.rf hown (hT _ w1589) (fun _ h9 => h9) dJ0_coder_7d493_7 ?_
  refine lv_goto (tgt := 14) hx hb dJ0_coder_7d493_10 (by decide) ?_
  exact W.zret (ty := .byte) (v := 0) hx hb hr (by decide) (fun t ht h9 => ⟨0, rfl, rfl, ht⟩) (fun q h => by cases h) dJ0_coder_7d493_14

set_option maxHeartbeats 4000000 in
set_option maxRecDepth 100000 in
theorem j_length (l : Launch) (ad : (Nat → Nat) × (Nat → Nat)) (A : Nat → Prop) (sz : Nat) (i : Nat) (hb_i : i < 7) : Met l yJ0_length_8abf5 (wT yJ0_length_8abf5 cJ0_length_8abf5 1 (some .int)) ({ frames := 1, cells := 0, slots := 0, locals := 20 }) (pcT [.ref (ad.1 i)] sz ad A) (vp_Si (fun r => r = nI (lenJS.getD i 0))) 0 0 (fun _ => False) := by
  refine Met.ofW (cc := cJ0_length_8abf5) (maxL := 1) (ret := (some .int)) (by decide) rfl ?_
  intro p e s m args below meth c s₁ B hml hv
  obtain ⟨rfl, hsz, hSTR⟩ := hv
  have hx := B.exec
  have hb := B.bytes
  have hr := B.returns
  have hT : ∀ wd ∈ TB, wd.before [.ref (ad.1 i)].toArray s = true := fun wd h => atoms_spec (ws := wT yJ0_length_8abf5 cJ0_length_8abf5 1 (some .int)) B.pre wd (List.mem_cons_of_mem _ h)
  have hown : s.vm.findClass RJ0 = some m.cls := findClass_of_methodNamed B.named
  have hlocks := B.notSynchronized
  subst hsz
  have hl := lv_entry ([.ref (ad.1 i)]) (n := 1) (Nat.le_of_ble_eq_true rfl)
  rw [lg_entry_eq]
  generalize (lg_sl ([.ref (ad.1 i)]) ++ List.replicate (1 - (lg_sl ([.ref (ad.1 i)])).length) Slot.unset).toArray = ls at hl ⊢
  have hl : lv_has ls 1 [(0, .ref (ad.1 i))] := hl
  have hle := sc_le i hb_i
  refine lv_aload_n hx hb dJ0_length_8abf5_0 rfl (lv_at hl 0 rfl) ?_
  refine vk_getf hx hb (hSTR.1.1 i (by omega)).2.2.1 va_S.rf hown (hT _ w1588) (fun _ h9 => h9) dJ0_length_8abf5_1 ?_
  refine va_tlen (v := nI (lenJS.getD i 0)) hx hb (hSTR.1.1 i (by omega)).2.2.2 va_S.rf rfl dJ0_length_8abf5_4 ?_
  refine lv_aload_n hx hb dJ0_length_8abf5_5 rfl (lv_at hl 0 rfl) ?_
  refine vp_callSi (va_Run.run (va_runV (As := []) (rest := [.int (nI (lenJS.getD i 0))]) ⟨hx, hb, hml, hown, hT⟩ (j_coder l ad A s.heap.size i (by omega)) (cwV 0 hT (gV w440 w441 w442 w16 w443) rfl rfl rfl (by decide +kernel) ⟨(Nat.le_of_ble_eq_true rfl), (Nat.le_of_ble_eq_true rfl)⟩) ⟨pcT.blind, vk_recv hSTR.1 (i := i) (by omega) va_S.rf, pcT.pre hSTR va_S.rf⟩ rfl rfl hl.1 rfl (lv_room (Nat.le_of_ble_eq_true rfl)) dJ0_length_8abf5_6 ⟨(Nat.le_of_ble_eq_true rfl), (Nat.le_of_ble_eq_true rfl)⟩)) (fun r_1 hr_1 => ?_)
  obtain rfl : r_1 = 0 := hr_1
  refine lv_ishr hx hb dJ0_length_8abf5_9 ?_
  refine lv_topi (fun z_2 ez_2 => ?_)
  exact W.iret (v := z_2) hx hb hr (fun t ht h9 => ⟨z_2, rfl, (ez_2.trans (sc_shr0 (by omega))), ht⟩) (fun q h => by cases h) dJ0_length_8abf5_10

set_option maxHeartbeats 4000000 in
set_option maxRecDepth 100000 in
theorem j_isLatin1 (l : Launch) (ad : (Nat → Nat) × (Nat → Nat)) (A : Nat → Prop) (sz : Nat) (i : Nat) (hb_i : i < 7) : Met l yJ0_isLatin1_aae02 (wT yJ0_isLatin1_aae02 cJ0_isLatin1_aae02 1 (some .boolean)) ({ frames := 0, cells := 0, slots := 0, locals := 0 }) (pcT [.ref (ad.1 i)] sz ad A) (vp_Si (fun r => r = 1)) 0 0 (fun _ => False) := by
  refine Met.ofW (cc := cJ0_isLatin1_aae02) (maxL := 1) (ret := (some .boolean)) (by decide) rfl ?_
  intro p e s m args below meth c s₁ B hml hv
  obtain ⟨rfl, hsz, hSTR⟩ := hv
  have hx := B.exec
  have hb := B.bytes
  have hr := B.returns
  have hT : ∀ wd ∈ TB, wd.before [.ref (ad.1 i)].toArray s = true := fun wd h => atoms_spec (ws := wT yJ0_isLatin1_aae02 cJ0_isLatin1_aae02 1 (some .boolean)) B.pre wd (List.mem_cons_of_mem _ h)
  have hown : s.vm.findClass RJ0 = some m.cls := findClass_of_methodNamed B.named
  have hlocks := B.notSynchronized
  subst hsz
  have hl := lv_entry ([.ref (ad.1 i)]) (n := 1) (Nat.le_of_ble_eq_true rfl)
  rw [lg_entry_eq]
  generalize (lg_sl ([.ref (ad.1 i)]) ++ List.replicate (1 - (lg_sl ([.ref (ad.1 i)])).length) Slot.unset).toArray = ls at hl ⊢
  have hl : lv_has ls 1 [(0, .ref (ad.1 i))] := hl
  refine va_gets hx hb hSTR.2.1 va_S.rf hown (hT _ w444) (fun _ h9 => h9) dJ0_isLatin1_aae02_0 ?_
  refine lv_if_eq (tgt := 17) hx hb dJ0_isLatin1_aae02_3 (by decide) (fun h => absurd h (by decide)) (fun _ => ?_)
  refine lv_aload_n hx hb dJ0_isLatin1_aae02_6 rfl (lv_at hl 0 rfl) ?_
  refine vk_getf hx hb (hSTR.1.1 i (by omega)).2.1 va_S.rf hown (hT _ w1589) (fun _ h9 => h9) dJ0_isLatin1_aae02_7 ?_
  refine lv_if_ne (tgt := 17) hx hb dJ0_isLatin1_aae02_10 (by decide) (fun h => absurd (by decide) h) (fun _ => ?_)
  refine lv_iconst (v := 1) hx hb dJ0_isLatin1_aae02_13 (by decide) ?_
  refine lv_goto (tgt := 18) hx hb dJ0_isLatin1_aae02_14 (by decide) ?_
  exact W.zret (ty := .boolean) (v := 1) hx hb hr (by decide) (fun t ht h9 => ⟨1, rfl, rfl, ht⟩) (fun q h => by cases h) dJ0_isLatin1_aae02_18

set_option maxHeartbeats 4000000 in
set_option maxRecDepth 100000 in
theorem j_pci0 (l : Launch) (ad : (Nat → Nat) × (Nat → Nat)) (A : Nat → Prop) (sz : Nat) (k : Nat) (n : Nat) (hb_k : k < n) (hb_n : n ≤ 32) : Met l yJ3_checkIndex_8e157 (wT yJ3_checkIndex_8e157 cJ3_checkIndex_8e157 3 (some .int)) ({ frames := 0, cells := 0, slots := 0, locals := 0 }) (pcT [.int (nI k), .int (nI n), .null] sz ad A) (vp_Si (fun r => True)) 0 0 (fun _ => False) := by
  refine Met.ofW (cc := cJ3_checkIndex_8e157) (maxL := 3) (ret := (some .int)) (by decide) rfl ?_
  intro p e s m args below meth c s₁ B hml hv
  obtain ⟨rfl, hsz, hSTR⟩ := hv
  have hx := B.exec
  have hb := B.bytes
  have hr := B.returns
  have hT : ∀ wd ∈ TB, wd.before [.int (nI k), .int (nI n), .null].toArray s = true := fun wd h => atoms_spec (ws := wT yJ3_checkIndex_8e157 cJ3_checkIndex_8e157 3 (some .int)) B.pre wd (List.mem_cons_of_mem _ h)
  have hown : s.vm.findClass RJ3 = some m.cls := findClass_of_methodNamed B.named
  have hlocks := B.notSynchronized
  subst hsz
  have hl := lv_entry ([.int (nI k), .int (nI n), .null]) (n := 3) (Nat.le_of_ble_eq_true rfl)
  rw [lg_entry_eq]
  generalize (lg_sl ([.int (nI k), .int (nI n), .null]) ++ List.replicate (3 - (lg_sl ([.int (nI k), .int (nI n), .null])).length) Slot.unset).toArray = ls at hl ⊢
  have hl : lv_has ls 3 [(0, .int (nI k)), (1, .int (nI n)), (2, .null)] := hl
  refine lv_iload_n hx hb dJ3_checkIndex_8e157_0 rfl (lv_at hl 0 rfl) ?_
  refine lv_if_lt (tgt := 9) hx hb dJ3_checkIndex_8e157_1 (by decide) (fun c_1 => ?_) (fun c_1 => ?_)
  · have c_1 : k < 0 := (nI_ltI (a := k) (b := 0) (by omega) (by omega)).mp c_1
    exfalso; omega
  · have c_1 : ¬ (k < 0) := fun hh9 => c_1 ((nI_ltI (a := k) (b := 0) (by omega) (by omega)).mpr hh9)
    refine lv_iload_n hx hb dJ3_checkIndex_8e157_4 rfl (lv_at hl 0 rfl) ?_
    refine lv_iload_n hx hb dJ3_checkIndex_8e157_5 rfl (lv_at hl 1 rfl) ?_
    refine lv_icmp_lt (tgt := 16) hx hb dJ3_checkIndex_8e157_6 (by decide) (fun c_6 => ?_) (fun c_6 => ?_)
    · have c_6 : k < n := (nI_ltI (a := k) (b := n) (by omega) (by omega)).mp c_6
      refine lv_iload_n hx hb dJ3_checkIndex_8e157_16 rfl (lv_at hl 0 rfl) ?_
      exact W.iret (v := nI k) hx hb hr (fun t ht h9 => ⟨nI k, rfl, trivial, ht⟩) (fun q h => by cases h) dJ3_checkIndex_8e157_17
    · have c_6 : ¬ (k < n) := fun hh9 => c_6 ((nI_ltI (a := k) (b := n) (by omega) (by omega)).mpr hh9)
      exfalso; omega

set_option maxHeartbeats 4000000 in
set_option maxRecDepth 100000 in
theorem j_pci1 (l : Launch) (ad : (Nat → Nat) × (Nat → Nat)) (A : Nat → Prop) (sz : Nat) (k : Nat) (n : Nat) (t9 : Nat) (hb_k : k < n) (hb_n : n ≤ 32) : Met l yJ3_checkIndex_8e157 (wT yJ3_checkIndex_8e157 cJ3_checkIndex_8e157 3 (some .int)) ({ frames := 0, cells := 0, slots := 0, locals := 0 }) (pcT [.int (nI k), .int (nI n), .ref t9] sz ad A) (vp_Si (fun r => True)) 0 0 (fun _ => False) := by
  refine Met.ofW (cc := cJ3_checkIndex_8e157) (maxL := 3) (ret := (some .int)) (by decide) rfl ?_
  intro p e s m args below meth c s₁ B hml hv
  obtain ⟨rfl, hsz, hSTR⟩ := hv
  have hx := B.exec
  have hb := B.bytes
  have hr := B.returns
  have hT : ∀ wd ∈ TB, wd.before [.int (nI k), .int (nI n), .ref t9].toArray s = true := fun wd h => atoms_spec (ws := wT yJ3_checkIndex_8e157 cJ3_checkIndex_8e157 3 (some .int)) B.pre wd (List.mem_cons_of_mem _ h)
  have hown : s.vm.findClass RJ3 = some m.cls := findClass_of_methodNamed B.named
  have hlocks := B.notSynchronized
  subst hsz
  have hl := lv_entry ([.int (nI k), .int (nI n), .ref t9]) (n := 3) (Nat.le_of_ble_eq_true rfl)
  rw [lg_entry_eq]
  generalize (lg_sl ([.int (nI k), .int (nI n), .ref t9]) ++ List.replicate (3 - (lg_sl ([.int (nI k), .int (nI n), .ref t9])).length) Slot.unset).toArray = ls at hl ⊢
  have hl : lv_has ls 3 [(0, .int (nI k)), (1, .int (nI n)), (2, .ref t9)] := hl
  refine lv_iload_n hx hb dJ3_checkIndex_8e157_0 rfl (lv_at hl 0 rfl) ?_
  refine lv_if_lt (tgt := 9) hx hb dJ3_checkIndex_8e157_1 (by decide) (fun c_1 => ?_) (fun c_1 => ?_)
  · have c_1 : k < 0 := (nI_ltI (a := k) (b := 0) (by omega) (by omega)).mp c_1
    exfalso; omega
  · have c_1 : ¬ (k < 0) := fun hh9 => c_1 ((nI_ltI (a := k) (b := 0) (by omega) (by omega)).mpr hh9)
    refine lv_iload_n hx hb dJ3_checkIndex_8e157_4 rfl (lv_at hl 0 rfl) ?_
    refine lv_iload_n hx hb dJ3_checkIndex_8e157_5 rfl (lv_at hl 1 rfl) ?_
    refine lv_icmp_lt (tgt := 16) hx hb dJ3_checkIndex_8e157_6 (by decide) (fun c_6 => ?_) (fun c_6 => ?_)
    · have c_6 : k < n := (nI_ltI (a := k) (b := n) (by omega) (by omega)).mp c_6
      refine lv_iload_n hx hb dJ3_checkIndex_8e157_16 rfl (lv_at hl 0 rfl) ?_
      exact W.iret (v := nI k) hx hb hr (fun t ht h9 => ⟨nI k, rfl, trivial, ht⟩) (fun q h => by cases h) dJ3_checkIndex_8e157_17
    · have c_6 : ¬ (k < n) := fun hh9 => c_6 ((nI_ltI (a := k) (b := n) (by omega) (by omega)).mpr hh9)
      exfalso; omega

set_option maxHeartbeats 4000000 in
set_option maxRecDepth 100000 in
theorem j_ci (l : Launch) (ad : (Nat → Nat) × (Nat → Nat)) (A : Nat → Prop) (sz : Nat) (k : Nat) (n : Nat) (hb_k : k < n) (hb_n : n ≤ 32) : Met l yJ0_checkIndex_df160 (wT yJ0_checkIndex_df160 cJ0_checkIndex_df160 2 none) ({ frames := 1, cells := 0, slots := 0, locals := 22 }) (pcT [.int (nI k), .int (nI n)] sz ad A) (va_Sv (fun _ => True)) 0 0 (fun _ => False) := by
  refine Met.ofW (cc := cJ0_checkIndex_df160) (maxL := 2) (ret := none) (by decide) rfl ?_
  intro p e s m args below meth c s₁ B hml hv
  obtain ⟨rfl, hsz, hSTR⟩ := hv
  have hx := B.exec
  have hb := B.bytes
  have hr := B.returns
  have hT : ∀ wd ∈ TB, wd.before [.int (nI k), .int (nI n)].toArray s = true := fun wd h => atoms_spec (ws := wT yJ0_checkIndex_df160 cJ0_checkIndex_df160 2 none) B.pre wd (List.mem_cons_of_mem _ h)
  have hown : s.vm.findClass RJ0 = some m.cls := findClass_of_methodNamed B.named
  have hlocks := B.notSynchronized
  subst hsz
  have hl := lv_entry ([.int (nI k), .int (nI n)]) (n := 2) (Nat.le_of_ble_eq_true rfl)
  rw [lg_entry_eq]
  generalize (lg_sl ([.int (nI k), .int (nI n)]) ++ List.replicate (2 - (lg_sl ([.int (nI k), .int (nI n)])).length) Slot.unset).toArray = ls at hl ⊢
  have hl : lv_has ls 2 [(0, .int (nI k)), (1, .int (nI n))] := hl
  rcases hSTR.2.2.1 with hZ | ⟨t9, hZ⟩
  · have hZ := hZ
    refine lv_iload_n hx hb dJ0_checkIndex_df160_0 rfl (lv_at hl 0 rfl) ?_
    refine lv_iload_n hx hb dJ0_checkIndex_df160_1 rfl (lv_at hl 1 rfl) ?_
    refine va_gets hx hb hZ va_S.rf hown (hT _ w460) (fun _ h9 => h9) dJ0_checkIndex_df160_2 ?_
    refine vp_callSi (va_Run.run (va_runS (As := [.int (nI k), .int (nI n), .null]) (rest := []) ⟨hx, hb, hml, hown, hT⟩ (j_pci0 l ad A s.heap.size k n (by omega) (by omega)) (va_cwS 3 hT (gS w462 w463 w18 w464) rfl rfl rfl (by decide +kernel) ⟨(Nat.le_of_ble_eq_true rfl), (Nat.le_of_ble_eq_true rfl)⟩) ⟨pcT.blind, pcT.pre hSTR va_S.rf⟩ rfl rfl hl.1 rfl (lv_room (Nat.le_of_ble_eq_true rfl)) dJ0_checkIndex_df160_5 ⟨(Nat.le_of_ble_eq_true rfl), (Nat.le_of_ble_eq_true rfl)⟩)) (fun r_1 hr_1 => ?_)
    refine lv_pop hx hb dJ0_checkIndex_df160_8 rfl ?_
    exact W.vret hx hb hr (fun t ht h9 => ⟨rfl, trivial, ht⟩) (fun q h => by cases h) dJ0_checkIndex_df160_9
  · have hZ := hZ
    refine lv_iload_n hx hb dJ0_checkIndex_df160_0 rfl (lv_at hl 0 rfl) ?_
    refine lv_iload_n hx hb dJ0_checkIndex_df160_1 rfl (lv_at hl 1 rfl) ?_
    refine va_gets hx hb hZ va_S.rf hown (hT _ w460) (fun _ h9 => h9) dJ0_checkIndex_df160_2 ?_
    refine vp_callSi (va_Run.run (va_runS (As := [.int (nI k), .int (nI n), .ref t9]) (rest := []) ⟨hx, hb, hml, hown, hT⟩ (j_pci1 l ad A s.heap.size k n t9 (by omega) (by omega)) (va_cwS 3 hT (gS w462 w463 w18 w464) rfl rfl rfl (by decide +kernel) ⟨(Nat.le_of_ble_eq_true rfl), (Nat.le_of_ble_eq_true rfl)⟩) ⟨pcT.blind, pcT.pre hSTR va_S.rf⟩ rfl rfl hl.1 rfl (lv_room (Nat.le_of_ble_eq_true rfl)) dJ0_checkIndex_df160_5 ⟨(Nat.le_of_ble_eq_true rfl), (Nat.le_of_ble_eq_true rfl)⟩)) (fun r_2 hr_2 => ?_)
    refine lv_pop hx hb dJ0_checkIndex_df160_8 rfl ?_
    exact W.vret hx hb hr (fun t ht h9 => ⟨rfl, trivial, ht⟩) (fun q h => by cases h) dJ0_checkIndex_df160_9

set_option maxHeartbeats 4000000 in
set_option maxRecDepth 100000 in
theorem j_lcharAt (l : Launch) (ad : (Nat → Nat) × (Nat → Nat)) (A : Nat → Prop) (sz : Nat) (i : Nat) (k : Nat) (hb_i : i < 7) (hb_k : k < lenJS.getD i 0) : Met l yJ1_charAt_3b067 (wT yJ1_charAt_3b067 cJ1_charAt_3b067 2 (some .char)) ({ frames := 2, cells := 0, slots := 0, locals := 43 }) (pcT [.ref (ad.2 i), .int (nI k)] sz ad A) (vp_Si (fun r => r = sc_ch i k)) 0 0 (fun _ => False) := by
  refine Met.ofW (cc := cJ1_charAt_3b067) (maxL := 2) (ret := (some .char)) (by decide) rfl ?_
  intro p e s m args below meth c s₁ B hml hv
  obtain ⟨rfl, hsz, hSTR⟩ := hv
  have hx := B.exec
  have hb := B.bytes
  have hr := B.returns
  have hT : ∀ wd ∈ TB, wd.before [.ref (ad.2 i), .int (nI k)].toArray s = true := fun wd h => atoms_spec (ws := wT yJ1_charAt_3b067 cJ1_charAt_3b067 2 (some .char)) B.pre wd (List.mem_cons_of_mem _ h)
  have hown : s.vm.findClass RJ1 = some m.cls := findClass_of_methodNamed B.named
  have hlocks := B.notSynchronized
  subst hsz
  have hl := lv_entry ([.ref (ad.2 i), .int (nI k)]) (n := 2) (Nat.le_of_ble_eq_true rfl)
  rw [lg_entry_eq]
  generalize (lg_sl ([.ref (ad.2 i), .int (nI k)]) ++ List.replicate (2 - (lg_sl ([.ref (ad.2 i), .int (nI k)])).length) Slot.unset).toArray = ls at hl ⊢
  have hl : lv_has ls 2 [(0, .ref (ad.2 i)), (1, .int (nI k))] := hl
  have hle := sc_le i hb_i
  refine lv_iload_n hx hb dJ1_charAt_3b067_0 rfl (lv_at hl 1 rfl) ?_
  refine lv_aload_n hx hb dJ1_charAt_3b067_1 rfl (lv_at hl 0 rfl) ?_
  refine va_tlen (v := nI (lenJS.getD i 0)) hx hb (hSTR.1.1 i (by omega)).2.2.2 va_S.rf rfl dJ1_charAt_3b067_2 ?_
  refine va_csv (va_Run.run (va_runS (As := [.int (nI k), .int (nI (lenJS.getD i 0))]) (rest := []) ⟨hx, hb, hml, hown, hT⟩ (j_ci l ad A s.heap.size k (lenJS.getD i 0) (by omega) (by omega)) (va_cwS 2 hT (gS w457 w458 w16 w459) rfl rfl rfl (by decide +kernel) ⟨(Nat.le_of_ble_eq_true rfl), (Nat.le_of_ble_eq_true rfl)⟩) ⟨pcT.blind, pcT.pre hSTR va_S.rf⟩ rfl rfl hl.1 rfl (lv_room (Nat.le_of_ble_eq_true rfl)) dJ1_charAt_3b067_3 ⟨(Nat.le_of_ble_eq_true rfl), (Nat.le_of_ble_eq_true rfl)⟩)) (fun hr_3 => ?_)
  refine lv_aload_n hx hb dJ1_charAt_3b067_6 rfl (lv_at hl 0 rfl) ?_
  refine lv_iload_n hx hb dJ1_charAt_3b067_7 rfl (lv_at hl 1 rfl) ?_
  refine va_tb (v := .int ((bytJS.getD i []).getD (k) 0)) hx hb (hSTR.1.1 i (by omega)).2.2.2 va_S.rf (vp_in_nI (n := k) (by omega) (by omega)) (by show Value.int _ = _; rw [nI_clamp (by omega)]) dJ1_charAt_3b067_8 ?_
  refine lv_sipush (v := 255) hx hb dJ1_charAt_3b067_9 (by decide) ?_
  refine lv_iand hx hb dJ1_charAt_3b067_12 ?_
  refine lv_topi (fun z_1 ez_1 => ?_)
  refine lv_i2c hx hb dJ1_charAt_3b067_13 rfl ?_
  refine lv_topi (fun z_2 ez_2 => ?_)
  exact W.zret (ty := .char) (v := z_2) hx hb hr (by rw [ez_2, ez_1, sc_c2]; exact sc_nar _) (fun t ht h9 => ⟨z_2, rfl, (by rw [ez_2, ez_1, sc_c2]; rfl), ht⟩) (fun q h => by cases h) dJ1_charAt_3b067_14

set_option maxHeartbeats 4000000 in
set_option maxRecDepth 100000 in
theorem j_charAt (l : Launch) (ad : (Nat → Nat) × (Nat → Nat)) (A : Nat → Prop) (sz : Nat) (i : Nat) (k : Nat) (hb_i : i < 7) (hb_k : k < lenJS.getD i 0) : Met l yJ0_charAt_5068e (wT yJ0_charAt_5068e cJ0_charAt_5068e 2 (some .char)) ({ frames := 3, cells := 0, slots := 0, locals := 64 }) (pcT [.ref (ad.1 i), .int (nI k)] sz ad A) (vp_Si (fun r => r = sc_ch i k)) 0 0 (fun _ => False) := by
  refine Met.ofW (cc := cJ0_charAt_5068e) (maxL := 2) (ret := (some .char)) (by decide) rfl ?_
  intro p e s m args below meth c s₁ B hml hv
  obtain ⟨rfl, hsz, hSTR⟩ := hv
  have hx := B.exec
  have hb := B.bytes
  have hr := B.returns
  have hT : ∀ wd ∈ TB, wd.before [.ref (ad.1 i), .int (nI k)].toArray s = true := fun wd h => atoms_spec (ws := wT yJ0_charAt_5068e cJ0_charAt_5068e 2 (some .char)) B.pre wd (List.mem_cons_of_mem _ h)
  have hown : s.vm.findClass RJ0 = some m.cls := findClass_of_methodNamed B.named
  have hlocks := B.notSynchronized
  subst hsz
  have hl := lv_entry ([.ref (ad.1 i), .int (nI k)]) (n := 2) (Nat.le_of_ble_eq_true rfl)
  rw [lg_entry_eq]
  generalize (lg_sl ([.ref (ad.1 i), .int (nI k)]) ++ List.replicate (2 - (lg_sl ([.ref (ad.1 i), .int (nI k)])).length) Slot.unset).toArray = ls at hl ⊢
  have hl : lv_has ls 2 [(0, .ref (ad.1 i)), (1, .int (nI k))] := hl
  refine lv_aload_n hx hb dJ0_charAt_5068e_0 rfl (lv_at hl 0 rfl) ?_
  refine vp_callSi (va_Run.run (va_runV (As := []) (rest := []) ⟨hx, hb, hml, hown, hT⟩ (j_isLatin1 l ad A s.heap.size i (by omega)) (cwV 0 hT (gV w450 w451 w452 w16 w453) rfl rfl rfl (by decide +kernel) ⟨(Nat.le_of_ble_eq_true rfl), (Nat.le_of_ble_eq_true rfl)⟩) ⟨pcT.blind, vk_recv hSTR.1 (i := i) (by omega) va_S.rf, pcT.pre hSTR va_S.rf⟩ rfl rfl hl.1 rfl (lv_room (Nat.le_of_ble_eq_true rfl)) dJ0_charAt_5068e_1 ⟨(Nat.le_of_ble_eq_true rfl), (Nat.le_of_ble_eq_true rfl)⟩)) (fun r_1 hr_1 => ?_)
  obtain rfl : r_1 = 1 := hr_1
  refine lv_if_eq (tgt := 16) hx hb dJ0_charAt_5068e_4 (by decide) (fun h => absurd h (by decide)) (fun _ => ?_)
  refine lv_aload_n hx hb dJ0_charAt_5068e_7 rfl (lv_at hl 0 rfl) ?_
  refine vk_getf hx hb (hSTR.1.1 i (by omega)).2.2.1 va_S.rf hown (hT _ w1588) (fun _ h9 => h9) dJ0_charAt_5068e_8 ?_
  refine lv_iload_n hx hb dJ0_charAt_5068e_11 rfl (lv_at hl 1 rfl) ?_
  refine vp_callSi (va_Run.run (va_runS (As := [.ref (ad.2 i), .int (nI k)]) (rest := []) ⟨hx, hb, hml, hown, hT⟩ (j_lcharAt l ad A s.heap.size i k (by omega) (by omega)) (va_cwS 2 hT (gS w454 w455 w17 w456) rfl rfl rfl (by decide +kernel) ⟨(Nat.le_of_ble_eq_true rfl), (Nat.le_of_ble_eq_true rfl)⟩) ⟨pcT.blind, pcT.pre hSTR va_S.rf⟩ rfl rfl hl.1 rfl (lv_room (Nat.le_of_ble_eq_true rfl)) dJ0_charAt_5068e_12 ⟨(Nat.le_of_ble_eq_true rfl), (Nat.le_of_ble_eq_true rfl)⟩)) (fun r_2 hr_2 => ?_)
  exact W.zret (ty := .char) (v := r_2) hx hb hr (by rw [hr_2]; exact sc_nar _) (fun t ht h9 => ⟨r_2, rfl, hr_2, ht⟩) (fun q h => by cases h) dJ0_charAt_5068e_15

