theorem w28 : (.instanceMethod objectInit : Cond) ∈ TB := mTB (List.mem_of_getElem? (i := 28) (by decide +kernel)) (by decide +kernel)
theorem w29 : (.code objectInit ⟨#[0xb1]⟩ 1 none : Cond) ∈ TB := mTB (List.mem_of_getElem? (i := 29) (by decide +kernel)) (by decide +kernel)
theorem w35 : (.methodLink RX10 3 objectInit : Cond) ∈ TB := mTB (List.mem_of_getElem? (i := 35) (by decide +kernel)) (by decide +kernel)
theorem w45 : (.arrayClass .byte : Cond) ∈ TB := mTB (List.mem_of_getElem? (i := 45) (by decide +kernel)) (by decide +kernel)
theorem w57 : (.methodLink RX3 3 objectInit : Cond) ∈ TB := mTB (List.mem_of_getElem? (i := 57) (by decide +kernel)) (by decide +kernel)
theorem w77 : (.arrayClass .int : Cond) ∈ TB := mTB (List.mem_of_getElem? (i := 77) (by decide +kernel)) (by decide +kernel)
theorem w83 : (.methodLink RX0 3 objectInit : Cond) ∈ TB := mTB (List.mem_of_getElem? (i := 83) (by decide +kernel)) (by decide +kernel)
theorem w137 : (.arrayClass .long : Cond) ∈ TB := mTB (List.mem_of_getElem? (i := 137) (by decide +kernel)) (by decide +kernel)
theorem w138 : (.arrayClass .boolean : Cond) ∈ TB := mTB (List.mem_of_getElem? (i := 138) (by decide +kernel)) (by decide +kernel)
theorem w196 : (.methodLink RX1 3 objectInit : Cond) ∈ TB := mTB (List.mem_of_getElem? (i := 196) (by decide +kernel)) (by decide +kernel)
theorem w215 : (.methodLink RX7 3 objectInit : Cond) ∈ TB := mTB (List.mem_of_getElem? (i := 215) (by decide +kernel)) (by decide +kernel)
theorem w244 : (.methodLink RX8 3 objectInit : Cond) ∈ TB := mTB (List.mem_of_getElem? (i := 244) (by decide +kernel)) (by decide +kernel)
theorem w262 : (.methodLink RX9 3 objectInit : Cond) ∈ TB := mTB (List.mem_of_getElem? (i := 262) (by decide +kernel)) (by decide +kernel)
theorem w312 : (.methodLink RX2 3 objectInit : Cond) ∈ TB := mTB (List.mem_of_getElem? (i := 312) (by decide +kernel)) (by decide +kernel)
theorem w336 : (.methodLink RX4 3 objectInit : Cond) ∈ TB := mTB (List.mem_of_getElem? (i := 336) (by decide +kernel)) (by decide +kernel)
theorem dX0_init_0 : decode cX0_init 0 = .ok (.aload_n 0, 1) := by decide +kernel
theorem dX0_init_1 : decode cX0_init 1 = .ok (.invokespecial 3, 3) := by decide +kernel
theorem dX0_init_4 : decode cX0_init 4 = .ok (.aload_n 0, 1) := by decide +kernel
theorem dX0_init_5 : decode cX0_init 5 = .ok (.bipush 40, 2) := by decide +kernel
theorem dX0_init_7 : decode cX0_init 7 = .ok (.newarray .int, 2) := by decide +kernel
theorem dX0_init_9 : decode cX0_init 9 = .ok (.putfield 9, 3) := by decide +kernel
theorem dX0_init_12 : decode cX0_init 12 = .ok (.aload_n 0, 1) := by decide +kernel
theorem dX0_init_13 : decode cX0_init 13 = .ok (.bipush 40, 2) := by decide +kernel
theorem dX0_init_15 : decode cX0_init 15 = .ok (.newarray .int, 2) := by decide +kernel
theorem dX0_init_17 : decode cX0_init 17 = .ok (.putfield 15, 3) := by decide +kernel
theorem dX0_init_20 : decode cX0_init 20 = .ok (.aload_n 0, 1) := by decide +kernel
theorem dX0_init_21 : decode cX0_init 21 = .ok (.bipush 40, 2) := by decide +kernel
theorem dX0_init_23 : decode cX0_init 23 = .ok (.newarray .int, 2) := by decide +kernel
theorem dX0_init_25 : decode cX0_init 25 = .ok (.putfield 18, 3) := by decide +kernel
theorem dX0_init_28 : decode cX0_init 28 = .ok (.aload_n 0, 1) := by decide +kernel
theorem dX0_init_29 : decode cX0_init 29 = .ok (.bipush 40, 2) := by decide +kernel
theorem dX0_init_31 : decode cX0_init 31 = .ok (.newarray .long, 2) := by decide +kernel
theorem dX0_init_33 : decode cX0_init 33 = .ok (.putfield 21, 3) := by decide +kernel
theorem dX0_init_36 : decode cX0_init 36 = .ok (.aload_n 0, 1) := by decide +kernel
theorem dX0_init_37 : decode cX0_init 37 = .ok (.bipush 40, 2) := by decide +kernel
theorem dX0_init_39 : decode cX0_init 39 = .ok (.newarray .boolean, 2) := by decide +kernel
theorem dX0_init_41 : decode cX0_init 41 = .ok (.putfield 25, 3) := by decide +kernel
theorem dX0_init_44 : decode cX0_init 44 = .ok (.aload_n 0, 1) := by decide +kernel
theorem dX0_init_45 : decode cX0_init 45 = .ok (.bipush 64, 2) := by decide +kernel
theorem dX0_init_47 : decode cX0_init 47 = .ok (.newarray .int, 2) := by decide +kernel
theorem dX0_init_49 : decode cX0_init 49 = .ok (.putfield 29, 3) := by decide +kernel
theorem dX0_init_52 : decode cX0_init 52 = .ok (.aload_n 0, 1) := by decide +kernel
theorem dX0_init_53 : decode cX0_init 53 = .ok (.getfield 29, 3) := by decide +kernel
theorem dX0_init_56 : decode cX0_init 56 = .ok (.ldc 32, 2) := by decide +kernel
theorem dX0_init_58 : decode cX0_init 58 = .ok (.invokestatic 33, 3) := by decide +kernel
theorem dX0_init_61 : decode cX0_init 61 = .ok (.return_, 1) := by decide +kernel
theorem dX10_init_0 : decode cX10_init 0 = .ok (.aload_n 0, 1) := by decide +kernel
theorem dX10_init_1 : decode cX10_init 1 = .ok (.invokespecial 3, 3) := by decide +kernel
theorem dX10_init_4 : decode cX10_init 4 = .ok (.aload_n 0, 1) := by decide +kernel
theorem dX10_init_5 : decode cX10_init 5 = .ok (.sipush 900, 3) := by decide +kernel
theorem dX10_init_8 : decode cX10_init 8 = .ok (.newarray .byte, 2) := by decide +kernel
theorem dX10_init_10 : decode cX10_init 10 = .ok (.putfield 9, 3) := by decide +kernel
theorem dX10_init_13 : decode cX10_init 13 = .ok (.return_, 1) := by decide +kernel
theorem dX1_init_0 : decode cX1_init 0 = .ok (.aload_n 0, 1) := by decide +kernel
theorem dX1_init_1 : decode cX1_init 1 = .ok (.invokespecial 3, 3) := by decide +kernel
theorem dX1_init_4 : decode cX1_init 4 = .ok (.aload_n 0, 1) := by decide +kernel
theorem dX1_init_5 : decode cX1_init 5 = .ok (.bipush 64, 2) := by decide +kernel
theorem dX1_init_7 : decode cX1_init 7 = .ok (.newarray .long, 2) := by decide +kernel
theorem dX1_init_9 : decode cX1_init 9 = .ok (.putfield 9, 3) := by decide +kernel
theorem dX1_init_12 : decode cX1_init 12 = .ok (.return_, 1) := by decide +kernel
theorem dX2_init_0 : decode cX2_init 0 = .ok (.aload_n 0, 1) := by decide +kernel
theorem dX2_init_1 : decode cX2_init 1 = .ok (.invokespecial 3, 3) := by decide +kernel
theorem dX2_init_4 : decode cX2_init 4 = .ok (.aload_n 0, 1) := by decide +kernel
theorem dX2_init_5 : decode cX2_init 5 = .ok (.bipush 8, 2) := by decide +kernel
theorem dX2_init_7 : decode cX2_init 7 = .ok (.newarray .long, 2) := by decide +kernel
theorem dX2_init_9 : decode cX2_init 9 = .ok (.putfield 9, 3) := by decide +kernel
theorem dX2_init_12 : decode cX2_init 12 = .ok (.aload_n 0, 1) := by decide +kernel
theorem dX2_init_13 : decode cX2_init 13 = .ok (.sipush 256, 3) := by decide +kernel
theorem dX2_init_16 : decode cX2_init 16 = .ok (.newarray .long, 2) := by decide +kernel
theorem dX2_init_18 : decode cX2_init 18 = .ok (.putfield 15, 3) := by decide +kernel
theorem dX2_init_21 : decode cX2_init 21 = .ok (.aload_n 0, 1) := by decide +kernel
theorem dX2_init_22 : decode cX2_init 22 = .ok (.sipush 256, 3) := by decide +kernel
theorem dX2_init_25 : decode cX2_init 25 = .ok (.newarray .int, 2) := by decide +kernel
theorem dX2_init_27 : decode cX2_init 27 = .ok (.putfield 18, 3) := by decide +kernel
theorem dX2_init_30 : decode cX2_init 30 = .ok (.return_, 1) := by decide +kernel
theorem dX3_init_0 : decode cX3_init 0 = .ok (.aload_n 0, 1) := by decide +kernel
theorem dX3_init_1 : decode cX3_init 1 = .ok (.invokespecial 3, 3) := by decide +kernel
theorem dX3_init_4 : decode cX3_init 4 = .ok (.aload_n 0, 1) := by decide +kernel
theorem dX3_init_5 : decode cX3_init 5 = .ok (.bipush 96, 2) := by decide +kernel
theorem dX3_init_7 : decode cX3_init 7 = .ok (.newarray .byte, 2) := by decide +kernel
theorem dX3_init_9 : decode cX3_init 9 = .ok (.putfield 11, 3) := by decide +kernel
theorem dX3_init_12 : decode cX3_init 12 = .ok (.aload_n 0, 1) := by decide +kernel
theorem dX3_init_13 : decode cX3_init 13 = .ok (.bipush 12, 2) := by decide +kernel
theorem dX3_init_15 : decode cX3_init 15 = .ok (.newarray .int, 2) := by decide +kernel
theorem dX3_init_17 : decode cX3_init 17 = .ok (.putfield 15, 3) := by decide +kernel
theorem dX3_init_20 : decode cX3_init 20 = .ok (.return_, 1) := by decide +kernel
theorem dX4_init_0 : decode cX4_init 0 = .ok (.aload_n 0, 1) := by decide +kernel
theorem dX4_init_1 : decode cX4_init 1 = .ok (.invokespecial 3, 3) := by decide +kernel
theorem dX4_init_4 : decode cX4_init 4 = .ok (.aload_n 0, 1) := by decide +kernel
theorem dX4_init_5 : decode cX4_init 5 = .ok (.bipush 64, 2) := by decide +kernel
theorem dX4_init_7 : decode cX4_init 7 = .ok (.newarray .byte, 2) := by decide +kernel
theorem dX4_init_9 : decode cX4_init 9 = .ok (.putfield 11, 3) := by decide +kernel
theorem dX4_init_12 : decode cX4_init 12 = .ok (.aload_n 0, 1) := by decide +kernel
theorem dX4_init_13 : decode cX4_init 13 = .ok (.bipush 19, 2) := by decide +kernel
theorem dX4_init_15 : decode cX4_init 15 = .ok (.newarray .byte, 2) := by decide +kernel
theorem dX4_init_17 : decode cX4_init 17 = .ok (.putfield 15, 3) := by decide +kernel
theorem dX4_init_20 : decode cX4_init 20 = .ok (.return_, 1) := by decide +kernel
theorem dX7_init_0 : decode cX7_init 0 = .ok (.aload_n 0, 1) := by decide +kernel
theorem dX7_init_1 : decode cX7_init 1 = .ok (.invokespecial 3, 3) := by decide +kernel
theorem dX7_init_4 : decode cX7_init 4 = .ok (.aload_n 0, 1) := by decide +kernel
theorem dX7_init_5 : decode cX7_init 5 = .ok (.bipush 8, 2) := by decide +kernel
theorem dX7_init_7 : decode cX7_init 7 = .ok (.newarray .int, 2) := by decide +kernel
theorem dX7_init_9 : decode cX7_init 9 = .ok (.putfield 9, 3) := by decide +kernel
theorem dX7_init_12 : decode cX7_init 12 = .ok (.aload_n 0, 1) := by decide +kernel
theorem dX7_init_13 : decode cX7_init 13 = .ok (.bipush 8, 2) := by decide +kernel
theorem dX7_init_15 : decode cX7_init 15 = .ok (.newarray .int, 2) := by decide +kernel
theorem dX7_init_17 : decode cX7_init 17 = .ok (.putfield 15, 3) := by decide +kernel
theorem dX7_init_20 : decode cX7_init 20 = .ok (.aload_n 0, 1) := by decide +kernel
theorem dX7_init_21 : decode cX7_init 21 = .ok (.bipush 8, 2) := by decide +kernel
theorem dX7_init_23 : decode cX7_init 23 = .ok (.newarray .int, 2) := by decide +kernel
theorem dX7_init_25 : decode cX7_init 25 = .ok (.putfield 18, 3) := by decide +kernel
theorem dX7_init_28 : decode cX7_init 28 = .ok (.return_, 1) := by decide +kernel
theorem dX8_init_0 : decode cX8_init 0 = .ok (.aload_n 0, 1) := by decide +kernel
theorem dX8_init_1 : decode cX8_init 1 = .ok (.invokespecial 3, 3) := by decide +kernel
theorem dX8_init_4 : decode cX8_init 4 = .ok (.aload_n 0, 1) := by decide +kernel
theorem dX8_init_5 : decode cX8_init 5 = .ok (.bipush 8, 2) := by decide +kernel
theorem dX8_init_7 : decode cX8_init 7 = .ok (.newarray .int, 2) := by decide +kernel
theorem dX8_init_9 : decode cX8_init 9 = .ok (.putfield 9, 3) := by decide +kernel
theorem dX8_init_12 : decode cX8_init 12 = .ok (.aload_n 0, 1) := by decide +kernel
theorem dX8_init_13 : decode cX8_init 13 = .ok (.bipush 8, 2) := by decide +kernel
theorem dX8_init_15 : decode cX8_init 15 = .ok (.newarray .int, 2) := by decide +kernel
theorem dX8_init_17 : decode cX8_init 17 = .ok (.putfield 15, 3) := by decide +kernel
theorem dX8_init_20 : decode cX8_init 20 = .ok (.return_, 1) := by decide +kernel
theorem dX9_init_0 : decode cX9_init 0 = .ok (.aload_n 0, 1) := by decide +kernel
theorem dX9_init_1 : decode cX9_init 1 = .ok (.invokespecial 3, 3) := by decide +kernel
theorem dX9_init_4 : decode cX9_init 4 = .ok (.aload_n 0, 1) := by decide +kernel
theorem dX9_init_5 : decode cX9_init 5 = .ok (.bipush 64, 2) := by decide +kernel
theorem dX9_init_7 : decode cX9_init 7 = .ok (.newarray .long, 2) := by decide +kernel
theorem dX9_init_9 : decode cX9_init 9 = .ok (.putfield 9, 3) := by decide +kernel
theorem dX9_init_12 : decode cX9_init 12 = .ok (.aload_n 0, 1) := by decide +kernel
theorem dX9_init_13 : decode cX9_init 13 = .ok (.bipush 64, 2) := by decide +kernel
theorem dX9_init_15 : decode cX9_init 15 = .ok (.newarray .long, 2) := by decide +kernel
theorem dX9_init_17 : decode cX9_init 17 = .ok (.putfield 15, 3) := by decide +kernel
theorem dX9_init_20 : decode cX9_init 20 = .ok (.aload_n 0, 1) := by decide +kernel
theorem dX9_init_21 : decode cX9_init 21 = .ok (.bipush 8, 2) := by decide +kernel
theorem dX9_init_23 : decode cX9_init 23 = .ok (.newarray .long, 2) := by decide +kernel
theorem dX9_init_25 : decode cX9_init 25 = .ok (.putfield 18, 3) := by decide +kernel
theorem dX9_init_28 : decode cX9_init 28 = .ok (.aload_n 0, 1) := by decide +kernel
theorem dX9_init_29 : decode cX9_init 29 = .ok (.bipush 8, 2) := by decide +kernel
theorem dX9_init_31 : decode cX9_init 31 = .ok (.newarray .long, 2) := by decide +kernel
theorem dX9_init_33 : decode cX9_init 33 = .ok (.putfield 21, 3) := by decide +kernel
theorem dX9_init_36 : decode cX9_init 36 = .ok (.aload_n 0, 1) := by decide +kernel
theorem dX9_init_37 : decode cX9_init 37 = .ok (.sipush 256, 3) := by decide +kernel
theorem dX9_init_40 : decode cX9_init 40 = .ok (.newarray .long, 2) := by decide +kernel
theorem dX9_init_42 : decode cX9_init 42 = .ok (.putfield 24, 3) := by decide +kernel
theorem dX9_init_45 : decode cX9_init 45 = .ok (.aload_n 0, 1) := by decide +kernel
theorem dX9_init_46 : decode cX9_init 46 = .ok (.bipush 16, 2) := by decide +kernel
theorem dX9_init_48 : decode cX9_init 48 = .ok (.newarray .int, 2) := by decide +kernel
theorem dX9_init_50 : decode cX9_init 50 = .ok (.putfield 27, 3) := by decide +kernel
theorem dX9_init_53 : decode cX9_init 53 = .ok (.aload_n 0, 1) := by decide +kernel
theorem dX9_init_54 : decode cX9_init 54 = .ok (.bipush 16, 2) := by decide +kernel
theorem dX9_init_56 : decode cX9_init 56 = .ok (.newarray .long, 2) := by decide +kernel
theorem dX9_init_58 : decode cX9_init 58 = .ok (.putfield 31, 3) := by decide +kernel
theorem dX9_init_61 : decode cX9_init 61 = .ok (.aload_n 0, 1) := by decide +kernel
theorem dX9_init_62 : decode cX9_init 62 = .ok (.bipush 16, 2) := by decide +kernel
theorem dX9_init_64 : decode cX9_init 64 = .ok (.newarray .int, 2) := by decide +kernel
theorem dX9_init_66 : decode cX9_init 66 = .ok (.putfield 34, 3) := by decide +kernel
theorem dX9_init_69 : decode cX9_init 69 = .ok (.aload_n 0, 1) := by decide +kernel
theorem dX9_init_70 : decode cX9_init 70 = .ok (.bipush 16, 2) := by decide +kernel
theorem dX9_init_72 : decode cX9_init 72 = .ok (.newarray .int, 2) := by decide +kernel
theorem dX9_init_74 : decode cX9_init 74 = .ok (.putfield 37, 3) := by decide +kernel
theorem dX9_init_77 : decode cX9_init 77 = .ok (.return_, 1) := by decide +kernel
abbrev NLk : List nLk := NLs ++ [(RX11, 11, yX10_init, RX11), (RX11, 34, yX1_init, RX11), (RX11, 41, yX7_init, RX11), (RX11, 48, yX8_init, RX11), (RX11, 55, yX9_init, RX11), (RX11, 65, yX2_init, RX11), (RX11, 72, yX4_init, RX11), (RX11, 79, yX3_init, RX11), (RX6, 17, yX3_init, RX11)]
set_option maxHeartbeats 4000000 in
set_option maxRecDepth 100000 in
theorem n_Book0 (l : Launch) (dC : Nat → ClassId) (dI : Nat → Nat → Nat) (cy : Nat → ClassId) (L : List Nat) (kap : Nat → Nat) (S : Nat → va_E) (sz : Nat) (h0 : Nat) (hTy : Ty cy L kap (0, 0) S) (hSP : SPI L kap S) (hT_h0 : TK L kap h0 99) (hS_h0 : S h0 = .inr (0, [.null, .null, .null, .null, .null, .null, .int 0, .int 0])) : Met l yX0_init (wT yX0_init cX0_init 1 none) ({ frames := 1, cells := 6, slots := 264, locals := 23 }) (pcN dC dI [.ref h0] sz (va_pl L S) (cyT cy) NLk [RX0]) (va_Qv (fun (u : KU) => Ty cy u.1 u.2.1 (0, 0) u.2.2 ∧ SPI u.1 u.2.1 u.2.2 ∧ EXT L kap S h0 u ∧ TK u.1 u.2.1 h0 0 ∧ (∀ a k, USP k → TK u.1 u.2.1 a k → TK L kap a k ∨ (fun (a k : Nat) => False) a k)) (fun u t => pB dC dI (AL L sz) (va_pl u.1 u.2.2) (cyT cy) t) (AL L sz)) 6 264 (AL L sz) := by
  refine Met.ofW (cc := cX0_init) (maxL := 1) (ret := none) (by decide) rfl ?_
  intro p e s m args below meth c s₁ B hml hv
  obtain ⟨rfl, hsz, hP, hK, hD0, hN, hO⟩ := hv
  have hx := B.exec
  have hb := B.bytes
  have hr := B.returns
  have hT : ∀ wd ∈ TB, wd.before [.ref h0].toArray s = true := fun wd h => atoms_spec (ws := wT yX0_init cX0_init 1 none) B.pre wd (List.mem_cons_of_mem _ h)
  have hown : s.vm.findClass RX0 = some m.cls := findClass_of_methodNamed B.named
  have hlocks := B.notSynchronized
  have hin : meth.name = "<init>" := (name_of_methodNamed B.named B.method).1
  subst hsz
  have hW : PW dC dI L (AL L s.heap.size) s.heap S s.heap [] := ⟨hP, pl_self hD0, va_S.rf⟩
  have hA : ∀ q, s.heap.size ≤ q → AL L s.heap.size q := fun _ h => Or.inr h
  have hEX : EXT L kap S h0 (L, kap, S) := EX_0 hT_h0.1
  have hU : ∀ a k, USP k → TK L kap a k → TK L kap a k ∨ (fun (a k : Nat) => False) a k := fun a k _ h => Or.inl h
  have hl := lv_entry ([.ref h0]) (n := 1) (Nat.le_of_ble_eq_true rfl)
  rw [lg_entry_eq]
  generalize (lg_sl ([.ref h0]) ++ List.replicate (1 - (lg_sl ([.ref h0])).length) Slot.unset).toArray = ls at hl ⊢
  have hl : lv_has ls 1 [(0, .ref h0)] := hl
  refine lv_aload_n hx hb dX0_init_0 rfl (lv_at hl 0 rfl) ?_
  refine W.objInit hx hb hown (hT _ w83) (hT _ w28) (hT _ w29) rfl (by rw [hml]; exact hl.1) rfl dX0_init_1 (Nat.le_of_ble_eq_true rfl) (Nat.le_of_ble_eq_true rfl) ?_
  refine W.eq (g2 := F0 m 4 ls []) rfl ?_
  refine lv_aload_n hx hb dX0_init_4 rfl (lv_at hl 0 rfl) ?_
  refine lv_bipush (v := 40) hx hb dX0_init_5 (by decide) ?_
  refine pl_newa (kap := kap) (k := 20) (atype := .int) (ty := .int) (a0 := (40, .inl (fun _ => 0))) (n := 40) (N' := 40) hx hb (hT _ w77) rfl hK hW hA 0 rfl (fun _ => rfl) (by decide) (by decide) (Nat.le_of_ble_eq_true rfl) (Nat.le_of_ble_eq_true rfl) (Nat.le_of_ble_eq_true rfl) dX0_init_7 (fun q_1 H L_2 kap_3 S_4 hG hW => ?_)
  have hTy := hG.ty hTy (okc_20 ⟨_, rfl, fun j _ => ⟨0, by decide, rfl⟩⟩)
  have hS_h0 := hG.at hT_h0.1 hS_h0
  have hT_h0 := hG.tk hT_h0
  have hnq_q_1 := fun (a : Nat) (h : a ∈ L) => EX_nq hEX hG.1 h
  have hSP := SP_gr hSP hG (STPQ_n (by decide))
  have hEX := EX_gr hEX hG
  have hT_q_1 := hG.new
  have hS_q_1 := hG.self
  have hU : ∀ a k, USP k → TK L_2 kap_3 a k → TK L kap a k ∨ (fun (a k : Nat) => False) a k := U_gr hU hG (fun _ _ h => False.elim h) (fun h => absurd h (by decide))
  refine W.widen (k := 1) (n := 40) (Nat.le_of_ble_eq_true rfl) (Nat.le_of_ble_eq_true rfl) ?_
  refine pl_putF (ci := 0) (v := .ref q_1) (ty := .array .int) (C := RX0) (T := TX0) (N := 8) (fs' := [.ref q_1, .null, .null, .null, .null, .null, .int 0, .int 0]) hx hb hT iX0 tyX0 tyX0_ok nmX0 hown hK hW hT_h0.1 hS_h0 rfl 0 (by decide) w88 rfl hin rfl (by decide +kernel) rfl rfl (Nat.le_of_ble_eq_true rfl) rfl dX0_init_9 (fun H locs S_5 e1 hW => ?_)
  have hTy := hTy.up e1 hT_h0 okc_99
  have hSP := SP_up hSP e1 hT_h0 (STPQ_n (by decide))
  have hS_h0 := us e1
  have hEX := EX_put hEX e1 (fun _ _ h => h)
  refine lv_aload_n hx hb dX0_init_12 rfl (lv_at hl 0 rfl) ?_
  refine lv_bipush (v := 40) hx hb dX0_init_13 (by decide) ?_
  refine pl_newa (kap := kap_3) (k := 20) (atype := .int) (ty := .int) (a0 := (40, .inl (fun _ => 0))) (n := 40) (N' := 40) hx hb (hT _ w77) rfl hK hW hA 0 rfl (fun _ => rfl) (by decide) (by decide) (Nat.le_of_ble_eq_true rfl) (Nat.le_of_ble_eq_true rfl) (Nat.le_of_ble_eq_true rfl) dX0_init_15 (fun q_6 H L_7 kap_8 S_9 hG hW => ?_)
  have hTy := hG.ty hTy (okc_20 ⟨_, rfl, fun j _ => ⟨0, by decide, rfl⟩⟩)
  have hS_h0 := hG.at hT_h0.1 hS_h0
  have hT_h0 := hG.tk hT_h0
  have hT_q_1 := hG.tk hT_q_1
  have hnq_q_6 := fun (a : Nat) (h : a ∈ L) => EX_nq hEX hG.1 h
  have hSP := SP_gr hSP hG (STPQ_n (by decide))
  have hEX := EX_gr hEX hG
  have hT_q_6 := hG.new
  have hS_q_6 := hG.self
  have hU : ∀ a k, USP k → TK L_7 kap_8 a k → TK L kap a k ∨ (fun (a k : Nat) => False) a k := U_gr hU hG (fun _ _ h => False.elim h) (fun h => absurd h (by decide))
  refine W.widen (k := 2) (n := 80) (Nat.le_of_ble_eq_true rfl) (Nat.le_of_ble_eq_true rfl) ?_
  refine pl_putF (ci := 0) (v := .ref q_6) (ty := .array .int) (C := RX0) (T := TX0) (N := 8) (fs' := [.ref q_1, .ref q_6, .null, .null, .null, .null, .int 0, .int 0]) hx hb hT iX0 tyX0 tyX0_ok nmX0 hown hK hW hT_h0.1 hS_h0 rfl 1 (by decide) w92 rfl hin rfl (by decide +kernel) rfl rfl (Nat.le_of_ble_eq_true rfl) rfl dX0_init_17 (fun H locs S_10 e1 hW => ?_)
  have hTy := hTy.up e1 hT_h0 okc_99
  have hSP := SP_up hSP e1 hT_h0 (STPQ_n (by decide))
  have hS_h0 := us e1
  have hEX := EX_put hEX e1 (fun _ _ h => h)
  refine lv_aload_n hx hb dX0_init_20 rfl (lv_at hl 0 rfl) ?_
  refine lv_bipush (v := 40) hx hb dX0_init_21 (by decide) ?_
  refine pl_newa (kap := kap_8) (k := 21) (atype := .int) (ty := .int) (a0 := (40, .inl (fun _ => 0))) (n := 40) (N' := 40) hx hb (hT _ w77) rfl hK hW hA 0 rfl (fun _ => rfl) (by decide) (by decide) (Nat.le_of_ble_eq_true rfl) (Nat.le_of_ble_eq_true rfl) (Nat.le_of_ble_eq_true rfl) dX0_init_23 (fun q_11 H L_12 kap_13 S_14 hG hW => ?_)
  have hTy := hG.ty hTy (okc_21 ⟨_, rfl, fun j _ => ⟨0, by decide, rfl⟩⟩)
  have hS_h0 := hG.at hT_h0.1 hS_h0
  have hT_h0 := hG.tk hT_h0
  have hT_q_1 := hG.tk hT_q_1
  have hT_q_6 := hG.tk hT_q_6
  have hnq_q_11 := fun (a : Nat) (h : a ∈ L) => EX_nq hEX hG.1 h
  have hSP := SP_gr hSP hG (STPQ_n (by decide))
  have hEX := EX_gr hEX hG
  have hT_q_11 := hG.new
  have hS_q_11 := hG.self
  have hU : ∀ a k, USP k → TK L_12 kap_13 a k → TK L kap a k ∨ (fun (a k : Nat) => False) a k := U_gr hU hG (fun _ _ h => False.elim h) (fun h => absurd h (by decide))
  refine W.widen (k := 3) (n := 120) (Nat.le_of_ble_eq_true rfl) (Nat.le_of_ble_eq_true rfl) ?_
  refine pl_putF (ci := 0) (v := .ref q_11) (ty := .array .int) (C := RX0) (T := TX0) (N := 8) (fs' := [.ref q_1, .ref q_6, .ref q_11, .null, .null, .null, .int 0, .int 0]) hx hb hT iX0 tyX0 tyX0_ok nmX0 hown hK hW hT_h0.1 hS_h0 rfl 2 (by decide) w96 rfl hin rfl (by decide +kernel) rfl rfl (Nat.le_of_ble_eq_true rfl) rfl dX0_init_25 (fun H locs S_15 e1 hW => ?_)
  have hTy := hTy.up e1 hT_h0 okc_99
  have hSP := SP_up hSP e1 hT_h0 (STPQ_n (by decide))
  have hS_h0 := us e1
  have hEX := EX_put hEX e1 (fun _ _ h => h)
  refine lv_aload_n hx hb dX0_init_28 rfl (lv_at hl 0 rfl) ?_
  refine lv_bipush (v := 40) hx hb dX0_init_29 (by decide) ?_
  refine pl_newa (kap := kap_13) (k := 22) (atype := .long) (ty := .long) (a0 := (40, .inr (.inl (fun _ => 0)))) (n := 40) (N' := 40) hx hb (hT _ w137) rfl hK hW hA 1 rfl (fun _ => rfl) (by decide) (by decide) (Nat.le_of_ble_eq_true rfl) (Nat.le_of_ble_eq_true rfl) (Nat.le_of_ble_eq_true rfl) dX0_init_31 (fun q_16 H L_17 kap_18 S_19 hG hW => ?_)
  have hTy := hG.ty hTy (okc_22 ⟨_, rfl⟩)
  have hS_h0 := hG.at hT_h0.1 hS_h0
  have hT_h0 := hG.tk hT_h0
  have hT_q_1 := hG.tk hT_q_1
  have hT_q_6 := hG.tk hT_q_6
  have hT_q_11 := hG.tk hT_q_11
  have hnq_q_16 := fun (a : Nat) (h : a ∈ L) => EX_nq hEX hG.1 h
  have hSP := SP_gr hSP hG (STPQ_n (by decide))
  have hEX := EX_gr hEX hG
  have hT_q_16 := hG.new
  have hS_q_16 := hG.self
  have hU : ∀ a k, USP k → TK L_17 kap_18 a k → TK L kap a k ∨ (fun (a k : Nat) => False) a k := U_gr hU hG (fun _ _ h => False.elim h) (fun h => absurd h (by decide))
  refine W.widen (k := 4) (n := 160) (Nat.le_of_ble_eq_true rfl) (Nat.le_of_ble_eq_true rfl) ?_
  refine pl_putF (ci := 0) (v := .ref q_16) (ty := .array .long) (C := RX0) (T := TX0) (N := 8) (fs' := [.ref q_1, .ref q_6, .ref q_11, .ref q_16, .null, .null, .int 0, .int 0]) hx hb hT iX0 tyX0 tyX0_ok nmX0 hown hK hW hT_h0.1 hS_h0 rfl 3 (by decide) w100 rfl hin rfl (by decide +kernel) rfl rfl (Nat.le_of_ble_eq_true rfl) rfl dX0_init_33 (fun H locs S_20 e1 hW => ?_)
  have hTy := hTy.up e1 hT_h0 okc_99
  have hSP := SP_up hSP e1 hT_h0 (STPQ_n (by decide))
  have hS_h0 := us e1
  have hEX := EX_put hEX e1 (fun _ _ h => h)
  refine lv_aload_n hx hb dX0_init_36 rfl (lv_at hl 0 rfl) ?_
  refine lv_bipush (v := 40) hx hb dX0_init_37 (by decide) ?_
  refine pl_newa (kap := kap_18) (k := 23) (atype := .boolean) (ty := .boolean) (a0 := (40, .inl (fun _ => 0))) (n := 40) (N' := 40) hx hb (hT _ w138) rfl hK hW hA 3 rfl (fun _ => rfl) (by decide) (by decide) (Nat.le_of_ble_eq_true rfl) (Nat.le_of_ble_eq_true rfl) (Nat.le_of_ble_eq_true rfl) dX0_init_39 (fun q_21 H L_22 kap_23 S_24 hG hW => ?_)
  have hTy := hG.ty hTy (okc_23 ⟨_, rfl⟩)
  have hS_h0 := hG.at hT_h0.1 hS_h0
  have hT_h0 := hG.tk hT_h0
  have hT_q_1 := hG.tk hT_q_1
  have hT_q_6 := hG.tk hT_q_6
  have hT_q_11 := hG.tk hT_q_11
  have hT_q_16 := hG.tk hT_q_16
  have hnq_q_21 := fun (a : Nat) (h : a ∈ L) => EX_nq hEX hG.1 h
  have hSP := SP_gr hSP hG (STPQ_n (by decide))
  have hEX := EX_gr hEX hG
  have hT_q_21 := hG.new
  have hS_q_21 := hG.self
  have hU : ∀ a k, USP k → TK L_22 kap_23 a k → TK L kap a k ∨ (fun (a k : Nat) => False) a k := U_gr hU hG (fun _ _ h => False.elim h) (fun h => absurd h (by decide))
  refine W.widen (k := 5) (n := 200) (Nat.le_of_ble_eq_true rfl) (Nat.le_of_ble_eq_true rfl) ?_
  refine pl_putF (ci := 0) (v := .ref q_21) (ty := .array .boolean) (C := RX0) (T := TX0) (N := 8) (fs' := [.ref q_1, .ref q_6, .ref q_11, .ref q_16, .ref q_21, .null, .int 0, .int 0]) hx hb hT iX0 tyX0 tyX0_ok nmX0 hown hK hW hT_h0.1 hS_h0 rfl 4 (by decide) w104 rfl hin rfl (by decide +kernel) rfl rfl (Nat.le_of_ble_eq_true rfl) rfl dX0_init_41 (fun H locs S_25 e1 hW => ?_)
  have hTy := hTy.up e1 hT_h0 okc_99
  have hSP := SP_up hSP e1 hT_h0 (STPQ_n (by decide))
  have hS_h0 := us e1
  have hEX := EX_put hEX e1 (fun _ _ h => h)
  refine lv_aload_n hx hb dX0_init_44 rfl (lv_at hl 0 rfl) ?_
  refine lv_bipush (v := 64) hx hb dX0_init_45 (by decide) ?_
  refine pl_newa (kap := kap_23) (k := 24) (atype := .int) (ty := .int) (a0 := (64, .inl (fun _ => 0))) (n := 64) (N' := 64) hx hb (hT _ w77) rfl hK hW hA 0 rfl (fun _ => rfl) (by decide) (by decide) (Nat.le_of_ble_eq_true rfl) (Nat.le_of_ble_eq_true rfl) (Nat.le_of_ble_eq_true rfl) dX0_init_47 (fun q_26 H L_27 kap_28 S_29 hG hW => ?_)
  have hTy := hG.ty hTy (okc_24 ⟨_, rfl⟩)
  have hS_h0 := hG.at hT_h0.1 hS_h0
  have hT_h0 := hG.tk hT_h0
  have hT_q_1 := hG.tk hT_q_1
  have hT_q_6 := hG.tk hT_q_6
  have hT_q_11 := hG.tk hT_q_11
  have hT_q_16 := hG.tk hT_q_16
  have hT_q_21 := hG.tk hT_q_21
  have hnq_q_26 := fun (a : Nat) (h : a ∈ L) => EX_nq hEX hG.1 h
  have hSP := SP_gr hSP hG (STPQ_n (by decide))
  have hEX := EX_gr hEX hG
  have hT_q_26 := hG.new
  have hS_q_26 := hG.self
  have hU : ∀ a k, USP k → TK L_27 kap_28 a k → TK L kap a k ∨ (fun (a k : Nat) => False) a k := U_gr hU hG (fun _ _ h => False.elim h) (fun h => absurd h (by decide))
  refine W.widen (k := 6) (n := 264) (Nat.le_of_ble_eq_true rfl) (Nat.le_of_ble_eq_true rfl) ?_
  refine pl_putF (ci := 0) (v := .ref q_26) (ty := .array .int) (C := RX0) (T := TX0) (N := 8) (fs' := [.ref q_1, .ref q_6, .ref q_11, .ref q_16, .ref q_21, .ref q_26, .int 0, .int 0]) hx hb hT iX0 tyX0 tyX0_ok nmX0 hown hK hW hT_h0.1 hS_h0 rfl 5 (by decide) w109 rfl hin rfl (by decide +kernel) rfl rfl (Nat.le_of_ble_eq_true rfl) rfl dX0_init_49 (fun H locs S_30 e1 hW => ?_)
  have hTy := hTy.up e1 hT_h0 okc_99
  have hSP := SP_up hSP e1 hT_h0 (STPQ_n (by decide))
  have hS_h0 := us e1
  have hEX := EX_put hEX e1 (fun _ _ h => h)
  refine lv_aload_n hx hb dX0_init_52 rfl (lv_at hl 0 rfl) ?_
  refine pl_get (ci := 0) (v := .ref q_26) (C := RX0) (T := TX0) (N := 8) hx hb hT iX0 hown hK hW hT_h0.1 hS_h0 rfl 5 (by decide) w109 rfl dX0_init_53 ?_
  refine lv_ldc (v := 99999999) hx hb hown (hT _ w84) dX0_init_56 ?_
  refine pl_callv (va_runS (As := [.ref q_26, .int 99999999]) (rest := []) ⟨hx, hb, hml, hown, hT⟩ (s_bclear0 l dC dI cy L_27 kap_28 (0, 0) S_30 H.size q_26 99999999 hTy hT_q_26) (va_cwS 2 hT (gS w85 w86 w6 w87) rfl rfl rfl (by decide +kernel) ⟨(Nat.le_of_ble_eq_true rfl), (Nat.le_of_ble_eq_true rfl)⟩) ⟨pcN.blind, pcN.pre hW.1 hK hW.2.1 (fun q h => hN q (List.mem_append_left _ h)) (fun q h => absurd h List.not_mem_nil)⟩ rfl rfl hl.1 rfl (lv_room (Nat.le_of_ble_eq_true rfl)) dX0_init_58 ⟨(Nat.le_of_ble_eq_true rfl), (Nat.le_of_ble_eq_true rfl)⟩) hW (fun q h => PW_A hW h) hA (fun S_31 H locs hrel hW => ?_)
  obtain ⟨hTy, hF1⟩ := hrel
  have hEX := EX_fr hEX hF1 (by decide)
  have hSP := SP_fr hSP hF1 (by decide) (by decide) (by decide) (by decide)
  have hS_h0 := hF1.at hT_h0 (by decide) hS_h0
  obtain ⟨kap_32, hk1⟩ : ∃ g : Nat → Nat, g = kup kap_28 h0 0 := ⟨_, rfl⟩
  have hT_q_1 := TK_ret hk1 hT_q_1 (fun z => absurd (hT_q_1.2.symm.trans ((congrArg kap_28 z).trans hT_h0.2)) (by decide))
  have hT_q_6 := TK_ret hk1 hT_q_6 (fun z => absurd (hT_q_6.2.symm.trans ((congrArg kap_28 z).trans hT_h0.2)) (by decide))
  have hT_q_11 := TK_ret hk1 hT_q_11 (fun z => absurd (hT_q_11.2.symm.trans ((congrArg kap_28 z).trans hT_h0.2)) (by decide))
  have hT_q_16 := TK_ret hk1 hT_q_16 (fun z => absurd (hT_q_16.2.symm.trans ((congrArg kap_28 z).trans hT_h0.2)) (by decide))
  have hT_q_21 := TK_ret hk1 hT_q_21 (fun z => absurd (hT_q_21.2.symm.trans ((congrArg kap_28 z).trans hT_h0.2)) (by decide))
  have hT_q_26 := TK_ret hk1 hT_q_26 (fun z => absurd (hT_q_26.2.symm.trans ((congrArg kap_28 z).trans hT_h0.2)) (by decide))
  have hTa_ := hT_h0
  have hT_h0 := TK_rets hk1 hTa_.1
  have hTy := hTy.ret hk1 hTa_ (by rw [hS_h0]; exact okc_0 ⟨q_1, q_6, q_11, q_16, q_21, q_26, 0, 0, rfl, hT_q_1, hT_q_6, hT_q_11, hT_q_16, hT_q_21, hT_q_26, (by decide)⟩)
  have hEX := EX_ret hEX hk1 (fun _ _ h => h)
  have hSP := SP_ret hSP hk1 (STPQ_n (by decide))
  have hU : ∀ a k, USP k → TK L_27 kap_32 a k → TK L kap a k ∨ (fun (a k : Nat) => False) a k := U_ret hU hk1 (fun _ _ h => False.elim h) (fun h => absurd h (by decide))
  refine W.widen (k := 6) (n := 264) (Nat.le_of_ble_eq_true rfl) (Nat.le_of_ble_eq_true rfl) ?_
  exact W.vret hx hb hr (fun t ht h9 => ⟨⟨(L_27, kap_32, S_31), rfl, ⟨hTy, hSP, hEX, hT_h0, hU⟩, by rw [ht]; exact hW.1, va_K.moved h9.alike hK, hW.2.1⟩, hW.2.2.F ht⟩) hW.2.2.2.2 dX0_init_61

set_option maxHeartbeats 4000000 in
set_option maxRecDepth 100000 in
theorem n_Book46 (l : Launch) (dC : Nat → ClassId) (dI : Nat → Nat → Nat) (cy : Nat → ClassId) (L : List Nat) (kap : Nat → Nat) (S : Nat → va_E) (sz : Nat) (h0 : Nat) (hTy : Ty cy L kap (0, 0) S) (hSP : SPI L kap S) (hT_h0 : TK L kap h0 99) (hS_h0 : S h0 = .inr (0, [.null, .null, .null, .null, .null, .null, .int 0, .int 0])) : Met l yX0_init (wT yX0_init cX0_init 1 none) ({ frames := 1, cells := 6, slots := 264, locals := 23 }) (pcN dC dI [.ref h0] sz (va_pl L S) (cyT cy) NLk [RX0]) (va_Qv (fun (u : KU) => Ty cy u.1 u.2.1 (0, 0) u.2.2 ∧ SPI u.1 u.2.1 u.2.2 ∧ EXT L kap S h0 u ∧ TK u.1 u.2.1 h0 46 ∧ (∀ a k, USP k → TK u.1 u.2.1 a k → TK L kap a k ∨ (fun (a k : Nat) => False) a k)) (fun u t => pB dC dI (AL L sz) (va_pl u.1 u.2.2) (cyT cy) t) (AL L sz)) 6 264 (AL L sz) := by
  refine Met.ofW (cc := cX0_init) (maxL := 1) (ret := none) (by decide) rfl ?_
  intro p e s m args below meth c s₁ B hml hv
  obtain ⟨rfl, hsz, hP, hK, hD0, hN, hO⟩ := hv
  have hx := B.exec
  have hb := B.bytes
  have hr := B.returns
  have hT : ∀ wd ∈ TB, wd.before [.ref h0].toArray s = true := fun wd h => atoms_spec (ws := wT yX0_init cX0_init 1 none) B.pre wd (List.mem_cons_of_mem _ h)
  have hown : s.vm.findClass RX0 = some m.cls := findClass_of_methodNamed B.named
  have hlocks := B.notSynchronized
  have hin : meth.name = "<init>" := (name_of_methodNamed B.named B.method).1
  subst hsz
  have hW : PW dC dI L (AL L s.heap.size) s.heap S s.heap [] := ⟨hP, pl_self hD0, va_S.rf⟩
  have hA : ∀ q, s.heap.size ≤ q → AL L s.heap.size q := fun _ h => Or.inr h
  have hEX : EXT L kap S h0 (L, kap, S) := EX_0 hT_h0.1
  have hU : ∀ a k, USP k → TK L kap a k → TK L kap a k ∨ (fun (a k : Nat) => False) a k := fun a k _ h => Or.inl h
  have hl := lv_entry ([.ref h0]) (n := 1) (Nat.le_of_ble_eq_true rfl)
  rw [lg_entry_eq]
  generalize (lg_sl ([.ref h0]) ++ List.replicate (1 - (lg_sl ([.ref h0])).length) Slot.unset).toArray = ls at hl ⊢
  have hl : lv_has ls 1 [(0, .ref h0)] := hl
  refine lv_aload_n hx hb dX0_init_0 rfl (lv_at hl 0 rfl) ?_
  refine W.objInit hx hb hown (hT _ w83) (hT _ w28) (hT _ w29) rfl (by rw [hml]; exact hl.1) rfl dX0_init_1 (Nat.le_of_ble_eq_true rfl) (Nat.le_of_ble_eq_true rfl) ?_
  refine W.eq (g2 := F0 m 4 ls []) rfl ?_
  refine lv_aload_n hx hb dX0_init_4 rfl (lv_at hl 0 rfl) ?_
  refine lv_bipush (v := 40) hx hb dX0_init_5 (by decide) ?_
  refine pl_newa (kap := kap) (k := 20) (atype := .int) (ty := .int) (a0 := (40, .inl (fun _ => 0))) (n := 40) (N' := 40) hx hb (hT _ w77) rfl hK hW hA 0 rfl (fun _ => rfl) (by decide) (by decide) (Nat.le_of_ble_eq_true rfl) (Nat.le_of_ble_eq_true rfl) (Nat.le_of_ble_eq_true rfl) dX0_init_7 (fun q_1 H L_2 kap_3 S_4 hG hW => ?_)
  have hTy := hG.ty hTy (okc_20 ⟨_, rfl, fun j _ => ⟨0, by decide, rfl⟩⟩)
  have hS_h0 := hG.at hT_h0.1 hS_h0
  have hT_h0 := hG.tk hT_h0
  have hnq_q_1 := fun (a : Nat) (h : a ∈ L) => EX_nq hEX hG.1 h
  have hSP := SP_gr hSP hG (STPQ_n (by decide))
  have hEX := EX_gr hEX hG
  have hT_q_1 := hG.new
  have hS_q_1 := hG.self
  have hU : ∀ a k, USP k → TK L_2 kap_3 a k → TK L kap a k ∨ (fun (a k : Nat) => False) a k := U_gr hU hG (fun _ _ h => False.elim h) (fun h => absurd h (by decide))
  refine W.widen (k := 1) (n := 40) (Nat.le_of_ble_eq_true rfl) (Nat.le_of_ble_eq_true rfl) ?_
  refine pl_putF (ci := 0) (v := .ref q_1) (ty := .array .int) (C := RX0) (T := TX0) (N := 8) (fs' := [.ref q_1, .null, .null, .null, .null, .null, .int 0, .int 0]) hx hb hT iX0 tyX0 tyX0_ok nmX0 hown hK hW hT_h0.1 hS_h0 rfl 0 (by decide) w88 rfl hin rfl (by decide +kernel) rfl rfl (Nat.le_of_ble_eq_true rfl) rfl dX0_init_9 (fun H locs S_5 e1 hW => ?_)
  have hTy := hTy.up e1 hT_h0 okc_99
  have hSP := SP_up hSP e1 hT_h0 (STPQ_n (by decide))
  have hS_h0 := us e1
  have hEX := EX_put hEX e1 (fun _ _ h => h)
  refine lv_aload_n hx hb dX0_init_12 rfl (lv_at hl 0 rfl) ?_
  refine lv_bipush (v := 40) hx hb dX0_init_13 (by decide) ?_
  refine pl_newa (kap := kap_3) (k := 20) (atype := .int) (ty := .int) (a0 := (40, .inl (fun _ => 0))) (n := 40) (N' := 40) hx hb (hT _ w77) rfl hK hW hA 0 rfl (fun _ => rfl) (by decide) (by decide) (Nat.le_of_ble_eq_true rfl) (Nat.le_of_ble_eq_true rfl) (Nat.le_of_ble_eq_true rfl) dX0_init_15 (fun q_6 H L_7 kap_8 S_9 hG hW => ?_)
  have hTy := hG.ty hTy (okc_20 ⟨_, rfl, fun j _ => ⟨0, by decide, rfl⟩⟩)
  have hS_h0 := hG.at hT_h0.1 hS_h0
  have hT_h0 := hG.tk hT_h0
  have hT_q_1 := hG.tk hT_q_1
  have hnq_q_6 := fun (a : Nat) (h : a ∈ L) => EX_nq hEX hG.1 h
  have hSP := SP_gr hSP hG (STPQ_n (by decide))
  have hEX := EX_gr hEX hG
  have hT_q_6 := hG.new
  have hS_q_6 := hG.self
  have hU : ∀ a k, USP k → TK L_7 kap_8 a k → TK L kap a k ∨ (fun (a k : Nat) => False) a k := U_gr hU hG (fun _ _ h => False.elim h) (fun h => absurd h (by decide))
  refine W.widen (k := 2) (n := 80) (Nat.le_of_ble_eq_true rfl) (Nat.le_of_ble_eq_true rfl) ?_
  refine pl_putF (ci := 0) (v := .ref q_6) (ty := .array .int) (C := RX0) (T := TX0) (N := 8) (fs' := [.ref q_1, .ref q_6, .null, .null, .null, .null, .int 0, .int 0]) hx hb hT iX0 tyX0 tyX0_ok nmX0 hown hK hW hT_h0.1 hS_h0 rfl 1 (by decide) w92 rfl hin rfl (by decide +kernel) rfl rfl (Nat.le_of_ble_eq_true rfl) rfl dX0_init_17 (fun H locs S_10 e1 hW => ?_)
  have hTy := hTy.up e1 hT_h0 okc_99
  have hSP := SP_up hSP e1 hT_h0 (STPQ_n (by decide))
  have hS_h0 := us e1
  have hEX := EX_put hEX e1 (fun _ _ h => h)
  refine lv_aload_n hx hb dX0_init_20 rfl (lv_at hl 0 rfl) ?_
  refine lv_bipush (v := 40) hx hb dX0_init_21 (by decide) ?_
  refine pl_newa (kap := kap_8) (k := 21) (atype := .int) (ty := .int) (a0 := (40, .inl (fun _ => 0))) (n := 40) (N' := 40) hx hb (hT _ w77) rfl hK hW hA 0 rfl (fun _ => rfl) (by decide) (by decide) (Nat.le_of_ble_eq_true rfl) (Nat.le_of_ble_eq_true rfl) (Nat.le_of_ble_eq_true rfl) dX0_init_23 (fun q_11 H L_12 kap_13 S_14 hG hW => ?_)
  have hTy := hG.ty hTy (okc_21 ⟨_, rfl, fun j _ => ⟨0, by decide, rfl⟩⟩)
  have hS_h0 := hG.at hT_h0.1 hS_h0
  have hT_h0 := hG.tk hT_h0
  have hT_q_1 := hG.tk hT_q_1
  have hT_q_6 := hG.tk hT_q_6
  have hnq_q_11 := fun (a : Nat) (h : a ∈ L) => EX_nq hEX hG.1 h
  have hSP := SP_gr hSP hG (STPQ_n (by decide))
  have hEX := EX_gr hEX hG
  have hT_q_11 := hG.new
  have hS_q_11 := hG.self
  have hU : ∀ a k, USP k → TK L_12 kap_13 a k → TK L kap a k ∨ (fun (a k : Nat) => False) a k := U_gr hU hG (fun _ _ h => False.elim h) (fun h => absurd h (by decide))
  refine W.widen (k := 3) (n := 120) (Nat.le_of_ble_eq_true rfl) (Nat.le_of_ble_eq_true rfl) ?_
  refine pl_putF (ci := 0) (v := .ref q_11) (ty := .array .int) (C := RX0) (T := TX0) (N := 8) (fs' := [.ref q_1, .ref q_6, .ref q_11, .null, .null, .null, .int 0, .int 0]) hx hb hT iX0 tyX0 tyX0_ok nmX0 hown hK hW hT_h0.1 hS_h0 rfl 2 (by decide) w96 rfl hin rfl (by decide +kernel) rfl rfl (Nat.le_of_ble_eq_true rfl) rfl dX0_init_25 (fun H locs S_15 e1 hW => ?_)
  have hTy := hTy.up e1 hT_h0 okc_99
  have hSP := SP_up hSP e1 hT_h0 (STPQ_n (by decide))
  have hS_h0 := us e1
  have hEX := EX_put hEX e1 (fun _ _ h => h)
  refine lv_aload_n hx hb dX0_init_28 rfl (lv_at hl 0 rfl) ?_
  refine lv_bipush (v := 40) hx hb dX0_init_29 (by decide) ?_
  refine pl_newa (kap := kap_13) (k := 22) (atype := .long) (ty := .long) (a0 := (40, .inr (.inl (fun _ => 0)))) (n := 40) (N' := 40) hx hb (hT _ w137) rfl hK hW hA 1 rfl (fun _ => rfl) (by decide) (by decide) (Nat.le_of_ble_eq_true rfl) (Nat.le_of_ble_eq_true rfl) (Nat.le_of_ble_eq_true rfl) dX0_init_31 (fun q_16 H L_17 kap_18 S_19 hG hW => ?_)
  have hTy := hG.ty hTy (okc_22 ⟨_, rfl⟩)
  have hS_h0 := hG.at hT_h0.1 hS_h0
  have hT_h0 := hG.tk hT_h0
  have hT_q_1 := hG.tk hT_q_1
  have hT_q_6 := hG.tk hT_q_6
  have hT_q_11 := hG.tk hT_q_11
  have hnq_q_16 := fun (a : Nat) (h : a ∈ L) => EX_nq hEX hG.1 h
  have hSP := SP_gr hSP hG (STPQ_n (by decide))
  have hEX := EX_gr hEX hG
  have hT_q_16 := hG.new
  have hS_q_16 := hG.self
  have hU : ∀ a k, USP k → TK L_17 kap_18 a k → TK L kap a k ∨ (fun (a k : Nat) => False) a k := U_gr hU hG (fun _ _ h => False.elim h) (fun h => absurd h (by decide))
  refine W.widen (k := 4) (n := 160) (Nat.le_of_ble_eq_true rfl) (Nat.le_of_ble_eq_true rfl) ?_
  refine pl_putF (ci := 0) (v := .ref q_16) (ty := .array .long) (C := RX0) (T := TX0) (N := 8) (fs' := [.ref q_1, .ref q_6, .ref q_11, .ref q_16, .null, .null, .int 0, .int 0]) hx hb hT iX0 tyX0 tyX0_ok nmX0 hown hK hW hT_h0.1 hS_h0 rfl 3 (by decide) w100 rfl hin rfl (by decide +kernel) rfl rfl (Nat.le_of_ble_eq_true rfl) rfl dX0_init_33 (fun H locs S_20 e1 hW => ?_)
  have hTy := hTy.up e1 hT_h0 okc_99
  have hSP := SP_up hSP e1 hT_h0 (STPQ_n (by decide))
  have hS_h0 := us e1
  have hEX := EX_put hEX e1 (fun _ _ h => h)
  refine lv_aload_n hx hb dX0_init_36 rfl (lv_at hl 0 rfl) ?_
  refine lv_bipush (v := 40) hx hb dX0_init_37 (by decide) ?_
  refine pl_newa (kap := kap_18) (k := 23) (atype := .boolean) (ty := .boolean) (a0 := (40, .inl (fun _ => 0))) (n := 40) (N' := 40) hx hb (hT _ w138) rfl hK hW hA 3 rfl (fun _ => rfl) (by decide) (by decide) (Nat.le_of_ble_eq_true rfl) (Nat.le_of_ble_eq_true rfl) (Nat.le_of_ble_eq_true rfl) dX0_init_39 (fun q_21 H L_22 kap_23 S_24 hG hW => ?_)
  have hTy := hG.ty hTy (okc_23 ⟨_, rfl⟩)
  have hS_h0 := hG.at hT_h0.1 hS_h0
  have hT_h0 := hG.tk hT_h0
  have hT_q_1 := hG.tk hT_q_1
  have hT_q_6 := hG.tk hT_q_6
  have hT_q_11 := hG.tk hT_q_11
  have hT_q_16 := hG.tk hT_q_16
  have hnq_q_21 := fun (a : Nat) (h : a ∈ L) => EX_nq hEX hG.1 h
  have hSP := SP_gr hSP hG (STPQ_n (by decide))
  have hEX := EX_gr hEX hG
  have hT_q_21 := hG.new
  have hS_q_21 := hG.self
  have hU : ∀ a k, USP k → TK L_22 kap_23 a k → TK L kap a k ∨ (fun (a k : Nat) => False) a k := U_gr hU hG (fun _ _ h => False.elim h) (fun h => absurd h (by decide))
  refine W.widen (k := 5) (n := 200) (Nat.le_of_ble_eq_true rfl) (Nat.le_of_ble_eq_true rfl) ?_
  refine pl_putF (ci := 0) (v := .ref q_21) (ty := .array .boolean) (C := RX0) (T := TX0) (N := 8) (fs' := [.ref q_1, .ref q_6, .ref q_11, .ref q_16, .ref q_21, .null, .int 0, .int 0]) hx hb hT iX0 tyX0 tyX0_ok nmX0 hown hK hW hT_h0.1 hS_h0 rfl 4 (by decide) w104 rfl hin rfl (by decide +kernel) rfl rfl (Nat.le_of_ble_eq_true rfl) rfl dX0_init_41 (fun H locs S_25 e1 hW => ?_)
  have hTy := hTy.up e1 hT_h0 okc_99
  have hSP := SP_up hSP e1 hT_h0 (STPQ_n (by decide))
  have hS_h0 := us e1
  have hEX := EX_put hEX e1 (fun _ _ h => h)
  refine lv_aload_n hx hb dX0_init_44 rfl (lv_at hl 0 rfl) ?_
  refine lv_bipush (v := 64) hx hb dX0_init_45 (by decide) ?_
  refine pl_newa (kap := kap_23) (k := 24) (atype := .int) (ty := .int) (a0 := (64, .inl (fun _ => 0))) (n := 64) (N' := 64) hx hb (hT _ w77) rfl hK hW hA 0 rfl (fun _ => rfl) (by decide) (by decide) (Nat.le_of_ble_eq_true rfl) (Nat.le_of_ble_eq_true rfl) (Nat.le_of_ble_eq_true rfl) dX0_init_47 (fun q_26 H L_27 kap_28 S_29 hG hW => ?_)
  have hTy := hG.ty hTy (okc_24 ⟨_, rfl⟩)
  have hS_h0 := hG.at hT_h0.1 hS_h0
  have hT_h0 := hG.tk hT_h0
  have hT_q_1 := hG.tk hT_q_1
  have hT_q_6 := hG.tk hT_q_6
  have hT_q_11 := hG.tk hT_q_11
  have hT_q_16 := hG.tk hT_q_16
  have hT_q_21 := hG.tk hT_q_21
  have hnq_q_26 := fun (a : Nat) (h : a ∈ L) => EX_nq hEX hG.1 h
  have hSP := SP_gr hSP hG (STPQ_n (by decide))
  have hEX := EX_gr hEX hG
  have hT_q_26 := hG.new
  have hS_q_26 := hG.self
  have hU : ∀ a k, USP k → TK L_27 kap_28 a k → TK L kap a k ∨ (fun (a k : Nat) => False) a k := U_gr hU hG (fun _ _ h => False.elim h) (fun h => absurd h (by decide))
  refine W.widen (k := 6) (n := 264) (Nat.le_of_ble_eq_true rfl) (Nat.le_of_ble_eq_true rfl) ?_
  refine pl_putF (ci := 0) (v := .ref q_26) (ty := .array .int) (C := RX0) (T := TX0) (N := 8) (fs' := [.ref q_1, .ref q_6, .ref q_11, .ref q_16, .ref q_21, .ref q_26, .int 0, .int 0]) hx hb hT iX0 tyX0 tyX0_ok nmX0 hown hK hW hT_h0.1 hS_h0 rfl 5 (by decide) w109 rfl hin rfl (by decide +kernel) rfl rfl (Nat.le_of_ble_eq_true rfl) rfl dX0_init_49 (fun H locs S_30 e1 hW => ?_)
  have hTy := hTy.up e1 hT_h0 okc_99
  have hSP := SP_up hSP e1 hT_h0 (STPQ_n (by decide))
  have hS_h0 := us e1
  have hEX := EX_put hEX e1 (fun _ _ h => h)
  refine lv_aload_n hx hb dX0_init_52 rfl (lv_at hl 0 rfl) ?_
  refine pl_get (ci := 0) (v := .ref q_26) (C := RX0) (T := TX0) (N := 8) hx hb hT iX0 hown hK hW hT_h0.1 hS_h0 rfl 5 (by decide) w109 rfl dX0_init_53 ?_
  refine lv_ldc (v := 99999999) hx hb hown (hT _ w84) dX0_init_56 ?_
  refine pl_callv (va_runS (As := [.ref q_26, .int 99999999]) (rest := []) ⟨hx, hb, hml, hown, hT⟩ (s_bclear0 l dC dI cy L_27 kap_28 (0, 0) S_30 H.size q_26 99999999 hTy hT_q_26) (va_cwS 2 hT (gS w85 w86 w6 w87) rfl rfl rfl (by decide +kernel) ⟨(Nat.le_of_ble_eq_true rfl), (Nat.le_of_ble_eq_true rfl)⟩) ⟨pcN.blind, pcN.pre hW.1 hK hW.2.1 (fun q h => hN q (List.mem_append_left _ h)) (fun q h => absurd h List.not_mem_nil)⟩ rfl rfl hl.1 rfl (lv_room (Nat.le_of_ble_eq_true rfl)) dX0_init_58 ⟨(Nat.le_of_ble_eq_true rfl), (Nat.le_of_ble_eq_true rfl)⟩) hW (fun q h => PW_A hW h) hA (fun S_31 H locs hrel hW => ?_)
  obtain ⟨hTy, hF1⟩ := hrel
  have hEX := EX_fr hEX hF1 (by decide)
  have hSP := SP_fr hSP hF1 (by decide) (by decide) (by decide) (by decide)
  have hS_h0 := hF1.at hT_h0 (by decide) hS_h0
  obtain ⟨kap_32, hk1⟩ : ∃ g : Nat → Nat, g = kup kap_28 h0 46 := ⟨_, rfl⟩
  have hT_q_1 := TK_ret hk1 hT_q_1 (fun z => absurd (hT_q_1.2.symm.trans ((congrArg kap_28 z).trans hT_h0.2)) (by decide))
  have hT_q_6 := TK_ret hk1 hT_q_6 (fun z => absurd (hT_q_6.2.symm.trans ((congrArg kap_28 z).trans hT_h0.2)) (by decide))
  have hT_q_11 := TK_ret hk1 hT_q_11 (fun z => absurd (hT_q_11.2.symm.trans ((congrArg kap_28 z).trans hT_h0.2)) (by decide))
  have hT_q_16 := TK_ret hk1 hT_q_16 (fun z => absurd (hT_q_16.2.symm.trans ((congrArg kap_28 z).trans hT_h0.2)) (by decide))
  have hT_q_21 := TK_ret hk1 hT_q_21 (fun z => absurd (hT_q_21.2.symm.trans ((congrArg kap_28 z).trans hT_h0.2)) (by decide))
  have hT_q_26 := TK_ret hk1 hT_q_26 (fun z => absurd (hT_q_26.2.symm.trans ((congrArg kap_28 z).trans hT_h0.2)) (by decide))
  have hTa_ := hT_h0
  have hT_h0 := TK_rets hk1 hTa_.1
  have hTy := hTy.ret hk1 hTa_ (by rw [hS_h0]; exact okc_46 ⟨q_1, q_6, q_11, q_16, q_21, q_26, 0, 0, rfl, hT_q_1, hT_q_6, hT_q_11, hT_q_16, hT_q_21, hT_q_26, (by decide)⟩)
  have hEX := EX_ret hEX hk1 (fun _ _ h => h)
  have hSP := SP_ret hSP hk1 (STPQ_n (by decide))
  have hU : ∀ a k, USP k → TK L_27 kap_32 a k → TK L kap a k ∨ (fun (a k : Nat) => False) a k := U_ret hU hk1 (fun _ _ h => False.elim h) (fun h => absurd h (by decide))
  refine W.widen (k := 6) (n := 264) (Nat.le_of_ble_eq_true rfl) (Nat.le_of_ble_eq_true rfl) ?_
  exact W.vret hx hb hr (fun t ht h9 => ⟨⟨(L_27, kap_32, S_31), rfl, ⟨hTy, hSP, hEX, hT_h0, hU⟩, by rw [ht]; exact hW.1, va_K.moved h9.alike hK, hW.2.1⟩, hW.2.2.F ht⟩) hW.2.2.2.2 dX0_init_61

set_option maxHeartbeats 4000000 in
set_option maxRecDepth 100000 in
theorem n_Names (l : Launch) (dC : Nat → ClassId) (dI : Nat → Nat → Nat) (cy : Nat → ClassId) (L : List Nat) (kap : Nat → Nat) (S : Nat → va_E) (sz : Nat) (h0 : Nat) (hTy : Ty cy L kap (0, 0) S) (hSP : SPI L kap S) (hT_h0 : TK L kap h0 99) (hS_h0 : S h0 = .inr (3, [.null, .null, .int 0, .int 0])) : Met l yX3_init (wT yX3_init cX3_init 1 none) ({ frames := 1, cells := 2, slots := 108, locals := 12 }) (pcN dC dI [.ref h0] sz (va_pl L S) (cyT cy) NLk [RX0]) (va_Qv (fun (u : KU) => Ty cy u.1 u.2.1 (0, 0) u.2.2 ∧ SPI u.1 u.2.1 u.2.2 ∧ EXT L kap S h0 u ∧ TK u.1 u.2.1 h0 3 ∧ (∀ a k, USP k → TK u.1 u.2.1 a k → TK L kap a k ∨ (fun (a k : Nat) => False) a k)) (fun u t => pB dC dI (AL L sz) (va_pl u.1 u.2.2) (cyT cy) t) (AL L sz)) 2 108 (AL L sz) := by
  refine Met.ofW (cc := cX3_init) (maxL := 1) (ret := none) (by decide) rfl ?_
  intro p e s m args below meth c s₁ B hml hv
  obtain ⟨rfl, hsz, hP, hK, hD0, hN, hO⟩ := hv
  have hx := B.exec
  have hb := B.bytes
  have hr := B.returns
  have hT : ∀ wd ∈ TB, wd.before [.ref h0].toArray s = true := fun wd h => atoms_spec (ws := wT yX3_init cX3_init 1 none) B.pre wd (List.mem_cons_of_mem _ h)
  have hown : s.vm.findClass RX3 = some m.cls := findClass_of_methodNamed B.named
  have hlocks := B.notSynchronized
  have hin : meth.name = "<init>" := (name_of_methodNamed B.named B.method).1
  subst hsz
  have hW : PW dC dI L (AL L s.heap.size) s.heap S s.heap [] := ⟨hP, pl_self hD0, va_S.rf⟩
  have hA : ∀ q, s.heap.size ≤ q → AL L s.heap.size q := fun _ h => Or.inr h
  have hEX : EXT L kap S h0 (L, kap, S) := EX_0 hT_h0.1
  have hU : ∀ a k, USP k → TK L kap a k → TK L kap a k ∨ (fun (a k : Nat) => False) a k := fun a k _ h => Or.inl h
  have hl := lv_entry ([.ref h0]) (n := 1) (Nat.le_of_ble_eq_true rfl)
  rw [lg_entry_eq]
  generalize (lg_sl ([.ref h0]) ++ List.replicate (1 - (lg_sl ([.ref h0])).length) Slot.unset).toArray = ls at hl ⊢
  have hl : lv_has ls 1 [(0, .ref h0)] := hl
  refine lv_aload_n hx hb dX3_init_0 rfl (lv_at hl 0 rfl) ?_
  refine W.objInit hx hb hown (hT _ w57) (hT _ w28) (hT _ w29) rfl (by rw [hml]; exact hl.1) rfl dX3_init_1 (Nat.le_of_ble_eq_true rfl) (Nat.le_of_ble_eq_true rfl) ?_
  refine W.eq (g2 := F0 m 4 ls []) rfl ?_
  refine lv_aload_n hx hb dX3_init_4 rfl (lv_at hl 0 rfl) ?_
  refine lv_bipush (v := 96) hx hb dX3_init_5 (by decide) ?_
  refine pl_newa (kap := kap) (k := 25) (atype := .byte) (ty := .byte) (a0 := (96, .inl (fun _ => 0))) (n := 96) (N' := 96) hx hb (hT _ w45) rfl hK hW hA 2 rfl (fun _ => rfl) (by decide) (by decide) (Nat.le_of_ble_eq_true rfl) (Nat.le_of_ble_eq_true rfl) (Nat.le_of_ble_eq_true rfl) dX3_init_7 (fun q_1 H L_2 kap_3 S_4 hG hW => ?_)
  have hTy := hG.ty hTy (okc_25 ⟨_, rfl⟩)
  have hS_h0 := hG.at hT_h0.1 hS_h0
  have hT_h0 := hG.tk hT_h0
  have hnq_q_1 := fun (a : Nat) (h : a ∈ L) => EX_nq hEX hG.1 h
  have hSP := SP_gr hSP hG (STPQ_n (by decide))
  have hEX := EX_gr hEX hG
  have hT_q_1 := hG.new
  have hS_q_1 := hG.self
  have hU : ∀ a k, USP k → TK L_2 kap_3 a k → TK L kap a k ∨ (fun (a k : Nat) => False) a k := U_gr hU hG (fun _ _ h => False.elim h) (fun h => absurd h (by decide))
  refine W.widen (k := 1) (n := 96) (Nat.le_of_ble_eq_true rfl) (Nat.le_of_ble_eq_true rfl) ?_
  refine pl_putF (ci := 3) (v := .ref q_1) (ty := .array .byte) (C := RX3) (T := TX3) (N := 4) (fs' := [.ref q_1, .null, .int 0, .int 0]) hx hb hT iX3 tyX3 tyX3_ok nmX3 hown hK hW hT_h0.1 hS_h0 rfl 0 (by decide) w58 rfl hin rfl (by decide +kernel) rfl rfl (Nat.le_of_ble_eq_true rfl) rfl dX3_init_9 (fun H locs S_5 e1 hW => ?_)
  have hTy := hTy.up e1 hT_h0 okc_99
  have hSP := SP_up hSP e1 hT_h0 (STPQ_n (by decide))
  have hS_h0 := us e1
  have hEX := EX_put hEX e1 (fun _ _ h => h)
  refine lv_aload_n hx hb dX3_init_12 rfl (lv_at hl 0 rfl) ?_
  refine lv_bipush (v := 12) hx hb dX3_init_13 (by decide) ?_
  refine pl_newa (kap := kap_3) (k := 26) (atype := .int) (ty := .int) (a0 := (12, .inl (fun _ => 0))) (n := 12) (N' := 12) hx hb (hT _ w77) rfl hK hW hA 0 rfl (fun _ => rfl) (by decide) (by decide) (Nat.le_of_ble_eq_true rfl) (Nat.le_of_ble_eq_true rfl) (Nat.le_of_ble_eq_true rfl) dX3_init_15 (fun q_6 H L_7 kap_8 S_9 hG hW => ?_)
  have hTy := hG.ty hTy (okc_26 ⟨_, rfl, fun j _ => ⟨0, by decide, rfl⟩⟩)
  have hS_h0 := hG.at hT_h0.1 hS_h0
  have hT_h0 := hG.tk hT_h0
  have hT_q_1 := hG.tk hT_q_1
  have hnq_q_6 := fun (a : Nat) (h : a ∈ L) => EX_nq hEX hG.1 h
  have hSP := SP_gr hSP hG (STPQ_n (by decide))
  have hEX := EX_gr hEX hG
  have hT_q_6 := hG.new
  have hS_q_6 := hG.self
  have hU : ∀ a k, USP k → TK L_7 kap_8 a k → TK L kap a k ∨ (fun (a k : Nat) => False) a k := U_gr hU hG (fun _ _ h => False.elim h) (fun h => absurd h (by decide))
  refine W.widen (k := 2) (n := 108) (Nat.le_of_ble_eq_true rfl) (Nat.le_of_ble_eq_true rfl) ?_
  refine pl_putF (ci := 3) (v := .ref q_6) (ty := .array .int) (C := RX3) (T := TX3) (N := 4) (fs' := [.ref q_1, .ref q_6, .int 0, .int 0]) hx hb hT iX3 tyX3 tyX3_ok nmX3 hown hK hW hT_h0.1 hS_h0 rfl 1 (by decide) w60 rfl hin rfl (by decide +kernel) rfl rfl (Nat.le_of_ble_eq_true rfl) rfl dX3_init_17 (fun H locs S_10 e1 hW => ?_)
  have hTy := hTy.up e1 hT_h0 okc_99
  have hSP := SP_up hSP e1 hT_h0 (STPQ_n (by decide))
  have hS_h0 := us e1
  have hEX := EX_put hEX e1 (fun _ _ h => h)
  obtain ⟨kap_11, hk1⟩ : ∃ g : Nat → Nat, g = kup kap_8 h0 3 := ⟨_, rfl⟩
  have hT_q_1 := TK_ret hk1 hT_q_1 (fun z => absurd (hT_q_1.2.symm.trans ((congrArg kap_8 z).trans hT_h0.2)) (by decide))
  have hT_q_6 := TK_ret hk1 hT_q_6 (fun z => absurd (hT_q_6.2.symm.trans ((congrArg kap_8 z).trans hT_h0.2)) (by decide))
  have hTa_ := hT_h0
  have hT_h0 := TK_rets hk1 hTa_.1
  have hTy := hTy.ret hk1 hTa_ (by rw [hS_h0]; exact okc_3 ⟨q_1, q_6, 0, 0, rfl, hT_q_1, hT_q_6, (by decide), (by decide)⟩)
  have hEX := EX_ret hEX hk1 (fun _ _ h => h)
  have hSP := SP_ret hSP hk1 (STPQ_n (by decide))
  have hU : ∀ a k, USP k → TK L_7 kap_11 a k → TK L kap a k ∨ (fun (a k : Nat) => False) a k := U_ret hU hk1 (fun _ _ h => False.elim h) (fun h => absurd h (by decide))
  refine W.widen (k := 2) (n := 108) (Nat.le_of_ble_eq_true rfl) (Nat.le_of_ble_eq_true rfl) ?_
  exact W.vret hx hb hr (fun t ht h9 => ⟨⟨(L_7, kap_11, S_10), rfl, ⟨hTy, hSP, hEX, hT_h0, hU⟩, by rw [ht]; exact hW.1, va_K.moved h9.alike hK, hW.2.1⟩, hW.2.2.F ht⟩) hW.2.2.2.2 dX3_init_20

set_option maxHeartbeats 4000000 in
set_option maxRecDepth 100000 in
theorem n_Tape (l : Launch) (dC : Nat → ClassId) (dI : Nat → Nat → Nat) (cy : Nat → ClassId) (L : List Nat) (kap : Nat → Nat) (S : Nat → va_E) (sz : Nat) (h0 : Nat) (hTy : Ty cy L kap (0, 0) S) (hSP : SPI L kap S) (hT_h0 : TK L kap h0 99) (hS_h0 : S h0 = .inr (10, [.null, .int 0])) : Met l yX10_init (wT yX10_init cX10_init 1 none) ({ frames := 1, cells := 1, slots := 900, locals := 12 }) (pcN dC dI [.ref h0] sz (va_pl L S) (cyT cy) NLk [RX0]) (va_Qv (fun (u : KU) => Ty cy u.1 u.2.1 (0, 0) u.2.2 ∧ SPI u.1 u.2.1 u.2.2 ∧ EXT L kap S h0 u ∧ TK u.1 u.2.1 h0 10 ∧ (∃ t27 : Nat, ∀ a k, USP k → TK u.1 u.2.1 a k → TK L kap a k ∨ (fun (a k : Nat) => (k = 27 ∧ a = t27) ∨ (k = 10 ∧ a = h0)) a k)) (fun u t => pB dC dI (AL L sz) (va_pl u.1 u.2.2) (cyT cy) t) (AL L sz)) 1 900 (AL L sz) := by
  refine Met.ofW (cc := cX10_init) (maxL := 1) (ret := none) (by decide) rfl ?_
  intro p e s m args below meth c s₁ B hml hv
  obtain ⟨rfl, hsz, hP, hK, hD0, hN, hO⟩ := hv
  have hx := B.exec
  have hb := B.bytes
  have hr := B.returns
  have hT : ∀ wd ∈ TB, wd.before [.ref h0].toArray s = true := fun wd h => atoms_spec (ws := wT yX10_init cX10_init 1 none) B.pre wd (List.mem_cons_of_mem _ h)
  have hown : s.vm.findClass RX10 = some m.cls := findClass_of_methodNamed B.named
  have hlocks := B.notSynchronized
  have hin : meth.name = "<init>" := (name_of_methodNamed B.named B.method).1
  subst hsz
  have hW : PW dC dI L (AL L s.heap.size) s.heap S s.heap [] := ⟨hP, pl_self hD0, va_S.rf⟩
  have hA : ∀ q, s.heap.size ≤ q → AL L s.heap.size q := fun _ h => Or.inr h
  have hEX : EXT L kap S h0 (L, kap, S) := EX_0 hT_h0.1
  have hU : ∀ a k, USP k → TK L kap a k → TK L kap a k ∨ (fun (a k : Nat) => False) a k := fun a k _ h => Or.inl h
  have hl := lv_entry ([.ref h0]) (n := 1) (Nat.le_of_ble_eq_true rfl)
  rw [lg_entry_eq]
  generalize (lg_sl ([.ref h0]) ++ List.replicate (1 - (lg_sl ([.ref h0])).length) Slot.unset).toArray = ls at hl ⊢
  have hl : lv_has ls 1 [(0, .ref h0)] := hl
  refine lv_aload_n hx hb dX10_init_0 rfl (lv_at hl 0 rfl) ?_
  refine W.objInit hx hb hown (hT _ w35) (hT _ w28) (hT _ w29) rfl (by rw [hml]; exact hl.1) rfl dX10_init_1 (Nat.le_of_ble_eq_true rfl) (Nat.le_of_ble_eq_true rfl) ?_
  refine W.eq (g2 := F0 m 4 ls []) rfl ?_
  refine lv_aload_n hx hb dX10_init_4 rfl (lv_at hl 0 rfl) ?_
  refine lv_sipush (v := 900) hx hb dX10_init_5 (by decide) ?_
  refine pl_newa (kap := kap) (k := 27) (atype := .byte) (ty := .byte) (a0 := (900, .inl (fun _ => 0))) (n := 900) (N' := 900) hx hb (hT _ w45) rfl hK hW hA 2 rfl (fun _ => rfl) (by decide) (by decide) (Nat.le_of_ble_eq_true rfl) (Nat.le_of_ble_eq_true rfl) (Nat.le_of_ble_eq_true rfl) dX10_init_8 (fun q_1 H L_2 kap_3 S_4 hG hW => ?_)
  have hTy := hG.ty hTy (okc_27 ⟨_, rfl⟩)
  have hS_h0 := hG.at hT_h0.1 hS_h0
  have hT_h0 := hG.tk hT_h0
  have hnq_q_1 := fun (a : Nat) (h : a ∈ L) => EX_nq hEX hG.1 h
  have hSP := SP_gr hSP hG ⟨fun _ => rfl, fun h => absurd h (by decide), fun h => absurd h (by decide)⟩
  have hEX := EX_gr hEX hG
  have hT_q_1 := hG.new
  have hS_q_1 := hG.self
  have hU : ∀ a k, USP k → TK L_2 kap_3 a k → TK L kap a k ∨ (fun (a k : Nat) => (k = 27 ∧ a = q_1)) a k := U_gr hU hG (fun _ _ h => False.elim h) (fun _ => ⟨rfl, rfl⟩)
  refine W.widen (k := 1) (n := 900) (Nat.le_of_ble_eq_true rfl) (Nat.le_of_ble_eq_true rfl) ?_
  refine pl_putF (ci := 10) (v := .ref q_1) (ty := .array .byte) (C := RX10) (T := TX10) (N := 2) (fs' := [.ref q_1, .int 0]) hx hb hT iX10 tyX10 tyX10_ok nmX10 hown hK hW hT_h0.1 hS_h0 rfl 0 (by decide) w36 rfl hin rfl (by decide +kernel) rfl rfl (Nat.le_of_ble_eq_true rfl) rfl dX10_init_10 (fun H locs S_5 e1 hW => ?_)
  have hTy := hTy.up e1 hT_h0 okc_99
  have hSP := SP_up hSP e1 hT_h0 (STPQ_n (by decide))
  have hS_h0 := us e1
  have hEX := EX_put hEX e1 (fun _ _ h => h)
  obtain ⟨kap_6, hk1⟩ : ∃ g : Nat → Nat, g = kup kap_3 h0 10 := ⟨_, rfl⟩
  have hT_q_1 := TK_ret hk1 hT_q_1 (fun z => absurd (hT_q_1.2.symm.trans ((congrArg kap_3 z).trans hT_h0.2)) (by decide))
  have hTa_ := hT_h0
  have hT_h0 := TK_rets hk1 hTa_.1
  have hTy := hTy.ret hk1 hTa_ (by rw [hS_h0]; exact okc_10 ⟨q_1, rfl, hT_q_1, (by decide)⟩)
  have hEX := EX_ret hEX hk1 (fun _ _ h => h)
  have hSP := SP_ret hSP hk1 (STPQ_n (by decide))
  have hU : ∀ a k, USP k → TK L_2 kap_6 a k → TK L kap a k ∨ (fun (a k : Nat) => (k = 27 ∧ a = q_1) ∨ (k = 10 ∧ a = h0)) a k := U_ret hU hk1 (fun _ _ h => Or.inl h) (fun _ => Or.inr (⟨rfl, rfl⟩))
  refine W.widen (k := 1) (n := 900) (Nat.le_of_ble_eq_true rfl) (Nat.le_of_ble_eq_true rfl) ?_
  exact W.vret hx hb hr (fun t ht h9 => ⟨⟨(L_2, kap_6, S_5), rfl, ⟨hTy, hSP, hEX, hT_h0, q_1, hU⟩, by rw [ht]; exact hW.1, va_K.moved h9.alike hK, hW.2.1⟩, hW.2.2.F ht⟩) hW.2.2.2.2 dX10_init_13

set_option maxHeartbeats 4000000 in
set_option maxRecDepth 100000 in
theorem n_Flows (l : Launch) (dC : Nat → ClassId) (dI : Nat → Nat → Nat) (cy : Nat → ClassId) (L : List Nat) (kap : Nat → Nat) (S : Nat → va_E) (sz : Nat) (h0 : Nat) (hTy : Ty cy L kap (0, 0) S) (hSP : SPI L kap S) (hT_h0 : TK L kap h0 99) (hS_h0 : S h0 = .inr (1, [.null, .int 0])) : Met l yX1_init (wT yX1_init cX1_init 1 none) ({ frames := 1, cells := 1, slots := 64, locals := 12 }) (pcN dC dI [.ref h0] sz (va_pl L S) (cyT cy) NLk [RX0]) (va_Qv (fun (u : KU) => Ty cy u.1 u.2.1 (0, 0) u.2.2 ∧ SPI u.1 u.2.1 u.2.2 ∧ EXT L kap S h0 u ∧ TK u.1 u.2.1 h0 1 ∧ (∀ a k, USP k → TK u.1 u.2.1 a k → TK L kap a k ∨ (fun (a k : Nat) => False) a k)) (fun u t => pB dC dI (AL L sz) (va_pl u.1 u.2.2) (cyT cy) t) (AL L sz)) 1 64 (AL L sz) := by
  refine Met.ofW (cc := cX1_init) (maxL := 1) (ret := none) (by decide) rfl ?_
  intro p e s m args below meth c s₁ B hml hv
  obtain ⟨rfl, hsz, hP, hK, hD0, hN, hO⟩ := hv
  have hx := B.exec
  have hb := B.bytes
  have hr := B.returns
  have hT : ∀ wd ∈ TB, wd.before [.ref h0].toArray s = true := fun wd h => atoms_spec (ws := wT yX1_init cX1_init 1 none) B.pre wd (List.mem_cons_of_mem _ h)
  have hown : s.vm.findClass RX1 = some m.cls := findClass_of_methodNamed B.named
  have hlocks := B.notSynchronized
  have hin : meth.name = "<init>" := (name_of_methodNamed B.named B.method).1
  subst hsz
  have hW : PW dC dI L (AL L s.heap.size) s.heap S s.heap [] := ⟨hP, pl_self hD0, va_S.rf⟩
  have hA : ∀ q, s.heap.size ≤ q → AL L s.heap.size q := fun _ h => Or.inr h
  have hEX : EXT L kap S h0 (L, kap, S) := EX_0 hT_h0.1
  have hU : ∀ a k, USP k → TK L kap a k → TK L kap a k ∨ (fun (a k : Nat) => False) a k := fun a k _ h => Or.inl h
  have hl := lv_entry ([.ref h0]) (n := 1) (Nat.le_of_ble_eq_true rfl)
  rw [lg_entry_eq]
  generalize (lg_sl ([.ref h0]) ++ List.replicate (1 - (lg_sl ([.ref h0])).length) Slot.unset).toArray = ls at hl ⊢
  have hl : lv_has ls 1 [(0, .ref h0)] := hl
  refine lv_aload_n hx hb dX1_init_0 rfl (lv_at hl 0 rfl) ?_
  refine W.objInit hx hb hown (hT _ w196) (hT _ w28) (hT _ w29) rfl (by rw [hml]; exact hl.1) rfl dX1_init_1 (Nat.le_of_ble_eq_true rfl) (Nat.le_of_ble_eq_true rfl) ?_
  refine W.eq (g2 := F0 m 4 ls []) rfl ?_
  refine lv_aload_n hx hb dX1_init_4 rfl (lv_at hl 0 rfl) ?_
  refine lv_bipush (v := 64) hx hb dX1_init_5 (by decide) ?_
  refine pl_newa (kap := kap) (k := 29) (atype := .long) (ty := .long) (a0 := (64, .inr (.inl (fun _ => 0)))) (n := 64) (N' := 64) hx hb (hT _ w137) rfl hK hW hA 1 rfl (fun _ => rfl) (by decide) (by decide) (Nat.le_of_ble_eq_true rfl) (Nat.le_of_ble_eq_true rfl) (Nat.le_of_ble_eq_true rfl) dX1_init_7 (fun q_1 H L_2 kap_3 S_4 hG hW => ?_)
  have hTy := hG.ty hTy (okc_29 ⟨_, rfl⟩)
  have hS_h0 := hG.at hT_h0.1 hS_h0
  have hT_h0 := hG.tk hT_h0
  have hnq_q_1 := fun (a : Nat) (h : a ∈ L) => EX_nq hEX hG.1 h
  have hSP := SP_gr hSP hG (STPQ_n (by decide))
  have hEX := EX_gr hEX hG
  have hT_q_1 := hG.new
  have hS_q_1 := hG.self
  have hU : ∀ a k, USP k → TK L_2 kap_3 a k → TK L kap a k ∨ (fun (a k : Nat) => False) a k := U_gr hU hG (fun _ _ h => False.elim h) (fun h => absurd h (by decide))
  refine W.widen (k := 1) (n := 64) (Nat.le_of_ble_eq_true rfl) (Nat.le_of_ble_eq_true rfl) ?_
  refine pl_putF (ci := 1) (v := .ref q_1) (ty := .array .long) (C := RX1) (T := TX1) (N := 2) (fs' := [.ref q_1, .int 0]) hx hb hT iX1 tyX1 tyX1_ok nmX1 hown hK hW hT_h0.1 hS_h0 rfl 0 (by decide) w197 rfl hin rfl (by decide +kernel) rfl rfl (Nat.le_of_ble_eq_true rfl) rfl dX1_init_9 (fun H locs S_5 e1 hW => ?_)
  have hTy := hTy.up e1 hT_h0 okc_99
  have hSP := SP_up hSP e1 hT_h0 (STPQ_n (by decide))
  have hS_h0 := us e1
  have hEX := EX_put hEX e1 (fun _ _ h => h)
  obtain ⟨kap_6, hk1⟩ : ∃ g : Nat → Nat, g = kup kap_3 h0 1 := ⟨_, rfl⟩
  have hT_q_1 := TK_ret hk1 hT_q_1 (fun z => absurd (hT_q_1.2.symm.trans ((congrArg kap_3 z).trans hT_h0.2)) (by decide))
  have hTa_ := hT_h0
  have hT_h0 := TK_rets hk1 hTa_.1
  have hTy := hTy.ret hk1 hTa_ (by rw [hS_h0]; exact okc_1 ⟨q_1, 0, rfl, hT_q_1, (by decide)⟩)
  have hEX := EX_ret hEX hk1 (fun _ _ h => h)
  have hSP := SP_ret hSP hk1 (STPQ_n (by decide))
  have hU : ∀ a k, USP k → TK L_2 kap_6 a k → TK L kap a k ∨ (fun (a k : Nat) => False) a k := U_ret hU hk1 (fun _ _ h => False.elim h) (fun h => absurd h (by decide))
  refine W.widen (k := 1) (n := 64) (Nat.le_of_ble_eq_true rfl) (Nat.le_of_ble_eq_true rfl) ?_
  exact W.vret hx hb hr (fun t ht h9 => ⟨⟨(L_2, kap_6, S_5), rfl, ⟨hTy, hSP, hEX, hT_h0, hU⟩, by rw [ht]; exact hW.1, va_K.moved h9.alike hK, hW.2.1⟩, hW.2.2.F ht⟩) hW.2.2.2.2 dX1_init_12

set_option maxHeartbeats 4000000 in
set_option maxRecDepth 100000 in
theorem n_Rings (l : Launch) (dC : Nat → ClassId) (dI : Nat → Nat → Nat) (cy : Nat → ClassId) (L : List Nat) (kap : Nat → Nat) (S : Nat → va_E) (sz : Nat) (h0 : Nat) (hTy : Ty cy L kap (0, 0) S) (hSP : SPI L kap S) (hT_h0 : TK L kap h0 99) (hS_h0 : S h0 = .inr (7, [.null, .int 0, .long 0, .int 0, .null, .null])) : Met l yX7_init (wT yX7_init cX7_init 1 none) ({ frames := 1, cells := 3, slots := 24, locals := 12 }) (pcN dC dI [.ref h0] sz (va_pl L S) (cyT cy) NLk [RX0]) (va_Qv (fun (u : KU) => Ty cy u.1 u.2.1 (0, 0) u.2.2 ∧ SPI u.1 u.2.1 u.2.2 ∧ EXT L kap S h0 u ∧ TK u.1 u.2.1 h0 7 ∧ (∀ a k, USP k → TK u.1 u.2.1 a k → TK L kap a k ∨ (fun (a k : Nat) => False) a k)) (fun u t => pB dC dI (AL L sz) (va_pl u.1 u.2.2) (cyT cy) t) (AL L sz)) 3 24 (AL L sz) := by
  refine Met.ofW (cc := cX7_init) (maxL := 1) (ret := none) (by decide) rfl ?_
  intro p e s m args below meth c s₁ B hml hv
  obtain ⟨rfl, hsz, hP, hK, hD0, hN, hO⟩ := hv
  have hx := B.exec
  have hb := B.bytes
  have hr := B.returns
  have hT : ∀ wd ∈ TB, wd.before [.ref h0].toArray s = true := fun wd h => atoms_spec (ws := wT yX7_init cX7_init 1 none) B.pre wd (List.mem_cons_of_mem _ h)
  have hown : s.vm.findClass RX7 = some m.cls := findClass_of_methodNamed B.named
  have hlocks := B.notSynchronized
  have hin : meth.name = "<init>" := (name_of_methodNamed B.named B.method).1
  subst hsz
  have hW : PW dC dI L (AL L s.heap.size) s.heap S s.heap [] := ⟨hP, pl_self hD0, va_S.rf⟩
  have hA : ∀ q, s.heap.size ≤ q → AL L s.heap.size q := fun _ h => Or.inr h
  have hEX : EXT L kap S h0 (L, kap, S) := EX_0 hT_h0.1
  have hU : ∀ a k, USP k → TK L kap a k → TK L kap a k ∨ (fun (a k : Nat) => False) a k := fun a k _ h => Or.inl h
  have hl := lv_entry ([.ref h0]) (n := 1) (Nat.le_of_ble_eq_true rfl)
  rw [lg_entry_eq]
  generalize (lg_sl ([.ref h0]) ++ List.replicate (1 - (lg_sl ([.ref h0])).length) Slot.unset).toArray = ls at hl ⊢
  have hl : lv_has ls 1 [(0, .ref h0)] := hl
  refine lv_aload_n hx hb dX7_init_0 rfl (lv_at hl 0 rfl) ?_
  refine W.objInit hx hb hown (hT _ w215) (hT _ w28) (hT _ w29) rfl (by rw [hml]; exact hl.1) rfl dX7_init_1 (Nat.le_of_ble_eq_true rfl) (Nat.le_of_ble_eq_true rfl) ?_
  refine W.eq (g2 := F0 m 4 ls []) rfl ?_
  refine lv_aload_n hx hb dX7_init_4 rfl (lv_at hl 0 rfl) ?_
  refine lv_bipush (v := 8) hx hb dX7_init_5 (by decide) ?_
  refine pl_newa (kap := kap) (k := 42) (atype := .int) (ty := .int) (a0 := (8, .inl (fun _ => 0))) (n := 8) (N' := 8) hx hb (hT _ w77) rfl hK hW hA 0 rfl (fun _ => rfl) (by decide) (by decide) (Nat.le_of_ble_eq_true rfl) (Nat.le_of_ble_eq_true rfl) (Nat.le_of_ble_eq_true rfl) dX7_init_7 (fun q_1 H L_2 kap_3 S_4 hG hW => ?_)
  have hTy := hG.ty hTy (okc_42 ⟨_, rfl, fun j _ => ⟨0, by decide, rfl⟩⟩)
  have hS_h0 := hG.at hT_h0.1 hS_h0
  have hT_h0 := hG.tk hT_h0
  have hnq_q_1 := fun (a : Nat) (h : a ∈ L) => EX_nq hEX hG.1 h
  have hSP := SP_gr hSP hG (STPQ_n (by decide))
  have hEX := EX_gr hEX hG
  have hT_q_1 := hG.new
  have hS_q_1 := hG.self
  have hU : ∀ a k, USP k → TK L_2 kap_3 a k → TK L kap a k ∨ (fun (a k : Nat) => False) a k := U_gr hU hG (fun _ _ h => False.elim h) (fun h => absurd h (by decide))
  refine W.widen (k := 1) (n := 8) (Nat.le_of_ble_eq_true rfl) (Nat.le_of_ble_eq_true rfl) ?_
  refine pl_putF (ci := 7) (v := .ref q_1) (ty := .array .int) (C := RX7) (T := TX7) (N := 6) (fs' := [.ref q_1, .int 0, .long 0, .int 0, .null, .null]) hx hb hT iX7 tyX7 tyX7_ok nmX7 hown hK hW hT_h0.1 hS_h0 rfl 0 (by decide) w216 rfl hin rfl (by decide +kernel) rfl rfl (Nat.le_of_ble_eq_true rfl) rfl dX7_init_9 (fun H locs S_5 e1 hW => ?_)
  have hTy := hTy.up e1 hT_h0 okc_99
  have hSP := SP_up hSP e1 hT_h0 (STPQ_n (by decide))
  have hS_h0 := us e1
  have hEX := EX_put hEX e1 (fun _ _ h => h)
  refine lv_aload_n hx hb dX7_init_12 rfl (lv_at hl 0 rfl) ?_
  refine lv_bipush (v := 8) hx hb dX7_init_13 (by decide) ?_
  refine pl_newa (kap := kap_3) (k := 32) (atype := .int) (ty := .int) (a0 := (8, .inl (fun _ => 0))) (n := 8) (N' := 8) hx hb (hT _ w77) rfl hK hW hA 0 rfl (fun _ => rfl) (by decide) (by decide) (Nat.le_of_ble_eq_true rfl) (Nat.le_of_ble_eq_true rfl) (Nat.le_of_ble_eq_true rfl) dX7_init_15 (fun q_6 H L_7 kap_8 S_9 hG hW => ?_)
  have hTy := hG.ty hTy (okc_32 ⟨_, rfl, fun j _ => Or.inr ⟨0, by decide, rfl⟩⟩)
  have hS_h0 := hG.at hT_h0.1 hS_h0
  have hT_h0 := hG.tk hT_h0
  have hT_q_1 := hG.tk hT_q_1
  have hnq_q_6 := fun (a : Nat) (h : a ∈ L) => EX_nq hEX hG.1 h
  have hSP := SP_gr hSP hG (STPQ_n (by decide))
  have hEX := EX_gr hEX hG
  have hT_q_6 := hG.new
  have hS_q_6 := hG.self
  have hU : ∀ a k, USP k → TK L_7 kap_8 a k → TK L kap a k ∨ (fun (a k : Nat) => False) a k := U_gr hU hG (fun _ _ h => False.elim h) (fun h => absurd h (by decide))
  refine W.widen (k := 2) (n := 16) (Nat.le_of_ble_eq_true rfl) (Nat.le_of_ble_eq_true rfl) ?_
  refine pl_putF (ci := 7) (v := .ref q_6) (ty := .array .int) (C := RX7) (T := TX7) (N := 6) (fs' := [.ref q_1, .int 0, .long 0, .int 0, .ref q_6, .null]) hx hb hT iX7 tyX7 tyX7_ok nmX7 hown hK hW hT_h0.1 hS_h0 rfl 4 (by decide) w224 rfl hin rfl (by decide +kernel) rfl rfl (Nat.le_of_ble_eq_true rfl) rfl dX7_init_17 (fun H locs S_10 e1 hW => ?_)
  have hTy := hTy.up e1 hT_h0 okc_99
  have hSP := SP_up hSP e1 hT_h0 (STPQ_n (by decide))
  have hS_h0 := us e1
  have hEX := EX_put hEX e1 (fun _ _ h => h)
  refine lv_aload_n hx hb dX7_init_20 rfl (lv_at hl 0 rfl) ?_
  refine lv_bipush (v := 8) hx hb dX7_init_21 (by decide) ?_
  refine pl_newa (kap := kap_8) (k := 31) (atype := .int) (ty := .int) (a0 := (8, .inl (fun _ => 0))) (n := 8) (N' := 8) hx hb (hT _ w77) rfl hK hW hA 0 rfl (fun _ => rfl) (by decide) (by decide) (Nat.le_of_ble_eq_true rfl) (Nat.le_of_ble_eq_true rfl) (Nat.le_of_ble_eq_true rfl) dX7_init_23 (fun q_11 H L_12 kap_13 S_14 hG hW => ?_)
  have hTy := hG.ty hTy (okc_31 ⟨_, rfl, fun j _ => ⟨0, by decide, rfl⟩⟩)
  have hS_h0 := hG.at hT_h0.1 hS_h0
  have hT_h0 := hG.tk hT_h0
  have hT_q_1 := hG.tk hT_q_1
  have hT_q_6 := hG.tk hT_q_6
  have hnq_q_11 := fun (a : Nat) (h : a ∈ L) => EX_nq hEX hG.1 h
  have hSP := SP_gr hSP hG (STPQ_n (by decide))
  have hEX := EX_gr hEX hG
  have hT_q_11 := hG.new
  have hS_q_11 := hG.self
  have hU : ∀ a k, USP k → TK L_12 kap_13 a k → TK L kap a k ∨ (fun (a k : Nat) => False) a k := U_gr hU hG (fun _ _ h => False.elim h) (fun h => absurd h (by decide))
  refine W.widen (k := 3) (n := 24) (Nat.le_of_ble_eq_true rfl) (Nat.le_of_ble_eq_true rfl) ?_
  refine pl_putF (ci := 7) (v := .ref q_11) (ty := .array .int) (C := RX7) (T := TX7) (N := 6) (fs' := [.ref q_1, .int 0, .long 0, .int 0, .ref q_6, .ref q_11]) hx hb hT iX7 tyX7 tyX7_ok nmX7 hown hK hW hT_h0.1 hS_h0 rfl 5 (by decide) w225 rfl hin rfl (by decide +kernel) rfl rfl (Nat.le_of_ble_eq_true rfl) rfl dX7_init_25 (fun H locs S_15 e1 hW => ?_)
  have hTy := hTy.up e1 hT_h0 okc_99
  have hSP := SP_up hSP e1 hT_h0 (STPQ_n (by decide))
  have hS_h0 := us e1
  have hEX := EX_put hEX e1 (fun _ _ h => h)
  obtain ⟨kap_16, hk1⟩ : ∃ g : Nat → Nat, g = kup kap_13 h0 7 := ⟨_, rfl⟩
  have hT_q_1 := TK_ret hk1 hT_q_1 (fun z => absurd (hT_q_1.2.symm.trans ((congrArg kap_13 z).trans hT_h0.2)) (by decide))
  have hT_q_6 := TK_ret hk1 hT_q_6 (fun z => absurd (hT_q_6.2.symm.trans ((congrArg kap_13 z).trans hT_h0.2)) (by decide))
  have hT_q_11 := TK_ret hk1 hT_q_11 (fun z => absurd (hT_q_11.2.symm.trans ((congrArg kap_13 z).trans hT_h0.2)) (by decide))
  have hTa_ := hT_h0
  have hT_h0 := TK_rets hk1 hTa_.1
  have hTy := hTy.ret hk1 hTa_ (by rw [hS_h0]; exact okc_7 ⟨q_1, 0, 0, 0, q_6, q_11, rfl, hT_q_1, (by decide), hT_q_6, hT_q_11⟩)
  have hEX := EX_ret hEX hk1 (fun _ _ h => h)
  have hSP := SP_ret hSP hk1 (STPQ_n (by decide))
  have hU : ∀ a k, USP k → TK L_12 kap_16 a k → TK L kap a k ∨ (fun (a k : Nat) => False) a k := U_ret hU hk1 (fun _ _ h => False.elim h) (fun h => absurd h (by decide))
  refine W.widen (k := 3) (n := 24) (Nat.le_of_ble_eq_true rfl) (Nat.le_of_ble_eq_true rfl) ?_
  exact W.vret hx hb hr (fun t ht h9 => ⟨⟨(L_12, kap_16, S_15), rfl, ⟨hTy, hSP, hEX, hT_h0, hU⟩, by rw [ht]; exact hW.1, va_K.moved h9.alike hK, hW.2.1⟩, hW.2.2.F ht⟩) hW.2.2.2.2 dX7_init_28

set_option maxHeartbeats 4000000 in
set_option maxRecDepth 100000 in
theorem n_Row (l : Launch) (dC : Nat → ClassId) (dI : Nat → Nat → Nat) (cy : Nat → ClassId) (L : List Nat) (kap : Nat → Nat) (S : Nat → va_E) (sz : Nat) (h0 : Nat) (hTy : Ty cy L kap (0, 0) S) (hSP : SPI L kap S) (hT_h0 : TK L kap h0 99) (hS_h0 : S h0 = .inr (8, [.null, .int 0, .null])) : Met l yX8_init (wT yX8_init cX8_init 1 none) ({ frames := 1, cells := 2, slots := 16, locals := 12 }) (pcN dC dI [.ref h0] sz (va_pl L S) (cyT cy) NLk [RX0]) (va_Qv (fun (u : KU) => Ty cy u.1 u.2.1 (0, 0) u.2.2 ∧ SPI u.1 u.2.1 u.2.2 ∧ EXT L kap S h0 u ∧ TK u.1 u.2.1 h0 8 ∧ (∀ a k, USP k → TK u.1 u.2.1 a k → TK L kap a k ∨ (fun (a k : Nat) => False) a k)) (fun u t => pB dC dI (AL L sz) (va_pl u.1 u.2.2) (cyT cy) t) (AL L sz)) 2 16 (AL L sz) := by
  refine Met.ofW (cc := cX8_init) (maxL := 1) (ret := none) (by decide) rfl ?_
  intro p e s m args below meth c s₁ B hml hv
  obtain ⟨rfl, hsz, hP, hK, hD0, hN, hO⟩ := hv
  have hx := B.exec
  have hb := B.bytes
  have hr := B.returns
  have hT : ∀ wd ∈ TB, wd.before [.ref h0].toArray s = true := fun wd h => atoms_spec (ws := wT yX8_init cX8_init 1 none) B.pre wd (List.mem_cons_of_mem _ h)
  have hown : s.vm.findClass RX8 = some m.cls := findClass_of_methodNamed B.named
  have hlocks := B.notSynchronized
  have hin : meth.name = "<init>" := (name_of_methodNamed B.named B.method).1
  subst hsz
  have hW : PW dC dI L (AL L s.heap.size) s.heap S s.heap [] := ⟨hP, pl_self hD0, va_S.rf⟩
  have hA : ∀ q, s.heap.size ≤ q → AL L s.heap.size q := fun _ h => Or.inr h
  have hEX : EXT L kap S h0 (L, kap, S) := EX_0 hT_h0.1
  have hU : ∀ a k, USP k → TK L kap a k → TK L kap a k ∨ (fun (a k : Nat) => False) a k := fun a k _ h => Or.inl h
  have hl := lv_entry ([.ref h0]) (n := 1) (Nat.le_of_ble_eq_true rfl)
  rw [lg_entry_eq]
  generalize (lg_sl ([.ref h0]) ++ List.replicate (1 - (lg_sl ([.ref h0])).length) Slot.unset).toArray = ls at hl ⊢
  have hl : lv_has ls 1 [(0, .ref h0)] := hl
  refine lv_aload_n hx hb dX8_init_0 rfl (lv_at hl 0 rfl) ?_
  refine W.objInit hx hb hown (hT _ w244) (hT _ w28) (hT _ w29) rfl (by rw [hml]; exact hl.1) rfl dX8_init_1 (Nat.le_of_ble_eq_true rfl) (Nat.le_of_ble_eq_true rfl) ?_
  refine W.eq (g2 := F0 m 4 ls []) rfl ?_
  refine lv_aload_n hx hb dX8_init_4 rfl (lv_at hl 0 rfl) ?_
  refine lv_bipush (v := 8) hx hb dX8_init_5 (by decide) ?_
  refine pl_newa (kap := kap) (k := 42) (atype := .int) (ty := .int) (a0 := (8, .inl (fun _ => 0))) (n := 8) (N' := 8) hx hb (hT _ w77) rfl hK hW hA 0 rfl (fun _ => rfl) (by decide) (by decide) (Nat.le_of_ble_eq_true rfl) (Nat.le_of_ble_eq_true rfl) (Nat.le_of_ble_eq_true rfl) dX8_init_7 (fun q_1 H L_2 kap_3 S_4 hG hW => ?_)
  have hTy := hG.ty hTy (okc_42 ⟨_, rfl, fun j _ => ⟨0, by decide, rfl⟩⟩)
  have hS_h0 := hG.at hT_h0.1 hS_h0
  have hT_h0 := hG.tk hT_h0
  have hnq_q_1 := fun (a : Nat) (h : a ∈ L) => EX_nq hEX hG.1 h
  have hSP := SP_gr hSP hG (STPQ_n (by decide))
  have hEX := EX_gr hEX hG
  have hT_q_1 := hG.new
  have hS_q_1 := hG.self
  have hU : ∀ a k, USP k → TK L_2 kap_3 a k → TK L kap a k ∨ (fun (a k : Nat) => False) a k := U_gr hU hG (fun _ _ h => False.elim h) (fun h => absurd h (by decide))
  refine W.widen (k := 1) (n := 8) (Nat.le_of_ble_eq_true rfl) (Nat.le_of_ble_eq_true rfl) ?_
  refine pl_putF (ci := 8) (v := .ref q_1) (ty := .array .int) (C := RX8) (T := TX8) (N := 3) (fs' := [.ref q_1, .int 0, .null]) hx hb hT iX8 tyX8 tyX8_ok nmX8 hown hK hW hT_h0.1 hS_h0 rfl 0 (by decide) w245 rfl hin rfl (by decide +kernel) rfl rfl (Nat.le_of_ble_eq_true rfl) rfl dX8_init_9 (fun H locs S_5 e1 hW => ?_)
  have hTy := hTy.up e1 hT_h0 okc_99
  have hSP := SP_up hSP e1 hT_h0 (STPQ_n (by decide))
  have hS_h0 := us e1
  have hEX := EX_put hEX e1 (fun _ _ h => h)
  refine lv_aload_n hx hb dX8_init_12 rfl (lv_at hl 0 rfl) ?_
  refine lv_bipush (v := 8) hx hb dX8_init_13 (by decide) ?_
  refine pl_newa (kap := kap_3) (k := 30) (atype := .int) (ty := .int) (a0 := (8, .inl (fun _ => 0))) (n := 8) (N' := 8) hx hb (hT _ w77) rfl hK hW hA 0 rfl (fun _ => rfl) (by decide) (by decide) (Nat.le_of_ble_eq_true rfl) (Nat.le_of_ble_eq_true rfl) (Nat.le_of_ble_eq_true rfl) dX8_init_15 (fun q_6 H L_7 kap_8 S_9 hG hW => ?_)
  have hTy := hG.ty hTy (okc_30 ⟨_, rfl⟩)
  have hS_h0 := hG.at hT_h0.1 hS_h0
  have hT_h0 := hG.tk hT_h0
  have hT_q_1 := hG.tk hT_q_1
  have hnq_q_6 := fun (a : Nat) (h : a ∈ L) => EX_nq hEX hG.1 h
  have hSP := SP_gr hSP hG (STPQ_n (by decide))
  have hEX := EX_gr hEX hG
  have hT_q_6 := hG.new
  have hS_q_6 := hG.self
  have hU : ∀ a k, USP k → TK L_7 kap_8 a k → TK L kap a k ∨ (fun (a k : Nat) => False) a k := U_gr hU hG (fun _ _ h => False.elim h) (fun h => absurd h (by decide))
  refine W.widen (k := 2) (n := 16) (Nat.le_of_ble_eq_true rfl) (Nat.le_of_ble_eq_true rfl) ?_
  refine pl_putF (ci := 8) (v := .ref q_6) (ty := .array .int) (C := RX8) (T := TX8) (N := 3) (fs' := [.ref q_1, .int 0, .ref q_6]) hx hb hT iX8 tyX8 tyX8_ok nmX8 hown hK hW hT_h0.1 hS_h0 rfl 2 (by decide) w249 rfl hin rfl (by decide +kernel) rfl rfl (Nat.le_of_ble_eq_true rfl) rfl dX8_init_17 (fun H locs S_10 e1 hW => ?_)
  have hTy := hTy.up e1 hT_h0 okc_99
  have hSP := SP_up hSP e1 hT_h0 (STPQ_n (by decide))
  have hS_h0 := us e1
  have hEX := EX_put hEX e1 (fun _ _ h => h)
  obtain ⟨kap_11, hk1⟩ : ∃ g : Nat → Nat, g = kup kap_8 h0 8 := ⟨_, rfl⟩
  have hT_q_1 := TK_ret hk1 hT_q_1 (fun z => absurd (hT_q_1.2.symm.trans ((congrArg kap_8 z).trans hT_h0.2)) (by decide))
  have hT_q_6 := TK_ret hk1 hT_q_6 (fun z => absurd (hT_q_6.2.symm.trans ((congrArg kap_8 z).trans hT_h0.2)) (by decide))
  have hTa_ := hT_h0
  have hT_h0 := TK_rets hk1 hTa_.1
  have hTy := hTy.ret hk1 hTa_ (by rw [hS_h0]; exact okc_8 ⟨q_1, 0, q_6, rfl, hT_q_1, (by decide), hT_q_6⟩)
  have hEX := EX_ret hEX hk1 (fun _ _ h => h)
  have hSP := SP_ret hSP hk1 (STPQ_n (by decide))
  have hU : ∀ a k, USP k → TK L_7 kap_11 a k → TK L kap a k ∨ (fun (a k : Nat) => False) a k := U_ret hU hk1 (fun _ _ h => False.elim h) (fun h => absurd h (by decide))
  refine W.widen (k := 2) (n := 16) (Nat.le_of_ble_eq_true rfl) (Nat.le_of_ble_eq_true rfl) ?_
  exact W.vret hx hb hr (fun t ht h9 => ⟨⟨(L_7, kap_11, S_10), rfl, ⟨hTy, hSP, hEX, hT_h0, hU⟩, by rw [ht]; exact hW.1, va_K.moved h9.alike hK, hW.2.1⟩, hW.2.2.F ht⟩) hW.2.2.2.2 dX8_init_20

set_option maxHeartbeats 4000000 in
set_option maxRecDepth 100000 in
theorem n_Solver (l : Launch) (dC : Nat → ClassId) (dI : Nat → Nat → Nat) (cy : Nat → ClassId) (L : List Nat) (kap : Nat → Nat) (S : Nat → va_E) (sz : Nat) (h0 : Nat) (hTy : Ty cy L kap (0, 0) S) (hSP : SPI L kap S) (hT_h0 : TK L kap h0 99) (hS_h0 : S h0 = .inr (9, [.null, .null, .int 0, .long 0, .null, .null, .null, .null, .null, .null, .null, .int 0, .int 0])) : Met l yX9_init (wT yX9_init cX9_init 1 none) ({ frames := 1, cells := 9, slots := 464, locals := 12 }) (pcN dC dI [.ref h0] sz (va_pl L S) (cyT cy) NLk [RX0]) (va_Qv (fun (u : KU) => Ty cy u.1 u.2.1 (0, 0) u.2.2 ∧ SPI u.1 u.2.1 u.2.2 ∧ EXT L kap S h0 u ∧ TK u.1 u.2.1 h0 9 ∧ (∀ a k, USP k → TK u.1 u.2.1 a k → TK L kap a k ∨ (fun (a k : Nat) => False) a k)) (fun u t => pB dC dI (AL L sz) (va_pl u.1 u.2.2) (cyT cy) t) (AL L sz)) 9 464 (AL L sz) := by
  refine Met.ofW (cc := cX9_init) (maxL := 1) (ret := none) (by decide) rfl ?_
  intro p e s m args below meth c s₁ B hml hv
  obtain ⟨rfl, hsz, hP, hK, hD0, hN, hO⟩ := hv
  have hx := B.exec
  have hb := B.bytes
  have hr := B.returns
  have hT : ∀ wd ∈ TB, wd.before [.ref h0].toArray s = true := fun wd h => atoms_spec (ws := wT yX9_init cX9_init 1 none) B.pre wd (List.mem_cons_of_mem _ h)
  have hown : s.vm.findClass RX9 = some m.cls := findClass_of_methodNamed B.named
  have hlocks := B.notSynchronized
  have hin : meth.name = "<init>" := (name_of_methodNamed B.named B.method).1
  subst hsz
  have hW : PW dC dI L (AL L s.heap.size) s.heap S s.heap [] := ⟨hP, pl_self hD0, va_S.rf⟩
  have hA : ∀ q, s.heap.size ≤ q → AL L s.heap.size q := fun _ h => Or.inr h
  have hEX : EXT L kap S h0 (L, kap, S) := EX_0 hT_h0.1
  have hU : ∀ a k, USP k → TK L kap a k → TK L kap a k ∨ (fun (a k : Nat) => False) a k := fun a k _ h => Or.inl h
  have hl := lv_entry ([.ref h0]) (n := 1) (Nat.le_of_ble_eq_true rfl)
  rw [lg_entry_eq]
  generalize (lg_sl ([.ref h0]) ++ List.replicate (1 - (lg_sl ([.ref h0])).length) Slot.unset).toArray = ls at hl ⊢
  have hl : lv_has ls 1 [(0, .ref h0)] := hl
  refine lv_aload_n hx hb dX9_init_0 rfl (lv_at hl 0 rfl) ?_
  refine W.objInit hx hb hown (hT _ w262) (hT _ w28) (hT _ w29) rfl (by rw [hml]; exact hl.1) rfl dX9_init_1 (Nat.le_of_ble_eq_true rfl) (Nat.le_of_ble_eq_true rfl) ?_
  refine W.eq (g2 := F0 m 4 ls []) rfl ?_
  refine lv_aload_n hx hb dX9_init_4 rfl (lv_at hl 0 rfl) ?_
  refine lv_bipush (v := 64) hx hb dX9_init_5 (by decide) ?_
  refine pl_newa (kap := kap) (k := 29) (atype := .long) (ty := .long) (a0 := (64, .inr (.inl (fun _ => 0)))) (n := 64) (N' := 64) hx hb (hT _ w137) rfl hK hW hA 1 rfl (fun _ => rfl) (by decide) (by decide) (Nat.le_of_ble_eq_true rfl) (Nat.le_of_ble_eq_true rfl) (Nat.le_of_ble_eq_true rfl) dX9_init_7 (fun q_1 H L_2 kap_3 S_4 hG hW => ?_)
  have hTy := hG.ty hTy (okc_29 ⟨_, rfl⟩)
  have hS_h0 := hG.at hT_h0.1 hS_h0
  have hT_h0 := hG.tk hT_h0
  have hnq_q_1 := fun (a : Nat) (h : a ∈ L) => EX_nq hEX hG.1 h
  have hSP := SP_gr hSP hG (STPQ_n (by decide))
  have hEX := EX_gr hEX hG
  have hT_q_1 := hG.new
  have hS_q_1 := hG.self
  have hU : ∀ a k, USP k → TK L_2 kap_3 a k → TK L kap a k ∨ (fun (a k : Nat) => False) a k := U_gr hU hG (fun _ _ h => False.elim h) (fun h => absurd h (by decide))
  refine W.widen (k := 1) (n := 64) (Nat.le_of_ble_eq_true rfl) (Nat.le_of_ble_eq_true rfl) ?_
  refine pl_putF (ci := 9) (v := .ref q_1) (ty := .array .long) (C := RX9) (T := TX9) (N := 13) (fs' := [.ref q_1, .null, .int 0, .long 0, .null, .null, .null, .null, .null, .null, .null, .int 0, .int 0]) hx hb hT iX9 tyX9 tyX9_ok nmX9 hown hK hW hT_h0.1 hS_h0 rfl 0 (by decide) w263 rfl hin rfl (by decide +kernel) rfl rfl (Nat.le_of_ble_eq_true rfl) rfl dX9_init_9 (fun H locs S_5 e1 hW => ?_)
  have hTy := hTy.up e1 hT_h0 okc_99
  have hSP := SP_up hSP e1 hT_h0 (STPQ_n (by decide))
  have hS_h0 := us e1
  have hEX := EX_put hEX e1 (fun _ _ h => h)
  refine lv_aload_n hx hb dX9_init_12 rfl (lv_at hl 0 rfl) ?_
  refine lv_bipush (v := 64) hx hb dX9_init_13 (by decide) ?_
  refine pl_newa (kap := kap_3) (k := 43) (atype := .long) (ty := .long) (a0 := (64, .inr (.inl (fun _ => 0)))) (n := 64) (N' := 64) hx hb (hT _ w137) rfl hK hW hA 1 rfl (fun _ => rfl) (by decide) (by decide) (Nat.le_of_ble_eq_true rfl) (Nat.le_of_ble_eq_true rfl) (Nat.le_of_ble_eq_true rfl) dX9_init_15 (fun q_6 H L_7 kap_8 S_9 hG hW => ?_)
  have hTy := hG.ty hTy (okc_43 ⟨_, rfl⟩)
  have hS_h0 := hG.at hT_h0.1 hS_h0
  have hT_h0 := hG.tk hT_h0
  have hT_q_1 := hG.tk hT_q_1
  have hnq_q_6 := fun (a : Nat) (h : a ∈ L) => EX_nq hEX hG.1 h
  have hSP := SP_gr hSP hG (STPQ_n (by decide))
  have hEX := EX_gr hEX hG
  have hT_q_6 := hG.new
  have hS_q_6 := hG.self
  have hU : ∀ a k, USP k → TK L_7 kap_8 a k → TK L kap a k ∨ (fun (a k : Nat) => False) a k := U_gr hU hG (fun _ _ h => False.elim h) (fun h => absurd h (by decide))
  refine W.widen (k := 2) (n := 128) (Nat.le_of_ble_eq_true rfl) (Nat.le_of_ble_eq_true rfl) ?_
  refine pl_putF (ci := 9) (v := .ref q_6) (ty := .array .long) (C := RX9) (T := TX9) (N := 13) (fs' := [.ref q_1, .ref q_6, .int 0, .long 0, .null, .null, .null, .null, .null, .null, .null, .int 0, .int 0]) hx hb hT iX9 tyX9 tyX9_ok nmX9 hown hK hW hT_h0.1 hS_h0 rfl 1 (by decide) w265 rfl hin rfl (by decide +kernel) rfl rfl (Nat.le_of_ble_eq_true rfl) rfl dX9_init_17 (fun H locs S_10 e1 hW => ?_)
  have hTy := hTy.up e1 hT_h0 okc_99
  have hSP := SP_up hSP e1 hT_h0 (STPQ_n (by decide))
  have hS_h0 := us e1
  have hEX := EX_put hEX e1 (fun _ _ h => h)
  refine lv_aload_n hx hb dX9_init_20 rfl (lv_at hl 0 rfl) ?_
  refine lv_bipush (v := 8) hx hb dX9_init_21 (by decide) ?_
  refine pl_newa (kap := kap_8) (k := 33) (atype := .long) (ty := .long) (a0 := (8, .inr (.inl (fun _ => 0)))) (n := 8) (N' := 8) hx hb (hT _ w137) rfl hK hW hA 1 rfl (fun _ => rfl) (by decide) (by decide) (Nat.le_of_ble_eq_true rfl) (Nat.le_of_ble_eq_true rfl) (Nat.le_of_ble_eq_true rfl) dX9_init_23 (fun q_11 H L_12 kap_13 S_14 hG hW => ?_)
  have hTy := hG.ty hTy (okc_33 ⟨_, rfl⟩)
  have hS_h0 := hG.at hT_h0.1 hS_h0
  have hT_h0 := hG.tk hT_h0
  have hT_q_1 := hG.tk hT_q_1
  have hT_q_6 := hG.tk hT_q_6
  have hnq_q_11 := fun (a : Nat) (h : a ∈ L) => EX_nq hEX hG.1 h
  have hSP := SP_gr hSP hG (STPQ_n (by decide))
  have hEX := EX_gr hEX hG
  have hT_q_11 := hG.new
  have hS_q_11 := hG.self
  have hU : ∀ a k, USP k → TK L_12 kap_13 a k → TK L kap a k ∨ (fun (a k : Nat) => False) a k := U_gr hU hG (fun _ _ h => False.elim h) (fun h => absurd h (by decide))
  refine W.widen (k := 3) (n := 136) (Nat.le_of_ble_eq_true rfl) (Nat.le_of_ble_eq_true rfl) ?_
  refine pl_putF (ci := 9) (v := .ref q_11) (ty := .array .long) (C := RX9) (T := TX9) (N := 13) (fs' := [.ref q_1, .ref q_6, .int 0, .long 0, .ref q_11, .null, .null, .null, .null, .null, .null, .int 0, .int 0]) hx hb hT iX9 tyX9 tyX9_ok nmX9 hown hK hW hT_h0.1 hS_h0 rfl 4 (by decide) w271 rfl hin rfl (by decide +kernel) rfl rfl (Nat.le_of_ble_eq_true rfl) rfl dX9_init_25 (fun H locs S_15 e1 hW => ?_)
  have hTy := hTy.up e1 hT_h0 okc_99
  have hSP := SP_up hSP e1 hT_h0 (STPQ_n (by decide))
  have hS_h0 := us e1
  have hEX := EX_put hEX e1 (fun _ _ h => h)
  refine lv_aload_n hx hb dX9_init_28 rfl (lv_at hl 0 rfl) ?_
  refine lv_bipush (v := 8) hx hb dX9_init_29 (by decide) ?_
  refine pl_newa (kap := kap_13) (k := 44) (atype := .long) (ty := .long) (a0 := (8, .inr (.inl (fun _ => 0)))) (n := 8) (N' := 8) hx hb (hT _ w137) rfl hK hW hA 1 rfl (fun _ => rfl) (by decide) (by decide) (Nat.le_of_ble_eq_true rfl) (Nat.le_of_ble_eq_true rfl) (Nat.le_of_ble_eq_true rfl) dX9_init_31 (fun q_16 H L_17 kap_18 S_19 hG hW => ?_)
  have hTy := hG.ty hTy (okc_44 ⟨_, rfl⟩)
  have hS_h0 := hG.at hT_h0.1 hS_h0
  have hT_h0 := hG.tk hT_h0
  have hT_q_1 := hG.tk hT_q_1
  have hT_q_6 := hG.tk hT_q_6
  have hT_q_11 := hG.tk hT_q_11
  have hnq_q_16 := fun (a : Nat) (h : a ∈ L) => EX_nq hEX hG.1 h
  have hSP := SP_gr hSP hG (STPQ_n (by decide))
  have hEX := EX_gr hEX hG
  have hT_q_16 := hG.new
  have hS_q_16 := hG.self
  have hU : ∀ a k, USP k → TK L_17 kap_18 a k → TK L kap a k ∨ (fun (a k : Nat) => False) a k := U_gr hU hG (fun _ _ h => False.elim h) (fun h => absurd h (by decide))
  refine W.widen (k := 4) (n := 144) (Nat.le_of_ble_eq_true rfl) (Nat.le_of_ble_eq_true rfl) ?_
  refine pl_putF (ci := 9) (v := .ref q_16) (ty := .array .long) (C := RX9) (T := TX9) (N := 13) (fs' := [.ref q_1, .ref q_6, .int 0, .long 0, .ref q_11, .ref q_16, .null, .null, .null, .null, .null, .int 0, .int 0]) hx hb hT iX9 tyX9 tyX9_ok nmX9 hown hK hW hT_h0.1 hS_h0 rfl 5 (by decide) w272 rfl hin rfl (by decide +kernel) rfl rfl (Nat.le_of_ble_eq_true rfl) rfl dX9_init_33 (fun H locs S_20 e1 hW => ?_)
  have hTy := hTy.up e1 hT_h0 okc_99
  have hSP := SP_up hSP e1 hT_h0 (STPQ_n (by decide))
  have hS_h0 := us e1
  have hEX := EX_put hEX e1 (fun _ _ h => h)
  refine lv_aload_n hx hb dX9_init_36 rfl (lv_at hl 0 rfl) ?_
  refine lv_sipush (v := 256) hx hb dX9_init_37 (by decide) ?_
  refine pl_newa (kap := kap_18) (k := 45) (atype := .long) (ty := .long) (a0 := (256, .inr (.inl (fun _ => 0)))) (n := 256) (N' := 256) hx hb (hT _ w137) rfl hK hW hA 1 rfl (fun _ => rfl) (by decide) (by decide) (Nat.le_of_ble_eq_true rfl) (Nat.le_of_ble_eq_true rfl) (Nat.le_of_ble_eq_true rfl) dX9_init_40 (fun q_21 H L_22 kap_23 S_24 hG hW => ?_)
  have hTy := hG.ty hTy (okc_45 ⟨_, rfl⟩)
  have hS_h0 := hG.at hT_h0.1 hS_h0
  have hT_h0 := hG.tk hT_h0
  have hT_q_1 := hG.tk hT_q_1
  have hT_q_6 := hG.tk hT_q_6
  have hT_q_11 := hG.tk hT_q_11
  have hT_q_16 := hG.tk hT_q_16
  have hnq_q_21 := fun (a : Nat) (h : a ∈ L) => EX_nq hEX hG.1 h
  have hSP := SP_gr hSP hG (STPQ_n (by decide))
  have hEX := EX_gr hEX hG
  have hT_q_21 := hG.new
  have hS_q_21 := hG.self
  have hU : ∀ a k, USP k → TK L_22 kap_23 a k → TK L kap a k ∨ (fun (a k : Nat) => False) a k := U_gr hU hG (fun _ _ h => False.elim h) (fun h => absurd h (by decide))
  refine W.widen (k := 5) (n := 400) (Nat.le_of_ble_eq_true rfl) (Nat.le_of_ble_eq_true rfl) ?_
  refine pl_putF (ci := 9) (v := .ref q_21) (ty := .array .long) (C := RX9) (T := TX9) (N := 13) (fs' := [.ref q_1, .ref q_6, .int 0, .long 0, .ref q_11, .ref q_16, .ref q_21, .null, .null, .null, .null, .int 0, .int 0]) hx hb hT iX9 tyX9 tyX9_ok nmX9 hown hK hW hT_h0.1 hS_h0 rfl 6 (by decide) w273 rfl hin rfl (by decide +kernel) rfl rfl (Nat.le_of_ble_eq_true rfl) rfl dX9_init_42 (fun H locs S_25 e1 hW => ?_)
  have hTy := hTy.up e1 hT_h0 okc_99
  have hSP := SP_up hSP e1 hT_h0 (STPQ_n (by decide))
  have hS_h0 := us e1
  have hEX := EX_put hEX e1 (fun _ _ h => h)
  refine lv_aload_n hx hb dX9_init_45 rfl (lv_at hl 0 rfl) ?_
  refine lv_bipush (v := 16) hx hb dX9_init_46 (by decide) ?_
  refine pl_newa (kap := kap_23) (k := 35) (atype := .int) (ty := .int) (a0 := (16, .inl (fun _ => 0))) (n := 16) (N' := 16) hx hb (hT _ w77) rfl hK hW hA 0 rfl (fun _ => rfl) (by decide) (by decide) (Nat.le_of_ble_eq_true rfl) (Nat.le_of_ble_eq_true rfl) (Nat.le_of_ble_eq_true rfl) dX9_init_48 (fun q_26 H L_27 kap_28 S_29 hG hW => ?_)
  have hTy := hG.ty hTy (okc_35 ⟨_, rfl⟩)
  have hS_h0 := hG.at hT_h0.1 hS_h0
  have hT_h0 := hG.tk hT_h0
  have hT_q_1 := hG.tk hT_q_1
  have hT_q_6 := hG.tk hT_q_6
  have hT_q_11 := hG.tk hT_q_11
  have hT_q_16 := hG.tk hT_q_16
  have hT_q_21 := hG.tk hT_q_21
  have hnq_q_26 := fun (a : Nat) (h : a ∈ L) => EX_nq hEX hG.1 h
  have hSP := SP_gr hSP hG (STPQ_n (by decide))
  have hEX := EX_gr hEX hG
  have hT_q_26 := hG.new
  have hS_q_26 := hG.self
  have hU : ∀ a k, USP k → TK L_27 kap_28 a k → TK L kap a k ∨ (fun (a k : Nat) => False) a k := U_gr hU hG (fun _ _ h => False.elim h) (fun h => absurd h (by decide))
  refine W.widen (k := 6) (n := 416) (Nat.le_of_ble_eq_true rfl) (Nat.le_of_ble_eq_true rfl) ?_
  refine pl_putF (ci := 9) (v := .ref q_26) (ty := .array .int) (C := RX9) (T := TX9) (N := 13) (fs' := [.ref q_1, .ref q_6, .int 0, .long 0, .ref q_11, .ref q_16, .ref q_21, .ref q_26, .null, .null, .null, .int 0, .int 0]) hx hb hT iX9 tyX9 tyX9_ok nmX9 hown hK hW hT_h0.1 hS_h0 rfl 7 (by decide) w274 rfl hin rfl (by decide +kernel) rfl rfl (Nat.le_of_ble_eq_true rfl) rfl dX9_init_50 (fun H locs S_30 e1 hW => ?_)
  have hTy := hTy.up e1 hT_h0 okc_99
  have hSP := SP_up hSP e1 hT_h0 (STPQ_n (by decide))
  have hS_h0 := us e1
  have hEX := EX_put hEX e1 (fun _ _ h => h)
  refine lv_aload_n hx hb dX9_init_53 rfl (lv_at hl 0 rfl) ?_
  refine lv_bipush (v := 16) hx hb dX9_init_54 (by decide) ?_
  refine pl_newa (kap := kap_28) (k := 36) (atype := .long) (ty := .long) (a0 := (16, .inr (.inl (fun _ => 0)))) (n := 16) (N' := 16) hx hb (hT _ w137) rfl hK hW hA 1 rfl (fun _ => rfl) (by decide) (by decide) (Nat.le_of_ble_eq_true rfl) (Nat.le_of_ble_eq_true rfl) (Nat.le_of_ble_eq_true rfl) dX9_init_56 (fun q_31 H L_32 kap_33 S_34 hG hW => ?_)
  have hTy := hG.ty hTy (okc_36 ⟨_, rfl⟩)
  have hS_h0 := hG.at hT_h0.1 hS_h0
  have hT_h0 := hG.tk hT_h0
  have hT_q_1 := hG.tk hT_q_1
  have hT_q_6 := hG.tk hT_q_6
  have hT_q_11 := hG.tk hT_q_11
  have hT_q_16 := hG.tk hT_q_16
  have hT_q_21 := hG.tk hT_q_21
  have hT_q_26 := hG.tk hT_q_26
  have hnq_q_31 := fun (a : Nat) (h : a ∈ L) => EX_nq hEX hG.1 h
  have hSP := SP_gr hSP hG (STPQ_n (by decide))
  have hEX := EX_gr hEX hG
  have hT_q_31 := hG.new
  have hS_q_31 := hG.self
  have hU : ∀ a k, USP k → TK L_32 kap_33 a k → TK L kap a k ∨ (fun (a k : Nat) => False) a k := U_gr hU hG (fun _ _ h => False.elim h) (fun h => absurd h (by decide))
  refine W.widen (k := 7) (n := 432) (Nat.le_of_ble_eq_true rfl) (Nat.le_of_ble_eq_true rfl) ?_
  refine pl_putF (ci := 9) (v := .ref q_31) (ty := .array .long) (C := RX9) (T := TX9) (N := 13) (fs' := [.ref q_1, .ref q_6, .int 0, .long 0, .ref q_11, .ref q_16, .ref q_21, .ref q_26, .ref q_31, .null, .null, .int 0, .int 0]) hx hb hT iX9 tyX9 tyX9_ok nmX9 hown hK hW hT_h0.1 hS_h0 rfl 8 (by decide) w275 rfl hin rfl (by decide +kernel) rfl rfl (Nat.le_of_ble_eq_true rfl) rfl dX9_init_58 (fun H locs S_35 e1 hW => ?_)
  have hTy := hTy.up e1 hT_h0 okc_99
  have hSP := SP_up hSP e1 hT_h0 (STPQ_n (by decide))
  have hS_h0 := us e1
  have hEX := EX_put hEX e1 (fun _ _ h => h)
  refine lv_aload_n hx hb dX9_init_61 rfl (lv_at hl 0 rfl) ?_
  refine lv_bipush (v := 16) hx hb dX9_init_62 (by decide) ?_
  refine pl_newa (kap := kap_33) (k := 37) (atype := .int) (ty := .int) (a0 := (16, .inl (fun _ => 0))) (n := 16) (N' := 16) hx hb (hT _ w77) rfl hK hW hA 0 rfl (fun _ => rfl) (by decide) (by decide) (Nat.le_of_ble_eq_true rfl) (Nat.le_of_ble_eq_true rfl) (Nat.le_of_ble_eq_true rfl) dX9_init_64 (fun q_36 H L_37 kap_38 S_39 hG hW => ?_)
  have hTy := hG.ty hTy (okc_37 ⟨_, rfl, fun j _ => Or.inr (Or.inr ⟨0, by decide, rfl⟩)⟩)
  have hS_h0 := hG.at hT_h0.1 hS_h0
  have hT_h0 := hG.tk hT_h0
  have hT_q_1 := hG.tk hT_q_1
  have hT_q_6 := hG.tk hT_q_6
  have hT_q_11 := hG.tk hT_q_11
  have hT_q_16 := hG.tk hT_q_16
  have hT_q_21 := hG.tk hT_q_21
  have hT_q_26 := hG.tk hT_q_26
  have hT_q_31 := hG.tk hT_q_31
  have hnq_q_36 := fun (a : Nat) (h : a ∈ L) => EX_nq hEX hG.1 h
  have hSP := SP_gr hSP hG (STPQ_n (by decide))
  have hEX := EX_gr hEX hG
  have hT_q_36 := hG.new
  have hS_q_36 := hG.self
  have hU : ∀ a k, USP k → TK L_37 kap_38 a k → TK L kap a k ∨ (fun (a k : Nat) => False) a k := U_gr hU hG (fun _ _ h => False.elim h) (fun h => absurd h (by decide))
  refine W.widen (k := 8) (n := 448) (Nat.le_of_ble_eq_true rfl) (Nat.le_of_ble_eq_true rfl) ?_
  refine pl_putF (ci := 9) (v := .ref q_36) (ty := .array .int) (C := RX9) (T := TX9) (N := 13) (fs' := [.ref q_1, .ref q_6, .int 0, .long 0, .ref q_11, .ref q_16, .ref q_21, .ref q_26, .ref q_31, .ref q_36, .null, .int 0, .int 0]) hx hb hT iX9 tyX9 tyX9_ok nmX9 hown hK hW hT_h0.1 hS_h0 rfl 9 (by decide) w276 rfl hin rfl (by decide +kernel) rfl rfl (Nat.le_of_ble_eq_true rfl) rfl dX9_init_66 (fun H locs S_40 e1 hW => ?_)
  have hTy := hTy.up e1 hT_h0 okc_99
  have hSP := SP_up hSP e1 hT_h0 (STPQ_n (by decide))
  have hS_h0 := us e1
  have hEX := EX_put hEX e1 (fun _ _ h => h)
  refine lv_aload_n hx hb dX9_init_69 rfl (lv_at hl 0 rfl) ?_
  refine lv_bipush (v := 16) hx hb dX9_init_70 (by decide) ?_
  refine pl_newa (kap := kap_38) (k := 38) (atype := .int) (ty := .int) (a0 := (16, .inl (fun _ => 0))) (n := 16) (N' := 16) hx hb (hT _ w77) rfl hK hW hA 0 rfl (fun _ => rfl) (by decide) (by decide) (Nat.le_of_ble_eq_true rfl) (Nat.le_of_ble_eq_true rfl) (Nat.le_of_ble_eq_true rfl) dX9_init_72 (fun q_41 H L_42 kap_43 S_44 hG hW => ?_)
  have hTy := hG.ty hTy (okc_38 ⟨_, rfl, fun j _ => ⟨0, by decide, rfl⟩⟩)
  have hS_h0 := hG.at hT_h0.1 hS_h0
  have hT_h0 := hG.tk hT_h0
  have hT_q_1 := hG.tk hT_q_1
  have hT_q_6 := hG.tk hT_q_6
  have hT_q_11 := hG.tk hT_q_11
  have hT_q_16 := hG.tk hT_q_16
  have hT_q_21 := hG.tk hT_q_21
  have hT_q_26 := hG.tk hT_q_26
  have hT_q_31 := hG.tk hT_q_31
  have hT_q_36 := hG.tk hT_q_36
  have hnq_q_41 := fun (a : Nat) (h : a ∈ L) => EX_nq hEX hG.1 h
  have hSP := SP_gr hSP hG (STPQ_n (by decide))
  have hEX := EX_gr hEX hG
  have hT_q_41 := hG.new
  have hS_q_41 := hG.self
  have hU : ∀ a k, USP k → TK L_42 kap_43 a k → TK L kap a k ∨ (fun (a k : Nat) => False) a k := U_gr hU hG (fun _ _ h => False.elim h) (fun h => absurd h (by decide))
  refine W.widen (k := 9) (n := 464) (Nat.le_of_ble_eq_true rfl) (Nat.le_of_ble_eq_true rfl) ?_
  refine pl_putF (ci := 9) (v := .ref q_41) (ty := .array .int) (C := RX9) (T := TX9) (N := 13) (fs' := [.ref q_1, .ref q_6, .int 0, .long 0, .ref q_11, .ref q_16, .ref q_21, .ref q_26, .ref q_31, .ref q_36, .ref q_41, .int 0, .int 0]) hx hb hT iX9 tyX9 tyX9_ok nmX9 hown hK hW hT_h0.1 hS_h0 rfl 10 (by decide) w277 rfl hin rfl (by decide +kernel) rfl rfl (Nat.le_of_ble_eq_true rfl) rfl dX9_init_74 (fun H locs S_45 e1 hW => ?_)
  have hTy := hTy.up e1 hT_h0 okc_99
  have hSP := SP_up hSP e1 hT_h0 (STPQ_n (by decide))
  have hS_h0 := us e1
  have hEX := EX_put hEX e1 (fun _ _ h => h)
  obtain ⟨kap_46, hk1⟩ : ∃ g : Nat → Nat, g = kup kap_43 h0 9 := ⟨_, rfl⟩
  have hT_q_1 := TK_ret hk1 hT_q_1 (fun z => absurd (hT_q_1.2.symm.trans ((congrArg kap_43 z).trans hT_h0.2)) (by decide))
  have hT_q_6 := TK_ret hk1 hT_q_6 (fun z => absurd (hT_q_6.2.symm.trans ((congrArg kap_43 z).trans hT_h0.2)) (by decide))
  have hT_q_11 := TK_ret hk1 hT_q_11 (fun z => absurd (hT_q_11.2.symm.trans ((congrArg kap_43 z).trans hT_h0.2)) (by decide))
  have hT_q_16 := TK_ret hk1 hT_q_16 (fun z => absurd (hT_q_16.2.symm.trans ((congrArg kap_43 z).trans hT_h0.2)) (by decide))
  have hT_q_21 := TK_ret hk1 hT_q_21 (fun z => absurd (hT_q_21.2.symm.trans ((congrArg kap_43 z).trans hT_h0.2)) (by decide))
  have hT_q_26 := TK_ret hk1 hT_q_26 (fun z => absurd (hT_q_26.2.symm.trans ((congrArg kap_43 z).trans hT_h0.2)) (by decide))
  have hT_q_31 := TK_ret hk1 hT_q_31 (fun z => absurd (hT_q_31.2.symm.trans ((congrArg kap_43 z).trans hT_h0.2)) (by decide))
  have hT_q_36 := TK_ret hk1 hT_q_36 (fun z => absurd (hT_q_36.2.symm.trans ((congrArg kap_43 z).trans hT_h0.2)) (by decide))
  have hT_q_41 := TK_ret hk1 hT_q_41 (fun z => absurd (hT_q_41.2.symm.trans ((congrArg kap_43 z).trans hT_h0.2)) (by decide))
  have hTa_ := hT_h0
  have hT_h0 := TK_rets hk1 hTa_.1
  have hTy := hTy.ret hk1 hTa_ (by rw [hS_h0]; exact okc_9 ⟨q_1, q_6, 0, 0, q_11, q_16, q_21, q_26, q_31, q_36, q_41, 0, 0, rfl, hT_q_1, hT_q_6, hT_q_11, hT_q_16, hT_q_21, hT_q_26, hT_q_31, hT_q_36, hT_q_41, (by decide), (by decide)⟩)
  have hEX := EX_ret hEX hk1 (fun _ _ h => h)
  have hSP := SP_ret hSP hk1 (STPQ_n (by decide))
  have hU : ∀ a k, USP k → TK L_42 kap_46 a k → TK L kap a k ∨ (fun (a k : Nat) => False) a k := U_ret hU hk1 (fun _ _ h => False.elim h) (fun h => absurd h (by decide))
  refine W.widen (k := 9) (n := 464) (Nat.le_of_ble_eq_true rfl) (Nat.le_of_ble_eq_true rfl) ?_
  exact W.vret hx hb hr (fun t ht h9 => ⟨⟨(L_42, kap_46, S_45), rfl, ⟨hTy, hSP, hEX, hT_h0, hU⟩, by rw [ht]; exact hW.1, va_K.moved h9.alike hK, hW.2.1⟩, hW.2.2.F ht⟩) hW.2.2.2.2 dX9_init_77

set_option maxHeartbeats 4000000 in
set_option maxRecDepth 100000 in
theorem n_Groups (l : Launch) (dC : Nat → ClassId) (dI : Nat → Nat → Nat) (cy : Nat → ClassId) (L : List Nat) (kap : Nat → Nat) (S : Nat → va_E) (sz : Nat) (h0 : Nat) (hTy : Ty cy L kap (0, 0) S) (hSP : SPI L kap S) (hT_h0 : TK L kap h0 99) (hS_h0 : S h0 = .inr (2, [.int 0, .int 0, .null, .null, .null])) : Met l yX2_init (wT yX2_init cX2_init 1 none) ({ frames := 1, cells := 3, slots := 520, locals := 12 }) (pcN dC dI [.ref h0] sz (va_pl L S) (cyT cy) NLk [RX0]) (va_Qv (fun (u : KU) => Ty cy u.1 u.2.1 (0, 0) u.2.2 ∧ SPI u.1 u.2.1 u.2.2 ∧ EXT L kap S h0 u ∧ TK u.1 u.2.1 h0 2 ∧ (∀ a k, USP k → TK u.1 u.2.1 a k → TK L kap a k ∨ (fun (a k : Nat) => False) a k)) (fun u t => pB dC dI (AL L sz) (va_pl u.1 u.2.2) (cyT cy) t) (AL L sz)) 3 520 (AL L sz) := by
  refine Met.ofW (cc := cX2_init) (maxL := 1) (ret := none) (by decide) rfl ?_
  intro p e s m args below meth c s₁ B hml hv
  obtain ⟨rfl, hsz, hP, hK, hD0, hN, hO⟩ := hv
  have hx := B.exec
  have hb := B.bytes
  have hr := B.returns
  have hT : ∀ wd ∈ TB, wd.before [.ref h0].toArray s = true := fun wd h => atoms_spec (ws := wT yX2_init cX2_init 1 none) B.pre wd (List.mem_cons_of_mem _ h)
  have hown : s.vm.findClass RX2 = some m.cls := findClass_of_methodNamed B.named
  have hlocks := B.notSynchronized
  have hin : meth.name = "<init>" := (name_of_methodNamed B.named B.method).1
  subst hsz
  have hW : PW dC dI L (AL L s.heap.size) s.heap S s.heap [] := ⟨hP, pl_self hD0, va_S.rf⟩
  have hA : ∀ q, s.heap.size ≤ q → AL L s.heap.size q := fun _ h => Or.inr h
  have hEX : EXT L kap S h0 (L, kap, S) := EX_0 hT_h0.1
  have hU : ∀ a k, USP k → TK L kap a k → TK L kap a k ∨ (fun (a k : Nat) => False) a k := fun a k _ h => Or.inl h
  have hl := lv_entry ([.ref h0]) (n := 1) (Nat.le_of_ble_eq_true rfl)
  rw [lg_entry_eq]
  generalize (lg_sl ([.ref h0]) ++ List.replicate (1 - (lg_sl ([.ref h0])).length) Slot.unset).toArray = ls at hl ⊢
  have hl : lv_has ls 1 [(0, .ref h0)] := hl
  refine lv_aload_n hx hb dX2_init_0 rfl (lv_at hl 0 rfl) ?_
  refine W.objInit hx hb hown (hT _ w312) (hT _ w28) (hT _ w29) rfl (by rw [hml]; exact hl.1) rfl dX2_init_1 (Nat.le_of_ble_eq_true rfl) (Nat.le_of_ble_eq_true rfl) ?_
  refine W.eq (g2 := F0 m 4 ls []) rfl ?_
  refine lv_aload_n hx hb dX2_init_4 rfl (lv_at hl 0 rfl) ?_
  refine lv_bipush (v := 8) hx hb dX2_init_5 (by decide) ?_
  refine pl_newa (kap := kap) (k := 33) (atype := .long) (ty := .long) (a0 := (8, .inr (.inl (fun _ => 0)))) (n := 8) (N' := 8) hx hb (hT _ w137) rfl hK hW hA 1 rfl (fun _ => rfl) (by decide) (by decide) (Nat.le_of_ble_eq_true rfl) (Nat.le_of_ble_eq_true rfl) (Nat.le_of_ble_eq_true rfl) dX2_init_7 (fun q_1 H L_2 kap_3 S_4 hG hW => ?_)
  have hTy := hG.ty hTy (okc_33 ⟨_, rfl⟩)
  have hS_h0 := hG.at hT_h0.1 hS_h0
  have hT_h0 := hG.tk hT_h0
  have hnq_q_1 := fun (a : Nat) (h : a ∈ L) => EX_nq hEX hG.1 h
  have hSP := SP_gr hSP hG (STPQ_n (by decide))
  have hEX := EX_gr hEX hG
  have hT_q_1 := hG.new
  have hS_q_1 := hG.self
  have hU : ∀ a k, USP k → TK L_2 kap_3 a k → TK L kap a k ∨ (fun (a k : Nat) => False) a k := U_gr hU hG (fun _ _ h => False.elim h) (fun h => absurd h (by decide))
  refine W.widen (k := 1) (n := 8) (Nat.le_of_ble_eq_true rfl) (Nat.le_of_ble_eq_true rfl) ?_
  refine pl_putF (ci := 2) (v := .ref q_1) (ty := .array .long) (C := RX2) (T := TX2) (N := 5) (fs' := [.int 0, .int 0, .ref q_1, .null, .null]) hx hb hT iX2 tyX2 tyX2_ok nmX2 hown hK hW hT_h0.1 hS_h0 rfl 2 (by decide) w317 rfl hin rfl (by decide +kernel) rfl rfl (Nat.le_of_ble_eq_true rfl) rfl dX2_init_9 (fun H locs S_5 e1 hW => ?_)
  have hTy := hTy.up e1 hT_h0 okc_99
  have hSP := SP_up hSP e1 hT_h0 (STPQ_n (by decide))
  have hS_h0 := us e1
  have hEX := EX_put hEX e1 (fun _ _ h => h)
  refine lv_aload_n hx hb dX2_init_12 rfl (lv_at hl 0 rfl) ?_
  refine lv_sipush (v := 256) hx hb dX2_init_13 (by decide) ?_
  refine pl_newa (kap := kap_3) (k := 34) (atype := .long) (ty := .long) (a0 := (256, .inr (.inl (fun _ => 0)))) (n := 256) (N' := 256) hx hb (hT _ w137) rfl hK hW hA 1 rfl (fun _ => rfl) (by decide) (by decide) (Nat.le_of_ble_eq_true rfl) (Nat.le_of_ble_eq_true rfl) (Nat.le_of_ble_eq_true rfl) dX2_init_16 (fun q_6 H L_7 kap_8 S_9 hG hW => ?_)
  have hTy := hG.ty hTy (okc_34 ⟨_, rfl⟩)
  have hS_h0 := hG.at hT_h0.1 hS_h0
  have hT_h0 := hG.tk hT_h0
  have hT_q_1 := hG.tk hT_q_1
  have hnq_q_6 := fun (a : Nat) (h : a ∈ L) => EX_nq hEX hG.1 h
  have hSP := SP_gr hSP hG (STPQ_n (by decide))
  have hEX := EX_gr hEX hG
  have hT_q_6 := hG.new
  have hS_q_6 := hG.self
  have hU : ∀ a k, USP k → TK L_7 kap_8 a k → TK L kap a k ∨ (fun (a k : Nat) => False) a k := U_gr hU hG (fun _ _ h => False.elim h) (fun h => absurd h (by decide))
  refine W.widen (k := 2) (n := 264) (Nat.le_of_ble_eq_true rfl) (Nat.le_of_ble_eq_true rfl) ?_
  refine pl_putF (ci := 2) (v := .ref q_6) (ty := .array .long) (C := RX2) (T := TX2) (N := 5) (fs' := [.int 0, .int 0, .ref q_1, .ref q_6, .null]) hx hb hT iX2 tyX2 tyX2_ok nmX2 hown hK hW hT_h0.1 hS_h0 rfl 3 (by decide) w318 rfl hin rfl (by decide +kernel) rfl rfl (Nat.le_of_ble_eq_true rfl) rfl dX2_init_18 (fun H locs S_10 e1 hW => ?_)
  have hTy := hTy.up e1 hT_h0 okc_99
  have hSP := SP_up hSP e1 hT_h0 (STPQ_n (by decide))
  have hS_h0 := us e1
  have hEX := EX_put hEX e1 (fun _ _ h => h)
  refine lv_aload_n hx hb dX2_init_21 rfl (lv_at hl 0 rfl) ?_
  refine lv_sipush (v := 256) hx hb dX2_init_22 (by decide) ?_
  refine pl_newa (kap := kap_8) (k := 39) (atype := .int) (ty := .int) (a0 := (256, .inl (fun _ => 0))) (n := 256) (N' := 256) hx hb (hT _ w77) rfl hK hW hA 0 rfl (fun _ => rfl) (by decide) (by decide) (Nat.le_of_ble_eq_true rfl) (Nat.le_of_ble_eq_true rfl) (Nat.le_of_ble_eq_true rfl) dX2_init_25 (fun q_11 H L_12 kap_13 S_14 hG hW => ?_)
  have hTy := hG.ty hTy (okc_39 ⟨_, rfl⟩)
  have hS_h0 := hG.at hT_h0.1 hS_h0
  have hT_h0 := hG.tk hT_h0
  have hT_q_1 := hG.tk hT_q_1
  have hT_q_6 := hG.tk hT_q_6
  have hnq_q_11 := fun (a : Nat) (h : a ∈ L) => EX_nq hEX hG.1 h
  have hSP := SP_gr hSP hG (STPQ_n (by decide))
  have hEX := EX_gr hEX hG
  have hT_q_11 := hG.new
  have hS_q_11 := hG.self
  have hU : ∀ a k, USP k → TK L_12 kap_13 a k → TK L kap a k ∨ (fun (a k : Nat) => False) a k := U_gr hU hG (fun _ _ h => False.elim h) (fun h => absurd h (by decide))
  refine W.widen (k := 3) (n := 520) (Nat.le_of_ble_eq_true rfl) (Nat.le_of_ble_eq_true rfl) ?_
  refine pl_putF (ci := 2) (v := .ref q_11) (ty := .array .int) (C := RX2) (T := TX2) (N := 5) (fs' := [.int 0, .int 0, .ref q_1, .ref q_6, .ref q_11]) hx hb hT iX2 tyX2 tyX2_ok nmX2 hown hK hW hT_h0.1 hS_h0 rfl 4 (by decide) w319 rfl hin rfl (by decide +kernel) rfl rfl (Nat.le_of_ble_eq_true rfl) rfl dX2_init_27 (fun H locs S_15 e1 hW => ?_)
  have hTy := hTy.up e1 hT_h0 okc_99
  have hSP := SP_up hSP e1 hT_h0 (STPQ_n (by decide))
  have hS_h0 := us e1
  have hEX := EX_put hEX e1 (fun _ _ h => h)
  obtain ⟨kap_16, hk1⟩ : ∃ g : Nat → Nat, g = kup kap_13 h0 2 := ⟨_, rfl⟩
  have hT_q_1 := TK_ret hk1 hT_q_1 (fun z => absurd (hT_q_1.2.symm.trans ((congrArg kap_13 z).trans hT_h0.2)) (by decide))
  have hT_q_6 := TK_ret hk1 hT_q_6 (fun z => absurd (hT_q_6.2.symm.trans ((congrArg kap_13 z).trans hT_h0.2)) (by decide))
  have hT_q_11 := TK_ret hk1 hT_q_11 (fun z => absurd (hT_q_11.2.symm.trans ((congrArg kap_13 z).trans hT_h0.2)) (by decide))
  have hTa_ := hT_h0
  have hT_h0 := TK_rets hk1 hTa_.1
  have hTy := hTy.ret hk1 hTa_ (by rw [hS_h0]; exact okc_2 ⟨0, 0, q_1, q_6, q_11, rfl, (by decide), hT_q_1, hT_q_6, hT_q_11⟩)
  have hEX := EX_ret hEX hk1 (fun _ _ h => h)
  have hSP := SP_ret hSP hk1 (STPQ_n (by decide))
  have hU : ∀ a k, USP k → TK L_12 kap_16 a k → TK L kap a k ∨ (fun (a k : Nat) => False) a k := U_ret hU hk1 (fun _ _ h => False.elim h) (fun h => absurd h (by decide))
  refine W.widen (k := 3) (n := 520) (Nat.le_of_ble_eq_true rfl) (Nat.le_of_ble_eq_true rfl) ?_
  exact W.vret hx hb hr (fun t ht h9 => ⟨⟨(L_12, kap_16, S_15), rfl, ⟨hTy, hSP, hEX, hT_h0, hU⟩, by rw [ht]; exact hW.1, va_K.moved h9.alike hK, hW.2.1⟩, hW.2.2.F ht⟩) hW.2.2.2.2 dX2_init_30

set_option maxHeartbeats 4000000 in
set_option maxRecDepth 100000 in
theorem n_Page (l : Launch) (dC : Nat → ClassId) (dI : Nat → Nat → Nat) (cy : Nat → ClassId) (L : List Nat) (kap : Nat → Nat) (S : Nat → va_E) (sz : Nat) (h0 : Nat) (hTy : Ty cy L kap (0, 0) S) (hSP : SPI L kap S) (hT_h0 : TK L kap h0 99) (hS_h0 : S h0 = .inr (4, [.null, .int 0, .null])) : Met l yX4_init (wT yX4_init cX4_init 1 none) ({ frames := 1, cells := 2, slots := 83, locals := 12 }) (pcN dC dI [.ref h0] sz (va_pl L S) (cyT cy) NLk [RX0]) (va_Qv (fun (u : KU) => Ty cy u.1 u.2.1 (0, 0) u.2.2 ∧ SPI u.1 u.2.1 u.2.2 ∧ EXT L kap S h0 u ∧ TK u.1 u.2.1 h0 4 ∧ (∀ a k, USP k → TK u.1 u.2.1 a k → TK L kap a k ∨ (fun (a k : Nat) => False) a k)) (fun u t => pB dC dI (AL L sz) (va_pl u.1 u.2.2) (cyT cy) t) (AL L sz)) 2 83 (AL L sz) := by
  refine Met.ofW (cc := cX4_init) (maxL := 1) (ret := none) (by decide) rfl ?_
  intro p e s m args below meth c s₁ B hml hv
  obtain ⟨rfl, hsz, hP, hK, hD0, hN, hO⟩ := hv
  have hx := B.exec
  have hb := B.bytes
  have hr := B.returns
  have hT : ∀ wd ∈ TB, wd.before [.ref h0].toArray s = true := fun wd h => atoms_spec (ws := wT yX4_init cX4_init 1 none) B.pre wd (List.mem_cons_of_mem _ h)
  have hown : s.vm.findClass RX4 = some m.cls := findClass_of_methodNamed B.named
  have hlocks := B.notSynchronized
  have hin : meth.name = "<init>" := (name_of_methodNamed B.named B.method).1
  subst hsz
  have hW : PW dC dI L (AL L s.heap.size) s.heap S s.heap [] := ⟨hP, pl_self hD0, va_S.rf⟩
  have hA : ∀ q, s.heap.size ≤ q → AL L s.heap.size q := fun _ h => Or.inr h
  have hEX : EXT L kap S h0 (L, kap, S) := EX_0 hT_h0.1
  have hU : ∀ a k, USP k → TK L kap a k → TK L kap a k ∨ (fun (a k : Nat) => False) a k := fun a k _ h => Or.inl h
  have hl := lv_entry ([.ref h0]) (n := 1) (Nat.le_of_ble_eq_true rfl)
  rw [lg_entry_eq]
  generalize (lg_sl ([.ref h0]) ++ List.replicate (1 - (lg_sl ([.ref h0])).length) Slot.unset).toArray = ls at hl ⊢
  have hl : lv_has ls 1 [(0, .ref h0)] := hl
  refine lv_aload_n hx hb dX4_init_0 rfl (lv_at hl 0 rfl) ?_
  refine W.objInit hx hb hown (hT _ w336) (hT _ w28) (hT _ w29) rfl (by rw [hml]; exact hl.1) rfl dX4_init_1 (Nat.le_of_ble_eq_true rfl) (Nat.le_of_ble_eq_true rfl) ?_
  refine W.eq (g2 := F0 m 4 ls []) rfl ?_
  refine lv_aload_n hx hb dX4_init_4 rfl (lv_at hl 0 rfl) ?_
  refine lv_bipush (v := 64) hx hb dX4_init_5 (by decide) ?_
  refine pl_newa (kap := kap) (k := 40) (atype := .byte) (ty := .byte) (a0 := (64, .inl (fun _ => 0))) (n := 64) (N' := 64) hx hb (hT _ w45) rfl hK hW hA 2 rfl (fun _ => rfl) (by decide) (by decide) (Nat.le_of_ble_eq_true rfl) (Nat.le_of_ble_eq_true rfl) (Nat.le_of_ble_eq_true rfl) dX4_init_7 (fun q_1 H L_2 kap_3 S_4 hG hW => ?_)
  have hTy := hG.ty hTy (okc_40 ⟨_, rfl⟩)
  have hS_h0 := hG.at hT_h0.1 hS_h0
  have hT_h0 := hG.tk hT_h0
  have hnq_q_1 := fun (a : Nat) (h : a ∈ L) => EX_nq hEX hG.1 h
  have hSP := SP_gr hSP hG (STPQ_n (by decide))
  have hEX := EX_gr hEX hG
  have hT_q_1 := hG.new
  have hS_q_1 := hG.self
  have hU : ∀ a k, USP k → TK L_2 kap_3 a k → TK L kap a k ∨ (fun (a k : Nat) => False) a k := U_gr hU hG (fun _ _ h => False.elim h) (fun h => absurd h (by decide))
  refine W.widen (k := 1) (n := 64) (Nat.le_of_ble_eq_true rfl) (Nat.le_of_ble_eq_true rfl) ?_
  refine pl_putF (ci := 4) (v := .ref q_1) (ty := .array .byte) (C := RX4) (T := TX4) (N := 3) (fs' := [.ref q_1, .int 0, .null]) hx hb hT iX4 tyX4 tyX4_ok nmX4 hown hK hW hT_h0.1 hS_h0 rfl 0 (by decide) w337 rfl hin rfl (by decide +kernel) rfl rfl (Nat.le_of_ble_eq_true rfl) rfl dX4_init_9 (fun H locs S_5 e1 hW => ?_)
  have hTy := hTy.up e1 hT_h0 okc_99
  have hSP := SP_up hSP e1 hT_h0 (STPQ_n (by decide))
  have hS_h0 := us e1
  have hEX := EX_put hEX e1 (fun _ _ h => h)
  refine lv_aload_n hx hb dX4_init_12 rfl (lv_at hl 0 rfl) ?_
  refine lv_bipush (v := 19) hx hb dX4_init_13 (by decide) ?_
  refine pl_newa (kap := kap_3) (k := 41) (atype := .byte) (ty := .byte) (a0 := (19, .inl (fun _ => 0))) (n := 19) (N' := 19) hx hb (hT _ w45) rfl hK hW hA 2 rfl (fun _ => rfl) (by decide) (by decide) (Nat.le_of_ble_eq_true rfl) (Nat.le_of_ble_eq_true rfl) (Nat.le_of_ble_eq_true rfl) dX4_init_15 (fun q_6 H L_7 kap_8 S_9 hG hW => ?_)
  have hTy := hG.ty hTy (okc_41 ⟨_, rfl⟩)
  have hS_h0 := hG.at hT_h0.1 hS_h0
  have hT_h0 := hG.tk hT_h0
  have hT_q_1 := hG.tk hT_q_1
  have hnq_q_6 := fun (a : Nat) (h : a ∈ L) => EX_nq hEX hG.1 h
  have hSP := SP_gr hSP hG (STPQ_n (by decide))
  have hEX := EX_gr hEX hG
  have hT_q_6 := hG.new
  have hS_q_6 := hG.self
  have hU : ∀ a k, USP k → TK L_7 kap_8 a k → TK L kap a k ∨ (fun (a k : Nat) => False) a k := U_gr hU hG (fun _ _ h => False.elim h) (fun h => absurd h (by decide))
  refine W.widen (k := 2) (n := 83) (Nat.le_of_ble_eq_true rfl) (Nat.le_of_ble_eq_true rfl) ?_
  refine pl_putF (ci := 4) (v := .ref q_6) (ty := .array .byte) (C := RX4) (T := TX4) (N := 3) (fs' := [.ref q_1, .int 0, .ref q_6]) hx hb hT iX4 tyX4 tyX4_ok nmX4 hown hK hW hT_h0.1 hS_h0 rfl 2 (by decide) w341 rfl hin rfl (by decide +kernel) rfl rfl (Nat.le_of_ble_eq_true rfl) rfl dX4_init_17 (fun H locs S_10 e1 hW => ?_)
  have hTy := hTy.up e1 hT_h0 okc_99
  have hSP := SP_up hSP e1 hT_h0 (STPQ_n (by decide))
  have hS_h0 := us e1
  have hEX := EX_put hEX e1 (fun _ _ h => h)
  obtain ⟨kap_11, hk1⟩ : ∃ g : Nat → Nat, g = kup kap_8 h0 4 := ⟨_, rfl⟩
  have hT_q_1 := TK_ret hk1 hT_q_1 (fun z => absurd (hT_q_1.2.symm.trans ((congrArg kap_8 z).trans hT_h0.2)) (by decide))
  have hT_q_6 := TK_ret hk1 hT_q_6 (fun z => absurd (hT_q_6.2.symm.trans ((congrArg kap_8 z).trans hT_h0.2)) (by decide))
  have hTa_ := hT_h0
  have hT_h0 := TK_rets hk1 hTa_.1
  have hTy := hTy.ret hk1 hTa_ (by rw [hS_h0]; exact okc_4 ⟨q_1, 0, q_6, rfl, hT_q_1, (by decide), hT_q_6⟩)
  have hEX := EX_ret hEX hk1 (fun _ _ h => h)
  have hSP := SP_ret hSP hk1 (STPQ_n (by decide))
  have hU : ∀ a k, USP k → TK L_7 kap_11 a k → TK L kap a k ∨ (fun (a k : Nat) => False) a k := U_ret hU hk1 (fun _ _ h => False.elim h) (fun h => absurd h (by decide))
  refine W.widen (k := 2) (n := 83) (Nat.le_of_ble_eq_true rfl) (Nat.le_of_ble_eq_true rfl) ?_
  exact W.vret hx hb hr (fun t ht h9 => ⟨⟨(L_7, kap_11, S_10), rfl, ⟨hTy, hSP, hEX, hT_h0, hU⟩, by rw [ht]; exact hW.1, va_K.moved h9.alike hK, hW.2.1⟩, hW.2.2.F ht⟩) hW.2.2.2.2 dX4_init_20

