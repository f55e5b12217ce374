theorem w1394 : (.methodLink RX12 271 yX12_laysRing : Cond) ∈ TB := mTB (List.mem_of_getElem? (i := 1394) (by decide +kernel)) (by decide +kernel)
theorem w1396 : (.instanceMethod yX12_laysRing : Cond) ∈ TB := mTB (List.mem_of_getElem? (i := 1396) (by decide +kernel)) (by decide +kernel)
theorem w1397 : (.code yX12_laysRing cX12_laysRing 3 (some .int) : Cond) ∈ TB := mTB (List.mem_of_getElem? (i := 1397) (by decide +kernel)) (by decide +kernel)
theorem w1418 : (.methodLink RX12 277 yX12_ringGoes : Cond) ∈ TB := mTB (List.mem_of_getElem? (i := 1418) (by decide +kernel)) (by decide +kernel)
theorem w1420 : (.instanceMethod yX12_ringGoes : Cond) ∈ TB := mTB (List.mem_of_getElem? (i := 1420) (by decide +kernel)) (by decide +kernel)
theorem w1421 : (.code yX12_ringGoes cX12_ringGoes 3 none : Cond) ∈ TB := mTB (List.mem_of_getElem? (i := 1421) (by decide +kernel)) (by decide +kernel)
theorem w1426 : (.constantLong RX12 280 99 : Cond) ∈ TB := mTB (List.mem_of_getElem? (i := 1426) (by decide +kernel)) (by decide +kernel)
theorem ws86 : (.selects RX12 yX12_laysRing yX12_laysRing : Cond) ∈ TB := mSel (y := yX12_laysRing) (n := 32) (List.mem_of_getElem? (i := 86) (by decide +kernel)) (by decide +kernel)
theorem ws90 : (.selects RX12 yX12_ringGoes yX12_ringGoes : Cond) ∈ TB := mSel (y := yX12_ringGoes) (n := 32) (List.mem_of_getElem? (i := 90) (by decide +kernel)) (by decide +kernel)
theorem dX12_cleared_0 : decode cX12_cleared 0 = .ok (.aload_n 0, 1) := by decide +kernel
theorem dX12_cleared_1 : decode cX12_cleared 1 = .ok (.iconst 0, 1) := by decide +kernel
theorem dX12_cleared_2 : decode cX12_cleared 2 = .ok (.putfield 1, 3) := by decide +kernel
theorem dX12_cleared_5 : decode cX12_cleared 5 = .ok (.aload_n 0, 1) := by decide +kernel
theorem dX12_cleared_6 : decode cX12_cleared 6 = .ok (.iload_n 1, 1) := by decide +kernel
theorem dX12_cleared_7 : decode cX12_cleared 7 = .ok (.invokevirtual 205, 3) := by decide +kernel
theorem dX12_cleared_10 : decode cX12_cleared 10 = .ok (.ifCond .eq 15, 3) := by decide +kernel
theorem dX12_cleared_13 : decode cX12_cleared 13 = .ok (.iload_n 2, 1) := by decide +kernel
theorem dX12_cleared_14 : decode cX12_cleared 14 = .ok (.i2l, 1) := by decide +kernel
theorem dX12_cleared_15 : decode cX12_cleared 15 = .ok (.lconst 0, 1) := by decide +kernel
theorem dX12_cleared_16 : decode cX12_cleared 16 = .ok (.ldc2_w 245, 3) := by decide +kernel
theorem dX12_cleared_19 : decode cX12_cleared 19 = .ok (.invokestatic 103, 3) := by decide +kernel
theorem dX12_cleared_22 : decode cX12_cleared 22 = .ok (.ifCond .ne 6, 3) := by decide +kernel
theorem dX12_cleared_25 : decode cX12_cleared 25 = .ok (.bipush (-2), 2) := by decide +kernel
theorem dX12_cleared_27 : decode cX12_cleared 27 = .ok (.ireturn, 1) := by decide +kernel
theorem dX12_cleared_28 : decode cX12_cleared 28 = .ok (.aload_n 0, 1) := by decide +kernel
theorem dX12_cleared_29 : decode cX12_cleared 29 = .ok (.iload_n 1, 1) := by decide +kernel
theorem dX12_cleared_30 : decode cX12_cleared 30 = .ok (.iconst (-1), 1) := by decide +kernel
theorem dX12_cleared_31 : decode cX12_cleared 31 = .ok (.invokevirtual 234, 3) := by decide +kernel
theorem dX12_cleared_34 : decode cX12_cleared 34 = .ok (.iconst 0, 1) := by decide +kernel
theorem dX12_cleared_35 : decode cX12_cleared 35 = .ok (.istore_n 3, 1) := by decide +kernel
theorem dX12_cleared_36 : decode cX12_cleared 36 = .ok (.iconst 0, 1) := by decide +kernel
theorem dX12_cleared_37 : decode cX12_cleared 37 = .ok (.istore 4, 2) := by decide +kernel
theorem dX12_cleared_39 : decode cX12_cleared 39 = .ok (.aload_n 0, 1) := by decide +kernel
theorem dX12_cleared_40 : decode cX12_cleared 40 = .ok (.invokevirtual 271, 3) := by decide +kernel
theorem dX12_cleared_43 : decode cX12_cleared 43 = .ok (.ifCond .le 25, 3) := by decide +kernel
theorem dX12_cleared_46 : decode cX12_cleared 46 = .ok (.iload_n 3, 1) := by decide +kernel
theorem dX12_cleared_47 : decode cX12_cleared 47 = .ok (.aload_n 0, 1) := by decide +kernel
theorem dX12_cleared_48 : decode cX12_cleared 48 = .ok (.invokevirtual 274, 3) := by decide +kernel
theorem dX12_cleared_51 : decode cX12_cleared 51 = .ok (.aload_n 0, 1) := by decide +kernel
theorem dX12_cleared_52 : decode cX12_cleared 52 = .ok (.getfield 265, 3) := by decide +kernel
theorem dX12_cleared_55 : decode cX12_cleared 55 = .ok (.imul, 1) := by decide +kernel
theorem dX12_cleared_56 : decode cX12_cleared 56 = .ok (.iadd, 1) := by decide +kernel
theorem dX12_cleared_57 : decode cX12_cleared 57 = .ok (.istore_n 3, 1) := by decide +kernel
theorem dX12_cleared_58 : decode cX12_cleared 58 = .ok (.aload_n 0, 1) := by decide +kernel
theorem dX12_cleared_59 : decode cX12_cleared 59 = .ok (.invokevirtual 277, 3) := by decide +kernel
theorem dX12_cleared_62 : decode cX12_cleared 62 = .ok (.iinc 4 1, 3) := by decide +kernel
theorem dX12_cleared_65 : decode cX12_cleared 65 = .ok (.goto (-26), 3) := by decide +kernel
theorem dX12_cleared_68 : decode cX12_cleared 68 = .ok (.iload_n 2, 1) := by decide +kernel
theorem dX12_cleared_69 : decode cX12_cleared 69 = .ok (.ifCond .ne 7, 3) := by decide +kernel
theorem dX12_cleared_72 : decode cX12_cleared 72 = .ok (.iload_n 3, 1) := by decide +kernel
theorem dX12_cleared_73 : decode cX12_cleared 73 = .ok (.goto 17, 3) := by decide +kernel
theorem dX12_cleared_76 : decode cX12_cleared 76 = .ok (.iload_n 2, 1) := by decide +kernel
theorem dX12_cleared_77 : decode cX12_cleared 77 = .ok (.iconst 1, 1) := by decide +kernel
theorem dX12_cleared_78 : decode cX12_cleared 78 = .ok (.if_icmp .ne 8, 3) := by decide +kernel
theorem dX12_cleared_81 : decode cX12_cleared 81 = .ok (.iload 4, 2) := by decide +kernel
theorem dX12_cleared_83 : decode cX12_cleared 83 = .ok (.goto 7, 3) := by decide +kernel
theorem dX12_cleared_86 : decode cX12_cleared 86 = .ok (.aload_n 0, 1) := by decide +kernel
theorem dX12_cleared_87 : decode cX12_cleared 87 = .ok (.invokevirtual 255, 3) := by decide +kernel
theorem dX12_cleared_90 : decode cX12_cleared 90 = .ok (.ireturn, 1) := by decide +kernel
theorem dX12_load_0 : decode cX12_load 0 = .ok (.aload_n 0, 1) := by decide +kernel
theorem dX12_load_1 : decode cX12_load 1 = .ok (.iconst 0, 1) := by decide +kernel
theorem dX12_load_2 : decode cX12_load 2 = .ok (.putfield 1, 3) := by decide +kernel
theorem dX12_load_5 : decode cX12_load 5 = .ok (.aload_n 0, 1) := by decide +kernel
theorem dX12_load_6 : decode cX12_load 6 = .ok (.iload_n 1, 1) := by decide +kernel
theorem dX12_load_7 : decode cX12_load 7 = .ok (.invokevirtual 205, 3) := by decide +kernel
theorem dX12_load_10 : decode cX12_load 10 = .ok (.ifCond .ne 6, 3) := by decide +kernel
theorem dX12_load_13 : decode cX12_load 13 = .ok (.bipush (-2), 2) := by decide +kernel
theorem dX12_load_15 : decode cX12_load 15 = .ok (.ireturn, 1) := by decide +kernel
theorem dX12_load_16 : decode cX12_load 16 = .ok (.aload_n 0, 1) := by decide +kernel
theorem dX12_load_17 : decode cX12_load 17 = .ok (.iload_n 1, 1) := by decide +kernel
theorem dX12_load_18 : decode cX12_load 18 = .ok (.iconst (-1), 1) := by decide +kernel
theorem dX12_load_19 : decode cX12_load 19 = .ok (.invokevirtual 234, 3) := by decide +kernel
theorem dX12_load_22 : decode cX12_load 22 = .ok (.aload_n 0, 1) := by decide +kernel
theorem dX12_load_23 : decode cX12_load 23 = .ok (.invokevirtual 271, 3) := by decide +kernel
theorem dX12_load_26 : decode cX12_load 26 = .ok (.ifCond .ne 7, 3) := by decide +kernel
theorem dX12_load_29 : decode cX12_load 29 = .ok (.iconst (-1), 1) := by decide +kernel
theorem dX12_load_30 : decode cX12_load 30 = .ok (.goto 7, 3) := by decide +kernel
theorem dX12_load_33 : decode cX12_load 33 = .ok (.aload_n 0, 1) := by decide +kernel
theorem dX12_load_34 : decode cX12_load 34 = .ok (.invokevirtual 274, 3) := by decide +kernel
theorem dX12_load_37 : decode cX12_load 37 = .ok (.ireturn, 1) := by decide +kernel
theorem dX12_ring_0 : decode cX12_ring 0 = .ok (.aload_n 0, 1) := by decide +kernel
theorem dX12_ring_1 : decode cX12_ring 1 = .ok (.iconst 0, 1) := by decide +kernel
theorem dX12_ring_2 : decode cX12_ring 2 = .ok (.putfield 1, 3) := by decide +kernel
theorem dX12_ring_5 : decode cX12_ring 5 = .ok (.aload_n 0, 1) := by decide +kernel
theorem dX12_ring_6 : decode cX12_ring 6 = .ok (.iload_n 1, 1) := by decide +kernel
theorem dX12_ring_7 : decode cX12_ring 7 = .ok (.invokevirtual 205, 3) := by decide +kernel
theorem dX12_ring_10 : decode cX12_ring 10 = .ok (.ifCond .ne 6, 3) := by decide +kernel
theorem dX12_ring_13 : decode cX12_ring 13 = .ok (.bipush (-2), 2) := by decide +kernel
theorem dX12_ring_15 : decode cX12_ring 15 = .ok (.ireturn, 1) := by decide +kernel
theorem dX12_ring_16 : decode cX12_ring 16 = .ok (.iload_n 2, 1) := by decide +kernel
theorem dX12_ring_17 : decode cX12_ring 17 = .ok (.iconst (-1), 1) := by decide +kernel
theorem dX12_ring_18 : decode cX12_ring 18 = .ok (.if_icmp .ge 6, 3) := by decide +kernel
theorem dX12_ring_21 : decode cX12_ring 21 = .ok (.bipush (-3), 2) := by decide +kernel
theorem dX12_ring_23 : decode cX12_ring 23 = .ok (.ireturn, 1) := by decide +kernel
theorem dX12_ring_24 : decode cX12_ring 24 = .ok (.aload_n 0, 1) := by decide +kernel
theorem dX12_ring_25 : decode cX12_ring 25 = .ok (.iload_n 1, 1) := by decide +kernel
theorem dX12_ring_26 : decode cX12_ring 26 = .ok (.iconst (-1), 1) := by decide +kernel
theorem dX12_ring_27 : decode cX12_ring 27 = .ok (.invokevirtual 234, 3) := by decide +kernel
theorem dX12_ring_30 : decode cX12_ring 30 = .ok (.aload_n 0, 1) := by decide +kernel
theorem dX12_ring_31 : decode cX12_ring 31 = .ok (.invokevirtual 271, 3) := by decide +kernel
theorem dX12_ring_34 : decode cX12_ring 34 = .ok (.istore_n 3, 1) := by decide +kernel
theorem dX12_ring_35 : decode cX12_ring 35 = .ok (.iload_n 3, 1) := by decide +kernel
theorem dX12_ring_36 : decode cX12_ring 36 = .ok (.ifCond .ne 7, 3) := by decide +kernel
theorem dX12_ring_39 : decode cX12_ring 39 = .ok (.iconst (-1), 1) := by decide +kernel
theorem dX12_ring_40 : decode cX12_ring 40 = .ok (.goto 27, 3) := by decide +kernel
theorem dX12_ring_43 : decode cX12_ring 43 = .ok (.iload_n 2, 1) := by decide +kernel
theorem dX12_ring_44 : decode cX12_ring 44 = .ok (.iconst (-1), 1) := by decide +kernel
theorem dX12_ring_45 : decode cX12_ring 45 = .ok (.if_icmp .ne 7, 3) := by decide +kernel
theorem dX12_ring_48 : decode cX12_ring 48 = .ok (.iload_n 3, 1) := by decide +kernel
theorem dX12_ring_49 : decode cX12_ring 49 = .ok (.goto 18, 3) := by decide +kernel
theorem dX12_ring_52 : decode cX12_ring 52 = .ok (.iload_n 2, 1) := by decide +kernel
theorem dX12_ring_53 : decode cX12_ring 53 = .ok (.iload_n 3, 1) := by decide +kernel
theorem dX12_ring_54 : decode cX12_ring 54 = .ok (.if_icmp .ge 12, 3) := by decide +kernel
theorem dX12_ring_57 : decode cX12_ring 57 = .ok (.aload_n 0, 1) := by decide +kernel
theorem dX12_ring_58 : decode cX12_ring 58 = .ok (.getfield 40, 3) := by decide +kernel
theorem dX12_ring_61 : decode cX12_ring 61 = .ok (.iload_n 2, 1) := by decide +kernel
theorem dX12_ring_62 : decode cX12_ring 62 = .ok (.iaload, 1) := by decide +kernel
theorem dX12_ring_63 : decode cX12_ring 63 = .ok (.goto 4, 3) := by decide +kernel
theorem dX12_ring_66 : decode cX12_ring 66 = .ok (.iconst (-1), 1) := by decide +kernel
theorem dX12_ring_67 : decode cX12_ring 67 = .ok (.ireturn, 1) := by decide +kernel
theorem dX12_rounds_0 : decode cX12_rounds 0 = .ok (.aload_n 0, 1) := by decide +kernel
theorem dX12_rounds_1 : decode cX12_rounds 1 = .ok (.iconst 0, 1) := by decide +kernel
theorem dX12_rounds_2 : decode cX12_rounds 2 = .ok (.putfield 1, 3) := by decide +kernel
theorem dX12_rounds_5 : decode cX12_rounds 5 = .ok (.aload_n 0, 1) := by decide +kernel
theorem dX12_rounds_6 : decode cX12_rounds 6 = .ok (.iload_n 1, 1) := by decide +kernel
theorem dX12_rounds_7 : decode cX12_rounds 7 = .ok (.invokevirtual 205, 3) := by decide +kernel
theorem dX12_rounds_10 : decode cX12_rounds 10 = .ok (.ifCond .ne 6, 3) := by decide +kernel
theorem dX12_rounds_13 : decode cX12_rounds 13 = .ok (.bipush (-2), 2) := by decide +kernel
theorem dX12_rounds_15 : decode cX12_rounds 15 = .ok (.ireturn, 1) := by decide +kernel
theorem dX12_rounds_16 : decode cX12_rounds 16 = .ok (.iload_n 2, 1) := by decide +kernel
theorem dX12_rounds_17 : decode cX12_rounds 17 = .ok (.i2l, 1) := by decide +kernel
theorem dX12_rounds_18 : decode cX12_rounds 18 = .ok (.lconst 0, 1) := by decide +kernel
theorem dX12_rounds_19 : decode cX12_rounds 19 = .ok (.ldc2_w 280, 3) := by decide +kernel
theorem dX12_rounds_22 : decode cX12_rounds 22 = .ok (.invokestatic 103, 3) := by decide +kernel
theorem dX12_rounds_25 : decode cX12_rounds 25 = .ok (.ifCond .ne 6, 3) := by decide +kernel
theorem dX12_rounds_28 : decode cX12_rounds 28 = .ok (.bipush (-3), 2) := by decide +kernel
theorem dX12_rounds_30 : decode cX12_rounds 30 = .ok (.ireturn, 1) := by decide +kernel
theorem dX12_rounds_31 : decode cX12_rounds 31 = .ok (.aload_n 0, 1) := by decide +kernel
theorem dX12_rounds_32 : decode cX12_rounds 32 = .ok (.iload_n 1, 1) := by decide +kernel
theorem dX12_rounds_33 : decode cX12_rounds 33 = .ok (.iconst (-1), 1) := by decide +kernel
theorem dX12_rounds_34 : decode cX12_rounds 34 = .ok (.invokevirtual 234, 3) := by decide +kernel
theorem dX12_rounds_37 : decode cX12_rounds 37 = .ok (.iconst 0, 1) := by decide +kernel
theorem dX12_rounds_38 : decode cX12_rounds 38 = .ok (.istore_n 3, 1) := by decide +kernel
theorem dX12_rounds_39 : decode cX12_rounds 39 = .ok (.iload_n 3, 1) := by decide +kernel
theorem dX12_rounds_40 : decode cX12_rounds 40 = .ok (.iload_n 2, 1) := by decide +kernel
theorem dX12_rounds_41 : decode cX12_rounds 41 = .ok (.if_icmp .ge 20, 3) := by decide +kernel
theorem dX12_rounds_44 : decode cX12_rounds 44 = .ok (.aload_n 0, 1) := by decide +kernel
theorem dX12_rounds_45 : decode cX12_rounds 45 = .ok (.invokevirtual 271, 3) := by decide +kernel
theorem dX12_rounds_48 : decode cX12_rounds 48 = .ok (.ifCond .le 13, 3) := by decide +kernel
theorem dX12_rounds_51 : decode cX12_rounds 51 = .ok (.aload_n 0, 1) := by decide +kernel
theorem dX12_rounds_52 : decode cX12_rounds 52 = .ok (.invokevirtual 277, 3) := by decide +kernel
theorem dX12_rounds_55 : decode cX12_rounds 55 = .ok (.iinc 3 1, 3) := by decide +kernel
theorem dX12_rounds_58 : decode cX12_rounds 58 = .ok (.goto (-19), 3) := by decide +kernel
theorem dX12_rounds_61 : decode cX12_rounds 61 = .ok (.aload_n 0, 1) := by decide +kernel
theorem dX12_rounds_62 : decode cX12_rounds 62 = .ok (.invokevirtual 252, 3) := by decide +kernel
theorem dX12_rounds_65 : decode cX12_rounds 65 = .ok (.ireturn, 1) := by decide +kernel
set_option maxHeartbeats 4000000 in
set_option maxRecDepth 100000 in
theorem m_ring (l : Launch) (dC : Nat → ClassId) (dI : Nat → Nat → Nat) (cy : Nat → ClassId) (L : List Nat) (kap : Nat → Nat) (pr : Pr) (S : Nat → va_E) (sz : Nat) (o : Nat) (kd : Int32) (ix : Int32) (hTy : Ty cy L kap pr S) (hT_o : TK L kap o 12) : Met l yX12_ring (wT yX12_ring cX12_ring 4 (some .int)) ({ frames := 10, cells := 0, slots := 0, locals := 243 }) (pcN dC dI [.ref o, .int kd, .int ix] sz (va_pl L S) (cyT cy) NLs []) (va_Qi (fun r S' => Ty cy L kap pr S' ∧ Fr kap [12, 56, 57] S S') (fun S' t => pB dC dI (AL L sz) (va_pl L S') (cyT cy) t) (AL L sz)) 0 0 (AL L sz) := by
  refine Met.ofW (cc := cX12_ring) (maxL := 4) (ret := (some .int)) (by decide) rfl ?_
  intro p e s m args below meth c s₁ B hml hv
  obtain ⟨rfl, hsz, hP, hK, hD0, hN, -⟩ := hv
  have hx := B.exec
  have hb := B.bytes
  have hr := B.returns
  have hT : ∀ wd ∈ TB, wd.before [.ref o, .int kd, .int ix].toArray s = true := fun wd h => atoms_spec (ws := wT yX12_ring cX12_ring 4 (some .int)) B.pre wd (List.mem_cons_of_mem _ h)
  have hown : s.vm.findClass RX12 = some m.cls := findClass_of_methodNamed B.named
  have hlocks := B.notSynchronized
  subst hsz
  have hW : PW dC dI L (AL L s.heap.size) s.heap S s.heap [] := ⟨hP, pl_self hD0, va_S.rf⟩
  have hA0 : ∀ q, q ∈ L → AL L s.heap.size q := fun _ h => Or.inl h
  have hA : ∀ q, s.heap.size ≤ q → AL L s.heap.size q := fun _ h => Or.inr h
  have hFr : Fr kap [12, 56, 57] S S := Fr.rf
  have hl := lv_entry ([.ref o, .int kd, .int ix]) (n := 4) (Nat.le_of_ble_eq_true rfl)
  rw [lg_entry_eq]
  generalize (lg_sl ([.ref o, .int kd, .int ix]) ++ List.replicate (4 - (lg_sl ([.ref o, .int kd, .int ix])).length) Slot.unset).toArray = ls at hl ⊢
  have hl : lv_has ls 4 [(0, .ref o), (1, .int kd), (2, .int ix)] := hl
  refine lv_aload_n hx hb dX12_ring_0 rfl (lv_at hl 0 rfl) ?_
  refine lv_iconst (v := 0) hx hb dX12_ring_1 (by decide) ?_
  obtain ⟨x_1, x_2, x_3, x_4, x_5, x_6, x_7, x_8, x_9, x_10, x_11, x_12, x_13, x_14, x_15, x_16, x_17, x_18, x_19, x_20, x_21, x_22, x_23, x_24, x_25, x_26, x_27, x_28, x_29, x_30, x_31, hS_o, hT_x_1, hT_x_2, hT_x_3, hT_x_4, hT_x_5, hb_x_6, hb_x_7, hb_x_8, hT_x_10, hb_q2, hb_x_11, hb_x_12, hT_x_17, hT_x_18, hb_x_19, hT_x_20, hT_x_21, hT_x_22, hT_x_23, hT_x_24, hT_x_25, hT_x_26, hT_x_27, hT_x_28, hT_x_29, hT_x_30, hb_x_31⟩ := hTy.k12 hT_o
  have hb_q2 : pr.2 ≤ 900 := hb_q2
  have hS_o : S o = .inr (12, [.ref x_1, .ref x_2, .ref x_3, .ref x_4, .ref x_5, .int (nI x_6), .int (nI x_7), .int (nI x_8), .int x_9, .ref x_10, .int (nI (pr.2)), .int (nI x_11), .int (nI x_12), .int x_13, .int x_14, .int x_15, .int x_16, .ref x_17, .ref x_18, .int (nI x_19), .ref x_20, .ref x_21, .ref x_22, .ref x_23, .ref x_24, .ref x_25, .ref x_26, .ref x_27, .ref x_28, .ref x_29, .ref x_30, .int (nI x_31)]) := hS_o
  refine pl_put (ci := 12) (v := .int 0) (ty := .int) (C := RX12) (T := TX12) (N := 32) (fs' := [.ref x_1, .ref x_2, .ref x_3, .ref x_4, .ref x_5, .int (nI x_6), .int (nI x_7), .int (nI x_8), .int 0, .ref x_10, .int (nI (pr.2)), .int (nI x_11), .int (nI x_12), .int x_13, .int x_14, .int x_15, .int x_16, .ref x_17, .ref x_18, .int (nI x_19), .ref x_20, .ref x_21, .ref x_22, .ref x_23, .ref x_24, .ref x_25, .ref x_26, .ref x_27, .ref x_28, .ref x_29, .ref x_30, .int (nI x_31)]) hx hb hT iX12 tyX12 tyX12_ok nmX12 hown hK hW hT_o.1 hS_o rfl 8 (by decide) w1090 rfl (by decide +kernel) rfl rfl (Nat.le_of_ble_eq_true rfl) rfl dX12_ring_2 (fun H locs S_32 e1 hW => ?_)
  have hTy := hTy.u12 e1 hT_o ⟨x_1, x_2, x_3, x_4, x_5, x_6, x_7, x_8, 0, x_10, x_11, x_12, x_13, x_14, x_15, x_16, x_17, x_18, x_19, x_20, x_21, x_22, x_23, x_24, x_25, x_26, x_27, x_28, x_29, x_30, x_31, rfl, hT_x_1, hT_x_2, hT_x_3, hT_x_4, hT_x_5, (by omega), (by omega), (by omega), hT_x_10, (by show pr.2 ≤ 900; omega), (by omega), (by omega), hT_x_17, hT_x_18, (by omega), hT_x_20, hT_x_21, hT_x_22, hT_x_23, hT_x_24, hT_x_25, hT_x_26, hT_x_27, hT_x_28, hT_x_29, hT_x_30, (by omega)⟩
  have hws := (show wrs (.inr (12, [.ref x_1, .ref x_2, .ref x_3, .ref x_4, .ref x_5, .int (nI x_6), .int (nI x_7), .int (nI x_8), .int 0, .ref x_10, .int (nI (pr.2)), .int (nI x_11), .int (nI x_12), .int x_13, .int x_14, .int x_15, .int x_16, .ref x_17, .ref x_18, .int (nI x_19), .ref x_20, .ref x_21, .ref x_22, .ref x_23, .ref x_24, .ref x_25, .ref x_26, .ref x_27, .ref x_28, .ref x_29, .ref x_30, .int (nI x_31)])) = wrs (S o) from by rw [hS_o]; rfl)
  have hFr := ufs hFr e1 hT_o (by decide) hws
  have hS_o := us e1
  refine lv_aload_n hx hb dX12_ring_5 rfl (lv_at hl 0 rfl) ?_
  refine lv_iload_n hx hb dX12_ring_6 rfl (lv_at hl 1 rfl) ?_
  refine vp_callSi (va_Run.run (va_runV (As := [.int kd]) (rest := []) ⟨hx, hb, hml, hown, hT⟩ (m_isKind l dC dI cy L kap pr S_32 H.size o kd hTy hT_o) (cwV 1 hT (gV w1288 w1290 ws74 w14 w1291) rfl rfl rfl (by decide +kernel) ⟨(Nat.le_of_ble_eq_true rfl), (Nat.le_of_ble_eq_true rfl)⟩) ⟨pcN.blind, pl_recv hK hW hT_o.1 hS_o rfl, pcN.pre hW.1 hK hW.2.1 hN (fun q h => absurd h List.not_mem_nil)⟩ rfl rfl hl.1 rfl (lv_room (Nat.le_of_ble_eq_true rfl)) dX12_ring_7 ⟨(Nat.le_of_ble_eq_true rfl), (Nat.le_of_ble_eq_true rfl)⟩)) (fun r_33 hr_33 => ?_)
  rcases hr_33 with hc_ | hc_
  · obtain rfl : r_33 = 0 := hc_
    refine lv_if_ne (tgt := 16) hx hb dX12_ring_10 (by decide) (fun h => absurd (by decide) h) (fun _ => ?_)
    refine lv_bipush (v := (-2)) hx hb dX12_ring_13 (by decide) ?_
    exact W.iret (v := (-2)) hx hb hr (fun t ht h9 => ⟨⟨(-2), S_32, rfl, ⟨hTy, hFr⟩, by rw [ht]; exact hW.1, va_K.moved h9.alike hK, hW.2.1⟩, hW.2.2.F ht⟩) hW.2.2.2.2 dX12_ring_15
  · obtain ⟨rfl, k_34, hb_k_34, rfl⟩ := hc_
    refine lv_if_ne (tgt := 16) hx hb dX12_ring_10 (by decide) (fun _ => ?_) (fun h => absurd h (by decide))
    refine lv_iload_n hx hb dX12_ring_16 rfl (lv_at hl 2 rfl) ?_
    refine lv_iconst (v := (-1)) hx hb dX12_ring_17 (by decide) ?_
    refine lv_icmp_ge (tgt := 24) hx hb dX12_ring_18 (by decide) (fun c_18 => ?_) (fun c_18 => ?_)
    · refine lv_aload_n hx hb dX12_ring_24 rfl (lv_at hl 0 rfl) ?_
      refine lv_iload_n hx hb dX12_ring_25 rfl (lv_at hl 1 rfl) ?_
      refine lv_iconst (v := (-1)) hx hb dX12_ring_26 (by decide) ?_
      refine pl_callv (va_runV (As := [.int (nI k_34), .int (-1)]) (rest := []) ⟨hx, hb, hml, hown, hT⟩ (m_laysFlows l dC dI cy L kap pr S_32 H.size o (nI k_34) (-1) hTy hT_o) (cwV 2 hT (gV w1336 w1338 ws78 w14 w1339) rfl rfl rfl (by decide +kernel) ⟨(Nat.le_of_ble_eq_true rfl), (Nat.le_of_ble_eq_true rfl)⟩) ⟨pcN.blind, pl_recv hK hW hT_o.1 hS_o rfl, pcN.pre hW.1 hK hW.2.1 hN (fun q h => absurd h List.not_mem_nil)⟩ rfl rfl hl.1 rfl (lv_room (Nat.le_of_ble_eq_true rfl)) dX12_ring_27 ⟨(Nat.le_of_ble_eq_true rfl), (Nat.le_of_ble_eq_true rfl)⟩) hW hA0 hA (fun S_35 H locs hrel hW => ?_)
      obtain ⟨hTy, hF1⟩ := hrel
      have hFr := hFr.tr hF1 (by decide)
      have hS_o := hF1.at hT_o (by decide) hS_o
      refine lv_aload_n hx hb dX12_ring_30 rfl (lv_at hl 0 rfl) ?_
      obtain ⟨f_36, hS_x_17⟩ := hTy.k56 hT_x_17
      obtain ⟨f_37, hS_x_18, hi_f_37⟩ := hTy.k57 hT_x_18
      have h17_ : fld S_35 o 17 = f_36 := fld_i hS_o rfl hS_x_17
      have h18_ : fld S_35 o 18 = f_37 := fld_i hS_o rfl hS_x_18
      refine pl_calli (va_runV (As := []) (rest := []) ⟨hx, hb, hml, hown, hT⟩ (m_laysRing l dC dI cy L kap pr S_35 H.size o hTy hT_o x_6 ⟨inf_i hS_o rfl, by omega⟩) (cwV 0 hT (gV w1394 w1396 ws86 w14 w1397) rfl rfl rfl (by decide +kernel) ⟨(Nat.le_of_ble_eq_true rfl), (Nat.le_of_ble_eq_true rfl)⟩) ⟨pcN.blind, pl_recv hK hW hT_o.1 hS_o rfl, pcN.pre hW.1 hK hW.2.1 hN (fun q h => absurd h List.not_mem_nil)⟩ rfl rfl hl.1 rfl (lv_room (Nat.le_of_ble_eq_true rfl)) dX12_ring_31 ⟨(Nat.le_of_ble_eq_true rfl), (Nat.le_of_ble_eq_true rfl)⟩) hW hA0 hA (fun r_39 S_38 H locs hrel hW => ?_)
      obtain ⟨hTy, hF1, hx1⟩ := hrel
      have hFr := hFr.tr hF1 (by decide)
      have hS_x_17 := hF1.at hT_x_17 (by decide) hS_x_17
      obtain ⟨n_40, hb_n_40, ho12_, hrg_⟩ := hx1
      have hS_o : S_38 o = .inr (12, [.ref x_1, .ref x_2, .ref x_3, .ref x_4, .ref x_5, .int (nI x_6), .int (nI x_7), .int (nI x_8), .int 0, .ref x_10, .int (nI (pr.2)), .int (nI x_11), .int (nI x_12), .int x_13, .int x_14, .int x_15, .int x_16, .ref x_17, .ref x_18, .int (nI n_40), .ref x_20, .ref x_21, .ref x_22, .ref x_23, .ref x_24, .ref x_25, .ref x_26, .ref x_27, .ref x_28, .ref x_29, .ref x_30, .int (nI x_31)]) := ho12_ _ hS_o
      obtain ⟨f_41, hS_x_18, hi_f_41⟩ := hTy.k57 hT_x_18
      rw [h17_, fld_i (S := S_38) hS_o rfl hS_x_18] at hrg_
      rcases hrg_ with hc_ | hc_
      · obtain ⟨rfl, hnor⟩ := hc_
        refine lv_istore_n (lv' := [(3, .int 0), (0, .ref o), (1, .int (nI k_34)), (2, .int ix)]) hx hb dX12_ring_34 rfl hl (by decide) rfl (fun ls hl => ?_)
        refine lv_iload_n hx hb dX12_ring_35 rfl (lv_at hl 0 rfl) ?_
        refine lv_if_ne (tgt := 43) hx hb dX12_ring_36 (by decide) (fun h => absurd (by decide) h) (fun _ => ?_)
        refine lv_iconst (v := (-1)) hx hb dX12_ring_39 (by decide) ?_
        refine lv_goto (tgt := 67) hx hb dX12_ring_40 (by decide) ?_
        exact W.iret (v := (-1)) hx hb hr (fun t ht h9 => ⟨⟨(-1), S_38, rfl, ⟨hTy, hFr⟩, by rw [ht]; exact hW.1, va_K.moved h9.alike hK, hW.2.1⟩, hW.2.2.F ht⟩) hW.2.2.2.2 dX12_ring_67
      · obtain ⟨hn2_, rfl, hRNG⟩ := hc_
        refine lv_istore_n (lv' := [(3, .int (nI n_40)), (0, .ref o), (1, .int (nI k_34)), (2, .int ix)]) hx hb dX12_ring_34 rfl hl (by decide) rfl (fun ls hl => ?_)
        refine lv_iload_n hx hb dX12_ring_35 rfl (lv_at hl 0 rfl) ?_
        refine lv_if_ne (tgt := 43) hx hb dX12_ring_36 (by decide) (fun c_36 => ?_) (fun c_36 => ?_)
        · have c_36 : ¬ (n_40 = 0) := fun hh9 => c_36 ((nI_eq (a := n_40) (b := 0) (by omega) (by omega)).mpr hh9)
          refine lv_iload_n hx hb dX12_ring_43 rfl (lv_at hl 3 rfl) ?_
          refine lv_iconst (v := (-1)) hx hb dX12_ring_44 (by decide) ?_
          refine lv_icmp_ne (tgt := 52) hx hb dX12_ring_45 (by decide) (fun c_45 => ?_) (fun c_45 => ?_)
          · refine lv_iload_n hx hb dX12_ring_52 rfl (lv_at hl 3 rfl) ?_
            refine lv_iload_n hx hb dX12_ring_53 rfl (lv_at hl 0 rfl) ?_
            refine lv_icmp_ge (tgt := 66) hx hb dX12_ring_54 (by decide) (fun c_54 => ?_) (fun c_54 => ?_)
            · refine lv_iconst (v := (-1)) hx hb dX12_ring_66 (by decide) ?_
              exact W.iret (v := (-1)) hx hb hr (fun t ht h9 => ⟨⟨(-1), S_38, rfl, ⟨hTy, hFr⟩, by rw [ht]; exact hW.1, va_K.moved h9.alike hK, hW.2.1⟩, hW.2.2.F ht⟩) hW.2.2.2.2 dX12_ring_67
            · obtain ⟨k_42, hb_k_42, rfl⟩ := nix (n := n_40) c_18 c_45 (nlt_of_nle c_54) (by omega)
              refine lv_aload_n hx hb dX12_ring_57 rfl (lv_at hl 1 rfl) ?_
              refine pl_get (ci := 12) (v := .ref x_18) (C := RX12) (T := TX12) (N := 32) hx hb hT iX12 hown hK hW hT_o.1 hS_o rfl 18 (by decide) w1100 rfl dX12_ring_58 ?_
              refine lv_iload_n hx hb dX12_ring_61 rfl (lv_at hl 3 rfl) ?_
              refine pl_iald hx hb hK hW hT_x_18.1 hS_x_18 (vp_in_nI (n := k_42) (N := 8) (by omega) (by omega)) dX12_ring_62 ?_
              refine lv_topi (fun y_43 ey_43 => ?_)
              obtain ⟨k_44, hb_k_44, hq_k_44⟩ := hi_f_41 (k_42) (by omega)
              obtain rfl : y_43 = nI k_44 := ey_43.trans (by show f_41 (nI (k_42)).toNatClampNeg = _; rw [nI_clamp (by omega)]; exact hq_k_44)
              refine lv_goto (tgt := 67) hx hb dX12_ring_63 (by decide) ?_
              exact W.iret (v := nI k_44) hx hb hr (fun t ht h9 => ⟨⟨nI k_44, S_38, rfl, ⟨hTy, hFr⟩, by rw [ht]; exact hW.1, va_K.moved h9.alike hK, hW.2.1⟩, hW.2.2.F ht⟩) hW.2.2.2.2 dX12_ring_67
          · refine lv_iload_n hx hb dX12_ring_48 rfl (lv_at hl 0 rfl) ?_
            refine lv_goto (tgt := 67) hx hb dX12_ring_49 (by decide) ?_
            exact W.iret (v := nI n_40) hx hb hr (fun t ht h9 => ⟨⟨nI n_40, S_38, rfl, ⟨hTy, hFr⟩, by rw [ht]; exact hW.1, va_K.moved h9.alike hK, hW.2.1⟩, hW.2.2.F ht⟩) hW.2.2.2.2 dX12_ring_67
        · have c_36 : n_40 = 0 := (nI_eq (a := n_40) (b := 0) (by omega) (by omega)).mp c_36
          refine lv_iconst (v := (-1)) hx hb dX12_ring_39 (by decide) ?_
          refine lv_goto (tgt := 67) hx hb dX12_ring_40 (by decide) ?_
          exact W.iret (v := (-1)) hx hb hr (fun t ht h9 => ⟨⟨(-1), S_38, rfl, ⟨hTy, hFr⟩, by rw [ht]; exact hW.1, va_K.moved h9.alike hK, hW.2.1⟩, hW.2.2.F ht⟩) hW.2.2.2.2 dX12_ring_67
    · refine lv_bipush (v := (-3)) hx hb dX12_ring_21 (by decide) ?_
      exact W.iret (v := (-3)) hx hb hr (fun t ht h9 => ⟨⟨(-3), S_32, rfl, ⟨hTy, hFr⟩, by rw [ht]; exact hW.1, va_K.moved h9.alike hK, hW.2.1⟩, hW.2.2.F ht⟩) hW.2.2.2.2 dX12_ring_23

set_option maxHeartbeats 4000000 in
set_option maxRecDepth 100000 in
theorem m_load (l : Launch) (dC : Nat → ClassId) (dI : Nat → Nat → Nat) (cy : Nat → ClassId) (L : List Nat) (kap : Nat → Nat) (pr : Pr) (S : Nat → va_E) (sz : Nat) (o : Nat) (kd : Int32) (hTy : Ty cy L kap pr S) (hT_o : TK L kap o 12) : Met l yX12_load (wT yX12_load cX12_load 2 (some .int)) ({ frames := 10, cells := 0, slots := 0, locals := 243 }) (pcN dC dI [.ref o, .int kd] sz (va_pl L S) (cyT cy) NLs []) (va_Qi (fun r S' => Ty cy L kap pr S' ∧ Fr kap [12, 56, 57] S S') (fun S' t => pB dC dI (AL L sz) (va_pl L S') (cyT cy) t) (AL L sz)) 0 0 (AL L sz) := by
  refine Met.ofW (cc := cX12_load) (maxL := 2) (ret := (some .int)) (by decide) rfl ?_
  intro p e s m args below meth c s₁ B hml hv
  obtain ⟨rfl, hsz, hP, hK, hD0, hN, -⟩ := hv
  have hx := B.exec
  have hb := B.bytes
  have hr := B.returns
  have hT : ∀ wd ∈ TB, wd.before [.ref o, .int kd].toArray s = true := fun wd h => atoms_spec (ws := wT yX12_load cX12_load 2 (some .int)) B.pre wd (List.mem_cons_of_mem _ h)
  have hown : s.vm.findClass RX12 = some m.cls := findClass_of_methodNamed B.named
  have hlocks := B.notSynchronized
  subst hsz
  have hW : PW dC dI L (AL L s.heap.size) s.heap S s.heap [] := ⟨hP, pl_self hD0, va_S.rf⟩
  have hA0 : ∀ q, q ∈ L → AL L s.heap.size q := fun _ h => Or.inl h
  have hA : ∀ q, s.heap.size ≤ q → AL L s.heap.size q := fun _ h => Or.inr h
  have hFr : Fr kap [12, 56, 57] S S := Fr.rf
  have hl := lv_entry ([.ref o, .int kd]) (n := 2) (Nat.le_of_ble_eq_true rfl)
  rw [lg_entry_eq]
  generalize (lg_sl ([.ref o, .int kd]) ++ List.replicate (2 - (lg_sl ([.ref o, .int kd])).length) Slot.unset).toArray = ls at hl ⊢
  have hl : lv_has ls 2 [(0, .ref o), (1, .int kd)] := hl
  refine lv_aload_n hx hb dX12_load_0 rfl (lv_at hl 0 rfl) ?_
  refine lv_iconst (v := 0) hx hb dX12_load_1 (by decide) ?_
  obtain ⟨x_1, x_2, x_3, x_4, x_5, x_6, x_7, x_8, x_9, x_10, x_11, x_12, x_13, x_14, x_15, x_16, x_17, x_18, x_19, x_20, x_21, x_22, x_23, x_24, x_25, x_26, x_27, x_28, x_29, x_30, x_31, hS_o, hT_x_1, hT_x_2, hT_x_3, hT_x_4, hT_x_5, hb_x_6, hb_x_7, hb_x_8, hT_x_10, hb_q2, hb_x_11, hb_x_12, hT_x_17, hT_x_18, hb_x_19, hT_x_20, hT_x_21, hT_x_22, hT_x_23, hT_x_24, hT_x_25, hT_x_26, hT_x_27, hT_x_28, hT_x_29, hT_x_30, hb_x_31⟩ := hTy.k12 hT_o
  have hb_q2 : pr.2 ≤ 900 := hb_q2
  have hS_o : S o = .inr (12, [.ref x_1, .ref x_2, .ref x_3, .ref x_4, .ref x_5, .int (nI x_6), .int (nI x_7), .int (nI x_8), .int x_9, .ref x_10, .int (nI (pr.2)), .int (nI x_11), .int (nI x_12), .int x_13, .int x_14, .int x_15, .int x_16, .ref x_17, .ref x_18, .int (nI x_19), .ref x_20, .ref x_21, .ref x_22, .ref x_23, .ref x_24, .ref x_25, .ref x_26, .ref x_27, .ref x_28, .ref x_29, .ref x_30, .int (nI x_31)]) := hS_o
  refine pl_put (ci := 12) (v := .int 0) (ty := .int) (C := RX12) (T := TX12) (N := 32) (fs' := [.ref x_1, .ref x_2, .ref x_3, .ref x_4, .ref x_5, .int (nI x_6), .int (nI x_7), .int (nI x_8), .int 0, .ref x_10, .int (nI (pr.2)), .int (nI x_11), .int (nI x_12), .int x_13, .int x_14, .int x_15, .int x_16, .ref x_17, .ref x_18, .int (nI x_19), .ref x_20, .ref x_21, .ref x_22, .ref x_23, .ref x_24, .ref x_25, .ref x_26, .ref x_27, .ref x_28, .ref x_29, .ref x_30, .int (nI x_31)]) hx hb hT iX12 tyX12 tyX12_ok nmX12 hown hK hW hT_o.1 hS_o rfl 8 (by decide) w1090 rfl (by decide +kernel) rfl rfl (Nat.le_of_ble_eq_true rfl) rfl dX12_load_2 (fun H locs S_32 e1 hW => ?_)
  have hTy := hTy.u12 e1 hT_o ⟨x_1, x_2, x_3, x_4, x_5, x_6, x_7, x_8, 0, x_10, x_11, x_12, x_13, x_14, x_15, x_16, x_17, x_18, x_19, x_20, x_21, x_22, x_23, x_24, x_25, x_26, x_27, x_28, x_29, x_30, x_31, rfl, hT_x_1, hT_x_2, hT_x_3, hT_x_4, hT_x_5, (by omega), (by omega), (by omega), hT_x_10, (by show pr.2 ≤ 900; omega), (by omega), (by omega), hT_x_17, hT_x_18, (by omega), hT_x_20, hT_x_21, hT_x_22, hT_x_23, hT_x_24, hT_x_25, hT_x_26, hT_x_27, hT_x_28, hT_x_29, hT_x_30, (by omega)⟩
  have hws := (show wrs (.inr (12, [.ref x_1, .ref x_2, .ref x_3, .ref x_4, .ref x_5, .int (nI x_6), .int (nI x_7), .int (nI x_8), .int 0, .ref x_10, .int (nI (pr.2)), .int (nI x_11), .int (nI x_12), .int x_13, .int x_14, .int x_15, .int x_16, .ref x_17, .ref x_18, .int (nI x_19), .ref x_20, .ref x_21, .ref x_22, .ref x_23, .ref x_24, .ref x_25, .ref x_26, .ref x_27, .ref x_28, .ref x_29, .ref x_30, .int (nI x_31)])) = wrs (S o) from by rw [hS_o]; rfl)
  have hFr := ufs hFr e1 hT_o (by decide) hws
  have hS_o := us e1
  refine lv_aload_n hx hb dX12_load_5 rfl (lv_at hl 0 rfl) ?_
  refine lv_iload_n hx hb dX12_load_6 rfl (lv_at hl 1 rfl) ?_
  refine vp_callSi (va_Run.run (va_runV (As := [.int kd]) (rest := []) ⟨hx, hb, hml, hown, hT⟩ (m_isKind l dC dI cy L kap pr S_32 H.size o kd hTy hT_o) (cwV 1 hT (gV w1288 w1290 ws74 w14 w1291) rfl rfl rfl (by decide +kernel) ⟨(Nat.le_of_ble_eq_true rfl), (Nat.le_of_ble_eq_true rfl)⟩) ⟨pcN.blind, pl_recv hK hW hT_o.1 hS_o rfl, pcN.pre hW.1 hK hW.2.1 hN (fun q h => absurd h List.not_mem_nil)⟩ rfl rfl hl.1 rfl (lv_room (Nat.le_of_ble_eq_true rfl)) dX12_load_7 ⟨(Nat.le_of_ble_eq_true rfl), (Nat.le_of_ble_eq_true rfl)⟩)) (fun r_33 hr_33 => ?_)
  rcases hr_33 with hc_ | hc_
  · obtain rfl : r_33 = 0 := hc_
    refine lv_if_ne (tgt := 16) hx hb dX12_load_10 (by decide) (fun h => absurd (by decide) h) (fun _ => ?_)
    refine lv_bipush (v := (-2)) hx hb dX12_load_13 (by decide) ?_
    exact W.iret (v := (-2)) hx hb hr (fun t ht h9 => ⟨⟨(-2), S_32, rfl, ⟨hTy, hFr⟩, by rw [ht]; exact hW.1, va_K.moved h9.alike hK, hW.2.1⟩, hW.2.2.F ht⟩) hW.2.2.2.2 dX12_load_15
  · obtain ⟨rfl, k_34, hb_k_34, rfl⟩ := hc_
    refine lv_if_ne (tgt := 16) hx hb dX12_load_10 (by decide) (fun _ => ?_) (fun h => absurd h (by decide))
    refine lv_aload_n hx hb dX12_load_16 rfl (lv_at hl 0 rfl) ?_
    refine lv_iload_n hx hb dX12_load_17 rfl (lv_at hl 1 rfl) ?_
    refine lv_iconst (v := (-1)) hx hb dX12_load_18 (by decide) ?_
    refine pl_callv (va_runV (As := [.int (nI k_34), .int (-1)]) (rest := []) ⟨hx, hb, hml, hown, hT⟩ (m_laysFlows l dC dI cy L kap pr S_32 H.size o (nI k_34) (-1) hTy hT_o) (cwV 2 hT (gV w1336 w1338 ws78 w14 w1339) rfl rfl rfl (by decide +kernel) ⟨(Nat.le_of_ble_eq_true rfl), (Nat.le_of_ble_eq_true rfl)⟩) ⟨pcN.blind, pl_recv hK hW hT_o.1 hS_o rfl, pcN.pre hW.1 hK hW.2.1 hN (fun q h => absurd h List.not_mem_nil)⟩ rfl rfl hl.1 rfl (lv_room (Nat.le_of_ble_eq_true rfl)) dX12_load_19 ⟨(Nat.le_of_ble_eq_true rfl), (Nat.le_of_ble_eq_true rfl)⟩) hW hA0 hA (fun S_35 H locs hrel hW => ?_)
    obtain ⟨hTy, hF1⟩ := hrel
    have hFr := hFr.tr hF1 (by decide)
    have hS_o := hF1.at hT_o (by decide) hS_o
    refine lv_aload_n hx hb dX12_load_22 rfl (lv_at hl 0 rfl) ?_
    obtain ⟨f_36, hS_x_17⟩ := hTy.k56 hT_x_17
    obtain ⟨f_37, hS_x_18, hi_f_37⟩ := hTy.k57 hT_x_18
    have h17_ : fld S_35 o 17 = f_36 := fld_i hS_o rfl hS_x_17
    have h18_ : fld S_35 o 18 = f_37 := fld_i hS_o rfl hS_x_18
    refine pl_calli (va_runV (As := []) (rest := []) ⟨hx, hb, hml, hown, hT⟩ (m_laysRing l dC dI cy L kap pr S_35 H.size o hTy hT_o x_6 ⟨inf_i hS_o rfl, by omega⟩) (cwV 0 hT (gV w1394 w1396 ws86 w14 w1397) rfl rfl rfl (by decide +kernel) ⟨(Nat.le_of_ble_eq_true rfl), (Nat.le_of_ble_eq_true rfl)⟩) ⟨pcN.blind, pl_recv hK hW hT_o.1 hS_o rfl, pcN.pre hW.1 hK hW.2.1 hN (fun q h => absurd h List.not_mem_nil)⟩ rfl rfl hl.1 rfl (lv_room (Nat.le_of_ble_eq_true rfl)) dX12_load_23 ⟨(Nat.le_of_ble_eq_true rfl), (Nat.le_of_ble_eq_true rfl)⟩) hW hA0 hA (fun r_39 S_38 H locs hrel hW => ?_)
    obtain ⟨hTy, hF1, hx1⟩ := hrel
    have hFr := hFr.tr hF1 (by decide)
    have hS_x_17 := hF1.at hT_x_17 (by decide) hS_x_17
    obtain ⟨n_40, hb_n_40, ho12_, hrg_⟩ := hx1
    have hS_o : S_38 o = .inr (12, [.ref x_1, .ref x_2, .ref x_3, .ref x_4, .ref x_5, .int (nI x_6), .int (nI x_7), .int (nI x_8), .int 0, .ref x_10, .int (nI (pr.2)), .int (nI x_11), .int (nI x_12), .int x_13, .int x_14, .int x_15, .int x_16, .ref x_17, .ref x_18, .int (nI n_40), .ref x_20, .ref x_21, .ref x_22, .ref x_23, .ref x_24, .ref x_25, .ref x_26, .ref x_27, .ref x_28, .ref x_29, .ref x_30, .int (nI x_31)]) := ho12_ _ hS_o
    obtain ⟨f_41, hS_x_18, hi_f_41⟩ := hTy.k57 hT_x_18
    rw [h17_, fld_i (S := S_38) hS_o rfl hS_x_18] at hrg_
    rcases hrg_ with hc_ | hc_
    · obtain ⟨rfl, hnor⟩ := hc_
      refine lv_if_ne (tgt := 33) hx hb dX12_load_26 (by decide) (fun h => absurd (by decide) h) (fun _ => ?_)
      refine lv_iconst (v := (-1)) hx hb dX12_load_29 (by decide) ?_
      refine lv_goto (tgt := 37) hx hb dX12_load_30 (by decide) ?_
      exact W.iret (v := (-1)) hx hb hr (fun t ht h9 => ⟨⟨(-1), S_38, rfl, ⟨hTy, hFr⟩, by rw [ht]; exact hW.1, va_K.moved h9.alike hK, hW.2.1⟩, hW.2.2.F ht⟩) hW.2.2.2.2 dX12_load_37
    · obtain ⟨hn2_, rfl, hRNG⟩ := hc_
      refine lv_if_ne (tgt := 33) hx hb dX12_load_26 (by decide) (fun c_26 => ?_) (fun c_26 => ?_)
      · have c_26 : ¬ (n_40 = 0) := fun hh9 => c_26 ((nI_eq (a := n_40) (b := 0) (by omega) (by omega)).mpr hh9)
        refine lv_aload_n hx hb dX12_load_33 rfl (lv_at hl 0 rfl) ?_
        refine vp_callSi (va_Run.run (va_runV (As := []) (rest := []) ⟨hx, hb, hml, hown, hT⟩ (m_loadOf l dC dI cy L kap pr S_38 H.size o hTy hT_o n_40 (inf_i hS_o rfl) (by omega) (by omega)) (cwV 0 hT (gV w1406 w1408 ws88 w14 w1409) rfl rfl rfl (by decide +kernel) ⟨(Nat.le_of_ble_eq_true rfl), (Nat.le_of_ble_eq_true rfl)⟩) ⟨pcN.blind, pl_recv hK hW hT_o.1 hS_o rfl, pcN.pre hW.1 hK hW.2.1 hN (fun q h => absurd h List.not_mem_nil)⟩ rfl rfl hl.1 rfl (lv_room (Nat.le_of_ble_eq_true rfl)) dX12_load_34 ⟨(Nat.le_of_ble_eq_true rfl), (Nat.le_of_ble_eq_true rfl)⟩)) (fun r_42 hr_42 => ?_)
        have hld_ := hr_42
        exact W.iret (v := r_42) hx hb hr (fun t ht h9 => ⟨⟨r_42, S_38, rfl, ⟨hTy, hFr⟩, by rw [ht]; exact hW.1, va_K.moved h9.alike hK, hW.2.1⟩, hW.2.2.F ht⟩) hW.2.2.2.2 dX12_load_37
      · have c_26 : n_40 = 0 := (nI_eq (a := n_40) (b := 0) (by omega) (by omega)).mp c_26
        refine lv_iconst (v := (-1)) hx hb dX12_load_29 (by decide) ?_
        refine lv_goto (tgt := 37) hx hb dX12_load_30 (by decide) ?_
        exact W.iret (v := (-1)) hx hb hr (fun t ht h9 => ⟨⟨(-1), S_38, rfl, ⟨hTy, hFr⟩, by rw [ht]; exact hW.1, va_K.moved h9.alike hK, hW.2.1⟩, hW.2.2.F ht⟩) hW.2.2.2.2 dX12_load_37

set_option maxHeartbeats 4000000 in
set_option maxRecDepth 100000 in
theorem m_cleared (l : Launch) (dC : Nat → ClassId) (dI : Nat → Nat → Nat) (cy : Nat → ClassId) (L : List Nat) (kap : Nat → Nat) (pr : Pr) (S : Nat → va_E) (sz : Nat) (o : Nat) (kd : Int32) (wh : Int32) (hTy : Ty cy L kap pr S) (hT_o : TK L kap o 12) : Met l yX12_cleared (wT yX12_cleared cX12_cleared 5 (some .int)) ({ frames := 10, cells := 0, slots := 0, locals := 243 }) (pcN dC dI [.ref o, .int kd, .int wh] sz (va_pl L S) (cyT cy) NLs []) (va_Qi (fun r S' => Ty cy L kap pr S' ∧ Fr kap [12, 56, 57] S S') (fun S' t => pB dC dI (AL L sz) (va_pl L S') (cyT cy) t) (AL L sz)) 0 0 (AL L sz) := by
  refine Met.ofW (cc := cX12_cleared) (maxL := 5) (ret := (some .int)) (by decide) rfl ?_
  intro p e s m args below meth c s₁ B hml hv
  obtain ⟨rfl, hsz, hP, hK, hD0, hN, -⟩ := hv
  have hx := B.exec
  have hb := B.bytes
  have hr := B.returns
  have hT : ∀ wd ∈ TB, wd.before [.ref o, .int kd, .int wh].toArray s = true := fun wd h => atoms_spec (ws := wT yX12_cleared cX12_cleared 5 (some .int)) B.pre wd (List.mem_cons_of_mem _ h)
  have hown : s.vm.findClass RX12 = some m.cls := findClass_of_methodNamed B.named
  have hlocks := B.notSynchronized
  subst hsz
  have hW : PW dC dI L (AL L s.heap.size) s.heap S s.heap [] := ⟨hP, pl_self hD0, va_S.rf⟩
  have hA0 : ∀ q, q ∈ L → AL L s.heap.size q := fun _ h => Or.inl h
  have hA : ∀ q, s.heap.size ≤ q → AL L s.heap.size q := fun _ h => Or.inr h
  have hFr : Fr kap [12, 56, 57] S S := Fr.rf
  have hl := lv_entry ([.ref o, .int kd, .int wh]) (n := 5) (Nat.le_of_ble_eq_true rfl)
  rw [lg_entry_eq]
  generalize (lg_sl ([.ref o, .int kd, .int wh]) ++ List.replicate (5 - (lg_sl ([.ref o, .int kd, .int wh])).length) Slot.unset).toArray = ls at hl ⊢
  have hl : lv_has ls 5 [(0, .ref o), (1, .int kd), (2, .int wh)] := hl
  refine lv_aload_n hx hb dX12_cleared_0 rfl (lv_at hl 0 rfl) ?_
  refine lv_iconst (v := 0) hx hb dX12_cleared_1 (by decide) ?_
  obtain ⟨x_1, x_2, x_3, x_4, x_5, x_6, x_7, x_8, x_9, x_10, x_11, x_12, x_13, x_14, x_15, x_16, x_17, x_18, x_19, x_20, x_21, x_22, x_23, x_24, x_25, x_26, x_27, x_28, x_29, x_30, x_31, hS_o, hT_x_1, hT_x_2, hT_x_3, hT_x_4, hT_x_5, hb_x_6, hb_x_7, hb_x_8, hT_x_10, hb_q2, hb_x_11, hb_x_12, hT_x_17, hT_x_18, hb_x_19, hT_x_20, hT_x_21, hT_x_22, hT_x_23, hT_x_24, hT_x_25, hT_x_26, hT_x_27, hT_x_28, hT_x_29, hT_x_30, hb_x_31⟩ := hTy.k12 hT_o
  have hb_q2 : pr.2 ≤ 900 := hb_q2
  have hS_o : S o = .inr (12, [.ref x_1, .ref x_2, .ref x_3, .ref x_4, .ref x_5, .int (nI x_6), .int (nI x_7), .int (nI x_8), .int x_9, .ref x_10, .int (nI (pr.2)), .int (nI x_11), .int (nI x_12), .int x_13, .int x_14, .int x_15, .int x_16, .ref x_17, .ref x_18, .int (nI x_19), .ref x_20, .ref x_21, .ref x_22, .ref x_23, .ref x_24, .ref x_25, .ref x_26, .ref x_27, .ref x_28, .ref x_29, .ref x_30, .int (nI x_31)]) := hS_o
  refine pl_put (ci := 12) (v := .int 0) (ty := .int) (C := RX12) (T := TX12) (N := 32) (fs' := [.ref x_1, .ref x_2, .ref x_3, .ref x_4, .ref x_5, .int (nI x_6), .int (nI x_7), .int (nI x_8), .int 0, .ref x_10, .int (nI (pr.2)), .int (nI x_11), .int (nI x_12), .int x_13, .int x_14, .int x_15, .int x_16, .ref x_17, .ref x_18, .int (nI x_19), .ref x_20, .ref x_21, .ref x_22, .ref x_23, .ref x_24, .ref x_25, .ref x_26, .ref x_27, .ref x_28, .ref x_29, .ref x_30, .int (nI x_31)]) hx hb hT iX12 tyX12 tyX12_ok nmX12 hown hK hW hT_o.1 hS_o rfl 8 (by decide) w1090 rfl (by decide +kernel) rfl rfl (Nat.le_of_ble_eq_true rfl) rfl dX12_cleared_2 (fun H locs S_32 e1 hW => ?_)
  have hTy := hTy.u12 e1 hT_o ⟨x_1, x_2, x_3, x_4, x_5, x_6, x_7, x_8, 0, x_10, x_11, x_12, x_13, x_14, x_15, x_16, x_17, x_18, x_19, x_20, x_21, x_22, x_23, x_24, x_25, x_26, x_27, x_28, x_29, x_30, x_31, rfl, hT_x_1, hT_x_2, hT_x_3, hT_x_4, hT_x_5, (by omega), (by omega), (by omega), hT_x_10, (by show pr.2 ≤ 900; omega), (by omega), (by omega), hT_x_17, hT_x_18, (by omega), hT_x_20, hT_x_21, hT_x_22, hT_x_23, hT_x_24, hT_x_25, hT_x_26, hT_x_27, hT_x_28, hT_x_29, hT_x_30, (by omega)⟩
  have hws := (show wrs (.inr (12, [.ref x_1, .ref x_2, .ref x_3, .ref x_4, .ref x_5, .int (nI x_6), .int (nI x_7), .int (nI x_8), .int 0, .ref x_10, .int (nI (pr.2)), .int (nI x_11), .int (nI x_12), .int x_13, .int x_14, .int x_15, .int x_16, .ref x_17, .ref x_18, .int (nI x_19), .ref x_20, .ref x_21, .ref x_22, .ref x_23, .ref x_24, .ref x_25, .ref x_26, .ref x_27, .ref x_28, .ref x_29, .ref x_30, .int (nI x_31)])) = wrs (S o) from by rw [hS_o]; rfl)
  have hFr := ufs hFr e1 hT_o (by decide) hws
  have hS_o := us e1
  refine lv_aload_n hx hb dX12_cleared_5 rfl (lv_at hl 0 rfl) ?_
  refine lv_iload_n hx hb dX12_cleared_6 rfl (lv_at hl 1 rfl) ?_
  refine vp_callSi (va_Run.run (va_runV (As := [.int kd]) (rest := []) ⟨hx, hb, hml, hown, hT⟩ (m_isKind l dC dI cy L kap pr S_32 H.size o kd hTy hT_o) (cwV 1 hT (gV w1288 w1290 ws74 w14 w1291) rfl rfl rfl (by decide +kernel) ⟨(Nat.le_of_ble_eq_true rfl), (Nat.le_of_ble_eq_true rfl)⟩) ⟨pcN.blind, pl_recv hK hW hT_o.1 hS_o rfl, pcN.pre hW.1 hK hW.2.1 hN (fun q h => absurd h List.not_mem_nil)⟩ rfl rfl hl.1 rfl (lv_room (Nat.le_of_ble_eq_true rfl)) dX12_cleared_7 ⟨(Nat.le_of_ble_eq_true rfl), (Nat.le_of_ble_eq_true rfl)⟩)) (fun r_33 hr_33 => ?_)
  rcases hr_33 with hc_ | hc_
  · obtain rfl : r_33 = 0 := hc_
    refine lv_if_eq (tgt := 25) hx hb dX12_cleared_10 (by decide) (fun _ => ?_) (fun h => absurd (by decide) h)
    refine lv_bipush (v := (-2)) hx hb dX12_cleared_25 (by decide) ?_
    exact W.iret (v := (-2)) hx hb hr (fun t ht h9 => ⟨⟨(-2), S_32, rfl, ⟨hTy, hFr⟩, by rw [ht]; exact hW.1, va_K.moved h9.alike hK, hW.2.1⟩, hW.2.2.F ht⟩) hW.2.2.2.2 dX12_cleared_27
  · obtain ⟨rfl, k_34, hb_k_34, rfl⟩ := hc_
    refine lv_if_eq (tgt := 25) hx hb dX12_cleared_10 (by decide) (fun h => absurd h (by decide)) (fun _ => ?_)
    refine lv_iload_n hx hb dX12_cleared_13 rfl (lv_at hl 2 rfl) ?_
    refine lv_i2l hx hb dX12_cleared_14 rfl ?_
    refine lv_topl (fun z_35 ez_35 => ?_)
    refine lv_lconst (v := 0) hx hb dX12_cleared_15 (by decide) ?_
    refine lv_ldc2 (v := 2) hx hb hown (hT _ w1368) dX12_cleared_16 ?_
    refine vp_callSi (va_Run.run (va_runS (As := [.long z_35, .long 0, .long 2]) (rest := []) ⟨hx, hb, hml, hown, hT⟩ (m_isIn l dC dI H.size z_35 0 2) (va_cwS 3 hT (gS w1187 w1188 w14 w1189) rfl rfl rfl (by decide +kernel) ⟨(Nat.le_of_ble_eq_true rfl), (Nat.le_of_ble_eq_true rfl)⟩) ⟨pcW.blind, pcW.pre (va_P0 _ _ _) (hK.sub (tys' := []) [] rfl) (va_D0 (fun _ => True))⟩ rfl rfl hl.1 rfl (lv_room (Nat.le_of_ble_eq_true rfl)) dX12_cleared_19 ⟨(Nat.le_of_ble_eq_true rfl), (Nat.le_of_ble_eq_true rfl)⟩)) (fun r_36 hr_36 => ?_)
    rcases isInc hr_36 with hc_ | hc_
    · obtain ⟨rfl, hin_⟩ := hc_
      obtain ⟨k_37, hb_k_37, rfl⟩ := inK (H := 2) ez_35 hin_ (by decide) (by decide)
      refine lv_if_ne (tgt := 28) hx hb dX12_cleared_22 (by decide) (fun _ => ?_) (fun h => absurd h (by decide))
      refine lv_aload_n hx hb dX12_cleared_28 rfl (lv_at hl 0 rfl) ?_
      refine lv_iload_n hx hb dX12_cleared_29 rfl (lv_at hl 1 rfl) ?_
      refine lv_iconst (v := (-1)) hx hb dX12_cleared_30 (by decide) ?_
      refine pl_callv (va_runV (As := [.int (nI k_34), .int (-1)]) (rest := []) ⟨hx, hb, hml, hown, hT⟩ (m_laysFlows l dC dI cy L kap pr S_32 H.size o (nI k_34) (-1) hTy hT_o) (cwV 2 hT (gV w1336 w1338 ws78 w14 w1339) rfl rfl rfl (by decide +kernel) ⟨(Nat.le_of_ble_eq_true rfl), (Nat.le_of_ble_eq_true rfl)⟩) ⟨pcN.blind, pl_recv hK hW hT_o.1 hS_o rfl, pcN.pre hW.1 hK hW.2.1 hN (fun q h => absurd h List.not_mem_nil)⟩ rfl rfl hl.1 rfl (lv_room (Nat.le_of_ble_eq_true rfl)) dX12_cleared_31 ⟨(Nat.le_of_ble_eq_true rfl), (Nat.le_of_ble_eq_true rfl)⟩) hW hA0 hA (fun S_38 H locs hrel hW => ?_)
      obtain ⟨hTy, hF1⟩ := hrel
      have hFr := hFr.tr hF1 (by decide)
      have hS_o := hF1.at hT_o (by decide) hS_o
      refine lv_iconst (v := 0) hx hb dX12_cleared_34 (by decide) ?_
      refine lv_istore_n (lv' := [(3, .int 0), (0, .ref o), (1, .int (nI k_34)), (2, .int (nI k_37))]) hx hb dX12_cleared_35 rfl hl (by decide) rfl (fun ls hl => ?_)
      refine lv_iconst (v := 0) hx hb dX12_cleared_36 (by decide) ?_
      refine lv_istore (lv' := [(4, .int 0), (3, .int 0), (0, .ref o), (1, .int (nI k_34)), (2, .int (nI k_37))]) hx hb dX12_cleared_37 hl (by decide) rfl (fun ls hl => ?_)
      obtain ⟨f_39, hS_x_17⟩ := hTy.k56 hT_x_17
      have loop : ∀ (fuel : Nat) (sm : Int32) (rg : Int32) (gq : Nat) (gf : Nat → Int32) (SS : Nat → va_E) (H : Heap) (locs : List Loc) (ls : Array Slot), nzc gf < fuel → (SS o = .inr (12, [.ref x_1, .ref x_2, .ref x_3, .ref x_4, .ref x_5, .int (nI x_6), .int (nI x_7), .int (nI x_8), .int 0, .ref x_10, .int (nI (pr.2)), .int (nI x_11), .int (nI x_12), .int x_13, .int x_14, .int x_15, .int x_16, .ref x_17, .ref x_18, .int (nI gq), .ref x_20, .ref x_21, .ref x_22, .ref x_23, .ref x_24, .ref x_25, .ref x_26, .ref x_27, .ref x_28, .ref x_29, .ref x_30, .int (nI x_31)])) → (SS x_17 = .inl (cy 0, 64, .inl gf)) → (gq ≤ 8) → Ty cy L kap pr SS → Fr kap [12, 56, 57] S SS → Fr kap [12, 56, 57, 112] S_38 SS → PW dC dI L (AL L s.heap.size) s.heap SS H locs → lv_has ls 5 [(4, .int rg), (3, .int sm), (0, .ref o), (1, .int (nI k_34)), (2, .int (nI k_37))] → W p l e (headSpec (wT yX12_cleared cX12_cleared 5 (some .int)) { frames := 10, cells := 0, slots := 0, locals := 243 }).room s m [.ref o, .int (nI k_34), .int (nI k_37)].toArray below meth c H locs 0 0 (MQ below (va_Qi (fun r S' => Ty cy L kap pr S' ∧ Fr kap [12, 56, 57] S S') (fun S' t => pB dC dI (AL L s.heap.size) (va_pl L S') (cyT cy) t) (AL L s.heap.size)) [.ref o, .int (nI k_34), .int (nI k_37)].toArray s 0 0 (AL L s.heap.size)) (F0 m 39 ls []) := by
        intro fuel
        induction fuel with
        | zero => intro sm rg gq gf SS H locs ls h; exact absurd h (Nat.not_lt_zero _)
        | succ fu39 ih39 =>
          intro sm rg gq gf S_40 H locs ls hm39 hS_o hFs hgq hTy hFr hFl39 hW hl
          refine lv_aload_n hx hb dX12_cleared_39 rfl (lv_at hl 2 rfl) ?_
          obtain ⟨f_41, hS_x_18, hi_f_41⟩ := hTy.k57 hT_x_18
          have h17_ : fld S_40 o 17 = gf := fld_i hS_o rfl hFs
          have h18_ : fld S_40 o 18 = f_41 := fld_i hS_o rfl hS_x_18
          refine pl_calli (va_runV (As := []) (rest := []) ⟨hx, hb, hml, hown, hT⟩ (m_laysRing l dC dI cy L kap pr S_40 H.size o hTy hT_o x_6 ⟨inf_i hS_o rfl, by omega⟩) (cwV 0 hT (gV w1394 w1396 ws86 w14 w1397) rfl rfl rfl (by decide +kernel) ⟨(Nat.le_of_ble_eq_true rfl), (Nat.le_of_ble_eq_true rfl)⟩) ⟨pcN.blind, pl_recv hK hW hT_o.1 hS_o rfl, pcN.pre hW.1 hK hW.2.1 hN (fun q h => absurd h List.not_mem_nil)⟩ rfl rfl hl.1 rfl (lv_room (Nat.le_of_ble_eq_true rfl)) dX12_cleared_40 ⟨(Nat.le_of_ble_eq_true rfl), (Nat.le_of_ble_eq_true rfl)⟩) hW hA0 hA (fun r_43 S_42 H locs hrel hW => ?_)
          obtain ⟨hTy, hF1, hx1⟩ := hrel
          have hFr := hFr.tr hF1 (by decide)
          have hFl39 := hFl39.tr hF1 (by decide)
          have hFs := hF1.at hT_x_17 (by decide) hFs
          obtain ⟨n_44, hb_n_44, ho12_, hrg_⟩ := hx1
          have hS_o : S_42 o = .inr (12, [.ref x_1, .ref x_2, .ref x_3, .ref x_4, .ref x_5, .int (nI x_6), .int (nI x_7), .int (nI x_8), .int 0, .ref x_10, .int (nI (pr.2)), .int (nI x_11), .int (nI x_12), .int x_13, .int x_14, .int x_15, .int x_16, .ref x_17, .ref x_18, .int (nI n_44), .ref x_20, .ref x_21, .ref x_22, .ref x_23, .ref x_24, .ref x_25, .ref x_26, .ref x_27, .ref x_28, .ref x_29, .ref x_30, .int (nI x_31)]) := ho12_ _ hS_o
          obtain ⟨f_45, hS_x_18, hi_f_45⟩ := hTy.k57 hT_x_18
          rw [h17_, fld_i (S := S_42) hS_o rfl hS_x_18] at hrg_
          rcases hrg_ with hc_ | hc_
          · obtain ⟨rfl, hnor⟩ := hc_
            refine lv_if_le (tgt := 68) hx hb dX12_cleared_43 (by decide) (fun _ => ?_) (fun h => absurd (by decide) h)
            refine lv_iload_n hx hb dX12_cleared_68 rfl (lv_at hl 4 rfl) ?_
            refine lv_if_ne (tgt := 76) hx hb dX12_cleared_69 (by decide) (fun c_69 => ?_) (fun c_69 => ?_)
            · have c_69 : ¬ (k_37 = 0) := fun hh9 => c_69 ((nI_eq (a := k_37) (b := 0) (by omega) (by omega)).mpr hh9)
              refine lv_iload_n hx hb dX12_cleared_76 rfl (lv_at hl 4 rfl) ?_
              refine lv_iconst (v := 1) hx hb dX12_cleared_77 (by decide) ?_
              refine lv_icmp_ne (tgt := 86) hx hb dX12_cleared_78 (by decide) (fun c_78 => ?_) (fun c_78 => ?_)
              · have c_78 : ¬ (k_37 = 1) := fun hh9 => c_78 ((nI_eq (a := k_37) (b := 1) (by omega) (by omega)).mpr hh9)
                refine lv_aload_n hx hb dX12_cleared_86 rfl (lv_at hl 2 rfl) ?_
                refine vp_callSi (va_Run.run (va_runV (As := []) (rest := []) ⟨hx, hb, hml, hown, hT⟩ (m_positive l dC dI cy L kap pr S_42 H.size o hTy hT_o) (cwV 0 hT (gV w1378 w1380 ws84 w14 w1381) rfl rfl rfl (by decide +kernel) ⟨(Nat.le_of_ble_eq_true rfl), (Nat.le_of_ble_eq_true rfl)⟩) ⟨pcN.blind, pl_recv hK hW hT_o.1 hS_o rfl, pcN.pre hW.1 hK hW.2.1 hN (fun q h => absurd h List.not_mem_nil)⟩ rfl rfl hl.1 rfl (lv_room (Nat.le_of_ble_eq_true rfl)) dX12_cleared_87 ⟨(Nat.le_of_ble_eq_true rfl), (Nat.le_of_ble_eq_true rfl)⟩)) (fun r_46 hr_46 => ?_)
                exact W.iret (v := r_46) hx hb hr (fun t ht h9 => ⟨⟨r_46, S_42, rfl, ⟨hTy, hFr⟩, by rw [ht]; exact hW.1, va_K.moved h9.alike hK, hW.2.1⟩, hW.2.2.F ht⟩) hW.2.2.2.2 dX12_cleared_90
              · have c_78 : k_37 = 1 := (nI_eq (a := k_37) (b := 1) (by omega) (by omega)).mp c_78
                refine lv_iload hx hb dX12_cleared_81 (lv_at hl 0 rfl) ?_
                refine lv_goto (tgt := 90) hx hb dX12_cleared_83 (by decide) ?_
                exact W.iret (v := rg) hx hb hr (fun t ht h9 => ⟨⟨rg, S_42, rfl, ⟨hTy, hFr⟩, by rw [ht]; exact hW.1, va_K.moved h9.alike hK, hW.2.1⟩, hW.2.2.F ht⟩) hW.2.2.2.2 dX12_cleared_90
            · have c_69 : k_37 = 0 := (nI_eq (a := k_37) (b := 0) (by omega) (by omega)).mp c_69
              refine lv_iload_n hx hb dX12_cleared_72 rfl (lv_at hl 1 rfl) ?_
              refine lv_goto (tgt := 90) hx hb dX12_cleared_73 (by decide) ?_
              exact W.iret (v := sm) hx hb hr (fun t ht h9 => ⟨⟨sm, S_42, rfl, ⟨hTy, hFr⟩, by rw [ht]; exact hW.1, va_K.moved h9.alike hK, hW.2.1⟩, hW.2.2.F ht⟩) hW.2.2.2.2 dX12_cleared_90
          · obtain ⟨hn2_, rfl, hRNG⟩ := hc_
            refine lv_if_le (tgt := 68) hx hb dX12_cleared_43 (by decide) (fun c_43 => ?_) (fun c_43 => ?_)
            · have c_43 : n_44 ≤ 0 := (nI_leI (a := n_44) (b := 0) (by omega) (by omega)).mp c_43
              refine lv_iload_n hx hb dX12_cleared_68 rfl (lv_at hl 4 rfl) ?_
              refine lv_if_ne (tgt := 76) hx hb dX12_cleared_69 (by decide) (fun c_69 => ?_) (fun c_69 => ?_)
              · have c_69 : ¬ (k_37 = 0) := fun hh9 => c_69 ((nI_eq (a := k_37) (b := 0) (by omega) (by omega)).mpr hh9)
                refine lv_iload_n hx hb dX12_cleared_76 rfl (lv_at hl 4 rfl) ?_
                refine lv_iconst (v := 1) hx hb dX12_cleared_77 (by decide) ?_
                refine lv_icmp_ne (tgt := 86) hx hb dX12_cleared_78 (by decide) (fun c_78 => ?_) (fun c_78 => ?_)
                · have c_78 : ¬ (k_37 = 1) := fun hh9 => c_78 ((nI_eq (a := k_37) (b := 1) (by omega) (by omega)).mpr hh9)
                  refine lv_aload_n hx hb dX12_cleared_86 rfl (lv_at hl 2 rfl) ?_
                  refine vp_callSi (va_Run.run (va_runV (As := []) (rest := []) ⟨hx, hb, hml, hown, hT⟩ (m_positive l dC dI cy L kap pr S_42 H.size o hTy hT_o) (cwV 0 hT (gV w1378 w1380 ws84 w14 w1381) rfl rfl rfl (by decide +kernel) ⟨(Nat.le_of_ble_eq_true rfl), (Nat.le_of_ble_eq_true rfl)⟩) ⟨pcN.blind, pl_recv hK hW hT_o.1 hS_o rfl, pcN.pre hW.1 hK hW.2.1 hN (fun q h => absurd h List.not_mem_nil)⟩ rfl rfl hl.1 rfl (lv_room (Nat.le_of_ble_eq_true rfl)) dX12_cleared_87 ⟨(Nat.le_of_ble_eq_true rfl), (Nat.le_of_ble_eq_true rfl)⟩)) (fun r_47 hr_47 => ?_)
                  exact W.iret (v := r_47) hx hb hr (fun t ht h9 => ⟨⟨r_47, S_42, rfl, ⟨hTy, hFr⟩, by rw [ht]; exact hW.1, va_K.moved h9.alike hK, hW.2.1⟩, hW.2.2.F ht⟩) hW.2.2.2.2 dX12_cleared_90
                · have c_78 : k_37 = 1 := (nI_eq (a := k_37) (b := 1) (by omega) (by omega)).mp c_78
                  refine lv_iload hx hb dX12_cleared_81 (lv_at hl 0 rfl) ?_
                  refine lv_goto (tgt := 90) hx hb dX12_cleared_83 (by decide) ?_
                  exact W.iret (v := rg) hx hb hr (fun t ht h9 => ⟨⟨rg, S_42, rfl, ⟨hTy, hFr⟩, by rw [ht]; exact hW.1, va_K.moved h9.alike hK, hW.2.1⟩, hW.2.2.F ht⟩) hW.2.2.2.2 dX12_cleared_90
              · have c_69 : k_37 = 0 := (nI_eq (a := k_37) (b := 0) (by omega) (by omega)).mp c_69
                refine lv_iload_n hx hb dX12_cleared_72 rfl (lv_at hl 1 rfl) ?_
                refine lv_goto (tgt := 90) hx hb dX12_cleared_73 (by decide) ?_
                exact W.iret (v := sm) hx hb hr (fun t ht h9 => ⟨⟨sm, S_42, rfl, ⟨hTy, hFr⟩, by rw [ht]; exact hW.1, va_K.moved h9.alike hK, hW.2.1⟩, hW.2.2.F ht⟩) hW.2.2.2.2 dX12_cleared_90
            · have c_43 : ¬ (n_44 ≤ 0) := fun hh9 => c_43 ((nI_leI (a := n_44) (b := 0) (by omega) (by omega)).mpr hh9)
              refine lv_iload_n hx hb dX12_cleared_46 rfl (lv_at hl 1 rfl) ?_
              refine lv_aload_n hx hb dX12_cleared_47 rfl (lv_at hl 2 rfl) ?_
              refine vp_callSi (va_Run.run (va_runV (As := []) (rest := [.int sm]) ⟨hx, hb, hml, hown, hT⟩ (m_loadOf l dC dI cy L kap pr S_42 H.size o hTy hT_o n_44 (inf_i hS_o rfl) (by omega) (by omega)) (cwV 0 hT (gV w1406 w1408 ws88 w14 w1409) rfl rfl rfl (by decide +kernel) ⟨(Nat.le_of_ble_eq_true rfl), (Nat.le_of_ble_eq_true rfl)⟩) ⟨pcN.blind, pl_recv hK hW hT_o.1 hS_o rfl, pcN.pre hW.1 hK hW.2.1 hN (fun q h => absurd h List.not_mem_nil)⟩ rfl rfl hl.1 rfl (lv_room (Nat.le_of_ble_eq_true rfl)) dX12_cleared_48 ⟨(Nat.le_of_ble_eq_true rfl), (Nat.le_of_ble_eq_true rfl)⟩)) (fun r_48 hr_48 => ?_)
              have hld_ := hr_48
              refine lv_aload_n hx hb dX12_cleared_51 rfl (lv_at hl 2 rfl) ?_
              refine pl_get (ci := 12) (v := .int (nI n_44)) (C := RX12) (T := TX12) (N := 32) hx hb hT iX12 hown hK hW hT_o.1 hS_o rfl 19 (by decide) w1101 rfl dX12_cleared_52 ?_
              refine lv_imul hx hb dX12_cleared_55 ?_
              refine lv_topi (fun z_49 ez_49 => ?_)
              refine lv_iadd hx hb dX12_cleared_56 ?_
              refine lv_topi (fun z_50 ez_50 => ?_)
              refine lv_istore_n (lv' := [(3, .int z_50), (4, .int rg), (0, .ref o), (1, .int (nI k_34)), (2, .int (nI k_37))]) hx hb dX12_cleared_57 rfl hl (by decide) rfl (fun ls hl => ?_)
              refine lv_aload_n hx hb dX12_cleared_58 rfl (lv_at hl 2 rfl) ?_
              have h17_ : fld S_42 o 17 = gf := fld_i hS_o rfl hFs
              have h18_ : fld S_42 o 18 = f_45 := fld_i hS_o rfl hS_x_18
              refine pl_callv (va_runV (As := []) (rest := []) ⟨hx, hb, hml, hown, hT⟩ (m_ringGoes l dC dI cy L kap pr S_42 H.size o hTy hT_o n_44 (inf_i hS_o rfl) (by omega) (by omega) (by omega) (by rw [h17_, h18_]; exact hRNG)) (cwV 0 hT (gV w1418 w1420 ws90 w14 w1421) rfl rfl rfl (by decide +kernel) ⟨(Nat.le_of_ble_eq_true rfl), (Nat.le_of_ble_eq_true rfl)⟩) ⟨pcN.blind, pl_recv hK hW hT_o.1 hS_o rfl, pcN.pre hW.1 hK hW.2.1 hN (fun q h => absurd h List.not_mem_nil)⟩ rfl rfl hl.1 rfl (lv_room (Nat.le_of_ble_eq_true rfl)) dX12_cleared_59 ⟨(Nat.le_of_ble_eq_true rfl), (Nat.le_of_ble_eq_true rfl)⟩) hW hA0 hA (fun S_51 H locs hrel hW => ?_)
              obtain ⟨hTy, hF1, hx1⟩ := hrel
              have hFr := hFr.tr hF1 (by decide)
              have hFl39 := hFl39.tr hF1 (by decide)
              have hS_o := hF1.at hT_o (by decide) hS_o
              have hS_x_18 := hF1.at hT_x_18 (by decide) hS_x_18
              obtain ⟨f_52, hS_x_17⟩ := hTy.k56 hT_x_17
              obtain ⟨hnz_, hzz_⟩ := hx1
              rw [fld_i (S := S_51) hS_o rfl hS_x_17, h17_] at hnz_ hzz_
              obtain ⟨u_53, eu_53⟩ : ∃ y : Int32, y = rg + Int32.ofInt (1) := ⟨_, rfl⟩
              refine lv_iinc (v := u_53) (lv' := [(4, .int u_53), (3, .int z_50), (0, .ref o), (1, .int (nI k_34)), (2, .int (nI k_37))]) hx hb dX12_cleared_62 hl (k := 1) rfl eu_53.symm (by decide) rfl (fun ls hl => ?_)
              refine lv_goto (tgt := 39) hx hb dX12_cleared_65 (by decide) ?_
              exact ih39 z_50 u_53 n_44 f_52 _ _ _ ls (by omega) hS_o hS_x_17 (by omega) hTy hFr hFl39 hW (lv_sub hl [0, 1, 2, 3, 4] rfl)
      exact loop ((nzc f_39) + 1) 0 0 x_19 f_39 _ _ _ ls (Nat.lt_succ_self _) hS_o hS_x_17 (by omega) hTy hFr Fr.rf hW (lv_sub hl [0, 1, 2, 3, 4] rfl)
    · obtain ⟨rfl, hin_⟩ := hc_
      refine lv_if_ne (tgt := 28) hx hb dX12_cleared_22 (by decide) (fun h => absurd (by decide) h) (fun _ => ?_)
      refine lv_bipush (v := (-2)) hx hb dX12_cleared_25 (by decide) ?_
      exact W.iret (v := (-2)) hx hb hr (fun t ht h9 => ⟨⟨(-2), S_32, rfl, ⟨hTy, hFr⟩, by rw [ht]; exact hW.1, va_K.moved h9.alike hK, hW.2.1⟩, hW.2.2.F ht⟩) hW.2.2.2.2 dX12_cleared_27

set_option maxHeartbeats 4000000 in
set_option maxRecDepth 100000 in
theorem m_rounds (l : Launch) (dC : Nat → ClassId) (dI : Nat → Nat → Nat) (cy : Nat → ClassId) (L : List Nat) (kap : Nat → Nat) (pr : Pr) (S : Nat → va_E) (sz : Nat) (o : Nat) (kd : Int32) (rq : Int32) (hTy : Ty cy L kap pr S) (hT_o : TK L kap o 12) : Met l yX12_rounds (wT yX12_rounds cX12_rounds 4 (some .int)) ({ frames := 10, cells := 0, slots := 0, locals := 243 }) (pcN dC dI [.ref o, .int kd, .int rq] sz (va_pl L S) (cyT cy) NLs []) (va_Qi (fun r S' => Ty cy L kap pr S' ∧ Fr kap [12, 56, 57] S S') (fun S' t => pB dC dI (AL L sz) (va_pl L S') (cyT cy) t) (AL L sz)) 0 0 (AL L sz) := by
  refine Met.ofW (cc := cX12_rounds) (maxL := 4) (ret := (some .int)) (by decide) rfl ?_
  intro p e s m args below meth c s₁ B hml hv
  obtain ⟨rfl, hsz, hP, hK, hD0, hN, -⟩ := hv
  have hx := B.exec
  have hb := B.bytes
  have hr := B.returns
  have hT : ∀ wd ∈ TB, wd.before [.ref o, .int kd, .int rq].toArray s = true := fun wd h => atoms_spec (ws := wT yX12_rounds cX12_rounds 4 (some .int)) B.pre wd (List.mem_cons_of_mem _ h)
  have hown : s.vm.findClass RX12 = some m.cls := findClass_of_methodNamed B.named
  have hlocks := B.notSynchronized
  subst hsz
  have hW : PW dC dI L (AL L s.heap.size) s.heap S s.heap [] := ⟨hP, pl_self hD0, va_S.rf⟩
  have hA0 : ∀ q, q ∈ L → AL L s.heap.size q := fun _ h => Or.inl h
  have hA : ∀ q, s.heap.size ≤ q → AL L s.heap.size q := fun _ h => Or.inr h
  have hFr : Fr kap [12, 56, 57] S S := Fr.rf
  have hl := lv_entry ([.ref o, .int kd, .int rq]) (n := 4) (Nat.le_of_ble_eq_true rfl)
  rw [lg_entry_eq]
  generalize (lg_sl ([.ref o, .int kd, .int rq]) ++ List.replicate (4 - (lg_sl ([.ref o, .int kd, .int rq])).length) Slot.unset).toArray = ls at hl ⊢
  have hl : lv_has ls 4 [(0, .ref o), (1, .int kd), (2, .int rq)] := hl
  refine lv_aload_n hx hb dX12_rounds_0 rfl (lv_at hl 0 rfl) ?_
  refine lv_iconst (v := 0) hx hb dX12_rounds_1 (by decide) ?_
  obtain ⟨x_1, x_2, x_3, x_4, x_5, x_6, x_7, x_8, x_9, x_10, x_11, x_12, x_13, x_14, x_15, x_16, x_17, x_18, x_19, x_20, x_21, x_22, x_23, x_24, x_25, x_26, x_27, x_28, x_29, x_30, x_31, hS_o, hT_x_1, hT_x_2, hT_x_3, hT_x_4, hT_x_5, hb_x_6, hb_x_7, hb_x_8, hT_x_10, hb_q2, hb_x_11, hb_x_12, hT_x_17, hT_x_18, hb_x_19, hT_x_20, hT_x_21, hT_x_22, hT_x_23, hT_x_24, hT_x_25, hT_x_26, hT_x_27, hT_x_28, hT_x_29, hT_x_30, hb_x_31⟩ := hTy.k12 hT_o
  have hb_q2 : pr.2 ≤ 900 := hb_q2
  have hS_o : S o = .inr (12, [.ref x_1, .ref x_2, .ref x_3, .ref x_4, .ref x_5, .int (nI x_6), .int (nI x_7), .int (nI x_8), .int x_9, .ref x_10, .int (nI (pr.2)), .int (nI x_11), .int (nI x_12), .int x_13, .int x_14, .int x_15, .int x_16, .ref x_17, .ref x_18, .int (nI x_19), .ref x_20, .ref x_21, .ref x_22, .ref x_23, .ref x_24, .ref x_25, .ref x_26, .ref x_27, .ref x_28, .ref x_29, .ref x_30, .int (nI x_31)]) := hS_o
  refine pl_put (ci := 12) (v := .int 0) (ty := .int) (C := RX12) (T := TX12) (N := 32) (fs' := [.ref x_1, .ref x_2, .ref x_3, .ref x_4, .ref x_5, .int (nI x_6), .int (nI x_7), .int (nI x_8), .int 0, .ref x_10, .int (nI (pr.2)), .int (nI x_11), .int (nI x_12), .int x_13, .int x_14, .int x_15, .int x_16, .ref x_17, .ref x_18, .int (nI x_19), .ref x_20, .ref x_21, .ref x_22, .ref x_23, .ref x_24, .ref x_25, .ref x_26, .ref x_27, .ref x_28, .ref x_29, .ref x_30, .int (nI x_31)]) hx hb hT iX12 tyX12 tyX12_ok nmX12 hown hK hW hT_o.1 hS_o rfl 8 (by decide) w1090 rfl (by decide +kernel) rfl rfl (Nat.le_of_ble_eq_true rfl) rfl dX12_rounds_2 (fun H locs S_32 e1 hW => ?_)
  have hTy := hTy.u12 e1 hT_o ⟨x_1, x_2, x_3, x_4, x_5, x_6, x_7, x_8, 0, x_10, x_11, x_12, x_13, x_14, x_15, x_16, x_17, x_18, x_19, x_20, x_21, x_22, x_23, x_24, x_25, x_26, x_27, x_28, x_29, x_30, x_31, rfl, hT_x_1, hT_x_2, hT_x_3, hT_x_4, hT_x_5, (by omega), (by omega), (by omega), hT_x_10, (by show pr.2 ≤ 900; omega), (by omega), (by omega), hT_x_17, hT_x_18, (by omega), hT_x_20, hT_x_21, hT_x_22, hT_x_23, hT_x_24, hT_x_25, hT_x_26, hT_x_27, hT_x_28, hT_x_29, hT_x_30, (by omega)⟩
  have hws := (show wrs (.inr (12, [.ref x_1, .ref x_2, .ref x_3, .ref x_4, .ref x_5, .int (nI x_6), .int (nI x_7), .int (nI x_8), .int 0, .ref x_10, .int (nI (pr.2)), .int (nI x_11), .int (nI x_12), .int x_13, .int x_14, .int x_15, .int x_16, .ref x_17, .ref x_18, .int (nI x_19), .ref x_20, .ref x_21, .ref x_22, .ref x_23, .ref x_24, .ref x_25, .ref x_26, .ref x_27, .ref x_28, .ref x_29, .ref x_30, .int (nI x_31)])) = wrs (S o) from by rw [hS_o]; rfl)
  have hFr := ufs hFr e1 hT_o (by decide) hws
  have hS_o := us e1
  refine lv_aload_n hx hb dX12_rounds_5 rfl (lv_at hl 0 rfl) ?_
  refine lv_iload_n hx hb dX12_rounds_6 rfl (lv_at hl 1 rfl) ?_
  refine vp_callSi (va_Run.run (va_runV (As := [.int kd]) (rest := []) ⟨hx, hb, hml, hown, hT⟩ (m_isKind l dC dI cy L kap pr S_32 H.size o kd hTy hT_o) (cwV 1 hT (gV w1288 w1290 ws74 w14 w1291) rfl rfl rfl (by decide +kernel) ⟨(Nat.le_of_ble_eq_true rfl), (Nat.le_of_ble_eq_true rfl)⟩) ⟨pcN.blind, pl_recv hK hW hT_o.1 hS_o rfl, pcN.pre hW.1 hK hW.2.1 hN (fun q h => absurd h List.not_mem_nil)⟩ rfl rfl hl.1 rfl (lv_room (Nat.le_of_ble_eq_true rfl)) dX12_rounds_7 ⟨(Nat.le_of_ble_eq_true rfl), (Nat.le_of_ble_eq_true rfl)⟩)) (fun r_33 hr_33 => ?_)
  rcases hr_33 with hc_ | hc_
  · obtain rfl : r_33 = 0 := hc_
    refine lv_if_ne (tgt := 16) hx hb dX12_rounds_10 (by decide) (fun h => absurd (by decide) h) (fun _ => ?_)
    refine lv_bipush (v := (-2)) hx hb dX12_rounds_13 (by decide) ?_
    exact W.iret (v := (-2)) hx hb hr (fun t ht h9 => ⟨⟨(-2), S_32, rfl, ⟨hTy, hFr⟩, by rw [ht]; exact hW.1, va_K.moved h9.alike hK, hW.2.1⟩, hW.2.2.F ht⟩) hW.2.2.2.2 dX12_rounds_15
  · obtain ⟨rfl, k_34, hb_k_34, rfl⟩ := hc_
    refine lv_if_ne (tgt := 16) hx hb dX12_rounds_10 (by decide) (fun _ => ?_) (fun h => absurd h (by decide))
    refine lv_iload_n hx hb dX12_rounds_16 rfl (lv_at hl 2 rfl) ?_
    refine lv_i2l hx hb dX12_rounds_17 rfl ?_
    refine lv_topl (fun z_35 ez_35 => ?_)
    refine lv_lconst (v := 0) hx hb dX12_rounds_18 (by decide) ?_
    refine lv_ldc2 (v := 99) hx hb hown (hT _ w1426) dX12_rounds_19 ?_
    refine vp_callSi (va_Run.run (va_runS (As := [.long z_35, .long 0, .long 99]) (rest := []) ⟨hx, hb, hml, hown, hT⟩ (m_isIn l dC dI H.size z_35 0 99) (va_cwS 3 hT (gS w1187 w1188 w14 w1189) rfl rfl rfl (by decide +kernel) ⟨(Nat.le_of_ble_eq_true rfl), (Nat.le_of_ble_eq_true rfl)⟩) ⟨pcW.blind, pcW.pre (va_P0 _ _ _) (hK.sub (tys' := []) [] rfl) (va_D0 (fun _ => True))⟩ rfl rfl hl.1 rfl (lv_room (Nat.le_of_ble_eq_true rfl)) dX12_rounds_22 ⟨(Nat.le_of_ble_eq_true rfl), (Nat.le_of_ble_eq_true rfl)⟩)) (fun r_36 hr_36 => ?_)
    rcases isInc hr_36 with hc_ | hc_
    · obtain ⟨rfl, hin_⟩ := hc_
      obtain ⟨k_37, hb_k_37, rfl⟩ := inK (H := 99) ez_35 hin_ (by decide) (by decide)
      refine lv_if_ne (tgt := 31) hx hb dX12_rounds_25 (by decide) (fun _ => ?_) (fun h => absurd h (by decide))
      refine lv_aload_n hx hb dX12_rounds_31 rfl (lv_at hl 0 rfl) ?_
      refine lv_iload_n hx hb dX12_rounds_32 rfl (lv_at hl 1 rfl) ?_
      refine lv_iconst (v := (-1)) hx hb dX12_rounds_33 (by decide) ?_
      refine pl_callv (va_runV (As := [.int (nI k_34), .int (-1)]) (rest := []) ⟨hx, hb, hml, hown, hT⟩ (m_laysFlows l dC dI cy L kap pr S_32 H.size o (nI k_34) (-1) hTy hT_o) (cwV 2 hT (gV w1336 w1338 ws78 w14 w1339) rfl rfl rfl (by decide +kernel) ⟨(Nat.le_of_ble_eq_true rfl), (Nat.le_of_ble_eq_true rfl)⟩) ⟨pcN.blind, pl_recv hK hW hT_o.1 hS_o rfl, pcN.pre hW.1 hK hW.2.1 hN (fun q h => absurd h List.not_mem_nil)⟩ rfl rfl hl.1 rfl (lv_room (Nat.le_of_ble_eq_true rfl)) dX12_rounds_34 ⟨(Nat.le_of_ble_eq_true rfl), (Nat.le_of_ble_eq_true rfl)⟩) hW hA0 hA (fun S_38 H locs hrel hW => ?_)
      obtain ⟨hTy, hF1⟩ := hrel
      have hFr := hFr.tr hF1 (by decide)
      have hS_o := hF1.at hT_o (by decide) hS_o
      refine lv_iconst (v := 0) hx hb dX12_rounds_37 (by decide) ?_
      refine lv_istore_n (lv' := [(3, .int 0), (0, .ref o), (1, .int (nI k_34)), (2, .int (nI k_37))]) hx hb dX12_rounds_38 rfl hl (by decide) rfl (fun ls hl => ?_)
      obtain ⟨f_39, hS_x_17⟩ := hTy.k56 hT_x_17
      have loop : ∀ (fuel : Nat) (i : Nat) (gq : Nat) (gf : Nat → Int32) (SS : Nat → va_E) (H : Heap) (locs : List Loc) (ls : Array Slot), 100 - i < fuel → (i ≤ 99) → (SS o = .inr (12, [.ref x_1, .ref x_2, .ref x_3, .ref x_4, .ref x_5, .int (nI x_6), .int (nI x_7), .int (nI x_8), .int 0, .ref x_10, .int (nI (pr.2)), .int (nI x_11), .int (nI x_12), .int x_13, .int x_14, .int x_15, .int x_16, .ref x_17, .ref x_18, .int (nI gq), .ref x_20, .ref x_21, .ref x_22, .ref x_23, .ref x_24, .ref x_25, .ref x_26, .ref x_27, .ref x_28, .ref x_29, .ref x_30, .int (nI x_31)])) → (SS x_17 = .inl (cy 0, 64, .inl gf)) → (gq ≤ 8) → Ty cy L kap pr SS → Fr kap [12, 56, 57] S SS → Fr kap [12, 56, 57, 112] S_38 SS → PW dC dI L (AL L s.heap.size) s.heap SS H locs → lv_has ls 4 [(3, .int (nI i)), (0, .ref o), (1, .int (nI k_34)), (2, .int (nI k_37))] → W p l e (headSpec (wT yX12_rounds cX12_rounds 4 (some .int)) { frames := 10, cells := 0, slots := 0, locals := 243 }).room s m [.ref o, .int (nI k_34), .int (nI k_37)].toArray below meth c H locs 0 0 (MQ below (va_Qi (fun r S' => Ty cy L kap pr S' ∧ Fr kap [12, 56, 57] S S') (fun S' t => pB dC dI (AL L s.heap.size) (va_pl L S') (cyT cy) t) (AL L s.heap.size)) [.ref o, .int (nI k_34), .int (nI k_37)].toArray s 0 0 (AL L s.heap.size)) (F0 m 39 ls []) := by
        intro fuel
        induction fuel with
        | zero => intro i gq gf SS H locs ls h; exact absurd h (Nat.not_lt_zero _)
        | succ fu39 ih39 =>
          intro i gq gf S_40 H locs ls hm39 hb_i hS_o hFs hgq hTy hFr hFl39 hW hl
          refine lv_iload_n hx hb dX12_rounds_39 rfl (lv_at hl 0 rfl) ?_
          refine lv_iload_n hx hb dX12_rounds_40 rfl (lv_at hl 3 rfl) ?_
          refine lv_icmp_ge (tgt := 61) hx hb dX12_rounds_41 (by decide) (fun c_41 => ?_) (fun c_41 => ?_)
          · have c_41 : k_37 ≤ i := (nI_leI (a := k_37) (b := i) (by omega) (by omega)).mp c_41
            refine lv_aload_n hx hb dX12_rounds_61 rfl (lv_at hl 1 rfl) ?_
            refine vp_callSi (va_Run.run (va_runV (As := []) (rest := []) ⟨hx, hb, hml, hown, hT⟩ (m_sumFlows l dC dI cy L kap pr S_40 H.size o hTy hT_o) (cwV 0 hT (gV w1374 w1376 ws83 w14 w1377) rfl rfl rfl (by decide +kernel) ⟨(Nat.le_of_ble_eq_true rfl), (Nat.le_of_ble_eq_true rfl)⟩) ⟨pcN.blind, pl_recv hK hW hT_o.1 hS_o rfl, pcN.pre hW.1 hK hW.2.1 hN (fun q h => absurd h List.not_mem_nil)⟩ rfl rfl hl.1 rfl (lv_room (Nat.le_of_ble_eq_true rfl)) dX12_rounds_62 ⟨(Nat.le_of_ble_eq_true rfl), (Nat.le_of_ble_eq_true rfl)⟩)) (fun r_41 hr_41 => ?_)
            exact W.iret (v := r_41) hx hb hr (fun t ht h9 => ⟨⟨r_41, S_40, rfl, ⟨hTy, hFr⟩, by rw [ht]; exact hW.1, va_K.moved h9.alike hK, hW.2.1⟩, hW.2.2.F ht⟩) hW.2.2.2.2 dX12_rounds_65
          · have c_41 : ¬ (k_37 ≤ i) := fun hh9 => c_41 ((nI_leI (a := k_37) (b := i) (by omega) (by omega)).mpr hh9)
            refine lv_aload_n hx hb dX12_rounds_44 rfl (lv_at hl 1 rfl) ?_
            obtain ⟨f_42, hS_x_18, hi_f_42⟩ := hTy.k57 hT_x_18
            have h17_ : fld S_40 o 17 = gf := fld_i hS_o rfl hFs
            have h18_ : fld S_40 o 18 = f_42 := fld_i hS_o rfl hS_x_18
            refine pl_calli (va_runV (As := []) (rest := []) ⟨hx, hb, hml, hown, hT⟩ (m_laysRing l dC dI cy L kap pr S_40 H.size o hTy hT_o x_6 ⟨inf_i hS_o rfl, by omega⟩) (cwV 0 hT (gV w1394 w1396 ws86 w14 w1397) rfl rfl rfl (by decide +kernel) ⟨(Nat.le_of_ble_eq_true rfl), (Nat.le_of_ble_eq_true rfl)⟩) ⟨pcN.blind, pl_recv hK hW hT_o.1 hS_o rfl, pcN.pre hW.1 hK hW.2.1 hN (fun q h => absurd h List.not_mem_nil)⟩ rfl rfl hl.1 rfl (lv_room (Nat.le_of_ble_eq_true rfl)) dX12_rounds_45 ⟨(Nat.le_of_ble_eq_true rfl), (Nat.le_of_ble_eq_true rfl)⟩) hW hA0 hA (fun r_44 S_43 H locs hrel hW => ?_)
            obtain ⟨hTy, hF1, hx1⟩ := hrel
            have hFr := hFr.tr hF1 (by decide)
            have hFl39 := hFl39.tr hF1 (by decide)
            have hFs := hF1.at hT_x_17 (by decide) hFs
            obtain ⟨n_45, hb_n_45, ho12_, hrg_⟩ := hx1
            have hS_o : S_43 o = .inr (12, [.ref x_1, .ref x_2, .ref x_3, .ref x_4, .ref x_5, .int (nI x_6), .int (nI x_7), .int (nI x_8), .int 0, .ref x_10, .int (nI (pr.2)), .int (nI x_11), .int (nI x_12), .int x_13, .int x_14, .int x_15, .int x_16, .ref x_17, .ref x_18, .int (nI n_45), .ref x_20, .ref x_21, .ref x_22, .ref x_23, .ref x_24, .ref x_25, .ref x_26, .ref x_27, .ref x_28, .ref x_29, .ref x_30, .int (nI x_31)]) := ho12_ _ hS_o
            obtain ⟨f_46, hS_x_18, hi_f_46⟩ := hTy.k57 hT_x_18
            rw [h17_, fld_i (S := S_43) hS_o rfl hS_x_18] at hrg_
            rcases hrg_ with hc_ | hc_
            · obtain ⟨rfl, hnor⟩ := hc_
              refine lv_if_le (tgt := 61) hx hb dX12_rounds_48 (by decide) (fun _ => ?_) (fun h => absurd (by decide) h)
              refine lv_aload_n hx hb dX12_rounds_61 rfl (lv_at hl 1 rfl) ?_
              refine vp_callSi (va_Run.run (va_runV (As := []) (rest := []) ⟨hx, hb, hml, hown, hT⟩ (m_sumFlows l dC dI cy L kap pr S_43 H.size o hTy hT_o) (cwV 0 hT (gV w1374 w1376 ws83 w14 w1377) rfl rfl rfl (by decide +kernel) ⟨(Nat.le_of_ble_eq_true rfl), (Nat.le_of_ble_eq_true rfl)⟩) ⟨pcN.blind, pl_recv hK hW hT_o.1 hS_o rfl, pcN.pre hW.1 hK hW.2.1 hN (fun q h => absurd h List.not_mem_nil)⟩ rfl rfl hl.1 rfl (lv_room (Nat.le_of_ble_eq_true rfl)) dX12_rounds_62 ⟨(Nat.le_of_ble_eq_true rfl), (Nat.le_of_ble_eq_true rfl)⟩)) (fun r_47 hr_47 => ?_)
              exact W.iret (v := r_47) hx hb hr (fun t ht h9 => ⟨⟨r_47, S_43, rfl, ⟨hTy, hFr⟩, by rw [ht]; exact hW.1, va_K.moved h9.alike hK, hW.2.1⟩, hW.2.2.F ht⟩) hW.2.2.2.2 dX12_rounds_65
            · obtain ⟨hn2_, rfl, hRNG⟩ := hc_
              refine lv_if_le (tgt := 61) hx hb dX12_rounds_48 (by decide) (fun c_48 => ?_) (fun c_48 => ?_)
              · have c_48 : n_45 ≤ 0 := (nI_leI (a := n_45) (b := 0) (by omega) (by omega)).mp c_48
                refine lv_aload_n hx hb dX12_rounds_61 rfl (lv_at hl 1 rfl) ?_
                refine vp_callSi (va_Run.run (va_runV (As := []) (rest := []) ⟨hx, hb, hml, hown, hT⟩ (m_sumFlows l dC dI cy L kap pr S_43 H.size o hTy hT_o) (cwV 0 hT (gV w1374 w1376 ws83 w14 w1377) rfl rfl rfl (by decide +kernel) ⟨(Nat.le_of_ble_eq_true rfl), (Nat.le_of_ble_eq_true rfl)⟩) ⟨pcN.blind, pl_recv hK hW hT_o.1 hS_o rfl, pcN.pre hW.1 hK hW.2.1 hN (fun q h => absurd h List.not_mem_nil)⟩ rfl rfl hl.1 rfl (lv_room (Nat.le_of_ble_eq_true rfl)) dX12_rounds_62 ⟨(Nat.le_of_ble_eq_true rfl), (Nat.le_of_ble_eq_true rfl)⟩)) (fun r_48 hr_48 => ?_)
                exact W.iret (v := r_48) hx hb hr (fun t ht h9 => ⟨⟨r_48, S_43, rfl, ⟨hTy, hFr⟩, by rw [ht]; exact hW.1, va_K.moved h9.alike hK, hW.2.1⟩, hW.2.2.F ht⟩) hW.2.2.2.2 dX12_rounds_65
              · have c_48 : ¬ (n_45 ≤ 0) := fun hh9 => c_48 ((nI_leI (a := n_45) (b := 0) (by omega) (by omega)).mpr hh9)
                refine lv_aload_n hx hb dX12_rounds_51 rfl (lv_at hl 1 rfl) ?_
                have h17_ : fld S_43 o 17 = gf := fld_i hS_o rfl hFs
                have h18_ : fld S_43 o 18 = f_46 := fld_i hS_o rfl hS_x_18
                refine pl_callv (va_runV (As := []) (rest := []) ⟨hx, hb, hml, hown, hT⟩ (m_ringGoes l dC dI cy L kap pr S_43 H.size o hTy hT_o n_45 (inf_i hS_o rfl) (by omega) (by omega) (by omega) (by rw [h17_, h18_]; exact hRNG)) (cwV 0 hT (gV w1418 w1420 ws90 w14 w1421) rfl rfl rfl (by decide +kernel) ⟨(Nat.le_of_ble_eq_true rfl), (Nat.le_of_ble_eq_true rfl)⟩) ⟨pcN.blind, pl_recv hK hW hT_o.1 hS_o rfl, pcN.pre hW.1 hK hW.2.1 hN (fun q h => absurd h List.not_mem_nil)⟩ rfl rfl hl.1 rfl (lv_room (Nat.le_of_ble_eq_true rfl)) dX12_rounds_52 ⟨(Nat.le_of_ble_eq_true rfl), (Nat.le_of_ble_eq_true rfl)⟩) hW hA0 hA (fun S_49 H locs hrel hW => ?_)
                obtain ⟨hTy, hF1, hx1⟩ := hrel
                have hFr := hFr.tr hF1 (by decide)
                have hFl39 := hFl39.tr hF1 (by decide)
                have hS_o := hF1.at hT_o (by decide) hS_o
                have hS_x_18 := hF1.at hT_x_18 (by decide) hS_x_18
                obtain ⟨f_50, hS_x_17⟩ := hTy.k56 hT_x_17
                obtain ⟨hnz_, hzz_⟩ := hx1
                rw [fld_i (S := S_49) hS_o rfl hS_x_17, h17_] at hnz_ hzz_
                refine lv_iinc (v := nI (i + 1)) (lv' := [(3, .int (nI (i + 1))), (0, .ref o), (1, .int (nI k_34)), (2, .int (nI k_37))]) hx hb dX12_rounds_55 hl (k := 0) rfl (nI_add (i) 1) (by decide) rfl (fun ls hl => ?_)
                refine lv_goto (tgt := 39) hx hb dX12_rounds_58 (by decide) ?_
                exact ih39 (i + 1) n_45 f_50 _ _ _ ls (by omega) (by omega) hS_o hS_x_17 (by omega) hTy hFr hFl39 hW (lv_sub hl [0, 1, 2, 3] rfl)
      exact loop ((100 - 0) + 1) 0 x_19 f_39 _ _ _ ls (Nat.lt_succ_self _) (by omega) hS_o hS_x_17 (by omega) hTy hFr Fr.rf hW (lv_sub hl [0, 1, 2, 3] rfl)
    · obtain ⟨rfl, hin_⟩ := hc_
      refine lv_if_ne (tgt := 31) hx hb dX12_rounds_25 (by decide) (fun h => absurd (by decide) h) (fun _ => ?_)
      refine lv_bipush (v := (-3)) hx hb dX12_rounds_28 (by decide) ?_
      exact W.iret (v := (-3)) hx hb hr (fun t ht h9 => ⟨⟨(-3), S_32, rfl, ⟨hTy, hFr⟩, by rw [ht]; exact hW.1, va_K.moved h9.alike hK, hW.2.1⟩, hW.2.2.F ht⟩) hW.2.2.2.2 dX12_rounds_30

