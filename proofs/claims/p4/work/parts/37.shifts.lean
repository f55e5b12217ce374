theorem w1460 : (.methodLink RX12 300 yX12_laysWays : Cond) ∈ TB := mTB (List.mem_of_getElem? (i := 1460) (by decide +kernel)) (by decide +kernel)
theorem w1462 : (.instanceMethod yX12_laysWays : Cond) ∈ TB := mTB (List.mem_of_getElem? (i := 1462) (by decide +kernel)) (by decide +kernel)
theorem w1463 : (.code yX12_laysWays cX12_laysWays 4 none : Cond) ∈ TB := mTB (List.mem_of_getElem? (i := 1463) (by decide +kernel)) (by decide +kernel)
theorem w1475 : (.methodLink RX12 306 yX12_wayMay : Cond) ∈ TB := mTB (List.mem_of_getElem? (i := 1475) (by decide +kernel)) (by decide +kernel)
theorem w1477 : (.instanceMethod yX12_wayMay : Cond) ∈ TB := mTB (List.mem_of_getElem? (i := 1477) (by decide +kernel)) (by decide +kernel)
theorem w1478 : (.code yX12_wayMay cX12_wayMay 5 (some .int) : Cond) ∈ TB := mTB (List.mem_of_getElem? (i := 1478) (by decide +kernel)) (by decide +kernel)
theorem w1479 : (.methodLink RX12 309 yX12_sends : Cond) ∈ TB := mTB (List.mem_of_getElem? (i := 1479) (by decide +kernel)) (by decide +kernel)
theorem w1481 : (.instanceMethod yX12_sends : Cond) ∈ TB := mTB (List.mem_of_getElem? (i := 1481) (by decide +kernel)) (by decide +kernel)
theorem w1482 : (.code yX12_sends cX12_sends 5 none : Cond) ∈ TB := mTB (List.mem_of_getElem? (i := 1482) (by decide +kernel)) (by decide +kernel)
theorem ws95 : (.selects RX12 yX12_laysWays yX12_laysWays : Cond) ∈ TB := mSel (y := yX12_laysWays) (n := 32) (List.mem_of_getElem? (i := 95) (by decide +kernel)) (by decide +kernel)
theorem ws98 : (.selects RX12 yX12_wayMay yX12_wayMay : Cond) ∈ TB := mSel (y := yX12_wayMay) (n := 32) (List.mem_of_getElem? (i := 98) (by decide +kernel)) (by decide +kernel)
theorem ws99 : (.selects RX12 yX12_sends yX12_sends : Cond) ∈ TB := mSel (y := yX12_sends) (n := 32) (List.mem_of_getElem? (i := 99) (by decide +kernel)) (by decide +kernel)
theorem dX12_shifts_0 : decode cX12_shifts 0 = .ok (.iload 4, 2) := by decide +kernel
theorem dX12_shifts_2 : decode cX12_shifts 2 = .ok (.istore 5, 2) := by decide +kernel
theorem dX12_shifts_4 : decode cX12_shifts 4 = .ok (.iload 5, 2) := by decide +kernel
theorem dX12_shifts_6 : decode cX12_shifts 6 = .ok (.ifCond .le 7, 3) := by decide +kernel
theorem dX12_shifts_9 : decode cX12_shifts 9 = .ok (.iconst 1, 1) := by decide +kernel
theorem dX12_shifts_10 : decode cX12_shifts 10 = .ok (.goto 4, 3) := by decide +kernel
theorem dX12_shifts_13 : decode cX12_shifts 13 = .ok (.iconst 0, 1) := by decide +kernel
theorem dX12_shifts_14 : decode cX12_shifts 14 = .ok (.istore 6, 2) := by decide +kernel
theorem dX12_shifts_16 : decode cX12_shifts 16 = .ok (.iload 6, 2) := by decide +kernel
theorem dX12_shifts_18 : decode cX12_shifts 18 = .ok (.ifCond .eq 140, 3) := by decide +kernel
theorem dX12_shifts_21 : decode cX12_shifts 21 = .ok (.iconst 0, 1) := by decide +kernel
theorem dX12_shifts_22 : decode cX12_shifts 22 = .ok (.istore 7, 2) := by decide +kernel
theorem dX12_shifts_24 : decode cX12_shifts 24 = .ok (.iload 7, 2) := by decide +kernel
theorem dX12_shifts_26 : decode cX12_shifts 26 = .ok (.bipush 16, 2) := by decide +kernel
theorem dX12_shifts_28 : decode cX12_shifts 28 = .ok (.if_icmp .ge 37, 3) := by decide +kernel
theorem dX12_shifts_31 : decode cX12_shifts 31 = .ok (.aload_n 0, 1) := by decide +kernel
theorem dX12_shifts_32 : decode cX12_shifts 32 = .ok (.getfield 65, 3) := by decide +kernel
theorem dX12_shifts_35 : decode cX12_shifts 35 = .ok (.iload 7, 2) := by decide +kernel
theorem dX12_shifts_37 : decode cX12_shifts 37 = .ok (.iload 7, 2) := by decide +kernel
theorem dX12_shifts_39 : decode cX12_shifts 39 = .ok (.iload_n 1, 1) := by decide +kernel
theorem dX12_shifts_40 : decode cX12_shifts 40 = .ok (.if_icmp .ne 7, 3) := by decide +kernel
theorem dX12_shifts_43 : decode cX12_shifts 43 = .ok (.iconst 0, 1) := by decide +kernel
theorem dX12_shifts_44 : decode cX12_shifts 44 = .ok (.goto 6, 3) := by decide +kernel
theorem dX12_shifts_47 : decode cX12_shifts 47 = .ok (.ldc_w 293, 3) := by decide +kernel
theorem dX12_shifts_50 : decode cX12_shifts 50 = .ok (.iastore, 1) := by decide +kernel
theorem dX12_shifts_51 : decode cX12_shifts 51 = .ok (.aload_n 0, 1) := by decide +kernel
theorem dX12_shifts_52 : decode cX12_shifts 52 = .ok (.getfield 68, 3) := by decide +kernel
theorem dX12_shifts_55 : decode cX12_shifts 55 = .ok (.iload 7, 2) := by decide +kernel
theorem dX12_shifts_57 : decode cX12_shifts 57 = .ok (.iconst (-1), 1) := by decide +kernel
theorem dX12_shifts_58 : decode cX12_shifts 58 = .ok (.iastore, 1) := by decide +kernel
theorem dX12_shifts_59 : decode cX12_shifts 59 = .ok (.iinc 7 1, 3) := by decide +kernel
theorem dX12_shifts_62 : decode cX12_shifts 62 = .ok (.goto (-38), 3) := by decide +kernel
theorem dX12_shifts_65 : decode cX12_shifts 65 = .ok (.aload_n 0, 1) := by decide +kernel
theorem dX12_shifts_66 : decode cX12_shifts 66 = .ok (.invokevirtual 300, 3) := by decide +kernel
theorem dX12_shifts_69 : decode cX12_shifts 69 = .ok (.aload_n 0, 1) := by decide +kernel
theorem dX12_shifts_70 : decode cX12_shifts 70 = .ok (.getfield 65, 3) := by decide +kernel
theorem dX12_shifts_73 : decode cX12_shifts 73 = .ok (.iload_n 2, 1) := by decide +kernel
theorem dX12_shifts_74 : decode cX12_shifts 74 = .ok (.iaload, 1) := by decide +kernel
theorem dX12_shifts_75 : decode cX12_shifts 75 = .ok (.ldc_w 293, 3) := by decide +kernel
theorem dX12_shifts_78 : decode cX12_shifts 78 = .ok (.if_icmp .ge 20, 3) := by decide +kernel
theorem dX12_shifts_81 : decode cX12_shifts 81 = .ok (.aload_n 0, 1) := by decide +kernel
theorem dX12_shifts_82 : decode cX12_shifts 82 = .ok (.getfield 65, 3) := by decide +kernel
theorem dX12_shifts_85 : decode cX12_shifts 85 = .ok (.iload_n 2, 1) := by decide +kernel
theorem dX12_shifts_86 : decode cX12_shifts 86 = .ok (.iaload, 1) := by decide +kernel
theorem dX12_shifts_87 : decode cX12_shifts 87 = .ok (.bipush 6, 2) := by decide +kernel
theorem dX12_shifts_89 : decode cX12_shifts 89 = .ok (.ishr, 1) := by decide +kernel
theorem dX12_shifts_90 : decode cX12_shifts 90 = .ok (.iload_n 3, 1) := by decide +kernel
theorem dX12_shifts_91 : decode cX12_shifts 91 = .ok (.if_icmp .ne 7, 3) := by decide +kernel
theorem dX12_shifts_94 : decode cX12_shifts 94 = .ok (.iconst 1, 1) := by decide +kernel
theorem dX12_shifts_95 : decode cX12_shifts 95 = .ok (.goto 4, 3) := by decide +kernel
theorem dX12_shifts_98 : decode cX12_shifts 98 = .ok (.iconst 0, 1) := by decide +kernel
theorem dX12_shifts_99 : decode cX12_shifts 99 = .ok (.istore 6, 2) := by decide +kernel
theorem dX12_shifts_101 : decode cX12_shifts 101 = .ok (.iload 6, 2) := by decide +kernel
theorem dX12_shifts_103 : decode cX12_shifts 103 = .ok (.ifCond .eq 13, 3) := by decide +kernel
theorem dX12_shifts_106 : decode cX12_shifts 106 = .ok (.aload_n 0, 1) := by decide +kernel
theorem dX12_shifts_107 : decode cX12_shifts 107 = .ok (.iload_n 2, 1) := by decide +kernel
theorem dX12_shifts_108 : decode cX12_shifts 108 = .ok (.iload 5, 2) := by decide +kernel
theorem dX12_shifts_110 : decode cX12_shifts 110 = .ok (.invokevirtual 306, 3) := by decide +kernel
theorem dX12_shifts_113 : decode cX12_shifts 113 = .ok (.goto 4, 3) := by decide +kernel
theorem dX12_shifts_116 : decode cX12_shifts 116 = .ok (.iconst 0, 1) := by decide +kernel
theorem dX12_shifts_117 : decode cX12_shifts 117 = .ok (.istore 7, 2) := by decide +kernel
theorem dX12_shifts_119 : decode cX12_shifts 119 = .ok (.iload 6, 2) := by decide +kernel
theorem dX12_shifts_121 : decode cX12_shifts 121 = .ok (.ifCond .eq 10, 3) := by decide +kernel
theorem dX12_shifts_124 : decode cX12_shifts 124 = .ok (.aload_n 0, 1) := by decide +kernel
theorem dX12_shifts_125 : decode cX12_shifts 125 = .ok (.iload_n 2, 1) := by decide +kernel
theorem dX12_shifts_126 : decode cX12_shifts 126 = .ok (.iload 7, 2) := by decide +kernel
theorem dX12_shifts_128 : decode cX12_shifts 128 = .ok (.invokevirtual 309, 3) := by decide +kernel
theorem dX12_shifts_131 : decode cX12_shifts 131 = .ok (.iload 5, 2) := by decide +kernel
theorem dX12_shifts_133 : decode cX12_shifts 133 = .ok (.iload 7, 2) := by decide +kernel
theorem dX12_shifts_135 : decode cX12_shifts 135 = .ok (.isub, 1) := by decide +kernel
theorem dX12_shifts_136 : decode cX12_shifts 136 = .ok (.istore 5, 2) := by decide +kernel
theorem dX12_shifts_138 : decode cX12_shifts 138 = .ok (.iload 6, 2) := by decide +kernel
theorem dX12_shifts_140 : decode cX12_shifts 140 = .ok (.ifCond .eq 12, 3) := by decide +kernel
theorem dX12_shifts_143 : decode cX12_shifts 143 = .ok (.iload 5, 2) := by decide +kernel
theorem dX12_shifts_145 : decode cX12_shifts 145 = .ok (.ifCond .le 7, 3) := by decide +kernel
theorem dX12_shifts_148 : decode cX12_shifts 148 = .ok (.iconst 1, 1) := by decide +kernel
theorem dX12_shifts_149 : decode cX12_shifts 149 = .ok (.goto 4, 3) := by decide +kernel
theorem dX12_shifts_152 : decode cX12_shifts 152 = .ok (.iconst 0, 1) := by decide +kernel
theorem dX12_shifts_153 : decode cX12_shifts 153 = .ok (.istore 6, 2) := by decide +kernel
theorem dX12_shifts_155 : decode cX12_shifts 155 = .ok (.goto (-139), 3) := by decide +kernel
theorem dX12_shifts_158 : decode cX12_shifts 158 = .ok (.iload 4, 2) := by decide +kernel
theorem dX12_shifts_160 : decode cX12_shifts 160 = .ok (.iload 5, 2) := by decide +kernel
theorem dX12_shifts_162 : decode cX12_shifts 162 = .ok (.isub, 1) := by decide +kernel
theorem dX12_shifts_163 : decode cX12_shifts 163 = .ok (.ireturn, 1) := by decide +kernel
theorem ini_d {P : Int32 → Prop} {f f1 : Nat → Int32} {i : Nat} {x : Int32} (e : f1 = upd f (nI i).toNatClampNeg x) (hi : i < 16) (h : ∀ v, v < i → P (f v)) (hx : P x) : ∀ v, v < i + 1 → P (f1 v) := fun v hv => by
  rw [nI_clamp (by omega)] at e
  subst e
  by_cases q : v = i
  · rw [q, pk_us]; exact hx
  · rw [pk_un q]; exact h v (by omega)
theorem k66i {cy : Nat → ClassId} {L : List Nat} {kap : Nat → Nat} {pr : Pr} {S : Nat → va_E} {a : Nat} {f : Nat → Int32} (h : Ty cy L kap pr S) (ha : TK L kap a 66) (he : S a = .inl (cy 0, 16, .inl f)) : ∀ j, j < 16 → f j = -1 ∨ ∃ k, k < 16 ∧ f j = nI k := by
  obtain ⟨g, hg, hi⟩ := h.k66 ha
  have e := hg.symm.trans he
  simp only [Sum.inl.injEq, Prod.mk.injEq, true_and] at e
  rw [← e]
  exact hi
theorem left_z {z lf r : Int32} (e : z = lf - r) (h1 : 0 < r) (h2 : r ≤ lf) : z.toInt = lf.toInt - r.toInt ∧ 0 < r.toInt ∧ r.toInt ≤ lf.toInt := by
  rw [Int32.lt_iff_toInt_lt] at h1
  rw [Int32.le_iff_toInt_le] at h2
  have e0 : (0 : Int32).toInt = 0 := by decide
  have hb := Int32.toInt_lt lf
  refine ⟨?_, by omega, h2⟩
  rw [e, Int32.toInt_sub]
  exact Int.bmod_eq_of_le (by omega) (by omega)
theorem left_0 {z lf : Int32} (e : z = lf - 0) : z.toInt = lf.toInt := by rw [e, Int32.sub_zero]
set_option maxHeartbeats 4000000 in
set_option maxRecDepth 100000 in
theorem m_shifts (l : Launch) (dC : Nat → ClassId) (dI : Nat → Nat → Nat) (cy : Nat → ClassId) (L : List Nat) (kap : Nat → Nat) (pr : Pr) (S : Nat → va_E) (sz : Nat) (o : Nat) (fr : Nat) (et : Nat) (co : Int32) (mo : Int32) (hTy : Ty cy L kap pr S) (hT_o : TK L kap o 12) (hb_fr : fr < 16) (hb_et : et < 16) (hpk : ∃ K : Nat → Int, POT (fun p q => 0 < STP S o p q) K) : Met l yX12_shifts (wT yX12_shifts cX12_shifts 8 (some .int)) ({ frames := 3, cells := 0, slots := 0, locals := 71 }) (pcN dC dI [.ref o, .int (nI fr), .int (nI et), .int co, .int mo] sz (va_pl L S) (cyT cy) NLs []) (va_Qi (fun r S' => Ty cy L kap pr S' ∧ Fr kap [60, 62, 65, 66] S S' ∧ ((∃ K : Nat → Int, POT (fun p q => 0 < STP S' o p q) K) ∧ ∀ a, a < 8 → fld S' o 22 (8 * a + a) = fld S o 22 (8 * a + a))) (fun S' t => pB dC dI (AL L sz) (va_pl L S') (cyT cy) t) (AL L sz)) 0 0 (AL L sz) := by
  refine Met.ofW (cc := cX12_shifts) (maxL := 8) (ret := (some .int)) (by decide) rfl ?_
  intro p e s m args below meth c s₁ B hml hv
  obtain ⟨rfl, hsz, hP, hK, hD0, hN, -⟩ := hv
  have hx := B.exec
  have hb := B.bytes
  have hr := B.returns
  have hT : ∀ wd ∈ TB, wd.before [.ref o, .int (nI fr), .int (nI et), .int co, .int mo].toArray s = true := fun wd h => atoms_spec (ws := wT yX12_shifts cX12_shifts 8 (some .int)) B.pre wd (List.mem_cons_of_mem _ h)
  have hown : s.vm.findClass RX12 = some m.cls := findClass_of_methodNamed B.named
  have hlocks := B.notSynchronized
  subst hsz
  have hW : PW dC dI L (AL L s.heap.size) s.heap S s.heap [] := ⟨hP, pl_self hD0, va_S.rf⟩
  have hA0 : ∀ q, q ∈ L → AL L s.heap.size q := fun _ h => Or.inl h
  have hA : ∀ q, s.heap.size ≤ q → AL L s.heap.size q := fun _ h => Or.inr h
  have hFr : Fr kap [60, 62, 65, 66] S S := Fr.rf
  have hl := lv_entry ([.ref o, .int (nI fr), .int (nI et), .int co, .int mo]) (n := 8) (Nat.le_of_ble_eq_true rfl)
  rw [lg_entry_eq]
  generalize (lg_sl ([.ref o, .int (nI fr), .int (nI et), .int co, .int mo]) ++ List.replicate (8 - (lg_sl ([.ref o, .int (nI fr), .int (nI et), .int co, .int mo])).length) Slot.unset).toArray = ls at hl ⊢
  have hl : lv_has ls 8 [(0, .ref o), (1, .int (nI fr)), (2, .int (nI et)), (3, .int co), (4, .int mo)] := hl
  obtain ⟨x_1, x_2, x_3, x_4, x_5, x_6, x_7, x_8, x_9, x_10, x_11, x_12, x_13, x_14, x_15, x_16, x_17, x_18, x_19, x_20, x_21, x_22, x_23, x_24, x_25, x_26, x_27, x_28, x_29, x_30, x_31, hS_o, hT_x_1, hT_x_2, hT_x_3, hT_x_4, hT_x_5, hb_x_6, hb_x_7, hb_x_8, hT_x_10, hb_q2, hb_x_11, hb_x_12, hT_x_17, hT_x_18, hb_x_19, hT_x_20, hT_x_21, hT_x_22, hT_x_23, hT_x_24, hT_x_25, hT_x_26, hT_x_27, hT_x_28, hT_x_29, hT_x_30, hb_x_31⟩ := hTy.k12 hT_o
  have hb_q2 : pr.2 ≤ 900 := hb_q2
  have hS_o : S o = .inr (12, [.ref x_1, .ref x_2, .ref x_3, .ref x_4, .ref x_5, .int (nI x_6), .int (nI x_7), .int (nI x_8), .int x_9, .ref x_10, .int (nI (pr.2)), .int (nI x_11), .int (nI x_12), .int x_13, .int x_14, .int x_15, .int x_16, .ref x_17, .ref x_18, .int (nI x_19), .ref x_20, .ref x_21, .ref x_22, .ref x_23, .ref x_24, .ref x_25, .ref x_26, .ref x_27, .ref x_28, .ref x_29, .ref x_30, .int (nI x_31)]) := hS_o
  obtain ⟨f_32, hS_x_26⟩ := hTy.k64 hT_x_26
  obtain ⟨f_33, hS_x_22⟩ := hTy.k60 hT_x_22
  obtain ⟨f_34, hS_x_21⟩ := hTy.k59 hT_x_21
  obtain ⟨f_35, hS_x_23⟩ := hTy.k61 hT_x_23
  obtain ⟨f_36, hS_x_24⟩ := hTy.k62 hT_x_24
  obtain ⟨f_37, hS_x_27⟩ := hTy.k65 hT_x_27
  obtain ⟨f_38, hS_x_28, hi_f_38⟩ := hTy.k66 hT_x_28
  have hits : fld S o 22 = f_33 := fld_i hS_o rfl hS_x_22
  have hpot : ∃ K : Nat → Int, POT (fun p q => 0 < stpF f_32 f_33 f_34 f_35 f_36 p q) K := by obtain ⟨K, h⟩ := hpk; refine ⟨K, ?_⟩; rw [show (fun p q => 0 < stpF f_32 f_33 f_34 f_35 f_36 p q) = (fun p q => 0 < STP S o p q) from by funext p q; rw [(STPe hS_o rfl rfl rfl rfl rfl hS_x_26 hS_x_22 hS_x_21 hS_x_23 hS_x_24)]]; exact h
  refine lv_iload hx hb dX12_shifts_0 (lv_at hl 4 rfl) ?_
  refine lv_istore (lv' := [(5, .int mo), (0, .ref o), (1, .int (nI fr)), (2, .int (nI et)), (3, .int co), (4, .int mo)]) hx hb dX12_shifts_2 hl (by decide) rfl (fun ls hl => ?_)
  refine lv_iload hx hb dX12_shifts_4 (lv_at hl 0 rfl) ?_
  refine lv_if_le (tgt := 13) hx hb dX12_shifts_6 (by decide) (fun c_6 => ?_) (fun c_6 => ?_)
  · refine lv_iconst (v := 0) hx hb dX12_shifts_13 (by decide) ?_
    refine lv_istore (lv' := [(6, .int 0), (5, .int mo), (0, .ref o), (1, .int (nI fr)), (2, .int (nI et)), (3, .int co), (4, .int mo)]) hx hb dX12_shifts_14 hl (by decide) rfl (fun ls hl => ?_)
    have loop : ∀ (fuel : Nat) (lf : Int32) (gg : Int32) (gi : Nat → Int32) (gt : Nat → Int32) (mb : Nat) (SS : Nat → va_E) (H : Heap) (locs : List Loc) (ls : Array Slot), 2 * lf.toInt.toNat + mb < fuel → (SS x_22 = .inl (cy 0, 64, .inl gi)) → (SS x_24 = .inl (cy 0, 8, .inl gt)) → (∃ K : Nat → Int, POT (fun p q => 0 < stpF f_32 gi f_34 f_35 gt p q) K) → (∀ a, a < 8 → gi (8 * a + a) = fld S o 22 (8 * a + a)) → (gg = 0 ∨ 0 < lf) → (gg = 0 ∨ mb = 1) → Ty cy L kap pr SS → Fr kap [60, 62, 65, 66] S SS → Fr kap [60, 62, 65, 66] S SS → PW dC dI L (AL L s.heap.size) s.heap SS H locs → lv_has ls 8 [(6, .int gg), (5, .int lf), (0, .ref o), (1, .int (nI fr)), (2, .int (nI et)), (3, .int co), (4, .int mo)] → W p l e (headSpec (wT yX12_shifts cX12_shifts 8 (some .int)) { frames := 3, cells := 0, slots := 0, locals := 71 }).room s m [.ref o, .int (nI fr), .int (nI et), .int co, .int mo].toArray below meth c H locs 0 0 (MQ below (va_Qi (fun r S' => Ty cy L kap pr S' ∧ Fr kap [60, 62, 65, 66] S S' ∧ ((∃ K : Nat → Int, POT (fun p q => 0 < STP S' o p q) K) ∧ ∀ a, a < 8 → fld S' o 22 (8 * a + a) = fld S o 22 (8 * a + a))) (fun S' t => pB dC dI (AL L s.heap.size) (va_pl L S') (cyT cy) t) (AL L s.heap.size)) [.ref o, .int (nI fr), .int (nI et), .int co, .int mo].toArray s 0 0 (AL L s.heap.size)) (F0 m 16 ls []) := by
      intro fuel
      induction fuel with
      | zero => intro lf gg gi gt mb SS H locs ls h; exact absurd h (Nat.not_lt_zero _)
      | succ fu16 ih16 =>
        intro lf gg gi gt mb S_39 H locs ls hm16 hIs hTs hpot hdz hgl hmb hTy hFr hFl16 hW hl
        have hS_o := hFl16.at hT_o (by decide) hS_o
        have hS_x_26 := hFl16.at hT_x_26 (by decide) hS_x_26
        have hS_x_21 := hFl16.at hT_x_21 (by decide) hS_x_21
        have hS_x_23 := hFl16.at hT_x_23 (by decide) hS_x_23
        refine lv_iload hx hb dX12_shifts_16 (lv_at hl 0 rfl) ?_
        refine lv_if_eq (tgt := 158) hx hb dX12_shifts_18 (by decide) (fun c_18 => ?_) (fun c_18 => ?_)
        · refine lv_iload hx hb dX12_shifts_158 (lv_at hl 6 rfl) ?_
          refine lv_iload hx hb dX12_shifts_160 (lv_at hl 1 rfl) ?_
          refine lv_isub hx hb dX12_shifts_162 ?_
          refine lv_topi (fun z_40 ez_40 => ?_)
          exact W.iret (v := z_40) hx hb hr (fun t ht h9 => ⟨⟨z_40, S_39, rfl, ⟨hTy, hFr, ⟨by obtain ⟨K, h⟩ := hpot; refine ⟨K, ?_⟩; rw [show (fun p q => 0 < STP S_39 o p q) = (fun p q => 0 < stpF f_32 gi f_34 f_35 gt p q) from by funext p q; rw [(STPe hS_o rfl rfl rfl rfl rfl hS_x_26 hIs hS_x_21 hS_x_23 hTs)]]; exact h, fun a ha => by rw [fld_i hS_o rfl hIs]; exact hdz a ha⟩⟩, by rw [ht]; exact hW.1, va_K.moved h9.alike hK, hW.2.1⟩, hW.2.2.F ht⟩) hW.2.2.2.2 dX12_shifts_163
        · refine lv_iconst (v := 0) hx hb dX12_shifts_21 (by decide) ?_
          refine lv_istore (lv' := [(7, .int 0), (6, .int gg), (5, .int lf), (0, .ref o), (1, .int (nI fr)), (2, .int (nI et)), (3, .int co), (4, .int mo)]) hx hb dX12_shifts_22 hl (by decide) rfl (fun ls hl => ?_)
          obtain ⟨f_41, hS_x_27⟩ := hTy.k65 hT_x_27
          obtain ⟨f_42, hS_x_28, hi_f_42⟩ := hTy.k66 hT_x_28
          have loop : ∀ (fuel : Nat) (i : Nat) (gd : Nat → Int32) (gb : Nat → Int32) (SS : Nat → va_E) (H : Heap) (locs : List Loc) (ls : Array Slot), 17 - i < fuel → (i ≤ 16) → (SS x_27 = .inl (cy 0, 16, .inl gd)) → (SS x_28 = .inl (cy 0, 16, .inl gb)) → (∀ v, v < i → gd v = 0 ∨ gd v = 1000000) → (∀ v, v < i → gb v = -1) → Ty cy L kap pr SS → Fr kap [60, 62, 65, 66] S SS → Fr kap [65, 66] S_39 SS → PW dC dI L (AL L s.heap.size) s.heap SS H locs → lv_has ls 8 [(7, .int (nI i)), (6, .int gg), (5, .int lf), (0, .ref o), (1, .int (nI fr)), (2, .int (nI et)), (3, .int co), (4, .int mo)] → W p l e (headSpec (wT yX12_shifts cX12_shifts 8 (some .int)) { frames := 3, cells := 0, slots := 0, locals := 71 }).room s m [.ref o, .int (nI fr), .int (nI et), .int co, .int mo].toArray below meth c H locs 0 0 (MQ below (va_Qi (fun r S' => Ty cy L kap pr S' ∧ Fr kap [60, 62, 65, 66] S S' ∧ ((∃ K : Nat → Int, POT (fun p q => 0 < STP S' o p q) K) ∧ ∀ a, a < 8 → fld S' o 22 (8 * a + a) = fld S o 22 (8 * a + a))) (fun S' t => pB dC dI (AL L s.heap.size) (va_pl L S') (cyT cy) t) (AL L s.heap.size)) [.ref o, .int (nI fr), .int (nI et), .int co, .int mo].toArray s 0 0 (AL L s.heap.size)) (F0 m 24 ls []) := by
            intro fuel
            induction fuel with
            | zero => intro i gd gb SS H locs ls h; exact absurd h (Nat.not_lt_zero _)
            | succ fu24 ih24 =>
              intro i gd gb S_43 H locs ls hm24 hb_i hDs hBs hgd hgb hTy hFr hFl24 hW hl
              have hS_o := hFl24.at hT_o (by decide) hS_o
              have hS_x_26 := hFl24.at hT_x_26 (by decide) hS_x_26
              have hS_x_21 := hFl24.at hT_x_21 (by decide) hS_x_21
              have hS_x_23 := hFl24.at hT_x_23 (by decide) hS_x_23
              have hIs := hFl24.at hT_x_22 (by decide) hIs
              have hTs := hFl24.at hT_x_24 (by decide) hTs
              have hFl16 := hFl16.tr hFl24 (by decide)
              have hi_gb := k66i hTy hT_x_28 hBs
              refine lv_iload hx hb dX12_shifts_24 (lv_at hl 0 rfl) ?_
              refine lv_bipush (v := 16) hx hb dX12_shifts_26 (by decide) ?_
              refine lv_icmp_ge (tgt := 65) hx hb dX12_shifts_28 (by decide) (fun c_28 => ?_) (fun c_28 => ?_)
              · have c_28 : 16 ≤ i := (nI_leI (a := 16) (b := i) (by omega) (by omega)).mp c_28
                obtain ⟨kq, hkq0⟩ := hpot
                have hopS : (fun p q => 0 < STP S_43 o p q) = (fun p q => 0 < stpF f_32 gi f_34 f_35 gt p q) := by funext p q; rw [(STPe hS_o rfl rfl rfl rfl rfl hS_x_26 hIs hS_x_21 hS_x_23 hTs)]
                have hD0 : D0 (fld S_43 o 27) := by rw [fld_i hS_o rfl hDs]; exact fun v hv => hgd v (by omega)
                refine lv_aload_n hx hb dX12_shifts_65 rfl (lv_at hl 3 rfl) ?_
                refine pl_callv (va_runV (As := []) (rest := []) ⟨hx, hb, hml, hown, hT⟩ (m_ways l dC dI cy L kap pr S_43 H.size o hTy hT_o kq (by rw [hopS]; exact hkq0) hD0 (by rw [fld_i hS_o rfl hBs]; exact fun v hv => hgb v (by omega))) (cwV 0 hT (gV w1460 w1462 ws95 w14 w1463) rfl rfl rfl (by decide +kernel) ⟨(Nat.le_of_ble_eq_true rfl), (Nat.le_of_ble_eq_true rfl)⟩) ⟨pcN.blind, pl_recv hK hW hT_o.1 hS_o rfl, pcN.pre hW.1 hK hW.2.1 hN (fun q h => absurd h List.not_mem_nil)⟩ rfl rfl hl.1 rfl (lv_room (Nat.le_of_ble_eq_true rfl)) dX12_shifts_66 ⟨(Nat.le_of_ble_eq_true rfl), (Nat.le_of_ble_eq_true rfl)⟩) hW hA0 hA (fun S_44 H locs hrel hW => ?_)
                obtain ⟨hTy, hF1, hx1⟩ := hrel
                have hFr := hFr.tr hF1 (by decide)
                have hFl16 := hFl16.tr hF1 (by decide)
                have hFl24 := hFl24.tr hF1 (by decide)
                have hS_o := hF1.at hT_o (by decide) hS_o
                have hS_x_26 := hF1.at hT_x_26 (by decide) hS_x_26
                have hS_x_21 := hF1.at hT_x_21 (by decide) hS_x_21
                have hS_x_23 := hF1.at hT_x_23 (by decide) hS_x_23
                have hIs := hF1.at hT_x_22 (by decide) hIs
                have hTs := hF1.at hT_x_24 (by decide) hTs
                obtain ⟨hWI, hBY, hOPT⟩ := hx1
                obtain ⟨f_45, hS_x_27⟩ := hTy.k65 hT_x_27
                obtain ⟨f_46, hS_x_28, hi_f_46⟩ := hTy.k66 hT_x_28
                rw [hopS, fld_i (S := S_44) hS_o rfl hS_x_27, fld_i (S := S_44) hS_o rfl hS_x_28] at hWI
                rw [fld_i (S := S_44) hS_o rfl hS_x_28] at hBY
                rw [hopS, fld_i (S := S_44) hS_o rfl hS_x_27] at hOPT
                refine lv_aload_n hx hb dX12_shifts_69 rfl (lv_at hl 3 rfl) ?_
                refine pl_get (ci := 12) (v := .ref x_27) (C := RX12) (T := TX12) (N := 32) hx hb hT iX12 hown hK hW hT_o.1 hS_o rfl 27 (by decide) w1109 rfl dX12_shifts_70 ?_
                refine lv_iload_n hx hb dX12_shifts_73 rfl (lv_at hl 5 rfl) ?_
                refine pl_iald hx hb hK hW hT_x_27.1 hS_x_27 (vp_in_nI (n := et) (N := 16) (by omega) (by omega)) dX12_shifts_74 ?_
                refine lv_topi (fun y_47 ey_47 => ?_)
                refine lv_ldcw (v := 1000000) hx hb hown (hT _ w1459) dX12_shifts_75 ?_
                refine lv_icmp_ge (tgt := 98) hx hb dX12_shifts_78 (by decide) (fun c_78 => ?_) (fun c_78 => ?_)
                · refine lv_iconst (v := 0) hx hb dX12_shifts_98 (by decide) ?_
                  refine lv_istore (lv' := [(6, .int 0), (7, .int (nI i)), (5, .int lf), (0, .ref o), (1, .int (nI fr)), (2, .int (nI et)), (3, .int co), (4, .int mo)]) hx hb dX12_shifts_99 hl (by decide) rfl (fun ls hl => ?_)
                  refine lv_iload hx hb dX12_shifts_101 (lv_at hl 0 rfl) ?_
                  refine lv_if_eq (tgt := 116) hx hb dX12_shifts_103 (by decide) (fun _ => ?_) (fun h => absurd (by decide) h)
                  refine lv_iconst (v := 0) hx hb dX12_shifts_116 (by decide) ?_
                  refine lv_istore (lv' := [(7, .int 0), (6, .int 0), (5, .int lf), (0, .ref o), (1, .int (nI fr)), (2, .int (nI et)), (3, .int co), (4, .int mo)]) hx hb dX12_shifts_117 hl (by decide) rfl (fun ls hl => ?_)
                  refine lv_iload hx hb dX12_shifts_119 (lv_at hl 1 rfl) ?_
                  refine lv_if_eq (tgt := 131) hx hb dX12_shifts_121 (by decide) (fun _ => ?_) (fun h => absurd (by decide) h)
                  refine lv_iload hx hb dX12_shifts_131 (lv_at hl 2 rfl) ?_
                  refine lv_iload hx hb dX12_shifts_133 (lv_at hl 0 rfl) ?_
                  refine lv_isub hx hb dX12_shifts_135 ?_
                  refine lv_topi (fun z_48 ez_48 => ?_)
                  have hmb1 := hmb.resolve_left c_18
                  have hlf1 := hgl.resolve_left c_18
                  have hlz := left_0 ez_48
                  refine lv_istore (lv' := [(5, .int z_48), (7, .int 0), (6, .int 0), (0, .ref o), (1, .int (nI fr)), (2, .int (nI et)), (3, .int co), (4, .int mo)]) hx hb dX12_shifts_136 hl (by decide) rfl (fun ls hl => ?_)
                  refine lv_iload hx hb dX12_shifts_138 (lv_at hl 2 rfl) ?_
                  refine lv_if_eq (tgt := 152) hx hb dX12_shifts_140 (by decide) (fun _ => ?_) (fun h => absurd (by decide) h)
                  refine lv_iconst (v := 0) hx hb dX12_shifts_152 (by decide) ?_
                  refine lv_istore (lv' := [(6, .int 0), (5, .int z_48), (7, .int 0), (0, .ref o), (1, .int (nI fr)), (2, .int (nI et)), (3, .int co), (4, .int mo)]) hx hb dX12_shifts_153 hl (by decide) rfl (fun ls hl => ?_)
                  refine lv_goto (tgt := 16) hx hb dX12_shifts_155 (by decide) ?_
                  exact ih16 z_48 0 gi gt 0 _ _ _ ls (by omega) hIs hTs ⟨kq, hkq0⟩ hdz (Or.inl rfl) (Or.inl rfl) hTy hFr hFl16 hW (lv_sub hl [0, 1, 3, 4, 5, 6, 7] rfl)
                · refine lv_aload_n hx hb dX12_shifts_81 rfl (lv_at hl 3 rfl) ?_
                  refine pl_get (ci := 12) (v := .ref x_27) (C := RX12) (T := TX12) (N := 32) hx hb hT iX12 hown hK hW hT_o.1 hS_o rfl 27 (by decide) w1109 rfl dX12_shifts_82 ?_
                  refine lv_iload_n hx hb dX12_shifts_85 rfl (lv_at hl 5 rfl) ?_
                  refine pl_iald hx hb hK hW hT_x_27.1 hS_x_27 (vp_in_nI (n := et) (N := 16) (by omega) (by omega)) dX12_shifts_86 ?_
                  refine lv_topi (fun y_49 ey_49 => ?_)
                  refine lv_bipush (v := 6) hx hb dX12_shifts_87 (by decide) ?_
                  refine lv_ishr hx hb dX12_shifts_89 ?_
                  refine lv_topi (fun z_50 ez_50 => ?_)
                  refine lv_iload_n hx hb dX12_shifts_90 rfl (lv_at hl 6 rfl) ?_
                  refine lv_icmp_ne (tgt := 98) hx hb dX12_shifts_91 (by decide) (fun c_91 => ?_) (fun c_91 => ?_)
                  · refine lv_iconst (v := 0) hx hb dX12_shifts_98 (by decide) ?_
                    refine lv_istore (lv' := [(6, .int 0), (7, .int (nI i)), (5, .int lf), (0, .ref o), (1, .int (nI fr)), (2, .int (nI et)), (3, .int co), (4, .int mo)]) hx hb dX12_shifts_99 hl (by decide) rfl (fun ls hl => ?_)
                    refine lv_iload hx hb dX12_shifts_101 (lv_at hl 0 rfl) ?_
                    refine lv_if_eq (tgt := 116) hx hb dX12_shifts_103 (by decide) (fun _ => ?_) (fun h => absurd (by decide) h)
                    refine lv_iconst (v := 0) hx hb dX12_shifts_116 (by decide) ?_
                    refine lv_istore (lv' := [(7, .int 0), (6, .int 0), (5, .int lf), (0, .ref o), (1, .int (nI fr)), (2, .int (nI et)), (3, .int co), (4, .int mo)]) hx hb dX12_shifts_117 hl (by decide) rfl (fun ls hl => ?_)
                    refine lv_iload hx hb dX12_shifts_119 (lv_at hl 1 rfl) ?_
                    refine lv_if_eq (tgt := 131) hx hb dX12_shifts_121 (by decide) (fun _ => ?_) (fun h => absurd (by decide) h)
                    refine lv_iload hx hb dX12_shifts_131 (lv_at hl 2 rfl) ?_
                    refine lv_iload hx hb dX12_shifts_133 (lv_at hl 0 rfl) ?_
                    refine lv_isub hx hb dX12_shifts_135 ?_
                    refine lv_topi (fun z_51 ez_51 => ?_)
                    have hmb1 := hmb.resolve_left c_18
                    have hlf1 := hgl.resolve_left c_18
                    have hlz := left_0 ez_51
                    refine lv_istore (lv' := [(5, .int z_51), (7, .int 0), (6, .int 0), (0, .ref o), (1, .int (nI fr)), (2, .int (nI et)), (3, .int co), (4, .int mo)]) hx hb dX12_shifts_136 hl (by decide) rfl (fun ls hl => ?_)
                    refine lv_iload hx hb dX12_shifts_138 (lv_at hl 2 rfl) ?_
                    refine lv_if_eq (tgt := 152) hx hb dX12_shifts_140 (by decide) (fun _ => ?_) (fun h => absurd (by decide) h)
                    refine lv_iconst (v := 0) hx hb dX12_shifts_152 (by decide) ?_
                    refine lv_istore (lv' := [(6, .int 0), (5, .int z_51), (7, .int 0), (0, .ref o), (1, .int (nI fr)), (2, .int (nI et)), (3, .int co), (4, .int mo)]) hx hb dX12_shifts_153 hl (by decide) rfl (fun ls hl => ?_)
                    refine lv_goto (tgt := 16) hx hb dX12_shifts_155 (by decide) ?_
                    exact ih16 z_51 0 gi gt 0 _ _ _ ls (by omega) hIs hTs ⟨kq, hkq0⟩ hdz (Or.inl rfl) (Or.inl rfl) hTy hFr hFl16 hW (lv_sub hl [0, 1, 3, 4, 5, 6, 7] rfl)
                  · refine lv_iconst (v := 1) hx hb dX12_shifts_94 (by decide) ?_
                    refine lv_goto (tgt := 99) hx hb dX12_shifts_95 (by decide) ?_
                    refine lv_istore (lv' := [(6, .int 1), (7, .int (nI i)), (5, .int lf), (0, .ref o), (1, .int (nI fr)), (2, .int (nI et)), (3, .int co), (4, .int mo)]) hx hb dX12_shifts_99 hl (by decide) rfl (fun ls hl => ?_)
                    refine lv_iload hx hb dX12_shifts_101 (lv_at hl 0 rfl) ?_
                    refine lv_if_eq (tgt := 116) hx hb dX12_shifts_103 (by decide) (fun h => absurd h (by decide)) (fun _ => ?_)
                    refine lv_aload_n hx hb dX12_shifts_106 rfl (lv_at hl 3 rfl) ?_
                    refine lv_iload_n hx hb dX12_shifts_107 rfl (lv_at hl 5 rfl) ?_
                    refine lv_iload hx hb dX12_shifts_108 (lv_at hl 2 rfl) ?_
                    refine vp_callSi (va_Run.run (va_runV (As := [.int (nI et), .int lf]) (rest := []) ⟨hx, hb, hml, hown, hT⟩ (m_wayMay l dC dI cy L kap pr S_44 H.size o et lf hTy hT_o (by omega) (rank f_45 kq) (fun v p hv hp h => rk_lt hWI hkq0 hv hp (by rw [fld_i hS_o rfl hS_x_28] at h; exact h)) (fun v p hv hp h => by rw [(STPe hS_o rfl rfl rfl rfl rfl hS_x_26 hIs hS_x_21 hS_x_23 hTs)]; exact (hWI.2.2 v p hv hp (by rw [fld_i hS_o rfl hS_x_28] at h; exact h)).1)) (cwV 2 hT (gV w1475 w1477 ws98 w14 w1478) rfl rfl rfl (by decide +kernel) ⟨(Nat.le_of_ble_eq_true rfl), (Nat.le_of_ble_eq_true rfl)⟩) ⟨pcN.blind, pl_recv hK hW hT_o.1 hS_o rfl, pcN.pre hW.1 hK hW.2.1 hN (fun q h => absurd h List.not_mem_nil)⟩ rfl rfl hl.1 rfl (lv_room (Nat.le_of_ble_eq_true rfl)) dX12_shifts_110 ⟨(Nat.le_of_ble_eq_true rfl), (Nat.le_of_ble_eq_true rfl)⟩)) (fun r_52 hr_52 => ?_)
                    have hmu := hr_52
                    refine lv_goto (tgt := 117) hx hb dX12_shifts_113 (by decide) ?_
                    refine lv_istore (lv' := [(7, .int r_52), (6, .int 1), (5, .int lf), (0, .ref o), (1, .int (nI fr)), (2, .int (nI et)), (3, .int co), (4, .int mo)]) hx hb dX12_shifts_117 hl (by decide) rfl (fun ls hl => ?_)
                    refine lv_iload hx hb dX12_shifts_119 (lv_at hl 1 rfl) ?_
                    refine lv_if_eq (tgt := 131) hx hb dX12_shifts_121 (by decide) (fun h => absurd h (by decide)) (fun _ => ?_)
                    have hSTPb : ∀ p q, STP S_44 o p q = stpF f_32 gi f_34 f_35 gt p q := fun p q => (STPe hS_o rfl rfl rfl rfl rfl hS_x_26 hIs hS_x_21 hS_x_23 hTs)
                    have hb28b : fld S_44 o 28 = f_46 := fld_i hS_o rfl hS_x_28
                    have h22b : fld S_44 o 22 = gi := fld_i hS_o rfl hIs
                    refine lv_aload_n hx hb dX12_shifts_124 rfl (lv_at hl 3 rfl) ?_
                    refine lv_iload_n hx hb dX12_shifts_125 rfl (lv_at hl 5 rfl) ?_
                    refine lv_iload hx hb dX12_shifts_126 (lv_at hl 0 rfl) ?_
                    refine pl_callv (va_runV (As := [.int (nI et), .int r_52]) (rest := []) ⟨hx, hb, hml, hown, hT⟩ (m_sends l dC dI cy L kap pr S_44 H.size o et r_52 hTy hT_o (by omega) (rank f_45 kq) (fun v p hv hp h => rk_lt hWI hkq0 hv hp (by rw [fld_i hS_o rfl hS_x_28] at h; exact h)) (fun v p hv hp h => by rw [(STPe hS_o rfl rfl rfl rfl rfl hS_x_26 hIs hS_x_21 hS_x_23 hTs)]; exact (hWI.2.2 v p hv hp (by rw [fld_i hS_o rfl hS_x_28] at h; exact h)).1)) (cwV 2 hT (gV w1479 w1481 ws99 w14 w1482) rfl rfl rfl (by decide +kernel) ⟨(Nat.le_of_ble_eq_true rfl), (Nat.le_of_ble_eq_true rfl)⟩) ⟨pcN.blind, pl_recv hK hW hT_o.1 hS_o rfl, pcN.pre hW.1 hK hW.2.1 hN (fun q h => absurd h List.not_mem_nil)⟩ rfl rfl hl.1 rfl (lv_room (Nat.le_of_ble_eq_true rfl)) dX12_shifts_128 ⟨(Nat.le_of_ble_eq_true rfl), (Nat.le_of_ble_eq_true rfl)⟩) hW hA0 hA (fun S_53 H locs hrel hW => ?_)
                    obtain ⟨hTy, hF1, hx1⟩ := hrel
                    have hFr := hFr.tr hF1 (by decide)
                    have hFl16 := hFl16.tr hF1 (by decide)
                    have hS_o := hF1.at hT_o (by decide) hS_o
                    have hS_x_26 := hF1.at hT_x_26 (by decide) hS_x_26
                    have hS_x_21 := hF1.at hT_x_21 (by decide) hS_x_21
                    have hS_x_23 := hF1.at hT_x_23 (by decide) hS_x_23
                    have hS_x_27 := hF1.at hT_x_27 (by decide) hS_x_27
                    have hS_x_28 := hF1.at hT_x_28 (by decide) hS_x_28
                    obtain ⟨hsnd, hdzn⟩ := hx1
                    obtain ⟨f_54, hS_x_22⟩ := hTy.k60 hT_x_22
                    obtain ⟨f_55, hS_x_24⟩ := hTy.k62 hT_x_24
                    have hpot2 : ∃ K : Nat → Int, POT (fun p q => 0 < stpF f_32 f_54 f_34 f_35 f_55 p q) K := POT_send (op := fun p q => 0 < stpF f_32 gi f_34 f_35 gt p q) (fun p q h => stp_side h) hWI hkq0 hBY hD0 hOPT (fun p q hp hq h => by have g := hsnd p q hp hq (by rw [(STPe hS_o rfl rfl rfl rfl rfl hS_x_26 hS_x_22 hS_x_21 hS_x_23 hS_x_24)]; exact h); rw [hSTPb, hb28b] at g; exact g)
                    have hdz2 : ∀ a, a < 8 → f_54 (8 * a + a) = fld S o 22 (8 * a + a) := fun a ha => by have q := hdzn a ha; rw [fld_i hS_o rfl hS_x_22, h22b] at q; exact q.trans (hdz a ha)
                    refine lv_iload hx hb dX12_shifts_131 (lv_at hl 2 rfl) ?_
                    refine lv_iload hx hb dX12_shifts_133 (lv_at hl 0 rfl) ?_
                    refine lv_isub hx hb dX12_shifts_135 ?_
                    refine lv_topi (fun z_56 ez_56 => ?_)
                    have hmb1 := hmb.resolve_left c_18
                    have hlf1 := hgl.resolve_left c_18
                    have hlz := left_z ez_56 (hmu.1 hlf1) hmu.2.1
                    refine lv_istore (lv' := [(5, .int z_56), (7, .int r_52), (6, .int 1), (0, .ref o), (1, .int (nI fr)), (2, .int (nI et)), (3, .int co), (4, .int mo)]) hx hb dX12_shifts_136 hl (by decide) rfl (fun ls hl => ?_)
                    refine lv_iload hx hb dX12_shifts_138 (lv_at hl 2 rfl) ?_
                    refine lv_if_eq (tgt := 152) hx hb dX12_shifts_140 (by decide) (fun h => absurd h (by decide)) (fun _ => ?_)
                    refine lv_iload hx hb dX12_shifts_143 (lv_at hl 0 rfl) ?_
                    refine lv_if_le (tgt := 152) hx hb dX12_shifts_145 (by decide) (fun c_145 => ?_) (fun c_145 => ?_)
                    · refine lv_iconst (v := 0) hx hb dX12_shifts_152 (by decide) ?_
                      refine lv_istore (lv' := [(6, .int 0), (5, .int z_56), (7, .int r_52), (0, .ref o), (1, .int (nI fr)), (2, .int (nI et)), (3, .int co), (4, .int mo)]) hx hb dX12_shifts_153 hl (by decide) rfl (fun ls hl => ?_)
                      refine lv_goto (tgt := 16) hx hb dX12_shifts_155 (by decide) ?_
                      exact ih16 z_56 0 f_54 f_55 0 _ _ _ ls (by omega) hS_x_22 hS_x_24 hpot2 hdz2 (Or.inl rfl) (Or.inl rfl) hTy hFr hFl16 hW (lv_sub hl [0, 1, 3, 4, 5, 6, 7] rfl)
                    · refine lv_iconst (v := 1) hx hb dX12_shifts_148 (by decide) ?_
                      refine lv_goto (tgt := 153) hx hb dX12_shifts_149 (by decide) ?_
                      refine lv_istore (lv' := [(6, .int 1), (5, .int z_56), (7, .int r_52), (0, .ref o), (1, .int (nI fr)), (2, .int (nI et)), (3, .int co), (4, .int mo)]) hx hb dX12_shifts_153 hl (by decide) rfl (fun ls hl => ?_)
                      refine lv_goto (tgt := 16) hx hb dX12_shifts_155 (by decide) ?_
                      exact ih16 z_56 1 f_54 f_55 1 _ _ _ ls (by omega) hS_x_22 hS_x_24 hpot2 hdz2 (Or.inr (ipos c_145)) (Or.inr rfl) hTy hFr hFl16 hW (lv_sub hl [0, 1, 3, 4, 5, 6, 7] rfl)
              · have c_28 : ¬ (16 ≤ i) := fun hh9 => c_28 ((nI_leI (a := 16) (b := i) (by omega) (by omega)).mpr hh9)
                refine lv_aload_n hx hb dX12_shifts_31 rfl (lv_at hl 3 rfl) ?_
                refine pl_get (ci := 12) (v := .ref x_27) (C := RX12) (T := TX12) (N := 32) hx hb hT iX12 hown hK hW hT_o.1 hS_o rfl 27 (by decide) w1109 rfl dX12_shifts_32 ?_
                refine lv_iload hx hb dX12_shifts_35 (lv_at hl 0 rfl) ?_
                refine lv_iload hx hb dX12_shifts_37 (lv_at hl 0 rfl) ?_
                refine lv_iload_n hx hb dX12_shifts_39 rfl (lv_at hl 4 rfl) ?_
                refine lv_icmp_ne (tgt := 47) hx hb dX12_shifts_40 (by decide) (fun c_40 => ?_) (fun c_40 => ?_)
                · have c_40 : ¬ (i = fr) := fun hh9 => c_40 ((nI_eq (a := i) (b := fr) (by omega) (by omega)).mpr hh9)
                  refine lv_ldcw (v := 1000000) hx hb hown (hT _ w1459) dX12_shifts_47 ?_
                  refine pl_iast hx hb hK hW hT_x_27.1 hDs (vp_in_nI (n := i) (N := 16) (by omega) (by omega)) dX12_shifts_50 (fun H locs f_58 S_57 ef_f_58 e1 hW => ?_)
                  have hTy := hTy.u65 e1 hT_x_27 ⟨f_58, rfl⟩
                  have hS_o := un e1 hT_o hT_x_27 (by decide) hS_o
                  have hS_x_26 := un e1 hT_x_26 hT_x_27 (by decide) hS_x_26
                  have hS_x_21 := un e1 hT_x_21 hT_x_27 (by decide) hS_x_21
                  have hS_x_23 := un e1 hT_x_23 hT_x_27 (by decide) hS_x_23
                  have hIs := un e1 hT_x_22 hT_x_27 (by decide) hIs
                  have hTs := un e1 hT_x_24 hT_x_27 (by decide) hTs
                  have hBs := un e1 hT_x_28 hT_x_27 (by decide) hBs
                  have hFr := uf hFr e1 hT_x_27 (by decide) (by decide)
                  have hFl16 := uf hFl16 e1 hT_x_27 (by decide) (by decide)
                  have hFl24 := uf hFl24 e1 hT_x_27 (by decide) (by decide)
                  have hDs := us e1
                  have hgd1 := ini_d (P := fun x => x = 0 ∨ x = 1000000) ef_f_58 (by omega) hgd (Or.inr rfl)
                  refine lv_aload_n hx hb dX12_shifts_51 rfl (lv_at hl 3 rfl) ?_
                  refine pl_get (ci := 12) (v := .ref x_28) (C := RX12) (T := TX12) (N := 32) hx hb hT iX12 hown hK hW hT_o.1 hS_o rfl 28 (by decide) w1110 rfl dX12_shifts_52 ?_
                  refine lv_iload hx hb dX12_shifts_55 (lv_at hl 0 rfl) ?_
                  refine lv_iconst (v := (-1)) hx hb dX12_shifts_57 (by decide) ?_
                  refine pl_iast hx hb hK hW hT_x_28.1 hBs (vp_in_nI (n := i) (N := 16) (by omega) (by omega)) dX12_shifts_58 (fun H locs f_60 S_59 ef_f_60 e1 hW => ?_)
                  have hi_f_60 := inv66 hi_gb ef_f_60 (Or.inl rfl)
                  have hTy := hTy.u66 e1 hT_x_28 ⟨f_60, rfl, hi_f_60⟩
                  have hS_o := un e1 hT_o hT_x_28 (by decide) hS_o
                  have hS_x_26 := un e1 hT_x_26 hT_x_28 (by decide) hS_x_26
                  have hS_x_21 := un e1 hT_x_21 hT_x_28 (by decide) hS_x_21
                  have hS_x_23 := un e1 hT_x_23 hT_x_28 (by decide) hS_x_23
                  have hIs := un e1 hT_x_22 hT_x_28 (by decide) hIs
                  have hTs := un e1 hT_x_24 hT_x_28 (by decide) hTs
                  have hDs := un e1 hT_x_27 hT_x_28 (by decide) hDs
                  have hFr := uf hFr e1 hT_x_28 (by decide) (by decide)
                  have hFl16 := uf hFl16 e1 hT_x_28 (by decide) (by decide)
                  have hFl24 := uf hFl24 e1 hT_x_28 (by decide) (by decide)
                  have hBs := us e1
                  have hgb1 := ini_d (P := fun x => x = -1) ef_f_60 (by omega) hgb rfl
                  refine lv_iinc (v := nI (i + 1)) (lv' := [(7, .int (nI (i + 1))), (6, .int gg), (5, .int lf), (0, .ref o), (1, .int (nI fr)), (2, .int (nI et)), (3, .int co), (4, .int mo)]) hx hb dX12_shifts_59 hl (k := 0) rfl (nI_add (i) 1) (by decide) rfl (fun ls hl => ?_)
                  refine lv_goto (tgt := 24) hx hb dX12_shifts_62 (by decide) ?_
                  exact ih24 (i + 1) f_58 f_60 _ _ _ ls (by omega) (by omega) hDs hBs hgd1 hgb1 hTy hFr hFl24 hW (lv_sub hl [0, 1, 2, 3, 4, 5, 6, 7] rfl)
                · have c_40 : i = fr := (nI_eq (a := i) (b := fr) (by omega) (by omega)).mp c_40
                  refine lv_iconst (v := 0) hx hb dX12_shifts_43 (by decide) ?_
                  refine lv_goto (tgt := 50) hx hb dX12_shifts_44 (by decide) ?_
                  refine pl_iast hx hb hK hW hT_x_27.1 hDs (vp_in_nI (n := i) (N := 16) (by omega) (by omega)) dX12_shifts_50 (fun H locs f_62 S_61 ef_f_62 e1 hW => ?_)
                  have hTy := hTy.u65 e1 hT_x_27 ⟨f_62, rfl⟩
                  have hS_o := un e1 hT_o hT_x_27 (by decide) hS_o
                  have hS_x_26 := un e1 hT_x_26 hT_x_27 (by decide) hS_x_26
                  have hS_x_21 := un e1 hT_x_21 hT_x_27 (by decide) hS_x_21
                  have hS_x_23 := un e1 hT_x_23 hT_x_27 (by decide) hS_x_23
                  have hIs := un e1 hT_x_22 hT_x_27 (by decide) hIs
                  have hTs := un e1 hT_x_24 hT_x_27 (by decide) hTs
                  have hBs := un e1 hT_x_28 hT_x_27 (by decide) hBs
                  have hFr := uf hFr e1 hT_x_27 (by decide) (by decide)
                  have hFl16 := uf hFl16 e1 hT_x_27 (by decide) (by decide)
                  have hFl24 := uf hFl24 e1 hT_x_27 (by decide) (by decide)
                  have hDs := us e1
                  have hgd1 := ini_d (P := fun x => x = 0 ∨ x = 1000000) ef_f_62 (by omega) hgd (Or.inl rfl)
                  refine lv_aload_n hx hb dX12_shifts_51 rfl (lv_at hl 3 rfl) ?_
                  refine pl_get (ci := 12) (v := .ref x_28) (C := RX12) (T := TX12) (N := 32) hx hb hT iX12 hown hK hW hT_o.1 hS_o rfl 28 (by decide) w1110 rfl dX12_shifts_52 ?_
                  refine lv_iload hx hb dX12_shifts_55 (lv_at hl 0 rfl) ?_
                  refine lv_iconst (v := (-1)) hx hb dX12_shifts_57 (by decide) ?_
                  refine pl_iast hx hb hK hW hT_x_28.1 hBs (vp_in_nI (n := i) (N := 16) (by omega) (by omega)) dX12_shifts_58 (fun H locs f_64 S_63 ef_f_64 e1 hW => ?_)
                  have hi_f_64 := inv66 hi_gb ef_f_64 (Or.inl rfl)
                  have hTy := hTy.u66 e1 hT_x_28 ⟨f_64, rfl, hi_f_64⟩
                  have hS_o := un e1 hT_o hT_x_28 (by decide) hS_o
                  have hS_x_26 := un e1 hT_x_26 hT_x_28 (by decide) hS_x_26
                  have hS_x_21 := un e1 hT_x_21 hT_x_28 (by decide) hS_x_21
                  have hS_x_23 := un e1 hT_x_23 hT_x_28 (by decide) hS_x_23
                  have hIs := un e1 hT_x_22 hT_x_28 (by decide) hIs
                  have hTs := un e1 hT_x_24 hT_x_28 (by decide) hTs
                  have hDs := un e1 hT_x_27 hT_x_28 (by decide) hDs
                  have hFr := uf hFr e1 hT_x_28 (by decide) (by decide)
                  have hFl16 := uf hFl16 e1 hT_x_28 (by decide) (by decide)
                  have hFl24 := uf hFl24 e1 hT_x_28 (by decide) (by decide)
                  have hBs := us e1
                  have hgb1 := ini_d (P := fun x => x = -1) ef_f_64 (by omega) hgb rfl
                  refine lv_iinc (v := nI (i + 1)) (lv' := [(7, .int (nI (i + 1))), (6, .int gg), (5, .int lf), (0, .ref o), (1, .int (nI fr)), (2, .int (nI et)), (3, .int co), (4, .int mo)]) hx hb dX12_shifts_59 hl (k := 0) rfl (nI_add (i) 1) (by decide) rfl (fun ls hl => ?_)
                  refine lv_goto (tgt := 24) hx hb dX12_shifts_62 (by decide) ?_
                  exact ih24 (i + 1) f_62 f_64 _ _ _ ls (by omega) (by omega) hDs hBs hgd1 hgb1 hTy hFr hFl24 hW (lv_sub hl [0, 1, 2, 3, 4, 5, 6, 7] rfl)
          exact loop ((17 - 0) + 1) 0 f_41 f_42 _ _ _ ls (Nat.lt_succ_self _) (by omega) hS_x_27 hS_x_28 (fun v h => absurd h (Nat.not_lt_zero _)) (fun v h => absurd h (Nat.not_lt_zero _)) hTy hFr Fr.rf hW (lv_sub hl [0, 1, 2, 3, 4, 5, 6, 7] rfl)
    exact loop ((2 * mo.toInt.toNat + 1) + 1) mo 0 f_33 f_36 1 _ _ _ ls (Nat.lt_succ_self _) hS_x_22 hS_x_24 hpot (fun a _ => by rw [hits]) (Or.inl rfl) (Or.inr rfl) hTy hFr Fr.rf hW (lv_sub hl [0, 1, 2, 3, 4, 5, 6] rfl)
  · refine lv_iconst (v := 1) hx hb dX12_shifts_9 (by decide) ?_
    refine lv_goto (tgt := 14) hx hb dX12_shifts_10 (by decide) ?_
    refine lv_istore (lv' := [(6, .int 1), (5, .int mo), (0, .ref o), (1, .int (nI fr)), (2, .int (nI et)), (3, .int co), (4, .int mo)]) hx hb dX12_shifts_14 hl (by decide) rfl (fun ls hl => ?_)
    have loop : ∀ (fuel : Nat) (lf : Int32) (gg : Int32) (gi : Nat → Int32) (gt : Nat → Int32) (mb : Nat) (SS : Nat → va_E) (H : Heap) (locs : List Loc) (ls : Array Slot), 2 * lf.toInt.toNat + mb < fuel → (SS x_22 = .inl (cy 0, 64, .inl gi)) → (SS x_24 = .inl (cy 0, 8, .inl gt)) → (∃ K : Nat → Int, POT (fun p q => 0 < stpF f_32 gi f_34 f_35 gt p q) K) → (∀ a, a < 8 → gi (8 * a + a) = fld S o 22 (8 * a + a)) → (gg = 0 ∨ 0 < lf) → (gg = 0 ∨ mb = 1) → Ty cy L kap pr SS → Fr kap [60, 62, 65, 66] S SS → Fr kap [60, 62, 65, 66] S SS → PW dC dI L (AL L s.heap.size) s.heap SS H locs → lv_has ls 8 [(6, .int gg), (5, .int lf), (0, .ref o), (1, .int (nI fr)), (2, .int (nI et)), (3, .int co), (4, .int mo)] → W p l e (headSpec (wT yX12_shifts cX12_shifts 8 (some .int)) { frames := 3, cells := 0, slots := 0, locals := 71 }).room s m [.ref o, .int (nI fr), .int (nI et), .int co, .int mo].toArray below meth c H locs 0 0 (MQ below (va_Qi (fun r S' => Ty cy L kap pr S' ∧ Fr kap [60, 62, 65, 66] S S' ∧ ((∃ K : Nat → Int, POT (fun p q => 0 < STP S' o p q) K) ∧ ∀ a, a < 8 → fld S' o 22 (8 * a + a) = fld S o 22 (8 * a + a))) (fun S' t => pB dC dI (AL L s.heap.size) (va_pl L S') (cyT cy) t) (AL L s.heap.size)) [.ref o, .int (nI fr), .int (nI et), .int co, .int mo].toArray s 0 0 (AL L s.heap.size)) (F0 m 16 ls []) := by
      intro fuel
      induction fuel with
      | zero => intro lf gg gi gt mb SS H locs ls h; exact absurd h (Nat.not_lt_zero _)
      | succ fu16 ih16 =>
        intro lf gg gi gt mb S_65 H locs ls hm16 hIs hTs hpot hdz hgl hmb hTy hFr hFl16 hW hl
        have hS_o := hFl16.at hT_o (by decide) hS_o
        have hS_x_26 := hFl16.at hT_x_26 (by decide) hS_x_26
        have hS_x_21 := hFl16.at hT_x_21 (by decide) hS_x_21
        have hS_x_23 := hFl16.at hT_x_23 (by decide) hS_x_23
        refine lv_iload hx hb dX12_shifts_16 (lv_at hl 0 rfl) ?_
        refine lv_if_eq (tgt := 158) hx hb dX12_shifts_18 (by decide) (fun c_18 => ?_) (fun c_18 => ?_)
        · refine lv_iload hx hb dX12_shifts_158 (lv_at hl 6 rfl) ?_
          refine lv_iload hx hb dX12_shifts_160 (lv_at hl 1 rfl) ?_
          refine lv_isub hx hb dX12_shifts_162 ?_
          refine lv_topi (fun z_66 ez_66 => ?_)
          exact W.iret (v := z_66) hx hb hr (fun t ht h9 => ⟨⟨z_66, S_65, rfl, ⟨hTy, hFr, ⟨by obtain ⟨K, h⟩ := hpot; refine ⟨K, ?_⟩; rw [show (fun p q => 0 < STP S_65 o p q) = (fun p q => 0 < stpF f_32 gi f_34 f_35 gt p q) from by funext p q; rw [(STPe hS_o rfl rfl rfl rfl rfl hS_x_26 hIs hS_x_21 hS_x_23 hTs)]]; exact h, fun a ha => by rw [fld_i hS_o rfl hIs]; exact hdz a ha⟩⟩, by rw [ht]; exact hW.1, va_K.moved h9.alike hK, hW.2.1⟩, hW.2.2.F ht⟩) hW.2.2.2.2 dX12_shifts_163
        · refine lv_iconst (v := 0) hx hb dX12_shifts_21 (by decide) ?_
          refine lv_istore (lv' := [(7, .int 0), (6, .int gg), (5, .int lf), (0, .ref o), (1, .int (nI fr)), (2, .int (nI et)), (3, .int co), (4, .int mo)]) hx hb dX12_shifts_22 hl (by decide) rfl (fun ls hl => ?_)
          obtain ⟨f_67, hS_x_27⟩ := hTy.k65 hT_x_27
          obtain ⟨f_68, hS_x_28, hi_f_68⟩ := hTy.k66 hT_x_28
          have loop : ∀ (fuel : Nat) (i : Nat) (gd : Nat → Int32) (gb : Nat → Int32) (SS : Nat → va_E) (H : Heap) (locs : List Loc) (ls : Array Slot), 17 - i < fuel → (i ≤ 16) → (SS x_27 = .inl (cy 0, 16, .inl gd)) → (SS x_28 = .inl (cy 0, 16, .inl gb)) → (∀ v, v < i → gd v = 0 ∨ gd v = 1000000) → (∀ v, v < i → gb v = -1) → Ty cy L kap pr SS → Fr kap [60, 62, 65, 66] S SS → Fr kap [65, 66] S_65 SS → PW dC dI L (AL L s.heap.size) s.heap SS H locs → lv_has ls 8 [(7, .int (nI i)), (6, .int gg), (5, .int lf), (0, .ref o), (1, .int (nI fr)), (2, .int (nI et)), (3, .int co), (4, .int mo)] → W p l e (headSpec (wT yX12_shifts cX12_shifts 8 (some .int)) { frames := 3, cells := 0, slots := 0, locals := 71 }).room s m [.ref o, .int (nI fr), .int (nI et), .int co, .int mo].toArray below meth c H locs 0 0 (MQ below (va_Qi (fun r S' => Ty cy L kap pr S' ∧ Fr kap [60, 62, 65, 66] S S' ∧ ((∃ K : Nat → Int, POT (fun p q => 0 < STP S' o p q) K) ∧ ∀ a, a < 8 → fld S' o 22 (8 * a + a) = fld S o 22 (8 * a + a))) (fun S' t => pB dC dI (AL L s.heap.size) (va_pl L S') (cyT cy) t) (AL L s.heap.size)) [.ref o, .int (nI fr), .int (nI et), .int co, .int mo].toArray s 0 0 (AL L s.heap.size)) (F0 m 24 ls []) := by
            intro fuel
            induction fuel with
            | zero => intro i gd gb SS H locs ls h; exact absurd h (Nat.not_lt_zero _)
            | succ fu24 ih24 =>
              intro i gd gb S_69 H locs ls hm24 hb_i hDs hBs hgd hgb hTy hFr hFl24 hW hl
              have hS_o := hFl24.at hT_o (by decide) hS_o
              have hS_x_26 := hFl24.at hT_x_26 (by decide) hS_x_26
              have hS_x_21 := hFl24.at hT_x_21 (by decide) hS_x_21
              have hS_x_23 := hFl24.at hT_x_23 (by decide) hS_x_23
              have hIs := hFl24.at hT_x_22 (by decide) hIs
              have hTs := hFl24.at hT_x_24 (by decide) hTs
              have hFl16 := hFl16.tr hFl24 (by decide)
              have hi_gb := k66i hTy hT_x_28 hBs
              refine lv_iload hx hb dX12_shifts_24 (lv_at hl 0 rfl) ?_
              refine lv_bipush (v := 16) hx hb dX12_shifts_26 (by decide) ?_
              refine lv_icmp_ge (tgt := 65) hx hb dX12_shifts_28 (by decide) (fun c_28 => ?_) (fun c_28 => ?_)
              · have c_28 : 16 ≤ i := (nI_leI (a := 16) (b := i) (by omega) (by omega)).mp c_28
                obtain ⟨kq, hkq0⟩ := hpot
                have hopS : (fun p q => 0 < STP S_69 o p q) = (fun p q => 0 < stpF f_32 gi f_34 f_35 gt p q) := by funext p q; rw [(STPe hS_o rfl rfl rfl rfl rfl hS_x_26 hIs hS_x_21 hS_x_23 hTs)]
                have hD0 : D0 (fld S_69 o 27) := by rw [fld_i hS_o rfl hDs]; exact fun v hv => hgd v (by omega)
                refine lv_aload_n hx hb dX12_shifts_65 rfl (lv_at hl 3 rfl) ?_
                refine pl_callv (va_runV (As := []) (rest := []) ⟨hx, hb, hml, hown, hT⟩ (m_ways l dC dI cy L kap pr S_69 H.size o hTy hT_o kq (by rw [hopS]; exact hkq0) hD0 (by rw [fld_i hS_o rfl hBs]; exact fun v hv => hgb v (by omega))) (cwV 0 hT (gV w1460 w1462 ws95 w14 w1463) rfl rfl rfl (by decide +kernel) ⟨(Nat.le_of_ble_eq_true rfl), (Nat.le_of_ble_eq_true rfl)⟩) ⟨pcN.blind, pl_recv hK hW hT_o.1 hS_o rfl, pcN.pre hW.1 hK hW.2.1 hN (fun q h => absurd h List.not_mem_nil)⟩ rfl rfl hl.1 rfl (lv_room (Nat.le_of_ble_eq_true rfl)) dX12_shifts_66 ⟨(Nat.le_of_ble_eq_true rfl), (Nat.le_of_ble_eq_true rfl)⟩) hW hA0 hA (fun S_70 H locs hrel hW => ?_)
                obtain ⟨hTy, hF1, hx1⟩ := hrel
                have hFr := hFr.tr hF1 (by decide)
                have hFl16 := hFl16.tr hF1 (by decide)
                have hFl24 := hFl24.tr hF1 (by decide)
                have hS_o := hF1.at hT_o (by decide) hS_o
                have hS_x_26 := hF1.at hT_x_26 (by decide) hS_x_26
                have hS_x_21 := hF1.at hT_x_21 (by decide) hS_x_21
                have hS_x_23 := hF1.at hT_x_23 (by decide) hS_x_23
                have hIs := hF1.at hT_x_22 (by decide) hIs
                have hTs := hF1.at hT_x_24 (by decide) hTs
                obtain ⟨hWI, hBY, hOPT⟩ := hx1
                obtain ⟨f_71, hS_x_27⟩ := hTy.k65 hT_x_27
                obtain ⟨f_72, hS_x_28, hi_f_72⟩ := hTy.k66 hT_x_28
                rw [hopS, fld_i (S := S_70) hS_o rfl hS_x_27, fld_i (S := S_70) hS_o rfl hS_x_28] at hWI
                rw [fld_i (S := S_70) hS_o rfl hS_x_28] at hBY
                rw [hopS, fld_i (S := S_70) hS_o rfl hS_x_27] at hOPT
                refine lv_aload_n hx hb dX12_shifts_69 rfl (lv_at hl 3 rfl) ?_
                refine pl_get (ci := 12) (v := .ref x_27) (C := RX12) (T := TX12) (N := 32) hx hb hT iX12 hown hK hW hT_o.1 hS_o rfl 27 (by decide) w1109 rfl dX12_shifts_70 ?_
                refine lv_iload_n hx hb dX12_shifts_73 rfl (lv_at hl 5 rfl) ?_
                refine pl_iald hx hb hK hW hT_x_27.1 hS_x_27 (vp_in_nI (n := et) (N := 16) (by omega) (by omega)) dX12_shifts_74 ?_
                refine lv_topi (fun y_73 ey_73 => ?_)
                refine lv_ldcw (v := 1000000) hx hb hown (hT _ w1459) dX12_shifts_75 ?_
                refine lv_icmp_ge (tgt := 98) hx hb dX12_shifts_78 (by decide) (fun c_78 => ?_) (fun c_78 => ?_)
                · refine lv_iconst (v := 0) hx hb dX12_shifts_98 (by decide) ?_
                  refine lv_istore (lv' := [(6, .int 0), (7, .int (nI i)), (5, .int lf), (0, .ref o), (1, .int (nI fr)), (2, .int (nI et)), (3, .int co), (4, .int mo)]) hx hb dX12_shifts_99 hl (by decide) rfl (fun ls hl => ?_)
                  refine lv_iload hx hb dX12_shifts_101 (lv_at hl 0 rfl) ?_
                  refine lv_if_eq (tgt := 116) hx hb dX12_shifts_103 (by decide) (fun _ => ?_) (fun h => absurd (by decide) h)
                  refine lv_iconst (v := 0) hx hb dX12_shifts_116 (by decide) ?_
                  refine lv_istore (lv' := [(7, .int 0), (6, .int 0), (5, .int lf), (0, .ref o), (1, .int (nI fr)), (2, .int (nI et)), (3, .int co), (4, .int mo)]) hx hb dX12_shifts_117 hl (by decide) rfl (fun ls hl => ?_)
                  refine lv_iload hx hb dX12_shifts_119 (lv_at hl 1 rfl) ?_
                  refine lv_if_eq (tgt := 131) hx hb dX12_shifts_121 (by decide) (fun _ => ?_) (fun h => absurd (by decide) h)
                  refine lv_iload hx hb dX12_shifts_131 (lv_at hl 2 rfl) ?_
                  refine lv_iload hx hb dX12_shifts_133 (lv_at hl 0 rfl) ?_
                  refine lv_isub hx hb dX12_shifts_135 ?_
                  refine lv_topi (fun z_74 ez_74 => ?_)
                  have hmb1 := hmb.resolve_left c_18
                  have hlf1 := hgl.resolve_left c_18
                  have hlz := left_0 ez_74
                  refine lv_istore (lv' := [(5, .int z_74), (7, .int 0), (6, .int 0), (0, .ref o), (1, .int (nI fr)), (2, .int (nI et)), (3, .int co), (4, .int mo)]) hx hb dX12_shifts_136 hl (by decide) rfl (fun ls hl => ?_)
                  refine lv_iload hx hb dX12_shifts_138 (lv_at hl 2 rfl) ?_
                  refine lv_if_eq (tgt := 152) hx hb dX12_shifts_140 (by decide) (fun _ => ?_) (fun h => absurd (by decide) h)
                  refine lv_iconst (v := 0) hx hb dX12_shifts_152 (by decide) ?_
                  refine lv_istore (lv' := [(6, .int 0), (5, .int z_74), (7, .int 0), (0, .ref o), (1, .int (nI fr)), (2, .int (nI et)), (3, .int co), (4, .int mo)]) hx hb dX12_shifts_153 hl (by decide) rfl (fun ls hl => ?_)
                  refine lv_goto (tgt := 16) hx hb dX12_shifts_155 (by decide) ?_
                  exact ih16 z_74 0 gi gt 0 _ _ _ ls (by omega) hIs hTs ⟨kq, hkq0⟩ hdz (Or.inl rfl) (Or.inl rfl) hTy hFr hFl16 hW (lv_sub hl [0, 1, 3, 4, 5, 6, 7] rfl)
                · refine lv_aload_n hx hb dX12_shifts_81 rfl (lv_at hl 3 rfl) ?_
                  refine pl_get (ci := 12) (v := .ref x_27) (C := RX12) (T := TX12) (N := 32) hx hb hT iX12 hown hK hW hT_o.1 hS_o rfl 27 (by decide) w1109 rfl dX12_shifts_82 ?_
                  refine lv_iload_n hx hb dX12_shifts_85 rfl (lv_at hl 5 rfl) ?_
                  refine pl_iald hx hb hK hW hT_x_27.1 hS_x_27 (vp_in_nI (n := et) (N := 16) (by omega) (by omega)) dX12_shifts_86 ?_
                  refine lv_topi (fun y_75 ey_75 => ?_)
                  refine lv_bipush (v := 6) hx hb dX12_shifts_87 (by decide) ?_
                  refine lv_ishr hx hb dX12_shifts_89 ?_
                  refine lv_topi (fun z_76 ez_76 => ?_)
                  refine lv_iload_n hx hb dX12_shifts_90 rfl (lv_at hl 6 rfl) ?_
                  refine lv_icmp_ne (tgt := 98) hx hb dX12_shifts_91 (by decide) (fun c_91 => ?_) (fun c_91 => ?_)
                  · refine lv_iconst (v := 0) hx hb dX12_shifts_98 (by decide) ?_
                    refine lv_istore (lv' := [(6, .int 0), (7, .int (nI i)), (5, .int lf), (0, .ref o), (1, .int (nI fr)), (2, .int (nI et)), (3, .int co), (4, .int mo)]) hx hb dX12_shifts_99 hl (by decide) rfl (fun ls hl => ?_)
                    refine lv_iload hx hb dX12_shifts_101 (lv_at hl 0 rfl) ?_
                    refine lv_if_eq (tgt := 116) hx hb dX12_shifts_103 (by decide) (fun _ => ?_) (fun h => absurd (by decide) h)
                    refine lv_iconst (v := 0) hx hb dX12_shifts_116 (by decide) ?_
                    refine lv_istore (lv' := [(7, .int 0), (6, .int 0), (5, .int lf), (0, .ref o), (1, .int (nI fr)), (2, .int (nI et)), (3, .int co), (4, .int mo)]) hx hb dX12_shifts_117 hl (by decide) rfl (fun ls hl => ?_)
                    refine lv_iload hx hb dX12_shifts_119 (lv_at hl 1 rfl) ?_
                    refine lv_if_eq (tgt := 131) hx hb dX12_shifts_121 (by decide) (fun _ => ?_) (fun h => absurd (by decide) h)
                    refine lv_iload hx hb dX12_shifts_131 (lv_at hl 2 rfl) ?_
                    refine lv_iload hx hb dX12_shifts_133 (lv_at hl 0 rfl) ?_
                    refine lv_isub hx hb dX12_shifts_135 ?_
                    refine lv_topi (fun z_77 ez_77 => ?_)
                    have hmb1 := hmb.resolve_left c_18
                    have hlf1 := hgl.resolve_left c_18
                    have hlz := left_0 ez_77
                    refine lv_istore (lv' := [(5, .int z_77), (7, .int 0), (6, .int 0), (0, .ref o), (1, .int (nI fr)), (2, .int (nI et)), (3, .int co), (4, .int mo)]) hx hb dX12_shifts_136 hl (by decide) rfl (fun ls hl => ?_)
                    refine lv_iload hx hb dX12_shifts_138 (lv_at hl 2 rfl) ?_
                    refine lv_if_eq (tgt := 152) hx hb dX12_shifts_140 (by decide) (fun _ => ?_) (fun h => absurd (by decide) h)
                    refine lv_iconst (v := 0) hx hb dX12_shifts_152 (by decide) ?_
                    refine lv_istore (lv' := [(6, .int 0), (5, .int z_77), (7, .int 0), (0, .ref o), (1, .int (nI fr)), (2, .int (nI et)), (3, .int co), (4, .int mo)]) hx hb dX12_shifts_153 hl (by decide) rfl (fun ls hl => ?_)
                    refine lv_goto (tgt := 16) hx hb dX12_shifts_155 (by decide) ?_
                    exact ih16 z_77 0 gi gt 0 _ _ _ ls (by omega) hIs hTs ⟨kq, hkq0⟩ hdz (Or.inl rfl) (Or.inl rfl) hTy hFr hFl16 hW (lv_sub hl [0, 1, 3, 4, 5, 6, 7] rfl)
                  · refine lv_iconst (v := 1) hx hb dX12_shifts_94 (by decide) ?_
                    refine lv_goto (tgt := 99) hx hb dX12_shifts_95 (by decide) ?_
                    refine lv_istore (lv' := [(6, .int 1), (7, .int (nI i)), (5, .int lf), (0, .ref o), (1, .int (nI fr)), (2, .int (nI et)), (3, .int co), (4, .int mo)]) hx hb dX12_shifts_99 hl (by decide) rfl (fun ls hl => ?_)
                    refine lv_iload hx hb dX12_shifts_101 (lv_at hl 0 rfl) ?_
                    refine lv_if_eq (tgt := 116) hx hb dX12_shifts_103 (by decide) (fun h => absurd h (by decide)) (fun _ => ?_)
                    refine lv_aload_n hx hb dX12_shifts_106 rfl (lv_at hl 3 rfl) ?_
                    refine lv_iload_n hx hb dX12_shifts_107 rfl (lv_at hl 5 rfl) ?_
                    refine lv_iload hx hb dX12_shifts_108 (lv_at hl 2 rfl) ?_
                    refine vp_callSi (va_Run.run (va_runV (As := [.int (nI et), .int lf]) (rest := []) ⟨hx, hb, hml, hown, hT⟩ (m_wayMay l dC dI cy L kap pr S_70 H.size o et lf hTy hT_o (by omega) (rank f_71 kq) (fun v p hv hp h => rk_lt hWI hkq0 hv hp (by rw [fld_i hS_o rfl hS_x_28] at h; exact h)) (fun v p hv hp h => by rw [(STPe hS_o rfl rfl rfl rfl rfl hS_x_26 hIs hS_x_21 hS_x_23 hTs)]; exact (hWI.2.2 v p hv hp (by rw [fld_i hS_o rfl hS_x_28] at h; exact h)).1)) (cwV 2 hT (gV w1475 w1477 ws98 w14 w1478) rfl rfl rfl (by decide +kernel) ⟨(Nat.le_of_ble_eq_true rfl), (Nat.le_of_ble_eq_true rfl)⟩) ⟨pcN.blind, pl_recv hK hW hT_o.1 hS_o rfl, pcN.pre hW.1 hK hW.2.1 hN (fun q h => absurd h List.not_mem_nil)⟩ rfl rfl hl.1 rfl (lv_room (Nat.le_of_ble_eq_true rfl)) dX12_shifts_110 ⟨(Nat.le_of_ble_eq_true rfl), (Nat.le_of_ble_eq_true rfl)⟩)) (fun r_78 hr_78 => ?_)
                    have hmu := hr_78
                    refine lv_goto (tgt := 117) hx hb dX12_shifts_113 (by decide) ?_
                    refine lv_istore (lv' := [(7, .int r_78), (6, .int 1), (5, .int lf), (0, .ref o), (1, .int (nI fr)), (2, .int (nI et)), (3, .int co), (4, .int mo)]) hx hb dX12_shifts_117 hl (by decide) rfl (fun ls hl => ?_)
                    refine lv_iload hx hb dX12_shifts_119 (lv_at hl 1 rfl) ?_
                    refine lv_if_eq (tgt := 131) hx hb dX12_shifts_121 (by decide) (fun h => absurd h (by decide)) (fun _ => ?_)
                    have hSTPb : ∀ p q, STP S_70 o p q = stpF f_32 gi f_34 f_35 gt p q := fun p q => (STPe hS_o rfl rfl rfl rfl rfl hS_x_26 hIs hS_x_21 hS_x_23 hTs)
                    have hb28b : fld S_70 o 28 = f_72 := fld_i hS_o rfl hS_x_28
                    have h22b : fld S_70 o 22 = gi := fld_i hS_o rfl hIs
                    refine lv_aload_n hx hb dX12_shifts_124 rfl (lv_at hl 3 rfl) ?_
                    refine lv_iload_n hx hb dX12_shifts_125 rfl (lv_at hl 5 rfl) ?_
                    refine lv_iload hx hb dX12_shifts_126 (lv_at hl 0 rfl) ?_
                    refine pl_callv (va_runV (As := [.int (nI et), .int r_78]) (rest := []) ⟨hx, hb, hml, hown, hT⟩ (m_sends l dC dI cy L kap pr S_70 H.size o et r_78 hTy hT_o (by omega) (rank f_71 kq) (fun v p hv hp h => rk_lt hWI hkq0 hv hp (by rw [fld_i hS_o rfl hS_x_28] at h; exact h)) (fun v p hv hp h => by rw [(STPe hS_o rfl rfl rfl rfl rfl hS_x_26 hIs hS_x_21 hS_x_23 hTs)]; exact (hWI.2.2 v p hv hp (by rw [fld_i hS_o rfl hS_x_28] at h; exact h)).1)) (cwV 2 hT (gV w1479 w1481 ws99 w14 w1482) rfl rfl rfl (by decide +kernel) ⟨(Nat.le_of_ble_eq_true rfl), (Nat.le_of_ble_eq_true rfl)⟩) ⟨pcN.blind, pl_recv hK hW hT_o.1 hS_o rfl, pcN.pre hW.1 hK hW.2.1 hN (fun q h => absurd h List.not_mem_nil)⟩ rfl rfl hl.1 rfl (lv_room (Nat.le_of_ble_eq_true rfl)) dX12_shifts_128 ⟨(Nat.le_of_ble_eq_true rfl), (Nat.le_of_ble_eq_true rfl)⟩) hW hA0 hA (fun S_79 H locs hrel hW => ?_)
                    obtain ⟨hTy, hF1, hx1⟩ := hrel
                    have hFr := hFr.tr hF1 (by decide)
                    have hFl16 := hFl16.tr hF1 (by decide)
                    have hS_o := hF1.at hT_o (by decide) hS_o
                    have hS_x_26 := hF1.at hT_x_26 (by decide) hS_x_26
                    have hS_x_21 := hF1.at hT_x_21 (by decide) hS_x_21
                    have hS_x_23 := hF1.at hT_x_23 (by decide) hS_x_23
                    have hS_x_27 := hF1.at hT_x_27 (by decide) hS_x_27
                    have hS_x_28 := hF1.at hT_x_28 (by decide) hS_x_28
                    obtain ⟨hsnd, hdzn⟩ := hx1
                    obtain ⟨f_80, hS_x_22⟩ := hTy.k60 hT_x_22
                    obtain ⟨f_81, hS_x_24⟩ := hTy.k62 hT_x_24
                    have hpot2 : ∃ K : Nat → Int, POT (fun p q => 0 < stpF f_32 f_80 f_34 f_35 f_81 p q) K := POT_send (op := fun p q => 0 < stpF f_32 gi f_34 f_35 gt p q) (fun p q h => stp_side h) hWI hkq0 hBY hD0 hOPT (fun p q hp hq h => by have g := hsnd p q hp hq (by rw [(STPe hS_o rfl rfl rfl rfl rfl hS_x_26 hS_x_22 hS_x_21 hS_x_23 hS_x_24)]; exact h); rw [hSTPb, hb28b] at g; exact g)
                    have hdz2 : ∀ a, a < 8 → f_80 (8 * a + a) = fld S o 22 (8 * a + a) := fun a ha => by have q := hdzn a ha; rw [fld_i hS_o rfl hS_x_22, h22b] at q; exact q.trans (hdz a ha)
                    refine lv_iload hx hb dX12_shifts_131 (lv_at hl 2 rfl) ?_
                    refine lv_iload hx hb dX12_shifts_133 (lv_at hl 0 rfl) ?_
                    refine lv_isub hx hb dX12_shifts_135 ?_
                    refine lv_topi (fun z_82 ez_82 => ?_)
                    have hmb1 := hmb.resolve_left c_18
                    have hlf1 := hgl.resolve_left c_18
                    have hlz := left_z ez_82 (hmu.1 hlf1) hmu.2.1
                    refine lv_istore (lv' := [(5, .int z_82), (7, .int r_78), (6, .int 1), (0, .ref o), (1, .int (nI fr)), (2, .int (nI et)), (3, .int co), (4, .int mo)]) hx hb dX12_shifts_136 hl (by decide) rfl (fun ls hl => ?_)
                    refine lv_iload hx hb dX12_shifts_138 (lv_at hl 2 rfl) ?_
                    refine lv_if_eq (tgt := 152) hx hb dX12_shifts_140 (by decide) (fun h => absurd h (by decide)) (fun _ => ?_)
                    refine lv_iload hx hb dX12_shifts_143 (lv_at hl 0 rfl) ?_
                    refine lv_if_le (tgt := 152) hx hb dX12_shifts_145 (by decide) (fun c_145 => ?_) (fun c_145 => ?_)
                    · refine lv_iconst (v := 0) hx hb dX12_shifts_152 (by decide) ?_
                      refine lv_istore (lv' := [(6, .int 0), (5, .int z_82), (7, .int r_78), (0, .ref o), (1, .int (nI fr)), (2, .int (nI et)), (3, .int co), (4, .int mo)]) hx hb dX12_shifts_153 hl (by decide) rfl (fun ls hl => ?_)
                      refine lv_goto (tgt := 16) hx hb dX12_shifts_155 (by decide) ?_
                      exact ih16 z_82 0 f_80 f_81 0 _ _ _ ls (by omega) hS_x_22 hS_x_24 hpot2 hdz2 (Or.inl rfl) (Or.inl rfl) hTy hFr hFl16 hW (lv_sub hl [0, 1, 3, 4, 5, 6, 7] rfl)
                    · refine lv_iconst (v := 1) hx hb dX12_shifts_148 (by decide) ?_
                      refine lv_goto (tgt := 153) hx hb dX12_shifts_149 (by decide) ?_
                      refine lv_istore (lv' := [(6, .int 1), (5, .int z_82), (7, .int r_78), (0, .ref o), (1, .int (nI fr)), (2, .int (nI et)), (3, .int co), (4, .int mo)]) hx hb dX12_shifts_153 hl (by decide) rfl (fun ls hl => ?_)
                      refine lv_goto (tgt := 16) hx hb dX12_shifts_155 (by decide) ?_
                      exact ih16 z_82 1 f_80 f_81 1 _ _ _ ls (by omega) hS_x_22 hS_x_24 hpot2 hdz2 (Or.inr (ipos c_145)) (Or.inr rfl) hTy hFr hFl16 hW (lv_sub hl [0, 1, 3, 4, 5, 6, 7] rfl)
              · have c_28 : ¬ (16 ≤ i) := fun hh9 => c_28 ((nI_leI (a := 16) (b := i) (by omega) (by omega)).mpr hh9)
                refine lv_aload_n hx hb dX12_shifts_31 rfl (lv_at hl 3 rfl) ?_
                refine pl_get (ci := 12) (v := .ref x_27) (C := RX12) (T := TX12) (N := 32) hx hb hT iX12 hown hK hW hT_o.1 hS_o rfl 27 (by decide) w1109 rfl dX12_shifts_32 ?_
                refine lv_iload hx hb dX12_shifts_35 (lv_at hl 0 rfl) ?_
                refine lv_iload hx hb dX12_shifts_37 (lv_at hl 0 rfl) ?_
                refine lv_iload_n hx hb dX12_shifts_39 rfl (lv_at hl 4 rfl) ?_
                refine lv_icmp_ne (tgt := 47) hx hb dX12_shifts_40 (by decide) (fun c_40 => ?_) (fun c_40 => ?_)
                · have c_40 : ¬ (i = fr) := fun hh9 => c_40 ((nI_eq (a := i) (b := fr) (by omega) (by omega)).mpr hh9)
                  refine lv_ldcw (v := 1000000) hx hb hown (hT _ w1459) dX12_shifts_47 ?_
                  refine pl_iast hx hb hK hW hT_x_27.1 hDs (vp_in_nI (n := i) (N := 16) (by omega) (by omega)) dX12_shifts_50 (fun H locs f_84 S_83 ef_f_84 e1 hW => ?_)
                  have hTy := hTy.u65 e1 hT_x_27 ⟨f_84, rfl⟩
                  have hS_o := un e1 hT_o hT_x_27 (by decide) hS_o
                  have hS_x_26 := un e1 hT_x_26 hT_x_27 (by decide) hS_x_26
                  have hS_x_21 := un e1 hT_x_21 hT_x_27 (by decide) hS_x_21
                  have hS_x_23 := un e1 hT_x_23 hT_x_27 (by decide) hS_x_23
                  have hIs := un e1 hT_x_22 hT_x_27 (by decide) hIs
                  have hTs := un e1 hT_x_24 hT_x_27 (by decide) hTs
                  have hBs := un e1 hT_x_28 hT_x_27 (by decide) hBs
                  have hFr := uf hFr e1 hT_x_27 (by decide) (by decide)
                  have hFl16 := uf hFl16 e1 hT_x_27 (by decide) (by decide)
                  have hFl24 := uf hFl24 e1 hT_x_27 (by decide) (by decide)
                  have hDs := us e1
                  have hgd1 := ini_d (P := fun x => x = 0 ∨ x = 1000000) ef_f_84 (by omega) hgd (Or.inr rfl)
                  refine lv_aload_n hx hb dX12_shifts_51 rfl (lv_at hl 3 rfl) ?_
                  refine pl_get (ci := 12) (v := .ref x_28) (C := RX12) (T := TX12) (N := 32) hx hb hT iX12 hown hK hW hT_o.1 hS_o rfl 28 (by decide) w1110 rfl dX12_shifts_52 ?_
                  refine lv_iload hx hb dX12_shifts_55 (lv_at hl 0 rfl) ?_
                  refine lv_iconst (v := (-1)) hx hb dX12_shifts_57 (by decide) ?_
                  refine pl_iast hx hb hK hW hT_x_28.1 hBs (vp_in_nI (n := i) (N := 16) (by omega) (by omega)) dX12_shifts_58 (fun H locs f_86 S_85 ef_f_86 e1 hW => ?_)
                  have hi_f_86 := inv66 hi_gb ef_f_86 (Or.inl rfl)
                  have hTy := hTy.u66 e1 hT_x_28 ⟨f_86, rfl, hi_f_86⟩
                  have hS_o := un e1 hT_o hT_x_28 (by decide) hS_o
                  have hS_x_26 := un e1 hT_x_26 hT_x_28 (by decide) hS_x_26
                  have hS_x_21 := un e1 hT_x_21 hT_x_28 (by decide) hS_x_21
                  have hS_x_23 := un e1 hT_x_23 hT_x_28 (by decide) hS_x_23
                  have hIs := un e1 hT_x_22 hT_x_28 (by decide) hIs
                  have hTs := un e1 hT_x_24 hT_x_28 (by decide) hTs
                  have hDs := un e1 hT_x_27 hT_x_28 (by decide) hDs
                  have hFr := uf hFr e1 hT_x_28 (by decide) (by decide)
                  have hFl16 := uf hFl16 e1 hT_x_28 (by decide) (by decide)
                  have hFl24 := uf hFl24 e1 hT_x_28 (by decide) (by decide)
                  have hBs := us e1
                  have hgb1 := ini_d (P := fun x => x = -1) ef_f_86 (by omega) hgb rfl
                  refine lv_iinc (v := nI (i + 1)) (lv' := [(7, .int (nI (i + 1))), (6, .int gg), (5, .int lf), (0, .ref o), (1, .int (nI fr)), (2, .int (nI et)), (3, .int co), (4, .int mo)]) hx hb dX12_shifts_59 hl (k := 0) rfl (nI_add (i) 1) (by decide) rfl (fun ls hl => ?_)
                  refine lv_goto (tgt := 24) hx hb dX12_shifts_62 (by decide) ?_
                  exact ih24 (i + 1) f_84 f_86 _ _ _ ls (by omega) (by omega) hDs hBs hgd1 hgb1 hTy hFr hFl24 hW (lv_sub hl [0, 1, 2, 3, 4, 5, 6, 7] rfl)
                · have c_40 : i = fr := (nI_eq (a := i) (b := fr) (by omega) (by omega)).mp c_40
                  refine lv_iconst (v := 0) hx hb dX12_shifts_43 (by decide) ?_
                  refine lv_goto (tgt := 50) hx hb dX12_shifts_44 (by decide) ?_
                  refine pl_iast hx hb hK hW hT_x_27.1 hDs (vp_in_nI (n := i) (N := 16) (by omega) (by omega)) dX12_shifts_50 (fun H locs f_88 S_87 ef_f_88 e1 hW => ?_)
                  have hTy := hTy.u65 e1 hT_x_27 ⟨f_88, rfl⟩
                  have hS_o := un e1 hT_o hT_x_27 (by decide) hS_o
                  have hS_x_26 := un e1 hT_x_26 hT_x_27 (by decide) hS_x_26
                  have hS_x_21 := un e1 hT_x_21 hT_x_27 (by decide) hS_x_21
                  have hS_x_23 := un e1 hT_x_23 hT_x_27 (by decide) hS_x_23
                  have hIs := un e1 hT_x_22 hT_x_27 (by decide) hIs
                  have hTs := un e1 hT_x_24 hT_x_27 (by decide) hTs
                  have hBs := un e1 hT_x_28 hT_x_27 (by decide) hBs
                  have hFr := uf hFr e1 hT_x_27 (by decide) (by decide)
                  have hFl16 := uf hFl16 e1 hT_x_27 (by decide) (by decide)
                  have hFl24 := uf hFl24 e1 hT_x_27 (by decide) (by decide)
                  have hDs := us e1
                  have hgd1 := ini_d (P := fun x => x = 0 ∨ x = 1000000) ef_f_88 (by omega) hgd (Or.inl rfl)
                  refine lv_aload_n hx hb dX12_shifts_51 rfl (lv_at hl 3 rfl) ?_
                  refine pl_get (ci := 12) (v := .ref x_28) (C := RX12) (T := TX12) (N := 32) hx hb hT iX12 hown hK hW hT_o.1 hS_o rfl 28 (by decide) w1110 rfl dX12_shifts_52 ?_
                  refine lv_iload hx hb dX12_shifts_55 (lv_at hl 0 rfl) ?_
                  refine lv_iconst (v := (-1)) hx hb dX12_shifts_57 (by decide) ?_
                  refine pl_iast hx hb hK hW hT_x_28.1 hBs (vp_in_nI (n := i) (N := 16) (by omega) (by omega)) dX12_shifts_58 (fun H locs f_90 S_89 ef_f_90 e1 hW => ?_)
                  have hi_f_90 := inv66 hi_gb ef_f_90 (Or.inl rfl)
                  have hTy := hTy.u66 e1 hT_x_28 ⟨f_90, rfl, hi_f_90⟩
                  have hS_o := un e1 hT_o hT_x_28 (by decide) hS_o
                  have hS_x_26 := un e1 hT_x_26 hT_x_28 (by decide) hS_x_26
                  have hS_x_21 := un e1 hT_x_21 hT_x_28 (by decide) hS_x_21
                  have hS_x_23 := un e1 hT_x_23 hT_x_28 (by decide) hS_x_23
                  have hIs := un e1 hT_x_22 hT_x_28 (by decide) hIs
                  have hTs := un e1 hT_x_24 hT_x_28 (by decide) hTs
                  have hDs := un e1 hT_x_27 hT_x_28 (by decide) hDs
                  have hFr := uf hFr e1 hT_x_28 (by decide) (by decide)
                  have hFl16 := uf hFl16 e1 hT_x_28 (by decide) (by decide)
                  have hFl24 := uf hFl24 e1 hT_x_28 (by decide) (by decide)
                  have hBs := us e1
                  have hgb1 := ini_d (P := fun x => x = -1) ef_f_90 (by omega) hgb rfl
                  refine lv_iinc (v := nI (i + 1)) (lv' := [(7, .int (nI (i + 1))), (6, .int gg), (5, .int lf), (0, .ref o), (1, .int (nI fr)), (2, .int (nI et)), (3, .int co), (4, .int mo)]) hx hb dX12_shifts_59 hl (k := 0) rfl (nI_add (i) 1) (by decide) rfl (fun ls hl => ?_)
                  refine lv_goto (tgt := 24) hx hb dX12_shifts_62 (by decide) ?_
                  exact ih24 (i + 1) f_88 f_90 _ _ _ ls (by omega) (by omega) hDs hBs hgd1 hgb1 hTy hFr hFl24 hW (lv_sub hl [0, 1, 2, 3, 4, 5, 6, 7] rfl)
          exact loop ((17 - 0) + 1) 0 f_67 f_68 _ _ _ ls (Nat.lt_succ_self _) (by omega) hS_x_27 hS_x_28 (fun v h => absurd h (Nat.not_lt_zero _)) (fun v h => absurd h (Nat.not_lt_zero _)) hTy hFr Fr.rf hW (lv_sub hl [0, 1, 2, 3, 4, 5, 6, 7] rfl)
    exact loop ((2 * mo.toInt.toNat + 1) + 1) mo 1 f_33 f_36 1 _ _ _ ls (Nat.lt_succ_self _) hS_x_22 hS_x_24 hpot (fun a _ => by rw [hits]) (Or.inr (ipos c_6)) (Or.inr rfl) hTy hFr Fr.rf hW (lv_sub hl [0, 1, 2, 3, 4, 5, 6] rfl)

