/-! what is fed -/
def BYT (v : Int32) (k : Nat) : Int32 := Int8.toInt32 (Int32.toInt8 (v >>> (nI (24 - 8 * k) &&& 31)))
def FDB (va vb vc vd ve : Int32) (i : Nat) : Int32 := BYT (if i < 4 then va else if i < 8 then vb else if i < 12 then vc else if i < 16 then vd else ve) (i % 4)
def FDC (g : Nat → Int32) (t : Nat) (va vb vc vd ve : Int32) (i : Nat) : Nat → Int32 := fun j => if t ≤ j ∧ j < t + i then FDB va vb vc vd ve (j - t) else g j
section FEEDS
variable {g gf f1 : Nat → Int32} {t i : Nat} {va vb vc vd ve y z v : Int32}
theorem FDC_0 : FDC g t va vb vc vd ve 0 = g := funext (fun j => if_neg (by omega))
theorem FDC_s (h : gf = FDC g t va vb vc vd ve i) (e : f1 = upd gf (nI (t + i)).toNatClampNeg y) (hy : y = FDB va vb vc vd ve i) (hb : t + i < 900) : f1 = FDC g t va vb vc vd ve (i + 1) := by
  rw [nI_clamp (by omega)] at e
  subst e
  funext j
  by_cases q : j = t + i
  · rw [q, pk_us, hy]
    unfold FDC
    rw [if_pos (by omega), Nat.add_sub_cancel_left]
  · rw [pk_un q, h]
    unfold FDC
    by_cases q2 : t ≤ j ∧ j < t + i
    · rw [if_pos q2, if_pos (by omega)]
    · rw [if_neg q2, if_neg (by omega)]
theorem FDB_s (hv : v = if i < 4 then va else if i < 8 then vb else if i < 12 then vc else if i < 16 then vd else ve) (ez : z = v >>> (nI (24 - 8 * (i % 4)) &&& 31)) (ey : y = Int8.toInt32 (Int32.toInt8 z)) : y = FDB va vb vc vd ve i := by
  rw [ey, ez, hv]
  rfl
theorem FDB_n (ey : y = Int8.toInt32 (Int32.toInt8 z)) : vp_nar .byte y = y := by rw [ey]; exact pk_vb z
theorem BYT_b (v : Int32) (k : Nat) : -128 ≤ (BYT v k).toInt ∧ (BYT v k).toInt ≤ 127 := by
  unfold BYT
  rw [Int8.toInt_toInt32]
  have h1 := Int8.le_toInt (Int32.toInt8 (v >>> (nI (24 - 8 * k) &&& 31)))
  have h2 := Int8.toInt_lt (Int32.toInt8 (v >>> (nI (24 - 8 * k) &&& 31)))
  omega
theorem FDC_b (h : BR g) : BR (FDC g t va vb vc vd ve i) := fun j hj => by
  unfold FDC
  split
  · exact BYT_b _ _
  · exact h j hj
end FEEDS
def FDX (g : Nat → Int32) (t : Nat) (va vb vc vd ve : Int32) : Nat → Int32 := if 900 < t + 20 then g else FDC g t va vb vc vd ve 20
def FLT (wh a b : Int32) : Int32 := if wh = 0 then a else if wh = 1 then b else -1

set_option maxHeartbeats 4000000 in
set_option maxRecDepth 100000 in
theorem f_feed (l : Launch) (dC : Nat → ClassId) (dI : Nat → Nat → Nat) (cy : Nat → ClassId) (L : List Nat) (kap : Nat → Nat) (pr : Pr) (S : Nat → va_E) (sz : Nat) (o : Nat) (va : Int32) (vb : Int32) (vc : Int32) (vd : Int32) (ve : Int32) (hTy : Ty cy L kap pr S) (hT_o : TK L kap o 12) (hu12 : ∀ b9 c9, TK L kap b9 12 → TK L kap c9 12 → b9 = c9) (g : Nat → Int32) (hgE : fld S o 9 = g) : Met l yX12_feed (wT yX12_feed cX12_feed 8 (some .int)) ({ frames := 0, cells := 0, slots := 0, locals := 0 }) (pcN dC dI [.ref o, .int va, .int vb, .int vc, .int vd, .int ve] sz (va_pl L S) (cyT cy) NLs []) (va_Qi (fun r S' => Ty cy L kap (pr.1, fd pr.2) S' ∧ Fr kap [12, 55] S S' ∧ ((r = if 900 < pr.2 + 20 then -4 else nI (pr.2 + 20)) ∧ fld S' o 9 = FDX g pr.2 va vb vc vd ve)) (fun S' t => pB dC dI (AL L sz) (va_pl L S') (cyT cy) t) (AL L sz)) 0 0 (AL L sz) := by
  refine Met.ofW (cc := cX12_feed) (maxL := 8) (ret := (some .int)) (by decide) rfl ?_
  intro p e s m args below meth c s₁ B hml hv
  obtain ⟨rfl, hsz, hP, hK, hD0, hN, -⟩ := hv
  have hx := B.exec
  have hb := B.bytes
  have hr := B.returns
  have hT : ∀ wd ∈ TB, wd.before [.ref o, .int va, .int vb, .int vc, .int vd, .int ve].toArray s = true := fun wd h => atoms_spec (ws := wT yX12_feed cX12_feed 8 (some .int)) B.pre wd (List.mem_cons_of_mem _ h)
  have hown : s.vm.findClass RX12 = some m.cls := findClass_of_methodNamed B.named
  have hlocks := B.notSynchronized
  subst hsz
  have hW : PW dC dI L (AL L s.heap.size) s.heap S s.heap [] := ⟨hP, pl_self hD0, va_S.rf⟩
  have hA0 : ∀ q, q ∈ L → AL L s.heap.size q := fun _ h => Or.inl h
  have hA : ∀ q, s.heap.size ≤ q → AL L s.heap.size q := fun _ h => Or.inr h
  have hFr : Fr kap [12, 55] S S := Fr.rf
  have hl := lv_entry ([.ref o, .int va, .int vb, .int vc, .int vd, .int ve]) (n := 8) (Nat.le_of_ble_eq_true rfl)
  rw [lg_entry_eq]
  generalize (lg_sl ([.ref o, .int va, .int vb, .int vc, .int vd, .int ve]) ++ List.replicate (8 - (lg_sl ([.ref o, .int va, .int vb, .int vc, .int vd, .int ve])).length) Slot.unset).toArray = ls at hl ⊢
  have hl : lv_has ls 8 [(0, .ref o), (1, .int va), (2, .int vb), (3, .int vc), (4, .int vd), (5, .int ve)] := hl
  obtain ⟨x_1, x_2, x_3, x_4, x_5, x_6, x_7, x_8, x_9, x_10, x_11, x_12, x_13, x_14, x_15, x_16, x_17, x_18, x_19, x_20, x_21, x_22, x_23, x_24, x_25, x_26, x_27, x_28, x_29, x_30, x_31, hS_o, hT_x_1, hT_x_2, hT_x_3, hT_x_4, hT_x_5, hb_x_6, hb_x_7, hb_x_8, hT_x_10, hb_q2, hb_x_11, hb_x_12, hT_x_17, hT_x_18, hb_x_19, hT_x_20, hT_x_21, hT_x_22, hT_x_23, hT_x_24, hT_x_25, hT_x_26, hT_x_27, hT_x_28, hT_x_29, hT_x_30, hb_x_31⟩ := hTy.k12 hT_o
  have hb_q2 : pr.2 ≤ 900 := hb_q2
  have hS_o : S o = .inr (12, [.ref x_1, .ref x_2, .ref x_3, .ref x_4, .ref x_5, .int (nI x_6), .int (nI x_7), .int (nI x_8), .int x_9, .ref x_10, .int (nI (pr.2)), .int (nI x_11), .int (nI x_12), .int x_13, .int x_14, .int x_15, .int x_16, .ref x_17, .ref x_18, .int (nI x_19), .ref x_20, .ref x_21, .ref x_22, .ref x_23, .ref x_24, .ref x_25, .ref x_26, .ref x_27, .ref x_28, .ref x_29, .ref x_30, .int (nI x_31)]) := hS_o
  obtain ⟨f_32, hS_x_10⟩ := hTy.k55 hT_x_10
  have e9_ := hgE.symm.trans (fld_i hS_o rfl hS_x_10)
  subst e9_
  refine lv_aload_n hx hb dX12_feed_0 rfl (lv_at hl 0 rfl) ?_
  refine lv_iconst (v := 0) hx hb dX12_feed_1 (by decide) ?_
  refine pl_put (ci := 12) (v := .int 0) (ty := .int) (C := RX12) (T := TX12) (N := 32) (fs' := [.ref x_1, .ref x_2, .ref x_3, .ref x_4, .ref x_5, .int (nI x_6), .int (nI x_7), .int (nI x_8), .int 0, .ref x_10, .int (nI (pr.2)), .int (nI x_11), .int (nI x_12), .int x_13, .int x_14, .int x_15, .int x_16, .ref x_17, .ref x_18, .int (nI x_19), .ref x_20, .ref x_21, .ref x_22, .ref x_23, .ref x_24, .ref x_25, .ref x_26, .ref x_27, .ref x_28, .ref x_29, .ref x_30, .int (nI x_31)]) hx hb hT iX12 tyX12 tyX12_ok nmX12 hown hK hW hT_o.1 hS_o rfl 8 (by decide) w1090 rfl (by decide +kernel) rfl rfl (Nat.le_of_ble_eq_true rfl) rfl dX12_feed_2 (fun H locs S_33 e1 hW => ?_)
  have hTy := hTy.u12 e1 hT_o ⟨x_1, x_2, x_3, x_4, x_5, x_6, x_7, x_8, 0, x_10, x_11, x_12, x_13, x_14, x_15, x_16, x_17, x_18, x_19, x_20, x_21, x_22, x_23, x_24, x_25, x_26, x_27, x_28, x_29, x_30, x_31, rfl, hT_x_1, hT_x_2, hT_x_3, hT_x_4, hT_x_5, (by omega), (by omega), (by omega), hT_x_10, (by show pr.2 ≤ 900; omega), (by omega), (by omega), hT_x_17, hT_x_18, (by omega), hT_x_20, hT_x_21, hT_x_22, hT_x_23, hT_x_24, hT_x_25, hT_x_26, hT_x_27, hT_x_28, hT_x_29, hT_x_30, (by omega)⟩
  have hS_x_10 := un e1 hT_x_10 hT_o (by decide) hS_x_10
  have hws := (show wrs (.inr (12, [.ref x_1, .ref x_2, .ref x_3, .ref x_4, .ref x_5, .int (nI x_6), .int (nI x_7), .int (nI x_8), .int 0, .ref x_10, .int (nI (pr.2)), .int (nI x_11), .int (nI x_12), .int x_13, .int x_14, .int x_15, .int x_16, .ref x_17, .ref x_18, .int (nI x_19), .ref x_20, .ref x_21, .ref x_22, .ref x_23, .ref x_24, .ref x_25, .ref x_26, .ref x_27, .ref x_28, .ref x_29, .ref x_30, .int (nI x_31)])) = wrs (S o) from by rw [hS_o]; rfl)
  have hFr := ufs hFr e1 hT_o (by decide) hws
  have hS_o := us e1
  refine lv_aload_n hx hb dX12_feed_5 rfl (lv_at hl 0 rfl) ?_
  refine pl_get (ci := 12) (v := .int (nI (pr.2))) (C := RX12) (T := TX12) (N := 32) hx hb hT iX12 hown hK hW hT_o.1 hS_o rfl 10 (by decide) w1092 rfl dX12_feed_6 ?_
  refine lv_bipush (v := 20) hx hb dX12_feed_9 (by decide) ?_
  refine lv_iadd hx hb dX12_feed_11 ?_
  refine lv_topi (fun z_34 ez_34 => ?_)
  obtain rfl : z_34 = nI (pr.2 + 20) := ez_34.trans (nI_add (pr.2) (20))
  refine lv_sipush (v := 900) hx hb dX12_feed_12 (by decide) ?_
  refine lv_icmp_le (tgt := 21) hx hb dX12_feed_15 (by decide) (fun c_15 => ?_) (fun c_15 => ?_)
  · have c_15 : (pr.2 + 20) ≤ 900 := (nI_leI (a := pr.2 + 20) (b := 900) (by omega) (by omega)).mp c_15
    refine lv_iconst (v := 0) hx hb dX12_feed_21 (by decide) ?_
    refine lv_istore (lv' := [(6, .int 0), (0, .ref o), (1, .int va), (2, .int vb), (3, .int vc), (4, .int vd), (5, .int ve)]) hx hb dX12_feed_22 hl (by decide) rfl (fun ls hl => ?_)
    have loop : ∀ (fuel : Nat) (i : Nat) (gf : Nat → Int32) (gt9 : Nat) (SS : Nat → va_E) (H : Heap) (locs : List Loc) (ls : Array Slot), 21 - i < fuel → (i ≤ 20) → (gt9 = pr.2 + i) → (fld SS o 9 = gf) → (gf = FDC g pr.2 va vb vc vd ve i) → Ty cy L kap (pr.1, gt9) SS → Fr kap [12, 55] S SS → Fr kap [12, 55] S_33 SS → PW dC dI L (AL L s.heap.size) s.heap SS H locs → lv_has ls 8 [(6, .int (nI i)), (0, .ref o), (1, .int va), (2, .int vb), (3, .int vc), (4, .int vd), (5, .int ve)] → W p l e (headSpec (wT yX12_feed cX12_feed 8 (some .int)) { frames := 0, cells := 0, slots := 0, locals := 0 }).room s m [.ref o, .int va, .int vb, .int vc, .int vd, .int ve].toArray below meth c H locs 0 0 (MQ below (va_Qi (fun r S' => Ty cy L kap (pr.1, fd pr.2) S' ∧ Fr kap [12, 55] S S' ∧ ((r = if 900 < pr.2 + 20 then -4 else nI (pr.2 + 20)) ∧ fld S' o 9 = FDX g pr.2 va vb vc vd ve)) (fun S' t => pB dC dI (AL L s.heap.size) (va_pl L S') (cyT cy) t) (AL L s.heap.size)) [.ref o, .int va, .int vb, .int vc, .int vd, .int ve].toArray s 0 0 (AL L s.heap.size)) (F0 m 24 ls []) := by
      intro fuel
      induction fuel with
      | zero => intro i gf gt9 SS H locs ls h; exact absurd h (Nat.not_lt_zero _)
      | succ fu24 ih24 =>
        intro i gf gt9 S_35 H locs ls hm24 hb_i hgt hgf hfc hTy hFr hFl24 hW hl
        obtain ⟨x_36, x_37, x_38, x_39, x_40, x_41, x_42, x_43, x_44, x_45, x_46, x_47, x_48, x_49, x_50, x_51, x_52, x_53, x_54, x_55, x_56, x_57, x_58, x_59, x_60, x_61, x_62, x_63, x_64, x_65, x_66, hS_o, hT_x_36, hT_x_37, hT_x_38, hT_x_39, hT_x_40, hb_x_41, hb_x_42, hb_x_43, hT_x_45, hb_q2, hb_x_46, hb_x_47, hT_x_52, hT_x_53, hb_x_54, hT_x_55, hT_x_56, hT_x_57, hT_x_58, hT_x_59, hT_x_60, hT_x_61, hT_x_62, hT_x_63, hT_x_64, hT_x_65, hb_x_66⟩ := hTy.k12 hT_o
        have hb_q2 : gt9 ≤ 900 := hb_q2
        have hS_o : S_35 o = .inr (12, [.ref x_36, .ref x_37, .ref x_38, .ref x_39, .ref x_40, .int (nI x_41), .int (nI x_42), .int (nI x_43), .int x_44, .ref x_45, .int (nI (gt9)), .int (nI x_46), .int (nI x_47), .int x_48, .int x_49, .int x_50, .int x_51, .ref x_52, .ref x_53, .int (nI x_54), .ref x_55, .ref x_56, .ref x_57, .ref x_58, .ref x_59, .ref x_60, .ref x_61, .ref x_62, .ref x_63, .ref x_64, .ref x_65, .int (nI x_66)]) := hS_o
        obtain ⟨f_67, hS_x_45⟩ := hTy.k55 hT_x_45
        have e9_ := hgf.symm.trans (fld_i hS_o rfl hS_x_45)
        subst e9_
        refine lv_iload hx hb dX12_feed_24 (lv_at hl 0 rfl) ?_
        refine lv_bipush (v := 20) hx hb dX12_feed_26 (by decide) ?_
        refine lv_icmp_ge (tgt := 118) hx hb dX12_feed_28 (by decide) (fun c_28 => ?_) (fun c_28 => ?_)
        · have c_28 : 20 ≤ i := (nI_leI (a := 20) (b := i) (by omega) (by omega)).mp c_28
          refine lv_aload_n hx hb dX12_feed_118 rfl (lv_at hl 1 rfl) ?_
          refine pl_get (ci := 12) (v := .int (nI (gt9))) (C := RX12) (T := TX12) (N := 32) hx hb hT iX12 hown hK hW hT_o.1 hS_o rfl 10 (by decide) w1092 rfl dX12_feed_119 ?_
          have hTy : Ty cy L kap (pr.1, fd pr.2) S_35 := (by rw [fd, if_neg (by omega), show pr.2 + 20 = gt9 from by omega]; exact hTy)
          exact W.iret (v := nI (gt9)) hx hb hr (fun t ht h9 => ⟨⟨nI (gt9), S_35, rfl, ⟨hTy, hFr, ⟨by rw [if_neg (by omega), show pr.2 + 20 = gt9 from by omega], by rw [FDX, if_neg (by omega)]; obtain rfl : i = 20 := (by omega); rw [← hfc]; exact (fld_i hS_o rfl hS_x_45)⟩⟩, by rw [ht]; exact hW.1, va_K.moved h9.alike hK, hW.2.1⟩, hW.2.2.F ht⟩) hW.2.2.2.2 dX12_feed_122
        · have c_28 : ¬ (20 ≤ i) := fun hh9 => c_28 ((nI_leI (a := 20) (b := i) (by omega) (by omega)).mpr hh9)
          refine lv_iload hx hb dX12_feed_31 (lv_at hl 0 rfl) ?_
          refine lv_iconst (v := 4) hx hb dX12_feed_33 (by decide) ?_
          refine lv_icmp_ge (tgt := 41) hx hb dX12_feed_34 (by decide) (fun c_34 => ?_) (fun c_34 => ?_)
          · have c_34 : 4 ≤ i := (nI_leI (a := 4) (b := i) (by omega) (by omega)).mp c_34
            refine lv_iload hx hb dX12_feed_41 (lv_at hl 0 rfl) ?_
            refine lv_bipush (v := 8) hx hb dX12_feed_43 (by decide) ?_
            refine lv_icmp_ge (tgt := 52) hx hb dX12_feed_45 (by decide) (fun c_45 => ?_) (fun c_45 => ?_)
            · have c_45 : 8 ≤ i := (nI_leI (a := 8) (b := i) (by omega) (by omega)).mp c_45
              refine lv_iload hx hb dX12_feed_52 (lv_at hl 0 rfl) ?_
              refine lv_bipush (v := 12) hx hb dX12_feed_54 (by decide) ?_
              refine lv_icmp_ge (tgt := 63) hx hb dX12_feed_56 (by decide) (fun c_56 => ?_) (fun c_56 => ?_)
              · have c_56 : 12 ≤ i := (nI_leI (a := 12) (b := i) (by omega) (by omega)).mp c_56
                refine lv_iload hx hb dX12_feed_63 (lv_at hl 0 rfl) ?_
                refine lv_bipush (v := 16) hx hb dX12_feed_65 (by decide) ?_
                refine lv_icmp_ge (tgt := 75) hx hb dX12_feed_67 (by decide) (fun c_67 => ?_) (fun c_67 => ?_)
                · have c_67 : 16 ≤ i := (nI_leI (a := 16) (b := i) (by omega) (by omega)).mp c_67
                  refine lv_iload hx hb dX12_feed_75 (lv_at hl 6 rfl) ?_
                  refine lv_istore (lv' := [(7, .int ve), (6, .int (nI i)), (0, .ref o), (1, .int va), (2, .int vb), (3, .int vc), (4, .int vd), (5, .int ve)]) hx hb dX12_feed_77 hl (by decide) rfl (fun ls hl => ?_)
                  refine lv_aload_n hx hb dX12_feed_79 rfl (lv_at hl 2 rfl) ?_
                  refine pl_get (ci := 12) (v := .ref x_45) (C := RX12) (T := TX12) (N := 32) hx hb hT iX12 hown hK hW hT_o.1 hS_o rfl 9 (by decide) w1091 rfl dX12_feed_80 ?_
                  refine lv_aload_n hx hb dX12_feed_83 rfl (lv_at hl 2 rfl) ?_
                  refine pl_get (ci := 12) (v := .int (nI (gt9))) (C := RX12) (T := TX12) (N := 32) hx hb hT iX12 hown hK hW hT_o.1 hS_o rfl 10 (by decide) w1092 rfl dX12_feed_84 ?_
                  refine lv_iload hx hb dX12_feed_87 (lv_at hl 0 rfl) ?_
                  refine lv_bipush (v := 24) hx hb dX12_feed_89 (by decide) ?_
                  refine lv_bipush (v := 8) hx hb dX12_feed_91 (by decide) ?_
                  refine lv_iload hx hb dX12_feed_93 (lv_at hl 1 rfl) ?_
                  refine lv_iconst (v := 4) hx hb dX12_feed_95 (by decide) ?_
                  refine lv_irem hx hb dX12_feed_96 (nI_ne0 (n := 4) (by omega) (by omega)) ?_
                  refine lv_topi (fun z_68 ez_68 => ?_)
                  obtain rfl : z_68 = nI (i % 4) := ez_68.trans (pk_rem (a := i) (d := 4) (by omega) (by omega) (by omega))
                  refine lv_imul hx hb dX12_feed_97 ?_
                  refine lv_topi (fun z_69 ez_69 => ?_)
                  obtain rfl : z_69 = nI (8 * (i % 4)) := ez_69.trans (pk_mul (8) (i % 4))
                  refine lv_isub hx hb dX12_feed_98 ?_
                  refine lv_topi (fun z_70 ez_70 => ?_)
                  obtain rfl : z_70 = nI (24 - (8 * (i % 4))) := ez_70.trans (pk_sub (a := 24) (b := 8 * (i % 4)) (by omega))
                  refine lv_ishr hx hb dX12_feed_99 ?_
                  refine lv_topi (fun z_71 ez_71 => ?_)
                  refine lv_i2b hx hb dX12_feed_100 rfl ?_
                  refine lv_topi (fun z_72 ez_72 => ?_)
                  refine pl_bast hx hb hK hW hT_x_45.1 hS_x_45 (vp_in_nI (n := gt9) (N := 900) (by omega) (by omega)) dX12_feed_101 (fun H locs f_74 S_73 ef_f_74 e1 hW => ?_)
                  have hTy := hTy.u55 e1 hT_x_45 ⟨f_74, rfl⟩
                  have hS_o := un e1 hT_o hT_x_45 (by decide) hS_o
                  have hFr := uf hFr e1 hT_x_45 (by decide) (by decide)
                  have hFl24 := uf hFl24 e1 hT_x_45 (by decide) (by decide)
                  have hS_x_45 := us e1
                  have hfv : ve = if i < 4 then va else if i < 8 then vb else if i < 12 then vc else if i < 16 then vd else ve := by rw [if_neg (by omega), if_neg (by omega), if_neg (by omega), if_neg (by omega)]
                  have hfc1 := FDC_s (f1 := f_74) hfc (by rw [← hgt, ← FDB_n ez_72]; exact ef_f_74) (FDB_s hfv ez_71 ez_72) (by omega)
                  refine lv_aload_n hx hb dX12_feed_102 rfl (lv_at hl 2 rfl) ?_
                  refine lv_dup hx hb dX12_feed_103 rfl ?_
                  refine pl_get (ci := 12) (v := .int (nI (gt9))) (C := RX12) (T := TX12) (N := 32) hx hb hT iX12 hown hK hW hT_o.1 hS_o rfl 10 (by decide) w1092 rfl dX12_feed_104 ?_
                  refine lv_iconst (v := 1) hx hb dX12_feed_107 (by decide) ?_
                  refine lv_iadd hx hb dX12_feed_108 ?_
                  refine lv_topi (fun z_75 ez_75 => ?_)
                  obtain rfl : z_75 = nI (gt9 + 1) := ez_75.trans (nI_add (gt9) (1))
                  refine pl_put (ci := 12) (v := .int (nI (gt9 + 1))) (ty := .int) (C := RX12) (T := TX12) (N := 32) (fs' := [.ref x_36, .ref x_37, .ref x_38, .ref x_39, .ref x_40, .int (nI x_41), .int (nI x_42), .int (nI x_43), .int x_44, .ref x_45, .int (nI (gt9 + 1)), .int (nI x_46), .int (nI x_47), .int x_48, .int x_49, .int x_50, .int x_51, .ref x_52, .ref x_53, .int (nI x_54), .ref x_55, .ref x_56, .ref x_57, .ref x_58, .ref x_59, .ref x_60, .ref x_61, .ref x_62, .ref x_63, .ref x_64, .ref x_65, .int (nI x_66)]) hx hb hT iX12 tyX12 tyX12_ok nmX12 hown hK hW hT_o.1 hS_o rfl 10 (by decide) w1092 rfl (by decide +kernel) rfl rfl (Nat.le_of_ble_eq_true rfl) rfl dX12_feed_109 (fun H locs S_76 e1 hW => ?_)
                  have hTy : Ty cy L kap (pr.1, gt9 + 1) S_76 := hTy.p2 (n := gt9 + 1) e1 hT_o (fun b9 hb9 => hu12 b9 o hb9 hT_o) ⟨x_36, x_37, x_38, x_39, x_40, x_41, x_42, x_43, x_44, x_45, x_46, x_47, x_48, x_49, x_50, x_51, x_52, x_53, x_54, x_55, x_56, x_57, x_58, x_59, x_60, x_61, x_62, x_63, x_64, x_65, x_66, rfl, hT_x_36, hT_x_37, hT_x_38, hT_x_39, hT_x_40, (by omega), (by omega), (by omega), hT_x_45, (by show gt9 + 1 ≤ 900; omega), (by omega), (by omega), hT_x_52, hT_x_53, (by omega), hT_x_55, hT_x_56, hT_x_57, hT_x_58, hT_x_59, hT_x_60, hT_x_61, hT_x_62, hT_x_63, hT_x_64, hT_x_65, (by omega)⟩
                  have hS_x_45 := un e1 hT_x_45 hT_o (by decide) hS_x_45
                  have hws := (show wrs (.inr (12, [.ref x_36, .ref x_37, .ref x_38, .ref x_39, .ref x_40, .int (nI x_41), .int (nI x_42), .int (nI x_43), .int x_44, .ref x_45, .int (nI (gt9 + 1)), .int (nI x_46), .int (nI x_47), .int x_48, .int x_49, .int x_50, .int x_51, .ref x_52, .ref x_53, .int (nI x_54), .ref x_55, .ref x_56, .ref x_57, .ref x_58, .ref x_59, .ref x_60, .ref x_61, .ref x_62, .ref x_63, .ref x_64, .ref x_65, .int (nI x_66)])) = wrs (S_73 o) from by rw [hS_o]; rfl)
                  have hFr := ufs hFr e1 hT_o (by decide) hws
                  have hFl24 := ufs hFl24 e1 hT_o (by decide) hws
                  have hS_o := us e1
                  refine lv_iinc (v := nI (i + 1)) (lv' := [(6, .int (nI (i + 1))), (7, .int ve), (0, .ref o), (1, .int va), (2, .int vb), (3, .int vc), (4, .int vd), (5, .int ve)]) hx hb dX12_feed_112 hl (k := 1) rfl (nI_add (i) 1) (by decide) rfl (fun ls hl => ?_)
                  refine lv_goto (tgt := 24) hx hb dX12_feed_115 (by decide) ?_
                  exact ih24 (i + 1) f_74 (gt9 + 1) _ _ _ ls (by omega) (by omega) (by omega) (fld_i hS_o rfl hS_x_45) hfc1 hTy hFr hFl24 hW (lv_sub hl [0, 2, 3, 4, 5, 6, 7] rfl)
                · have c_67 : ¬ (16 ≤ i) := fun hh9 => c_67 ((nI_leI (a := 16) (b := i) (by omega) (by omega)).mpr hh9)
                  refine lv_iload hx hb dX12_feed_70 (lv_at hl 5 rfl) ?_
                  refine lv_goto (tgt := 77) hx hb dX12_feed_72 (by decide) ?_
                  refine lv_istore (lv' := [(7, .int vd), (6, .int (nI i)), (0, .ref o), (1, .int va), (2, .int vb), (3, .int vc), (4, .int vd), (5, .int ve)]) hx hb dX12_feed_77 hl (by decide) rfl (fun ls hl => ?_)
                  refine lv_aload_n hx hb dX12_feed_79 rfl (lv_at hl 2 rfl) ?_
                  refine pl_get (ci := 12) (v := .ref x_45) (C := RX12) (T := TX12) (N := 32) hx hb hT iX12 hown hK hW hT_o.1 hS_o rfl 9 (by decide) w1091 rfl dX12_feed_80 ?_
                  refine lv_aload_n hx hb dX12_feed_83 rfl (lv_at hl 2 rfl) ?_
                  refine pl_get (ci := 12) (v := .int (nI (gt9))) (C := RX12) (T := TX12) (N := 32) hx hb hT iX12 hown hK hW hT_o.1 hS_o rfl 10 (by decide) w1092 rfl dX12_feed_84 ?_
                  refine lv_iload hx hb dX12_feed_87 (lv_at hl 0 rfl) ?_
                  refine lv_bipush (v := 24) hx hb dX12_feed_89 (by decide) ?_
                  refine lv_bipush (v := 8) hx hb dX12_feed_91 (by decide) ?_
                  refine lv_iload hx hb dX12_feed_93 (lv_at hl 1 rfl) ?_
                  refine lv_iconst (v := 4) hx hb dX12_feed_95 (by decide) ?_
                  refine lv_irem hx hb dX12_feed_96 (nI_ne0 (n := 4) (by omega) (by omega)) ?_
                  refine lv_topi (fun z_77 ez_77 => ?_)
                  obtain rfl : z_77 = nI (i % 4) := ez_77.trans (pk_rem (a := i) (d := 4) (by omega) (by omega) (by omega))
                  refine lv_imul hx hb dX12_feed_97 ?_
                  refine lv_topi (fun z_78 ez_78 => ?_)
                  obtain rfl : z_78 = nI (8 * (i % 4)) := ez_78.trans (pk_mul (8) (i % 4))
                  refine lv_isub hx hb dX12_feed_98 ?_
                  refine lv_topi (fun z_79 ez_79 => ?_)
                  obtain rfl : z_79 = nI (24 - (8 * (i % 4))) := ez_79.trans (pk_sub (a := 24) (b := 8 * (i % 4)) (by omega))
                  refine lv_ishr hx hb dX12_feed_99 ?_
                  refine lv_topi (fun z_80 ez_80 => ?_)
                  refine lv_i2b hx hb dX12_feed_100 rfl ?_
                  refine lv_topi (fun z_81 ez_81 => ?_)
                  refine pl_bast hx hb hK hW hT_x_45.1 hS_x_45 (vp_in_nI (n := gt9) (N := 900) (by omega) (by omega)) dX12_feed_101 (fun H locs f_83 S_82 ef_f_83 e1 hW => ?_)
                  have hTy := hTy.u55 e1 hT_x_45 ⟨f_83, rfl⟩
                  have hS_o := un e1 hT_o hT_x_45 (by decide) hS_o
                  have hFr := uf hFr e1 hT_x_45 (by decide) (by decide)
                  have hFl24 := uf hFl24 e1 hT_x_45 (by decide) (by decide)
                  have hS_x_45 := us e1
                  have hfv : vd = if i < 4 then va else if i < 8 then vb else if i < 12 then vc else if i < 16 then vd else ve := by rw [if_neg (by omega), if_neg (by omega), if_neg (by omega), if_pos (by omega)]
                  have hfc1 := FDC_s (f1 := f_83) hfc (by rw [← hgt, ← FDB_n ez_81]; exact ef_f_83) (FDB_s hfv ez_80 ez_81) (by omega)
                  refine lv_aload_n hx hb dX12_feed_102 rfl (lv_at hl 2 rfl) ?_
                  refine lv_dup hx hb dX12_feed_103 rfl ?_
                  refine pl_get (ci := 12) (v := .int (nI (gt9))) (C := RX12) (T := TX12) (N := 32) hx hb hT iX12 hown hK hW hT_o.1 hS_o rfl 10 (by decide) w1092 rfl dX12_feed_104 ?_
                  refine lv_iconst (v := 1) hx hb dX12_feed_107 (by decide) ?_
                  refine lv_iadd hx hb dX12_feed_108 ?_
                  refine lv_topi (fun z_84 ez_84 => ?_)
                  obtain rfl : z_84 = nI (gt9 + 1) := ez_84.trans (nI_add (gt9) (1))
                  refine pl_put (ci := 12) (v := .int (nI (gt9 + 1))) (ty := .int) (C := RX12) (T := TX12) (N := 32) (fs' := [.ref x_36, .ref x_37, .ref x_38, .ref x_39, .ref x_40, .int (nI x_41), .int (nI x_42), .int (nI x_43), .int x_44, .ref x_45, .int (nI (gt9 + 1)), .int (nI x_46), .int (nI x_47), .int x_48, .int x_49, .int x_50, .int x_51, .ref x_52, .ref x_53, .int (nI x_54), .ref x_55, .ref x_56, .ref x_57, .ref x_58, .ref x_59, .ref x_60, .ref x_61, .ref x_62, .ref x_63, .ref x_64, .ref x_65, .int (nI x_66)]) hx hb hT iX12 tyX12 tyX12_ok nmX12 hown hK hW hT_o.1 hS_o rfl 10 (by decide) w1092 rfl (by decide +kernel) rfl rfl (Nat.le_of_ble_eq_true rfl) rfl dX12_feed_109 (fun H locs S_85 e1 hW => ?_)
                  have hTy : Ty cy L kap (pr.1, gt9 + 1) S_85 := hTy.p2 (n := gt9 + 1) e1 hT_o (fun b9 hb9 => hu12 b9 o hb9 hT_o) ⟨x_36, x_37, x_38, x_39, x_40, x_41, x_42, x_43, x_44, x_45, x_46, x_47, x_48, x_49, x_50, x_51, x_52, x_53, x_54, x_55, x_56, x_57, x_58, x_59, x_60, x_61, x_62, x_63, x_64, x_65, x_66, rfl, hT_x_36, hT_x_37, hT_x_38, hT_x_39, hT_x_40, (by omega), (by omega), (by omega), hT_x_45, (by show gt9 + 1 ≤ 900; omega), (by omega), (by omega), hT_x_52, hT_x_53, (by omega), hT_x_55, hT_x_56, hT_x_57, hT_x_58, hT_x_59, hT_x_60, hT_x_61, hT_x_62, hT_x_63, hT_x_64, hT_x_65, (by omega)⟩
                  have hS_x_45 := un e1 hT_x_45 hT_o (by decide) hS_x_45
                  have hws := (show wrs (.inr (12, [.ref x_36, .ref x_37, .ref x_38, .ref x_39, .ref x_40, .int (nI x_41), .int (nI x_42), .int (nI x_43), .int x_44, .ref x_45, .int (nI (gt9 + 1)), .int (nI x_46), .int (nI x_47), .int x_48, .int x_49, .int x_50, .int x_51, .ref x_52, .ref x_53, .int (nI x_54), .ref x_55, .ref x_56, .ref x_57, .ref x_58, .ref x_59, .ref x_60, .ref x_61, .ref x_62, .ref x_63, .ref x_64, .ref x_65, .int (nI x_66)])) = wrs (S_82 o) from by rw [hS_o]; rfl)
                  have hFr := ufs hFr e1 hT_o (by decide) hws
                  have hFl24 := ufs hFl24 e1 hT_o (by decide) hws
                  have hS_o := us e1
                  refine lv_iinc (v := nI (i + 1)) (lv' := [(6, .int (nI (i + 1))), (7, .int vd), (0, .ref o), (1, .int va), (2, .int vb), (3, .int vc), (4, .int vd), (5, .int ve)]) hx hb dX12_feed_112 hl (k := 1) rfl (nI_add (i) 1) (by decide) rfl (fun ls hl => ?_)
                  refine lv_goto (tgt := 24) hx hb dX12_feed_115 (by decide) ?_
                  exact ih24 (i + 1) f_83 (gt9 + 1) _ _ _ ls (by omega) (by omega) (by omega) (fld_i hS_o rfl hS_x_45) hfc1 hTy hFr hFl24 hW (lv_sub hl [0, 2, 3, 4, 5, 6, 7] rfl)
              · have c_56 : ¬ (12 ≤ i) := fun hh9 => c_56 ((nI_leI (a := 12) (b := i) (by omega) (by omega)).mpr hh9)
                refine lv_iload_n hx hb dX12_feed_59 rfl (lv_at hl 4 rfl) ?_
                refine lv_goto (tgt := 77) hx hb dX12_feed_60 (by decide) ?_
                refine lv_istore (lv' := [(7, .int vc), (6, .int (nI i)), (0, .ref o), (1, .int va), (2, .int vb), (3, .int vc), (4, .int vd), (5, .int ve)]) hx hb dX12_feed_77 hl (by decide) rfl (fun ls hl => ?_)
                refine lv_aload_n hx hb dX12_feed_79 rfl (lv_at hl 2 rfl) ?_
                refine pl_get (ci := 12) (v := .ref x_45) (C := RX12) (T := TX12) (N := 32) hx hb hT iX12 hown hK hW hT_o.1 hS_o rfl 9 (by decide) w1091 rfl dX12_feed_80 ?_
                refine lv_aload_n hx hb dX12_feed_83 rfl (lv_at hl 2 rfl) ?_
                refine pl_get (ci := 12) (v := .int (nI (gt9))) (C := RX12) (T := TX12) (N := 32) hx hb hT iX12 hown hK hW hT_o.1 hS_o rfl 10 (by decide) w1092 rfl dX12_feed_84 ?_
                refine lv_iload hx hb dX12_feed_87 (lv_at hl 0 rfl) ?_
                refine lv_bipush (v := 24) hx hb dX12_feed_89 (by decide) ?_
                refine lv_bipush (v := 8) hx hb dX12_feed_91 (by decide) ?_
                refine lv_iload hx hb dX12_feed_93 (lv_at hl 1 rfl) ?_
                refine lv_iconst (v := 4) hx hb dX12_feed_95 (by decide) ?_
                refine lv_irem hx hb dX12_feed_96 (nI_ne0 (n := 4) (by omega) (by omega)) ?_
                refine lv_topi (fun z_86 ez_86 => ?_)
                obtain rfl : z_86 = nI (i % 4) := ez_86.trans (pk_rem (a := i) (d := 4) (by omega) (by omega) (by omega))
                refine lv_imul hx hb dX12_feed_97 ?_
                refine lv_topi (fun z_87 ez_87 => ?_)
                obtain rfl : z_87 = nI (8 * (i % 4)) := ez_87.trans (pk_mul (8) (i % 4))
                refine lv_isub hx hb dX12_feed_98 ?_
                refine lv_topi (fun z_88 ez_88 => ?_)
                obtain rfl : z_88 = nI (24 - (8 * (i % 4))) := ez_88.trans (pk_sub (a := 24) (b := 8 * (i % 4)) (by omega))
                refine lv_ishr hx hb dX12_feed_99 ?_
                refine lv_topi (fun z_89 ez_89 => ?_)
                refine lv_i2b hx hb dX12_feed_100 rfl ?_
                refine lv_topi (fun z_90 ez_90 => ?_)
                refine pl_bast hx hb hK hW hT_x_45.1 hS_x_45 (vp_in_nI (n := gt9) (N := 900) (by omega) (by omega)) dX12_feed_101 (fun H locs f_92 S_91 ef_f_92 e1 hW => ?_)
                have hTy := hTy.u55 e1 hT_x_45 ⟨f_92, rfl⟩
                have hS_o := un e1 hT_o hT_x_45 (by decide) hS_o
                have hFr := uf hFr e1 hT_x_45 (by decide) (by decide)
                have hFl24 := uf hFl24 e1 hT_x_45 (by decide) (by decide)
                have hS_x_45 := us e1
                have hfv : vc = if i < 4 then va else if i < 8 then vb else if i < 12 then vc else if i < 16 then vd else ve := by rw [if_neg (by omega), if_neg (by omega), if_pos (by omega)]
                have hfc1 := FDC_s (f1 := f_92) hfc (by rw [← hgt, ← FDB_n ez_90]; exact ef_f_92) (FDB_s hfv ez_89 ez_90) (by omega)
                refine lv_aload_n hx hb dX12_feed_102 rfl (lv_at hl 2 rfl) ?_
                refine lv_dup hx hb dX12_feed_103 rfl ?_
                refine pl_get (ci := 12) (v := .int (nI (gt9))) (C := RX12) (T := TX12) (N := 32) hx hb hT iX12 hown hK hW hT_o.1 hS_o rfl 10 (by decide) w1092 rfl dX12_feed_104 ?_
                refine lv_iconst (v := 1) hx hb dX12_feed_107 (by decide) ?_
                refine lv_iadd hx hb dX12_feed_108 ?_
                refine lv_topi (fun z_93 ez_93 => ?_)
                obtain rfl : z_93 = nI (gt9 + 1) := ez_93.trans (nI_add (gt9) (1))
                refine pl_put (ci := 12) (v := .int (nI (gt9 + 1))) (ty := .int) (C := RX12) (T := TX12) (N := 32) (fs' := [.ref x_36, .ref x_37, .ref x_38, .ref x_39, .ref x_40, .int (nI x_41), .int (nI x_42), .int (nI x_43), .int x_44, .ref x_45, .int (nI (gt9 + 1)), .int (nI x_46), .int (nI x_47), .int x_48, .int x_49, .int x_50, .int x_51, .ref x_52, .ref x_53, .int (nI x_54), .ref x_55, .ref x_56, .ref x_57, .ref x_58, .ref x_59, .ref x_60, .ref x_61, .ref x_62, .ref x_63, .ref x_64, .ref x_65, .int (nI x_66)]) hx hb hT iX12 tyX12 tyX12_ok nmX12 hown hK hW hT_o.1 hS_o rfl 10 (by decide) w1092 rfl (by decide +kernel) rfl rfl (Nat.le_of_ble_eq_true rfl) rfl dX12_feed_109 (fun H locs S_94 e1 hW => ?_)
                have hTy : Ty cy L kap (pr.1, gt9 + 1) S_94 := hTy.p2 (n := gt9 + 1) e1 hT_o (fun b9 hb9 => hu12 b9 o hb9 hT_o) ⟨x_36, x_37, x_38, x_39, x_40, x_41, x_42, x_43, x_44, x_45, x_46, x_47, x_48, x_49, x_50, x_51, x_52, x_53, x_54, x_55, x_56, x_57, x_58, x_59, x_60, x_61, x_62, x_63, x_64, x_65, x_66, rfl, hT_x_36, hT_x_37, hT_x_38, hT_x_39, hT_x_40, (by omega), (by omega), (by omega), hT_x_45, (by show gt9 + 1 ≤ 900; omega), (by omega), (by omega), hT_x_52, hT_x_53, (by omega), hT_x_55, hT_x_56, hT_x_57, hT_x_58, hT_x_59, hT_x_60, hT_x_61, hT_x_62, hT_x_63, hT_x_64, hT_x_65, (by omega)⟩
                have hS_x_45 := un e1 hT_x_45 hT_o (by decide) hS_x_45
                have hws := (show wrs (.inr (12, [.ref x_36, .ref x_37, .ref x_38, .ref x_39, .ref x_40, .int (nI x_41), .int (nI x_42), .int (nI x_43), .int x_44, .ref x_45, .int (nI (gt9 + 1)), .int (nI x_46), .int (nI x_47), .int x_48, .int x_49, .int x_50, .int x_51, .ref x_52, .ref x_53, .int (nI x_54), .ref x_55, .ref x_56, .ref x_57, .ref x_58, .ref x_59, .ref x_60, .ref x_61, .ref x_62, .ref x_63, .ref x_64, .ref x_65, .int (nI x_66)])) = wrs (S_91 o) from by rw [hS_o]; rfl)
                have hFr := ufs hFr e1 hT_o (by decide) hws
                have hFl24 := ufs hFl24 e1 hT_o (by decide) hws
                have hS_o := us e1
                refine lv_iinc (v := nI (i + 1)) (lv' := [(6, .int (nI (i + 1))), (7, .int vc), (0, .ref o), (1, .int va), (2, .int vb), (3, .int vc), (4, .int vd), (5, .int ve)]) hx hb dX12_feed_112 hl (k := 1) rfl (nI_add (i) 1) (by decide) rfl (fun ls hl => ?_)
                refine lv_goto (tgt := 24) hx hb dX12_feed_115 (by decide) ?_
                exact ih24 (i + 1) f_92 (gt9 + 1) _ _ _ ls (by omega) (by omega) (by omega) (fld_i hS_o rfl hS_x_45) hfc1 hTy hFr hFl24 hW (lv_sub hl [0, 2, 3, 4, 5, 6, 7] rfl)
            · have c_45 : ¬ (8 ≤ i) := fun hh9 => c_45 ((nI_leI (a := 8) (b := i) (by omega) (by omega)).mpr hh9)
              refine lv_iload_n hx hb dX12_feed_48 rfl (lv_at hl 3 rfl) ?_
              refine lv_goto (tgt := 77) hx hb dX12_feed_49 (by decide) ?_
              refine lv_istore (lv' := [(7, .int vb), (6, .int (nI i)), (0, .ref o), (1, .int va), (2, .int vb), (3, .int vc), (4, .int vd), (5, .int ve)]) hx hb dX12_feed_77 hl (by decide) rfl (fun ls hl => ?_)
              refine lv_aload_n hx hb dX12_feed_79 rfl (lv_at hl 2 rfl) ?_
              refine pl_get (ci := 12) (v := .ref x_45) (C := RX12) (T := TX12) (N := 32) hx hb hT iX12 hown hK hW hT_o.1 hS_o rfl 9 (by decide) w1091 rfl dX12_feed_80 ?_
              refine lv_aload_n hx hb dX12_feed_83 rfl (lv_at hl 2 rfl) ?_
              refine pl_get (ci := 12) (v := .int (nI (gt9))) (C := RX12) (T := TX12) (N := 32) hx hb hT iX12 hown hK hW hT_o.1 hS_o rfl 10 (by decide) w1092 rfl dX12_feed_84 ?_
              refine lv_iload hx hb dX12_feed_87 (lv_at hl 0 rfl) ?_
              refine lv_bipush (v := 24) hx hb dX12_feed_89 (by decide) ?_
              refine lv_bipush (v := 8) hx hb dX12_feed_91 (by decide) ?_
              refine lv_iload hx hb dX12_feed_93 (lv_at hl 1 rfl) ?_
              refine lv_iconst (v := 4) hx hb dX12_feed_95 (by decide) ?_
              refine lv_irem hx hb dX12_feed_96 (nI_ne0 (n := 4) (by omega) (by omega)) ?_
              refine lv_topi (fun z_95 ez_95 => ?_)
              obtain rfl : z_95 = nI (i % 4) := ez_95.trans (pk_rem (a := i) (d := 4) (by omega) (by omega) (by omega))
              refine lv_imul hx hb dX12_feed_97 ?_
              refine lv_topi (fun z_96 ez_96 => ?_)
              obtain rfl : z_96 = nI (8 * (i % 4)) := ez_96.trans (pk_mul (8) (i % 4))
              refine lv_isub hx hb dX12_feed_98 ?_
              refine lv_topi (fun z_97 ez_97 => ?_)
              obtain rfl : z_97 = nI (24 - (8 * (i % 4))) := ez_97.trans (pk_sub (a := 24) (b := 8 * (i % 4)) (by omega))
              refine lv_ishr hx hb dX12_feed_99 ?_
              refine lv_topi (fun z_98 ez_98 => ?_)
              refine lv_i2b hx hb dX12_feed_100 rfl ?_
              refine lv_topi (fun z_99 ez_99 => ?_)
              refine pl_bast hx hb hK hW hT_x_45.1 hS_x_45 (vp_in_nI (n := gt9) (N := 900) (by omega) (by omega)) dX12_feed_101 (fun H locs f_101 S_100 ef_f_101 e1 hW => ?_)
              have hTy := hTy.u55 e1 hT_x_45 ⟨f_101, rfl⟩
              have hS_o := un e1 hT_o hT_x_45 (by decide) hS_o
              have hFr := uf hFr e1 hT_x_45 (by decide) (by decide)
              have hFl24 := uf hFl24 e1 hT_x_45 (by decide) (by decide)
              have hS_x_45 := us e1
              have hfv : vb = if i < 4 then va else if i < 8 then vb else if i < 12 then vc else if i < 16 then vd else ve := by rw [if_neg (by omega), if_pos (by omega)]
              have hfc1 := FDC_s (f1 := f_101) hfc (by rw [← hgt, ← FDB_n ez_99]; exact ef_f_101) (FDB_s hfv ez_98 ez_99) (by omega)
              refine lv_aload_n hx hb dX12_feed_102 rfl (lv_at hl 2 rfl) ?_
              refine lv_dup hx hb dX12_feed_103 rfl ?_
              refine pl_get (ci := 12) (v := .int (nI (gt9))) (C := RX12) (T := TX12) (N := 32) hx hb hT iX12 hown hK hW hT_o.1 hS_o rfl 10 (by decide) w1092 rfl dX12_feed_104 ?_
              refine lv_iconst (v := 1) hx hb dX12_feed_107 (by decide) ?_
              refine lv_iadd hx hb dX12_feed_108 ?_
              refine lv_topi (fun z_102 ez_102 => ?_)
              obtain rfl : z_102 = nI (gt9 + 1) := ez_102.trans (nI_add (gt9) (1))
              refine pl_put (ci := 12) (v := .int (nI (gt9 + 1))) (ty := .int) (C := RX12) (T := TX12) (N := 32) (fs' := [.ref x_36, .ref x_37, .ref x_38, .ref x_39, .ref x_40, .int (nI x_41), .int (nI x_42), .int (nI x_43), .int x_44, .ref x_45, .int (nI (gt9 + 1)), .int (nI x_46), .int (nI x_47), .int x_48, .int x_49, .int x_50, .int x_51, .ref x_52, .ref x_53, .int (nI x_54), .ref x_55, .ref x_56, .ref x_57, .ref x_58, .ref x_59, .ref x_60, .ref x_61, .ref x_62, .ref x_63, .ref x_64, .ref x_65, .int (nI x_66)]) hx hb hT iX12 tyX12 tyX12_ok nmX12 hown hK hW hT_o.1 hS_o rfl 10 (by decide) w1092 rfl (by decide +kernel) rfl rfl (Nat.le_of_ble_eq_true rfl) rfl dX12_feed_109 (fun H locs S_103 e1 hW => ?_)
              have hTy : Ty cy L kap (pr.1, gt9 + 1) S_103 := hTy.p2 (n := gt9 + 1) e1 hT_o (fun b9 hb9 => hu12 b9 o hb9 hT_o) ⟨x_36, x_37, x_38, x_39, x_40, x_41, x_42, x_43, x_44, x_45, x_46, x_47, x_48, x_49, x_50, x_51, x_52, x_53, x_54, x_55, x_56, x_57, x_58, x_59, x_60, x_61, x_62, x_63, x_64, x_65, x_66, rfl, hT_x_36, hT_x_37, hT_x_38, hT_x_39, hT_x_40, (by omega), (by omega), (by omega), hT_x_45, (by show gt9 + 1 ≤ 900; omega), (by omega), (by omega), hT_x_52, hT_x_53, (by omega), hT_x_55, hT_x_56, hT_x_57, hT_x_58, hT_x_59, hT_x_60, hT_x_61, hT_x_62, hT_x_63, hT_x_64, hT_x_65, (by omega)⟩
              have hS_x_45 := un e1 hT_x_45 hT_o (by decide) hS_x_45
              have hws := (show wrs (.inr (12, [.ref x_36, .ref x_37, .ref x_38, .ref x_39, .ref x_40, .int (nI x_41), .int (nI x_42), .int (nI x_43), .int x_44, .ref x_45, .int (nI (gt9 + 1)), .int (nI x_46), .int (nI x_47), .int x_48, .int x_49, .int x_50, .int x_51, .ref x_52, .ref x_53, .int (nI x_54), .ref x_55, .ref x_56, .ref x_57, .ref x_58, .ref x_59, .ref x_60, .ref x_61, .ref x_62, .ref x_63, .ref x_64, .ref x_65, .int (nI x_66)])) = wrs (S_100 o) from by rw [hS_o]; rfl)
              have hFr := ufs hFr e1 hT_o (by decide) hws
              have hFl24 := ufs hFl24 e1 hT_o (by decide) hws
              have hS_o := us e1
              refine lv_iinc (v := nI (i + 1)) (lv' := [(6, .int (nI (i + 1))), (7, .int vb), (0, .ref o), (1, .int va), (2, .int vb), (3, .int vc), (4, .int vd), (5, .int ve)]) hx hb dX12_feed_112 hl (k := 1) rfl (nI_add (i) 1) (by decide) rfl (fun ls hl => ?_)
              refine lv_goto (tgt := 24) hx hb dX12_feed_115 (by decide) ?_
              exact ih24 (i + 1) f_101 (gt9 + 1) _ _ _ ls (by omega) (by omega) (by omega) (fld_i hS_o rfl hS_x_45) hfc1 hTy hFr hFl24 hW (lv_sub hl [0, 2, 3, 4, 5, 6, 7] rfl)
          · have c_34 : ¬ (4 ≤ i) := fun hh9 => c_34 ((nI_leI (a := 4) (b := i) (by omega) (by omega)).mpr hh9)
            refine lv_iload_n hx hb dX12_feed_37 rfl (lv_at hl 2 rfl) ?_
            refine lv_goto (tgt := 77) hx hb dX12_feed_38 (by decide) ?_
            refine lv_istore (lv' := [(7, .int va), (6, .int (nI i)), (0, .ref o), (1, .int va), (2, .int vb), (3, .int vc), (4, .int vd), (5, .int ve)]) hx hb dX12_feed_77 hl (by decide) rfl (fun ls hl => ?_)
            refine lv_aload_n hx hb dX12_feed_79 rfl (lv_at hl 2 rfl) ?_
            refine pl_get (ci := 12) (v := .ref x_45) (C := RX12) (T := TX12) (N := 32) hx hb hT iX12 hown hK hW hT_o.1 hS_o rfl 9 (by decide) w1091 rfl dX12_feed_80 ?_
            refine lv_aload_n hx hb dX12_feed_83 rfl (lv_at hl 2 rfl) ?_
            refine pl_get (ci := 12) (v := .int (nI (gt9))) (C := RX12) (T := TX12) (N := 32) hx hb hT iX12 hown hK hW hT_o.1 hS_o rfl 10 (by decide) w1092 rfl dX12_feed_84 ?_
            refine lv_iload hx hb dX12_feed_87 (lv_at hl 0 rfl) ?_
            refine lv_bipush (v := 24) hx hb dX12_feed_89 (by decide) ?_
            refine lv_bipush (v := 8) hx hb dX12_feed_91 (by decide) ?_
            refine lv_iload hx hb dX12_feed_93 (lv_at hl 1 rfl) ?_
            refine lv_iconst (v := 4) hx hb dX12_feed_95 (by decide) ?_
            refine lv_irem hx hb dX12_feed_96 (nI_ne0 (n := 4) (by omega) (by omega)) ?_
            refine lv_topi (fun z_104 ez_104 => ?_)
            obtain rfl : z_104 = nI (i % 4) := ez_104.trans (pk_rem (a := i) (d := 4) (by omega) (by omega) (by omega))
            refine lv_imul hx hb dX12_feed_97 ?_
            refine lv_topi (fun z_105 ez_105 => ?_)
            obtain rfl : z_105 = nI (8 * (i % 4)) := ez_105.trans (pk_mul (8) (i % 4))
            refine lv_isub hx hb dX12_feed_98 ?_
            refine lv_topi (fun z_106 ez_106 => ?_)
            obtain rfl : z_106 = nI (24 - (8 * (i % 4))) := ez_106.trans (pk_sub (a := 24) (b := 8 * (i % 4)) (by omega))
            refine lv_ishr hx hb dX12_feed_99 ?_
            refine lv_topi (fun z_107 ez_107 => ?_)
            refine lv_i2b hx hb dX12_feed_100 rfl ?_
            refine lv_topi (fun z_108 ez_108 => ?_)
            refine pl_bast hx hb hK hW hT_x_45.1 hS_x_45 (vp_in_nI (n := gt9) (N := 900) (by omega) (by omega)) dX12_feed_101 (fun H locs f_110 S_109 ef_f_110 e1 hW => ?_)
            have hTy := hTy.u55 e1 hT_x_45 ⟨f_110, rfl⟩
            have hS_o := un e1 hT_o hT_x_45 (by decide) hS_o
            have hFr := uf hFr e1 hT_x_45 (by decide) (by decide)
            have hFl24 := uf hFl24 e1 hT_x_45 (by decide) (by decide)
            have hS_x_45 := us e1
            have hfv : va = if i < 4 then va else if i < 8 then vb else if i < 12 then vc else if i < 16 then vd else ve := by rw [if_pos (by omega)]
            have hfc1 := FDC_s (f1 := f_110) hfc (by rw [← hgt, ← FDB_n ez_108]; exact ef_f_110) (FDB_s hfv ez_107 ez_108) (by omega)
            refine lv_aload_n hx hb dX12_feed_102 rfl (lv_at hl 2 rfl) ?_
            refine lv_dup hx hb dX12_feed_103 rfl ?_
            refine pl_get (ci := 12) (v := .int (nI (gt9))) (C := RX12) (T := TX12) (N := 32) hx hb hT iX12 hown hK hW hT_o.1 hS_o rfl 10 (by decide) w1092 rfl dX12_feed_104 ?_
            refine lv_iconst (v := 1) hx hb dX12_feed_107 (by decide) ?_
            refine lv_iadd hx hb dX12_feed_108 ?_
            refine lv_topi (fun z_111 ez_111 => ?_)
            obtain rfl : z_111 = nI (gt9 + 1) := ez_111.trans (nI_add (gt9) (1))
            refine pl_put (ci := 12) (v := .int (nI (gt9 + 1))) (ty := .int) (C := RX12) (T := TX12) (N := 32) (fs' := [.ref x_36, .ref x_37, .ref x_38, .ref x_39, .ref x_40, .int (nI x_41), .int (nI x_42), .int (nI x_43), .int x_44, .ref x_45, .int (nI (gt9 + 1)), .int (nI x_46), .int (nI x_47), .int x_48, .int x_49, .int x_50, .int x_51, .ref x_52, .ref x_53, .int (nI x_54), .ref x_55, .ref x_56, .ref x_57, .ref x_58, .ref x_59, .ref x_60, .ref x_61, .ref x_62, .ref x_63, .ref x_64, .ref x_65, .int (nI x_66)]) hx hb hT iX12 tyX12 tyX12_ok nmX12 hown hK hW hT_o.1 hS_o rfl 10 (by decide) w1092 rfl (by decide +kernel) rfl rfl (Nat.le_of_ble_eq_true rfl) rfl dX12_feed_109 (fun H locs S_112 e1 hW => ?_)
            have hTy : Ty cy L kap (pr.1, gt9 + 1) S_112 := hTy.p2 (n := gt9 + 1) e1 hT_o (fun b9 hb9 => hu12 b9 o hb9 hT_o) ⟨x_36, x_37, x_38, x_39, x_40, x_41, x_42, x_43, x_44, x_45, x_46, x_47, x_48, x_49, x_50, x_51, x_52, x_53, x_54, x_55, x_56, x_57, x_58, x_59, x_60, x_61, x_62, x_63, x_64, x_65, x_66, rfl, hT_x_36, hT_x_37, hT_x_38, hT_x_39, hT_x_40, (by omega), (by omega), (by omega), hT_x_45, (by show gt9 + 1 ≤ 900; omega), (by omega), (by omega), hT_x_52, hT_x_53, (by omega), hT_x_55, hT_x_56, hT_x_57, hT_x_58, hT_x_59, hT_x_60, hT_x_61, hT_x_62, hT_x_63, hT_x_64, hT_x_65, (by omega)⟩
            have hS_x_45 := un e1 hT_x_45 hT_o (by decide) hS_x_45
            have hws := (show wrs (.inr (12, [.ref x_36, .ref x_37, .ref x_38, .ref x_39, .ref x_40, .int (nI x_41), .int (nI x_42), .int (nI x_43), .int x_44, .ref x_45, .int (nI (gt9 + 1)), .int (nI x_46), .int (nI x_47), .int x_48, .int x_49, .int x_50, .int x_51, .ref x_52, .ref x_53, .int (nI x_54), .ref x_55, .ref x_56, .ref x_57, .ref x_58, .ref x_59, .ref x_60, .ref x_61, .ref x_62, .ref x_63, .ref x_64, .ref x_65, .int (nI x_66)])) = wrs (S_109 o) from by rw [hS_o]; rfl)
            have hFr := ufs hFr e1 hT_o (by decide) hws
            have hFl24 := ufs hFl24 e1 hT_o (by decide) hws
            have hS_o := us e1
            refine lv_iinc (v := nI (i + 1)) (lv' := [(6, .int (nI (i + 1))), (7, .int va), (0, .ref o), (1, .int va), (2, .int vb), (3, .int vc), (4, .int vd), (5, .int ve)]) hx hb dX12_feed_112 hl (k := 1) rfl (nI_add (i) 1) (by decide) rfl (fun ls hl => ?_)
            refine lv_goto (tgt := 24) hx hb dX12_feed_115 (by decide) ?_
            exact ih24 (i + 1) f_110 (gt9 + 1) _ _ _ ls (by omega) (by omega) (by omega) (fld_i hS_o rfl hS_x_45) hfc1 hTy hFr hFl24 hW (lv_sub hl [0, 2, 3, 4, 5, 6, 7] rfl)
    exact loop ((21 - 0) + 1) 0 g pr.2 _ _ _ ls (Nat.lt_succ_self _) (by omega) (by omega) (fld_i hS_o rfl hS_x_10) FDC_0.symm hTy hFr Fr.rf hW (lv_sub hl [0, 1, 2, 3, 4, 5, 6] rfl)
  · have c_15 : ¬ ((pr.2 + 20) ≤ 900) := fun hh9 => c_15 ((nI_leI (a := pr.2 + 20) (b := 900) (by omega) (by omega)).mpr hh9)
    refine lv_bipush (v := (-4)) hx hb dX12_feed_18 (by decide) ?_
    have hTy : Ty cy L kap (pr.1, fd pr.2) S_33 := (by rw [fd, if_pos (by omega)]; exact hTy)
    exact W.iret (v := (-4)) hx hb hr (fun t ht h9 => ⟨⟨(-4), S_33, rfl, ⟨hTy, hFr, ⟨(if_pos (by omega)).symm, by rw [FDX, if_pos (by omega)]; exact (fld_i hS_o rfl hS_x_10)⟩⟩, by rw [ht]; exact hW.1, va_K.moved h9.alike hK, hW.2.1⟩, hW.2.2.F ht⟩) hW.2.2.2.2 dX12_feed_20

set_option maxHeartbeats 4000000 in
set_option maxRecDepth 100000 in
theorem f_fault (l : Launch) (dC : Nat → ClassId) (dI : Nat → Nat → Nat) (cy : Nat → ClassId) (L : List Nat) (kap : Nat → Nat) (pr : Pr) (S : Nat → va_E) (sz : Nat) (o : Nat) (wh : Int32) (hTy : Ty cy L kap pr S) (hT_o : TK L kap o 12) : Met l yX12_fault (wT yX12_fault cX12_fault 2 (some .int)) ({ frames := 0, cells := 0, slots := 0, locals := 0 }) (pcN dC dI [.ref o, .int wh] sz (va_pl L S) (cyT cy) NLs []) (va_Qi (fun r S' => Ty cy L kap pr S' ∧ Fr kap [12] S S' ∧ (inf (S' o) 13 = inf (S o) 13 ∧ inf (S' o) 14 = inf (S o) 14 ∧ r = FLT wh (inf (S o) 13) (inf (S o) 14))) (fun S' t => pB dC dI (AL L sz) (va_pl L S') (cyT cy) t) (AL L sz)) 0 0 (AL L sz) := by
  refine Met.ofW (cc := cX12_fault) (maxL := 2) (ret := (some .int)) (by decide) rfl ?_
  intro p e s m args below meth c s₁ B hml hv
  obtain ⟨rfl, hsz, hP, hK, hD0, hN, -⟩ := hv
  have hx := B.exec
  have hb := B.bytes
  have hr := B.returns
  have hT : ∀ wd ∈ TB, wd.before [.ref o, .int wh].toArray s = true := fun wd h => atoms_spec (ws := wT yX12_fault cX12_fault 2 (some .int)) B.pre wd (List.mem_cons_of_mem _ h)
  have hown : s.vm.findClass RX12 = some m.cls := findClass_of_methodNamed B.named
  have hlocks := B.notSynchronized
  subst hsz
  have hW : PW dC dI L (AL L s.heap.size) s.heap S s.heap [] := ⟨hP, pl_self hD0, va_S.rf⟩
  have hA0 : ∀ q, q ∈ L → AL L s.heap.size q := fun _ h => Or.inl h
  have hA : ∀ q, s.heap.size ≤ q → AL L s.heap.size q := fun _ h => Or.inr h
  have hFr : Fr kap [12] S S := Fr.rf
  have hl := lv_entry ([.ref o, .int wh]) (n := 2) (Nat.le_of_ble_eq_true rfl)
  rw [lg_entry_eq]
  generalize (lg_sl ([.ref o, .int wh]) ++ List.replicate (2 - (lg_sl ([.ref o, .int wh])).length) Slot.unset).toArray = ls at hl ⊢
  have hl : lv_has ls 2 [(0, .ref o), (1, .int wh)] := hl
  obtain ⟨x_1, x_2, x_3, x_4, x_5, x_6, x_7, x_8, x_9, x_10, x_11, x_12, x_13, x_14, x_15, x_16, x_17, x_18, x_19, x_20, x_21, x_22, x_23, x_24, x_25, x_26, x_27, x_28, x_29, x_30, x_31, hS_o, hT_x_1, hT_x_2, hT_x_3, hT_x_4, hT_x_5, hb_x_6, hb_x_7, hb_x_8, hT_x_10, hb_q2, hb_x_11, hb_x_12, hT_x_17, hT_x_18, hb_x_19, hT_x_20, hT_x_21, hT_x_22, hT_x_23, hT_x_24, hT_x_25, hT_x_26, hT_x_27, hT_x_28, hT_x_29, hT_x_30, hb_x_31⟩ := hTy.k12 hT_o
  have hb_q2 : pr.2 ≤ 900 := hb_q2
  have hS_o : S o = .inr (12, [.ref x_1, .ref x_2, .ref x_3, .ref x_4, .ref x_5, .int (nI x_6), .int (nI x_7), .int (nI x_8), .int x_9, .ref x_10, .int (nI (pr.2)), .int (nI x_11), .int (nI x_12), .int x_13, .int x_14, .int x_15, .int x_16, .ref x_17, .ref x_18, .int (nI x_19), .ref x_20, .ref x_21, .ref x_22, .ref x_23, .ref x_24, .ref x_25, .ref x_26, .ref x_27, .ref x_28, .ref x_29, .ref x_30, .int (nI x_31)]) := hS_o
  have hw13_ : inf (S o) 13 = x_13 := inf_i hS_o rfl
  have hw14_ : inf (S o) 14 = x_14 := inf_i hS_o rfl
  refine lv_aload_n hx hb dX12_fault_0 rfl (lv_at hl 0 rfl) ?_
  refine lv_iconst (v := 0) hx hb dX12_fault_1 (by decide) ?_
  refine pl_put (ci := 12) (v := .int 0) (ty := .int) (C := RX12) (T := TX12) (N := 32) (fs' := [.ref x_1, .ref x_2, .ref x_3, .ref x_4, .ref x_5, .int (nI x_6), .int (nI x_7), .int (nI x_8), .int 0, .ref x_10, .int (nI (pr.2)), .int (nI x_11), .int (nI x_12), .int x_13, .int x_14, .int x_15, .int x_16, .ref x_17, .ref x_18, .int (nI x_19), .ref x_20, .ref x_21, .ref x_22, .ref x_23, .ref x_24, .ref x_25, .ref x_26, .ref x_27, .ref x_28, .ref x_29, .ref x_30, .int (nI x_31)]) hx hb hT iX12 tyX12 tyX12_ok nmX12 hown hK hW hT_o.1 hS_o rfl 8 (by decide) w1090 rfl (by decide +kernel) rfl rfl (Nat.le_of_ble_eq_true rfl) rfl dX12_fault_2 (fun H locs S_32 e1 hW => ?_)
  have hTy := hTy.u12 e1 hT_o ⟨x_1, x_2, x_3, x_4, x_5, x_6, x_7, x_8, 0, x_10, x_11, x_12, x_13, x_14, x_15, x_16, x_17, x_18, x_19, x_20, x_21, x_22, x_23, x_24, x_25, x_26, x_27, x_28, x_29, x_30, x_31, rfl, hT_x_1, hT_x_2, hT_x_3, hT_x_4, hT_x_5, (by omega), (by omega), (by omega), hT_x_10, (by show pr.2 ≤ 900; omega), (by omega), (by omega), hT_x_17, hT_x_18, (by omega), hT_x_20, hT_x_21, hT_x_22, hT_x_23, hT_x_24, hT_x_25, hT_x_26, hT_x_27, hT_x_28, hT_x_29, hT_x_30, (by omega)⟩
  have hws := (show wrs (.inr (12, [.ref x_1, .ref x_2, .ref x_3, .ref x_4, .ref x_5, .int (nI x_6), .int (nI x_7), .int (nI x_8), .int 0, .ref x_10, .int (nI (pr.2)), .int (nI x_11), .int (nI x_12), .int x_13, .int x_14, .int x_15, .int x_16, .ref x_17, .ref x_18, .int (nI x_19), .ref x_20, .ref x_21, .ref x_22, .ref x_23, .ref x_24, .ref x_25, .ref x_26, .ref x_27, .ref x_28, .ref x_29, .ref x_30, .int (nI x_31)])) = wrs (S o) from by rw [hS_o]; rfl)
  have hFr := ufs hFr e1 hT_o (by decide) hws
  have hS_o := us e1
  refine lv_iload_n hx hb dX12_fault_5 rfl (lv_at hl 1 rfl) ?_
  refine lv_if_ne (tgt := 16) hx hb dX12_fault_6 (by decide) (fun c_6 => ?_) (fun c_6 => ?_)
  · refine lv_iload_n hx hb dX12_fault_16 rfl (lv_at hl 1 rfl) ?_
    refine lv_iconst (v := 1) hx hb dX12_fault_17 (by decide) ?_
    refine lv_icmp_ne (tgt := 28) hx hb dX12_fault_18 (by decide) (fun c_18 => ?_) (fun c_18 => ?_)
    · refine lv_iconst (v := (-1)) hx hb dX12_fault_28 (by decide) ?_
      exact W.iret (v := (-1)) hx hb hr (fun t ht h9 => ⟨⟨(-1), S_32, rfl, ⟨hTy, hFr, ⟨(inf_i hS_o rfl).trans hw13_.symm, (inf_i hS_o rfl).trans hw14_.symm, by rw [hw13_, hw14_, FLT, if_neg c_6, if_neg c_18]⟩⟩, by rw [ht]; exact hW.1, va_K.moved h9.alike hK, hW.2.1⟩, hW.2.2.F ht⟩) hW.2.2.2.2 dX12_fault_29
    · refine lv_aload_n hx hb dX12_fault_21 rfl (lv_at hl 0 rfl) ?_
      refine pl_get (ci := 12) (v := .int x_14) (C := RX12) (T := TX12) (N := 32) hx hb hT iX12 hown hK hW hT_o.1 hS_o rfl 14 (by decide) w1096 rfl dX12_fault_22 ?_
      refine lv_goto (tgt := 29) hx hb dX12_fault_25 (by decide) ?_
      exact W.iret (v := x_14) hx hb hr (fun t ht h9 => ⟨⟨x_14, S_32, rfl, ⟨hTy, hFr, ⟨(inf_i hS_o rfl).trans hw13_.symm, (inf_i hS_o rfl).trans hw14_.symm, by rw [hw13_, hw14_, FLT, if_neg c_6, if_pos c_18]⟩⟩, by rw [ht]; exact hW.1, va_K.moved h9.alike hK, hW.2.1⟩, hW.2.2.F ht⟩) hW.2.2.2.2 dX12_fault_29
  · refine lv_aload_n hx hb dX12_fault_9 rfl (lv_at hl 0 rfl) ?_
    refine pl_get (ci := 12) (v := .int x_13) (C := RX12) (T := TX12) (N := 32) hx hb hT iX12 hown hK hW hT_o.1 hS_o rfl 13 (by decide) w1095 rfl dX12_fault_10 ?_
    refine lv_goto (tgt := 29) hx hb dX12_fault_13 (by decide) ?_
    exact W.iret (v := x_13) hx hb hr (fun t ht h9 => ⟨⟨x_13, S_32, rfl, ⟨hTy, hFr, ⟨(inf_i hS_o rfl).trans hw13_.symm, (inf_i hS_o rfl).trans hw14_.symm, by rw [hw13_, hw14_, FLT, if_pos c_6]⟩⟩, by rw [ht]; exact hW.1, va_K.moved h9.alike hK, hW.2.1⟩, hW.2.2.F ht⟩) hW.2.2.2.2 dX12_fault_29

