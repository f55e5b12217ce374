theorem w22 : (.classLink RL 7 RX11 : Cond) ∈ TB := mTB (List.mem_of_getElem? (i := 22) (by decide +kernel)) (by decide +kernel)
theorem w23 : (.instantiable RX11 13 : Cond) ∈ TB := mTB (List.mem_of_getElem? (i := 23) (by decide +kernel)) (by decide +kernel)
theorem w24 : (.methodLink RL 9 yX11_init : Cond) ∈ TB := mTB (List.mem_of_getElem? (i := 24) (by decide +kernel)) (by decide +kernel)
theorem w25 : (.instanceMethod yX11_init : Cond) ∈ TB := mTB (List.mem_of_getElem? (i := 25) (by decide +kernel)) (by decide +kernel)
theorem w26 : (.code yX11_init cX11_init 1 none : Cond) ∈ TB := mTB (List.mem_of_getElem? (i := 26) (by decide +kernel)) (by decide +kernel)
theorem w1071 : (.classLink RL 10 RX12 : Cond) ∈ TB := mTB (List.mem_of_getElem? (i := 1071) (by decide +kernel)) (by decide +kernel)
theorem w1072 : (.instantiable RX12 32 : Cond) ∈ TB := mTB (List.mem_of_getElem? (i := 1072) (by decide +kernel)) (by decide +kernel)
theorem w1073 : (.methodLink RL 12 yX12_init : Cond) ∈ TB := mTB (List.mem_of_getElem? (i := 1073) (by decide +kernel)) (by decide +kernel)
theorem w1074 : (.instanceMethod yX12_init : Cond) ∈ TB := mTB (List.mem_of_getElem? (i := 1074) (by decide +kernel)) (by decide +kernel)
theorem w1075 : (.code yX12_init cX12_init 1 none : Cond) ∈ TB := mTB (List.mem_of_getElem? (i := 1075) (by decide +kernel)) (by decide +kernel)
theorem dL_law_0 : decode cL_law 0 = .ok (.new 7, 3) := by decide +kernel
theorem dL_law_3 : decode cL_law 3 = .ok (.dup, 1) := by decide +kernel
theorem dL_law_4 : decode cL_law 4 = .ok (.invokespecial 9, 3) := by decide +kernel
theorem dL_law_7 : decode cL_law 7 = .ok (.astore_n 1, 1) := by decide +kernel
theorem dL_law_8 : decode cL_law 8 = .ok (.new 10, 3) := by decide +kernel
theorem dL_law_11 : decode cL_law 11 = .ok (.dup, 1) := by decide +kernel
theorem dL_law_12 : decode cL_law 12 = .ok (.invokespecial 12, 3) := by decide +kernel
theorem dL_law_15 : decode cL_law 15 = .ok (.astore_n 2, 1) := by decide +kernel
theorem dL_law_16 : decode cL_law 16 = .ok (.iconst 0, 1) := by decide +kernel
theorem dL_law_17 : decode cL_law 17 = .ok (.istore_n 3, 1) := by decide +kernel
theorem dL_law_18 : decode cL_law 18 = .ok (.iload_n 3, 1) := by decide +kernel
theorem dL_law_19 : decode cL_law 19 = .ok (.aload_n 0, 1) := by decide +kernel
theorem dL_law_20 : decode cL_law 20 = .ok (.arraylength, 1) := by decide +kernel
theorem dL_law_21 : decode cL_law 21 = .ok (.bipush 6, 2) := by decide +kernel
theorem dL_law_23 : decode cL_law 23 = .ok (.isub, 1) := by decide +kernel
theorem dL_law_24 : decode cL_law 24 = .ok (.if_icmp .gt 1415, 3) := by decide +kernel
theorem dL_law_27 : decode cL_law 27 = .ok (.aload_n 0, 1) := by decide +kernel
theorem dL_law_28 : decode cL_law 28 = .ok (.iload_n 3, 1) := by decide +kernel
theorem dL_law_29 : decode cL_law 29 = .ok (.iaload, 1) := by decide +kernel
theorem dL_law_30 : decode cL_law 30 = .ok (.bipush 63, 2) := by decide +kernel
theorem dL_law_32 : decode cL_law 32 = .ok (.iand, 1) := by decide +kernel
theorem dL_law_33 : decode cL_law 33 = .ok (.tableswitch 1400 0 36 #[163, 226, 249, 272, 325, 348, 371, 394, 437, 460, 483, 496, 529, 572, 631, 674, 707, 750, 783, 806, 839, 872, 905, 928, 971, 994, 1047, 1090, 1123, 1156, 1199, 1222, 1235, 1278, 1311, 1344, 1377], 163) := by decide +kernel
theorem dL_law_1433 : decode cL_law 1433 = .ok (.iinc 3 6, 3) := by decide +kernel
theorem dL_law_1436 : decode cL_law 1436 = .ok (.goto (-1418), 3) := by decide +kernel
theorem dL_law_1439 : decode cL_law 1439 = .ok (.iconst 1, 1) := by decide +kernel
theorem dL_law_1440 : decode cL_law 1440 = .ok (.ireturn, 1) := by decide +kernel
theorem GR.inv {L L1 : List Nat} {kap kap1 : Nat → Nat} {S S1 : Nat → va_E} {q k : Nat} {e : va_E} (g : GR L kap S q k e L1 kap1 S1) {a j : Nat} (h : TK L1 kap1 a j) : TK L kap a j ∨ (a = q ∧ j = k) := by
  by_cases c : a = q
  · subst c
    exact Or.inr ⟨rfl, h.2.symm.trans g.new.2⟩
  · have ha' : a ∈ L := by
      have ha2 := h.1
      rw [g.2.1] at ha2
      rcases List.mem_append.mp ha2 with z | z
      · exact z
      · exact absurd (List.mem_singleton.mp z) c
    exact Or.inl ⟨ha', (g.tk ⟨ha', rfl⟩ : TK L1 kap1 a (kap a)).2.symm.trans h.2⟩
def FIN (L : List Nat) (kap : Nat → Nat) (t27 t10 t6 t50 t51 t52 t55 t12 : Nat) : Prop := ∀ a k, USP k → TK L kap a k → ((k = 27 ∧ a = t27) ∨ (k = 10 ∧ a = t10) ∨ (k = 6 ∧ a = t6)) ∨ ((k = 50 ∧ a = t50) ∨ (k = 51 ∧ a = t51) ∨ (k = 52 ∧ a = t52) ∨ (k = 55 ∧ a = t55) ∨ (k = 12 ∧ a = t12))
section FINS
variable {L : List Nat} {kap : Nat → Nat} {t27 t10 t6 t50 t51 t52 t55 t12 : Nat}
theorem fin_27 (f : FIN L kap t27 t10 t6 t50 t51 t52 t55 t12) {a : Nat} (h : TK L kap a 27) : a = t27 := by
  rcases f a 27 (by decide) h with (⟨h, e⟩ | ⟨h, e⟩ | ⟨h, e⟩) | (⟨h, e⟩ | ⟨h, e⟩ | ⟨h, e⟩ | ⟨h, e⟩ | ⟨h, e⟩)
  · exact e
  · exact absurd h (by decide)
  · exact absurd h (by decide)
  · exact absurd h (by decide)
  · exact absurd h (by decide)
  · exact absurd h (by decide)
  · exact absurd h (by decide)
  · exact absurd h (by decide)
theorem fin_10 (f : FIN L kap t27 t10 t6 t50 t51 t52 t55 t12) {a : Nat} (h : TK L kap a 10) : a = t10 := by
  rcases f a 10 (by decide) h with (⟨h, e⟩ | ⟨h, e⟩ | ⟨h, e⟩) | (⟨h, e⟩ | ⟨h, e⟩ | ⟨h, e⟩ | ⟨h, e⟩ | ⟨h, e⟩)
  · exact absurd h (by decide)
  · exact e
  · exact absurd h (by decide)
  · exact absurd h (by decide)
  · exact absurd h (by decide)
  · exact absurd h (by decide)
  · exact absurd h (by decide)
  · exact absurd h (by decide)
theorem fin_6 (f : FIN L kap t27 t10 t6 t50 t51 t52 t55 t12) {a : Nat} (h : TK L kap a 6) : a = t6 := by
  rcases f a 6 (by decide) h with (⟨h, e⟩ | ⟨h, e⟩ | ⟨h, e⟩) | (⟨h, e⟩ | ⟨h, e⟩ | ⟨h, e⟩ | ⟨h, e⟩ | ⟨h, e⟩)
  · exact absurd h (by decide)
  · exact absurd h (by decide)
  · exact e
  · exact absurd h (by decide)
  · exact absurd h (by decide)
  · exact absurd h (by decide)
  · exact absurd h (by decide)
  · exact absurd h (by decide)
theorem fin_50 (f : FIN L kap t27 t10 t6 t50 t51 t52 t55 t12) {a : Nat} (h : TK L kap a 50) : a = t50 := by
  rcases f a 50 (by decide) h with (⟨h, e⟩ | ⟨h, e⟩ | ⟨h, e⟩) | (⟨h, e⟩ | ⟨h, e⟩ | ⟨h, e⟩ | ⟨h, e⟩ | ⟨h, e⟩)
  · exact absurd h (by decide)
  · exact absurd h (by decide)
  · exact absurd h (by decide)
  · exact e
  · exact absurd h (by decide)
  · exact absurd h (by decide)
  · exact absurd h (by decide)
  · exact absurd h (by decide)
theorem fin_51 (f : FIN L kap t27 t10 t6 t50 t51 t52 t55 t12) {a : Nat} (h : TK L kap a 51) : a = t51 := by
  rcases f a 51 (by decide) h with (⟨h, e⟩ | ⟨h, e⟩ | ⟨h, e⟩) | (⟨h, e⟩ | ⟨h, e⟩ | ⟨h, e⟩ | ⟨h, e⟩ | ⟨h, e⟩)
  · exact absurd h (by decide)
  · exact absurd h (by decide)
  · exact absurd h (by decide)
  · exact absurd h (by decide)
  · exact e
  · exact absurd h (by decide)
  · exact absurd h (by decide)
  · exact absurd h (by decide)
theorem fin_52 (f : FIN L kap t27 t10 t6 t50 t51 t52 t55 t12) {a : Nat} (h : TK L kap a 52) : a = t52 := by
  rcases f a 52 (by decide) h with (⟨h, e⟩ | ⟨h, e⟩ | ⟨h, e⟩) | (⟨h, e⟩ | ⟨h, e⟩ | ⟨h, e⟩ | ⟨h, e⟩ | ⟨h, e⟩)
  · exact absurd h (by decide)
  · exact absurd h (by decide)
  · exact absurd h (by decide)
  · exact absurd h (by decide)
  · exact absurd h (by decide)
  · exact e
  · exact absurd h (by decide)
  · exact absurd h (by decide)
theorem fin_55 (f : FIN L kap t27 t10 t6 t50 t51 t52 t55 t12) {a : Nat} (h : TK L kap a 55) : a = t55 := by
  rcases f a 55 (by decide) h with (⟨h, e⟩ | ⟨h, e⟩ | ⟨h, e⟩) | (⟨h, e⟩ | ⟨h, e⟩ | ⟨h, e⟩ | ⟨h, e⟩ | ⟨h, e⟩)
  · exact absurd h (by decide)
  · exact absurd h (by decide)
  · exact absurd h (by decide)
  · exact absurd h (by decide)
  · exact absurd h (by decide)
  · exact absurd h (by decide)
  · exact e
  · exact absurd h (by decide)
theorem fin_12 (f : FIN L kap t27 t10 t6 t50 t51 t52 t55 t12) {a : Nat} (h : TK L kap a 12) : a = t12 := by
  rcases f a 12 (by decide) h with (⟨h, e⟩ | ⟨h, e⟩ | ⟨h, e⟩) | (⟨h, e⟩ | ⟨h, e⟩ | ⟨h, e⟩ | ⟨h, e⟩ | ⟨h, e⟩)
  · exact absurd h (by decide)
  · exact absurd h (by decide)
  · exact absurd h (by decide)
  · exact absurd h (by decide)
  · exact absurd h (by decide)
  · exact absurd h (by decide)
  · exact absurd h (by decide)
  · exact e
end FINS
theorem st_ex : ∀ i, i < 7 → Cond.exactly (Term.string (lit i).1 (lit i).2.1) "java/lang/String" ∈ flatC (Jvm.Cond.and given_1 narrow_1) := by decide +kernel
theorem st_co : ∀ i, i < 7 → Cond.eq (.field (Term.string (lit i).1 (lit i).2.1) "java/lang/String" "coder" "B") (.int 0) ∈ flatC (Jvm.Cond.and given_1 narrow_1) := by decide +kernel
theorem st_ar : ∀ i, i < 7 → Cond.arrayOf (.field (Term.string (lit i).1 (lit i).2.1) "java/lang/String" "value" "[B") .byte ∈ flatC (Jvm.Cond.and given_1 narrow_1) := by decide +kernel
theorem st_le : ∀ i, i < 7 → Cond.eq (.length (.field (Term.string (lit i).1 (lit i).2.1) "java/lang/String" "value" "[B")) (.int (Int32.ofNat (lenJS.getD i 0))) ∈ flatC (Jvm.Cond.and given_1 narrow_1) := by decide +kernel
theorem st_el : ∀ i, i < 7 → ∀ j, j < lenJS.getD i 0 → Cond.eq (.elem (.field (Term.string (lit i).1 (lit i).2.1) "java/lang/String" "value" "[B") (.int (Int32.ofNat j))) (.int ((bytJS.getD i []).getD j 0)) ∈ flatC (Jvm.Cond.and given_1 narrow_1) := by decide +kernel
theorem st_ne : ∀ i, i < 7 → ∀ j, j < 7 → i ≠ j → (Cond.not (Cond.eq (Term.string (lit i).1 (lit i).2.1) (Term.string (lit j).1 (lit j).2.1)) ∈ flatC (Jvm.Cond.and given_1 narrow_1)) ∨ (Cond.not (Cond.eq (Term.string (lit j).1 (lit j).2.1) (Term.string (lit i).1 (lit i).2.1)) ∈ flatC (Jvm.Cond.and given_1 narrow_1)) := by decide +kernel
theorem st_sr : ∀ i, i < 7 → Cond.stringRef (lit i).1 (lit i).2.1 (lit i).2.2 ∈ lw_tbl := by decide +kernel
theorem st_start {b : Nat} {s : State} (hts : ∀ w ∈ lw_tbl, w.before #[Value.ref b] s = true) (hgv : (Jvm.Cond.and given_1 narrow_1).before #[Value.ref b] s = true) : ∃ ad : (Nat → Nat) × (Nat → Nat), STR ad (fun q => s.heap.size ≤ q) s s.heap := by
  have hs := flat_of_before _ hgv
  have hA0 : ∀ a : Nat, a < s.heap.size → ¬ (fun q => s.heap.size ≤ q) a := fun a h => Nat.not_le.mpr h
  obtain ⟨adK, adV, hv, he⟩ := vk_Sof (args := #[Value.ref b]) (s := s) (N := 7) (tm := fun i => (Term.string (lit i).1 (lit i).2.1)) (len := lenJS) (byt := bytJS) (A := fun q => s.heap.size ≤ q) (fun i hi => Nat.lt_of_le_of_lt (sc_le i hi) (by decide)) (fun i hi => hs _ (st_ex i hi)) (fun i hi => hs _ (st_co i hi)) (fun i hi => hs _ (st_ar i hi)) (fun i hi => hs _ (st_le i hi)) (fun i hi j hj => hs _ (st_el i hi j hj)) (fun i j hi hj h => (st_ne i hi j hj h).imp (hs _) (hs _)) hA0
  exact ⟨(adK, adV), hv, va_Zof (hts _ (by decide +kernel)) (hts _ (by decide +kernel)) (va_eqt (hs (Cond.eq (.static "java/lang/String" "COMPACT_STRINGS" "Z") (.int 1)) (by decide +kernel))) hA0, va_Zqof (hts _ (by decide +kernel)) (hts _ (by decide +kernel)) (hs (Cond.isRef (.static "jdk/internal/util/Preconditions" "SIOOBE_FORMATTER" "Ljava/util/function/BiFunction;")) (by decide +kernel)) hA0, fun i hi => vk_R.of (A := #[Value.ref b]) (hts _ (st_sr i hi)) (he i hi)⟩
set_option maxHeartbeats 4000000 in
set_option maxRecDepth 100000 in
theorem law_loop {p : Program} {l : Launch} {e : Env} {s : State} {m : MethodId} {below : List Frame} {meth : Method} {c : Code} {b LN : Nat} {xs : Nat → Int32} (hx : p.tables.exec = Jvm.exec) (hb : c.code = code) (hr : meth.sig.returnType = ret) (hml : c.maxLocals = 4) (hown : s.vm.findClass RL = some m.cls) (hT : ∀ w ∈ TB, w.before #[Value.ref b] s = true) (hX : va_X b LN xs s s.heap) (hbl : b < s.heap.size) (hlocks : meth.locks = false) (hLN : LN ≤ 3072) {dC : Nat → ClassId} {dI : Nat → Nat → Nat} {cy : Nat → ClassId} {L : List Nat} {kap : Nat → Nat} {ad : (Nat → Nat) × (Nat → Nat)} {h0 m0 : Nat} (hK : va_K (dC, dI) vwCl (cyT cy) s) (hN : ∀ q ∈ NLs, va_Nw (.methodLinkNest q.1 q.2.1 q.2.2.1 q.2.2.2) s) (hSTR : STR ad (AL L s.heap.size) s s.heap) (hbA : ¬ AL L s.heap.size b) (hT_h0 : TK L kap h0 11) (hT_m0 : TK L kap m0 12) (hu6 : ∀ b9 c9, TK L kap b9 6 → TK L kap c9 6 → b9 = c9) (hu10 : ∀ b9 c9, TK L kap b9 10 → TK L kap c9 10 → b9 = c9) (hu12 : ∀ b9 c9, TK L kap b9 12 → TK L kap c9 12 → b9 = c9) (hu27 : ∀ b9 c9, TK L kap b9 27 → TK L kap c9 27 → b9 = c9) (hu50 : ∀ b9 c9, TK L kap b9 50 → TK L kap c9 50 → b9 = c9) (hu51 : ∀ b9 c9, TK L kap b9 51 → TK L kap c9 51 → b9 = c9) (hu52 : ∀ b9 c9, TK L kap b9 52 → TK L kap c9 52 → b9 = c9) (hu55 : ∀ b9 c9, TK L kap b9 55 → TK L kap c9 55 → b9 = c9) (hLs : ∀ q, q ∈ L → s.heap.size ≤ q) : ∀ (fuel i t9 : Nat) (S : Nat → va_E) (H : Heap) (locs : List Loc) (ls : Array Slot), 513 - i < fuel → i ≤ 512 → Ty cy L kap (t9, t9) S → DIs S m0 → JY L kap S → PW dC dI L (AL L s.heap.size) s.heap S H locs → lv_has ls 4 [(3, .int (nI (6 * i))), (2, .ref m0), (1, .ref h0), (0, .ref b)] → W p l e room_1 s m #[Value.ref b] below meth c H locs 152 10885 (lw_Z below #[Value.ref b] s) (F0 m 18 ls []) := by
  have hA : ∀ q, s.heap.size ≤ q → AL L s.heap.size q := fun _ h => Or.inr h
  intro fuel
  induction fuel with
  | zero => intro i t9 S H locs ls h; exact absurd h (Nat.not_lt_zero _)
  | succ fu ih =>
    intro i t9 S H locs ls hm hi hTy hDI hJY hW hl
    have kk : ∀ (t9 : Nat) (S : Nat → va_E) (H : Heap) (locs : List Loc) (ls : Array Slot), 6 * i + 6 ≤ LN → Ty cy L kap (t9, t9) S → DIs S m0 → JY L kap S → PW dC dI L (AL L s.heap.size) s.heap S H locs → lv_has ls 4 [(3, .int (nI (6 * i))), (2, .ref m0), (1, .ref h0), (0, .ref b)] → W p l e room_1 s m #[Value.ref b] below meth c H locs 152 10885 (lw_Z below #[Value.ref b] s) (F0 m 1433 ls []) := by
      intro t9 S H locs ls h6 hTy hDI hJY hW hl
      refine lv_iinc (v := nI (6 * i + 6)) (lv' := [(3, .int (nI (6 * i + 6))), (2, .ref m0), (1, .ref h0), (0, .ref b)]) hx hb dL_law_1433 hl (k := 0) rfl (nI_add (6 * i) 6) (by decide) rfl (fun ls hl => ?_)
      rw [show 6 * i + 6 = 6 * (i + 1) from by omega] at hl
      refine lv_goto (tgt := 18) hx hb dL_law_1436 (by decide) ?_
      exact ih (i + 1) t9 S H locs ls (by omega) (by omega) hTy hDI hJY hW hl
    refine lv_iload_n hx hb dL_law_18 rfl (lv_at hl 0 rfl) ?_
    refine lv_aload_n hx hb dL_law_19 rfl (lv_at hl 3 rfl) ?_
    refine va_slen hx hb hX hbl hbA hW.2.2 dL_law_20 ?_
    refine lv_bipush (v := 6) hx hb dL_law_21 (by decide) ?_
    refine lv_isub hx hb dL_law_23 ?_
    refine lv_topi (fun z ez => ?_)
    refine lv_icmp_gt (tgt := 1439) hx hb dL_law_24 (by decide) (fun c_24 => ?_) (fun c_24 => ?_)
    · refine lv_iconst (v := 1) hx hb dL_law_1439 (by decide) ?_
      refine va_forget (fun q h => (hW.2.2.2.2 q h).elim (hLs _) (fun z => z)) ?_
      refine W.widen (k := 600000) (n := 7302250) (Nat.le_of_ble_eq_true rfl) (Nat.le_of_ble_eq_true rfl) ?_
      exact lw_ret hx hb hr hlocks dL_law_1440
    · have hi6 : 6 * i + 6 ≤ LN := law_g hLN (by omega) (by rw [ez] at c_24; exact c_24)
      refine lv_aload_n hx hb dL_law_27 rfl (lv_at hl 3 rfl) ?_
      refine lv_iload_n hx hb dL_law_28 rfl (lv_at hl 0 rfl) ?_
      refine va_sld hx hb hX hbl hbA hW.2.2 (vp_in_nI (n := 6 * i) (by omega) (by omega)) dL_law_29 ?_
      refine lv_bipush (v := 63) hx hb dL_law_30 (by decide) ?_
      refine lv_iand hx hb dL_law_32 ?_
      refine lv_topi (fun x9 ex9 => ?_)
      rcases sw37 x9 with rfl | rfl | rfl | rfl | rfl | rfl | rfl | rfl | rfl | rfl | rfl | rfl | rfl | rfl | rfl | rfl | rfl | rfl | rfl | rfl | rfl | rfl | rfl | rfl | rfl | rfl | rfl | rfl | rfl | rfl | rfl | rfl | rfl | rfl | rfl | rfl | rfl | hsw
      · refine lv_tableIn (off := 163) (tgt := 196) hx hb dL_law_33 (by decide) (by decide) rfl (by decide) ?_
        exact law_0 hx hb hr hml hown hT hX hbl hlocks hLN hK hN hSTR hbA hT_h0 hT_m0 hu6 hu10 hu12 hu27 hu50 hu51 hu52 hu55 hi6 (fun t9 S H locs ls h1 h2 h3 h4 h5 => kk t9 S H locs ls hi6 h1 h2 h3 h4 h5) hTy hDI hJY hW hl
      · refine lv_tableIn (off := 226) (tgt := 259) hx hb dL_law_33 (by decide) (by decide) rfl (by decide) ?_
        exact law_1 hx hb hr hml hown hT hX hbl hlocks hLN hK hN hSTR hbA hT_h0 hT_m0 hu6 hu10 hu12 hu27 hu50 hu51 hu52 hu55 hi6 (fun t9 S H locs ls h1 h2 h3 h4 h5 => kk t9 S H locs ls hi6 h1 h2 h3 h4 h5) hTy hDI hJY hW hl
      · refine lv_tableIn (off := 249) (tgt := 282) hx hb dL_law_33 (by decide) (by decide) rfl (by decide) ?_
        exact law_2 hx hb hr hml hown hT hX hbl hlocks hLN hK hN hSTR hbA hT_h0 hT_m0 hu6 hu10 hu12 hu27 hu50 hu51 hu52 hu55 hi6 (fun t9 S H locs ls h1 h2 h3 h4 h5 => kk t9 S H locs ls hi6 h1 h2 h3 h4 h5) hTy hDI hJY hW hl
      · refine lv_tableIn (off := 272) (tgt := 305) hx hb dL_law_33 (by decide) (by decide) rfl (by decide) ?_
        exact law_3 hx hb hr hml hown hT hX hbl hlocks hLN hK hN hSTR hbA hT_h0 hT_m0 hu6 hu10 hu12 hu27 hu50 hu51 hu52 hu55 hi6 (fun t9 S H locs ls h1 h2 h3 h4 h5 => kk t9 S H locs ls hi6 h1 h2 h3 h4 h5) hTy hDI hJY hW hl
      · refine lv_tableIn (off := 325) (tgt := 358) hx hb dL_law_33 (by decide) (by decide) rfl (by decide) ?_
        exact law_4 hx hb hr hml hown hT hX hbl hlocks hLN hK hN hSTR hbA hT_h0 hT_m0 hu6 hu10 hu12 hu27 hu50 hu51 hu52 hu55 hi6 (fun t9 S H locs ls h1 h2 h3 h4 h5 => kk t9 S H locs ls hi6 h1 h2 h3 h4 h5) hTy hDI hJY hW hl
      · refine lv_tableIn (off := 348) (tgt := 381) hx hb dL_law_33 (by decide) (by decide) rfl (by decide) ?_
        exact law_5 hx hb hr hml hown hT hX hbl hlocks hLN hK hN hSTR hbA hT_h0 hT_m0 hu6 hu10 hu12 hu27 hu50 hu51 hu52 hu55 hi6 (fun t9 S H locs ls h1 h2 h3 h4 h5 => kk t9 S H locs ls hi6 h1 h2 h3 h4 h5) hTy hDI hJY hW hl
      · refine lv_tableIn (off := 371) (tgt := 404) hx hb dL_law_33 (by decide) (by decide) rfl (by decide) ?_
        exact law_6 hx hb hr hml hown hT hX hbl hlocks hLN hK hN hSTR hbA hT_h0 hT_m0 hu6 hu10 hu12 hu27 hu50 hu51 hu52 hu55 hi6 (fun t9 S H locs ls h1 h2 h3 h4 h5 => kk t9 S H locs ls hi6 h1 h2 h3 h4 h5) hTy hDI hJY hW hl
      · refine lv_tableIn (off := 394) (tgt := 427) hx hb dL_law_33 (by decide) (by decide) rfl (by decide) ?_
        exact law_7 hx hb hr hml hown hT hX hbl hlocks hLN hK hN hSTR hbA hT_h0 hT_m0 hu6 hu10 hu12 hu27 hu50 hu51 hu52 hu55 hi6 (fun t9 S H locs ls h1 h2 h3 h4 h5 => kk t9 S H locs ls hi6 h1 h2 h3 h4 h5) hTy hDI hJY hW hl
      · refine lv_tableIn (off := 437) (tgt := 470) hx hb dL_law_33 (by decide) (by decide) rfl (by decide) ?_
        exact law_8 hx hb hr hml hown hT hX hbl hlocks hLN hK hN hSTR hbA hT_h0 hT_m0 hu6 hu10 hu12 hu27 hu50 hu51 hu52 hu55 hi6 (fun t9 S H locs ls h1 h2 h3 h4 h5 => kk t9 S H locs ls hi6 h1 h2 h3 h4 h5) hTy hDI hJY hW hl
      · refine lv_tableIn (off := 460) (tgt := 493) hx hb dL_law_33 (by decide) (by decide) rfl (by decide) ?_
        exact law_9 hx hb hr hml hown hT hX hbl hlocks hLN hK hN hSTR hbA hT_h0 hT_m0 hu6 hu10 hu12 hu27 hu50 hu51 hu52 hu55 hi6 (fun t9 S H locs ls h1 h2 h3 h4 h5 => kk t9 S H locs ls hi6 h1 h2 h3 h4 h5) hTy hDI hJY hW hl
      · refine lv_tableIn (off := 483) (tgt := 516) hx hb dL_law_33 (by decide) (by decide) rfl (by decide) ?_
        exact law_10 hx hb hr hml hown hT hX hbl hlocks hLN hK hN hSTR hbA hT_h0 hT_m0 hu6 hu10 hu12 hu27 hu50 hu51 hu52 hu55 hi6 (fun t9 S H locs ls h1 h2 h3 h4 h5 => kk t9 S H locs ls hi6 h1 h2 h3 h4 h5) hTy hDI hJY hW hl
      · refine lv_tableIn (off := 496) (tgt := 529) hx hb dL_law_33 (by decide) (by decide) rfl (by decide) ?_
        exact law_11 hx hb hr hml hown hT hX hbl hlocks hLN hK hN hSTR hbA hT_h0 hT_m0 hu6 hu10 hu12 hu27 hu50 hu51 hu52 hu55 hi6 (fun t9 S H locs ls h1 h2 h3 h4 h5 => kk t9 S H locs ls hi6 h1 h2 h3 h4 h5) hTy hDI hJY hW hl
      · refine lv_tableIn (off := 529) (tgt := 562) hx hb dL_law_33 (by decide) (by decide) rfl (by decide) ?_
        exact law_12 hx hb hr hml hown hT hX hbl hlocks hLN hK hN hSTR hbA hT_h0 hT_m0 hu6 hu10 hu12 hu27 hu50 hu51 hu52 hu55 hi6 (fun t9 S H locs ls h1 h2 h3 h4 h5 => kk t9 S H locs ls hi6 h1 h2 h3 h4 h5) hTy hDI hJY hW hl
      · refine lv_tableIn (off := 572) (tgt := 605) hx hb dL_law_33 (by decide) (by decide) rfl (by decide) ?_
        exact law_13 hx hb hr hml hown hT hX hbl hlocks hLN hK hN hSTR hbA hT_h0 hT_m0 hu6 hu10 hu12 hu27 hu50 hu51 hu52 hu55 hi6 (fun t9 S H locs ls h1 h2 h3 h4 h5 => kk t9 S H locs ls hi6 h1 h2 h3 h4 h5) hTy hDI hJY hW hl
      · refine lv_tableIn (off := 631) (tgt := 664) hx hb dL_law_33 (by decide) (by decide) rfl (by decide) ?_
        exact law_14 hx hb hr hml hown hT hX hbl hlocks hLN hK hN hSTR hbA hT_h0 hT_m0 hu6 hu10 hu12 hu27 hu50 hu51 hu52 hu55 hi6 (fun t9 S H locs ls h1 h2 h3 h4 h5 => kk t9 S H locs ls hi6 h1 h2 h3 h4 h5) hTy hDI hJY hW hl
      · refine lv_tableIn (off := 674) (tgt := 707) hx hb dL_law_33 (by decide) (by decide) rfl (by decide) ?_
        exact law_15 hx hb hr hml hown hT hX hbl hlocks hLN hK hN hSTR hbA hT_h0 hT_m0 hu6 hu10 hu12 hu27 hu50 hu51 hu52 hu55 hi6 (fun t9 S H locs ls h1 h2 h3 h4 h5 => kk t9 S H locs ls hi6 h1 h2 h3 h4 h5) hTy hDI hJY hW hl
      · refine lv_tableIn (off := 707) (tgt := 740) hx hb dL_law_33 (by decide) (by decide) rfl (by decide) ?_
        exact law_16 hx hb hr hml hown hT hX hbl hlocks hLN hK hN hSTR hbA hT_h0 hT_m0 hu6 hu10 hu12 hu27 hu50 hu51 hu52 hu55 hi6 (fun t9 S H locs ls h1 h2 h3 h4 h5 => kk t9 S H locs ls hi6 h1 h2 h3 h4 h5) hTy hDI hJY hW hl
      · refine lv_tableIn (off := 750) (tgt := 783) hx hb dL_law_33 (by decide) (by decide) rfl (by decide) ?_
        exact law_17 hx hb hr hml hown hT hX hbl hlocks hLN hK hN hSTR hbA hT_h0 hT_m0 hu6 hu10 hu12 hu27 hu50 hu51 hu52 hu55 hi6 (fun t9 S H locs ls h1 h2 h3 h4 h5 => kk t9 S H locs ls hi6 h1 h2 h3 h4 h5) hTy hDI hJY hW hl
      · refine lv_tableIn (off := 783) (tgt := 816) hx hb dL_law_33 (by decide) (by decide) rfl (by decide) ?_
        exact law_18 hx hb hr hml hown hT hX hbl hlocks hLN hK hN hSTR hbA hT_h0 hT_m0 hu6 hu10 hu12 hu27 hu50 hu51 hu52 hu55 hi6 (fun t9 S H locs ls h1 h2 h3 h4 h5 => kk t9 S H locs ls hi6 h1 h2 h3 h4 h5) hTy hDI hJY hW hl
      · refine lv_tableIn (off := 806) (tgt := 839) hx hb dL_law_33 (by decide) (by decide) rfl (by decide) ?_
        exact law_19 hx hb hr hml hown hT hX hbl hlocks hLN hK hN hSTR hbA hT_h0 hT_m0 hu6 hu10 hu12 hu27 hu50 hu51 hu52 hu55 hi6 (fun t9 S H locs ls h1 h2 h3 h4 h5 => kk t9 S H locs ls hi6 h1 h2 h3 h4 h5) hTy hDI hJY hW hl
      · refine lv_tableIn (off := 839) (tgt := 872) hx hb dL_law_33 (by decide) (by decide) rfl (by decide) ?_
        exact law_20 hx hb hr hml hown hT hX hbl hlocks hLN hK hN hSTR hbA hT_h0 hT_m0 hu6 hu10 hu12 hu27 hu50 hu51 hu52 hu55 hi6 (fun t9 S H locs ls h1 h2 h3 h4 h5 => kk t9 S H locs ls hi6 h1 h2 h3 h4 h5) hTy hDI hJY hW hl
      · refine lv_tableIn (off := 872) (tgt := 905) hx hb dL_law_33 (by decide) (by decide) rfl (by decide) ?_
        exact law_21 hx hb hr hml hown hT hX hbl hlocks hLN hK hN hSTR hbA hT_h0 hT_m0 hu6 hu10 hu12 hu27 hu50 hu51 hu52 hu55 hi6 (fun t9 S H locs ls h1 h2 h3 h4 h5 => kk t9 S H locs ls hi6 h1 h2 h3 h4 h5) hTy hDI hJY hW hl
      · refine lv_tableIn (off := 905) (tgt := 938) hx hb dL_law_33 (by decide) (by decide) rfl (by decide) ?_
        exact law_22 hx hb hr hml hown hT hX hbl hlocks hLN hK hN hSTR hbA hT_h0 hT_m0 hu6 hu10 hu12 hu27 hu50 hu51 hu52 hu55 hi6 (fun t9 S H locs ls h1 h2 h3 h4 h5 => kk t9 S H locs ls hi6 h1 h2 h3 h4 h5) hTy hDI hJY hW hl
      · refine lv_tableIn (off := 928) (tgt := 961) hx hb dL_law_33 (by decide) (by decide) rfl (by decide) ?_
        exact law_23 hx hb hr hml hown hT hX hbl hlocks hLN hK hN hSTR hbA hT_h0 hT_m0 hu6 hu10 hu12 hu27 hu50 hu51 hu52 hu55 hi6 (fun t9 S H locs ls h1 h2 h3 h4 h5 => kk t9 S H locs ls hi6 h1 h2 h3 h4 h5) hTy hDI hJY hW hl
      · refine lv_tableIn (off := 971) (tgt := 1004) hx hb dL_law_33 (by decide) (by decide) rfl (by decide) ?_
        exact law_24 hx hb hr hml hown hT hX hbl hlocks hLN hK hN hSTR hbA hT_h0 hT_m0 hu6 hu10 hu12 hu27 hu50 hu51 hu52 hu55 hi6 (fun t9 S H locs ls h1 h2 h3 h4 h5 => kk t9 S H locs ls hi6 h1 h2 h3 h4 h5) hTy hDI hJY hW hl
      · refine lv_tableIn (off := 994) (tgt := 1027) hx hb dL_law_33 (by decide) (by decide) rfl (by decide) ?_
        exact law_25 hx hb hr hml hown hT hX hbl hlocks hLN hK hN hSTR hbA hT_h0 hT_m0 hu6 hu10 hu12 hu27 hu50 hu51 hu52 hu55 hi6 (fun t9 S H locs ls h1 h2 h3 h4 h5 => kk t9 S H locs ls hi6 h1 h2 h3 h4 h5) hTy hDI hJY hW hl
      · refine lv_tableIn (off := 1047) (tgt := 1080) hx hb dL_law_33 (by decide) (by decide) rfl (by decide) ?_
        exact law_26 hx hb hr hml hown hT hX hbl hlocks hLN hK hN hSTR hbA hT_h0 hT_m0 hu6 hu10 hu12 hu27 hu50 hu51 hu52 hu55 hi6 (fun t9 S H locs ls h1 h2 h3 h4 h5 => kk t9 S H locs ls hi6 h1 h2 h3 h4 h5) hTy hDI hJY hW hl
      · refine lv_tableIn (off := 1090) (tgt := 1123) hx hb dL_law_33 (by decide) (by decide) rfl (by decide) ?_
        exact law_27 hx hb hr hml hown hT hX hbl hlocks hLN hK hN hSTR hbA hT_h0 hT_m0 hu6 hu10 hu12 hu27 hu50 hu51 hu52 hu55 hi6 (fun t9 S H locs ls h1 h2 h3 h4 h5 => kk t9 S H locs ls hi6 h1 h2 h3 h4 h5) hTy hDI hJY hW hl
      · refine lv_tableIn (off := 1123) (tgt := 1156) hx hb dL_law_33 (by decide) (by decide) rfl (by decide) ?_
        exact law_28 hx hb hr hml hown hT hX hbl hlocks hLN hK hN hSTR hbA hT_h0 hT_m0 hu6 hu10 hu12 hu27 hu50 hu51 hu52 hu55 hi6 (fun t9 S H locs ls h1 h2 h3 h4 h5 => kk t9 S H locs ls hi6 h1 h2 h3 h4 h5) hTy hDI hJY hW hl
      · refine lv_tableIn (off := 1156) (tgt := 1189) hx hb dL_law_33 (by decide) (by decide) rfl (by decide) ?_
        exact law_29 hx hb hr hml hown hT hX hbl hlocks hLN hK hN hSTR hbA hT_h0 hT_m0 hu6 hu10 hu12 hu27 hu50 hu51 hu52 hu55 hi6 (fun t9 S H locs ls h1 h2 h3 h4 h5 => kk t9 S H locs ls hi6 h1 h2 h3 h4 h5) hTy hDI hJY hW hl
      · refine lv_tableIn (off := 1199) (tgt := 1232) hx hb dL_law_33 (by decide) (by decide) rfl (by decide) ?_
        exact law_30 hx hb hr hml hown hT hX hbl hlocks hLN hK hN hSTR hbA hT_h0 hT_m0 hu6 hu10 hu12 hu27 hu50 hu51 hu52 hu55 hi6 (fun t9 S H locs ls h1 h2 h3 h4 h5 => kk t9 S H locs ls hi6 h1 h2 h3 h4 h5) hTy hDI hJY hW hl
      · refine lv_tableIn (off := 1222) (tgt := 1255) hx hb dL_law_33 (by decide) (by decide) rfl (by decide) ?_
        exact law_31 hx hb hr hml hown hT hX hbl hlocks hLN hK hN hSTR hbA hT_h0 hT_m0 hu6 hu10 hu12 hu27 hu50 hu51 hu52 hu55 hi6 (fun t9 S H locs ls h1 h2 h3 h4 h5 => kk t9 S H locs ls hi6 h1 h2 h3 h4 h5) hTy hDI hJY hW hl
      · refine lv_tableIn (off := 1235) (tgt := 1268) hx hb dL_law_33 (by decide) (by decide) rfl (by decide) ?_
        exact law_32 hx hb hr hml hown hT hX hbl hlocks hLN hK hN hSTR hbA hT_h0 hT_m0 hu6 hu10 hu12 hu27 hu50 hu51 hu52 hu55 hi6 (fun t9 S H locs ls h1 h2 h3 h4 h5 => kk t9 S H locs ls hi6 h1 h2 h3 h4 h5) hTy hDI hJY hW hl
      · refine lv_tableIn (off := 1278) (tgt := 1311) hx hb dL_law_33 (by decide) (by decide) rfl (by decide) ?_
        exact law_33 hx hb hr hml hown hT hX hbl hlocks hLN hK hN hSTR hbA hT_h0 hT_m0 hu6 hu10 hu12 hu27 hu50 hu51 hu52 hu55 hi6 (fun t9 S H locs ls h1 h2 h3 h4 h5 => kk t9 S H locs ls hi6 h1 h2 h3 h4 h5) hTy hDI hJY hW hl
      · refine lv_tableIn (off := 1311) (tgt := 1344) hx hb dL_law_33 (by decide) (by decide) rfl (by decide) ?_
        exact law_34 hx hb hr hml hown hT hX hbl hlocks hLN hK hN hSTR hbA hT_h0 hT_m0 hu6 hu10 hu12 hu27 hu50 hu51 hu52 hu55 hi6 (fun t9 S H locs ls h1 h2 h3 h4 h5 => kk t9 S H locs ls hi6 h1 h2 h3 h4 h5) hTy hDI hJY hW hl
      · refine lv_tableIn (off := 1344) (tgt := 1377) hx hb dL_law_33 (by decide) (by decide) rfl (by decide) ?_
        exact law_35 hx hb hr hml hown hT hX hbl hlocks hLN hK hN hSTR hbA hT_h0 hT_m0 hu6 hu10 hu12 hu27 hu50 hu51 hu52 hu55 hi6 (fun t9 S H locs ls h1 h2 h3 h4 h5 => kk t9 S H locs ls hi6 h1 h2 h3 h4 h5) hTy hDI hJY hW hl
      · refine lv_tableIn (off := 1377) (tgt := 1410) hx hb dL_law_33 (by decide) (by decide) rfl (by decide) ?_
        exact law_36 hx hb hr hml hown hT hX hbl hlocks hLN hK hN hSTR hbA hT_h0 hT_m0 hu6 hu10 hu12 hu27 hu50 hu51 hu52 hu55 hi6 (fun t9 S H locs ls h1 h2 h3 h4 h5 => kk t9 S H locs ls hi6 h1 h2 h3 h4 h5) hTy hDI hJY hW hl
      · refine lv_tableOut (tgt := 1433) hx hb dL_law_33 hsw (by decide) ?_
        exact kk t9 S H locs ls hi6 hTy hDI hJY hW hl

set_option maxHeartbeats 4000000 in
set_option maxRecDepth 100000 in
theorem whole_start {p : Program} {e : Env} {s : State} {m : MethodId} {below : List Frame} {meth : Method} {c : Code} (l : Launch) (hflags : l.flags = flags0) {b L : Nat} {xs : Nat → Int32} (hL : L ≤ 3072) (C0 : lw_At p s m meth c b L xs) : W p l e room_1 s m #[Value.ref b] below meth c s.heap [] 0 0 (lw_Z below #[Value.ref b] s) (entryFrame m ([Value.ref b] : List Value).toArray 4) := by
  obtain ⟨hx, hb, hr, hml, hown, hts, hX, hbl, hlocks, hgv⟩ := id C0
  have hT : ∀ w ∈ TB, w.before #[Value.ref b] s = true := fun w h => hts w (List.mem_filter.mp h).1
  obtain ⟨ad, hSTR0⟩ := st_start hts hgv
  obtain ⟨c0, iS0, hKn0⟩ := u_known (C := RX0) (T := TX0) (N := 8) (n := 8) hT iX0 (hT _ w79)
  obtain ⟨c1, iS1, hKn1⟩ := u_known (C := RX1) (T := TX1) (N := 2) (n := 2) hT iX1 (hT _ w192)
  obtain ⟨c2, iS2, hKn2⟩ := u_known (C := RX2) (T := TX2) (N := 5) (n := 5) hT iX2 (hT _ w308)
  obtain ⟨c3, iS3, hKn3⟩ := u_known (C := RX3) (T := TX3) (N := 4) (n := 4) hT iX3 (hT _ w53)
  obtain ⟨c4, iS4, hKn4⟩ := u_known (C := RX4) (T := TX4) (N := 3) (n := 3) hT iX4 (hT _ w332)
  obtain ⟨c5, iS5, hKn5⟩ := u_known (C := RX5) (T := TX5) (N := 2) (n := 2) hT iX5 (hT _ w175)
  obtain ⟨c6, iS6, hKn6⟩ := u_known (C := RX6) (T := TX6) (N := 10) (n := 10) hT iX6 (hT _ w47)
  obtain ⟨c7, iS7, hKn7⟩ := u_known (C := RX7) (T := TX7) (N := 6) (n := 6) hT iX7 (hT _ w211)
  obtain ⟨c8, iS8, hKn8⟩ := u_known (C := RX8) (T := TX8) (N := 3) (n := 3) hT iX8 (hT _ w240)
  obtain ⟨c9, iS9, hKn9⟩ := u_known (C := RX9) (T := TX9) (N := 13) (n := 13) hT iX9 (hT _ w258)
  obtain ⟨c10, iS10, hKn10⟩ := u_known (C := RX10) (T := TX10) (N := 2) (n := 2) hT iX10 (hT _ w31)
  obtain ⟨c11, iS11, hKn11⟩ := u_known (C := RX11) (T := TX11) (N := 13) (n := 13) hT iX11 (hT _ w23)
  obtain ⟨c12, iS12, hKn12⟩ := u_known (C := RX12) (T := TX12) (N := 32) (n := 32) hT iX12 (hT _ w1072)
  obtain ⟨dC, dI, hKc⟩ : ∃ (dC : Nat → ClassId) (dI : Nat → Nat → Nat), ∀ (k : Nat) (q : vw_C), vwCl[k]? = some q → u_Kn s q.1 q.2.1 q.2.2 (dC k) (dI k) := by
    refine ⟨fun k => match k with | 0 => c0 | 1 => c1 | 2 => c2 | 3 => c3 | 4 => c4 | 5 => c5 | 6 => c6 | 7 => c7 | 8 => c8 | 9 => c9 | 10 => c10 | 11 => c11 | _ => c12, fun k => match k with | 0 => iS0 | 1 => iS1 | 2 => iS2 | 3 => iS3 | 4 => iS4 | 5 => iS5 | 6 => iS6 | 7 => iS7 | 8 => iS8 | 9 => iS9 | 10 => iS10 | 11 => iS11 | _ => iS12, ?_⟩
    intro k q hq
    match k, hq with
    | 0, hq => cases hq; exact hKn0
    | 1, hq => cases hq; exact hKn1
    | 2, hq => cases hq; exact hKn2
    | 3, hq => cases hq; exact hKn3
    | 4, hq => cases hq; exact hKn4
    | 5, hq => cases hq; exact hKn5
    | 6, hq => cases hq; exact hKn6
    | 7, hq => cases hq; exact hKn7
    | 8, hq => cases hq; exact hKn8
    | 9, hq => cases hq; exact hKn9
    | 10, hq => cases hq; exact hKn10
    | 11, hq => cases hq; exact hKn11
    | 12, hq => cases hq; exact hKn12
    | k + 13, hq => simp [vwCl] at hq
  have hO : ∀ C ∈ [RX0], va_AO C s := fun C hC => by rw [List.mem_singleton.mp hC]; exact va_AO.of (A := #[Value.ref b]) (hts (.arrayOver (.object RX0)) (by decide +kernel))
  obtain ⟨a0, hr0, hq0⟩ := kArr4 (ty := .int) (hT _ w77) (fun _ h => h)
  obtain ⟨a1, hr1, hq1⟩ := kArr4 (ty := .long) (hT _ w137) (fun _ h => h)
  obtain ⟨a2, hr2, hq2⟩ := kArr4 (ty := .byte) (hT _ w45) (fun _ h => h)
  obtain ⟨a3, hr3, hq3⟩ := kArr4 (ty := .boolean) (hT _ w138) (fun _ h => h)
  obtain ⟨a4, hr4, hq4⟩ := kArrO (hO RX0 (by decide))
  obtain ⟨cy, hy0, hy1, hy2, hy3, hy4⟩ : ∃ cy : Nat → ClassId, cy 0 = a0 ∧ cy 1 = a1 ∧ cy 2 = a2 ∧ cy 3 = a3 ∧ cy 4 = a4 := ⟨fun k => match k with | 0 => a0 | 1 => a1 | 2 => a2 | 3 => a3 | _ => a4, rfl, rfl, rfl, rfl, rfl⟩
  subst hy0 hy1 hy2 hy3 hy4
  have hK : va_K (dC, dI) vwCl (cyT cy) s := ⟨hKc, fun k q h => by
    match k, h with
    | 0, h => cases h; exact ⟨hr0, hq0⟩
    | 1, h => cases h; exact ⟨hr1, hq1⟩
    | 2, h => cases h; exact ⟨hr2, hq2⟩
    | 3, h => cases h; exact ⟨hr3, hq3⟩
    | 4, h => cases h; exact ⟨hr4, hq4⟩
    | k + 5, h => simp [cyT] at h⟩
  have hN : ∀ q ∈ NLk, va_Nw (.methodLinkNest q.1 q.2.1 q.2.2.1 q.2.2.2) s := fun q hq => va_Nw.of rfl (hts _ ((by decide +kernel : ∀ q ∈ NLk, Cond.methodLinkNest q.1 q.2.1 q.2.2.1 q.2.2.2 ∈ lw_tbl) q hq))
  have hA : ∀ q, s.heap.size ≤ q → AL [] s.heap.size q := fun _ h => Or.inr h
  have hW : PW dC dI [] (AL [] s.heap.size) s.heap (fun _ => .inr (0, [])) s.heap [] := ⟨va_P0 _ _ _, va_D0 _, va_S.rf⟩
  have hTy : Ty cy [] (fun _ => 99) (0, 0) (fun _ => .inr (0, [])) := fun a h => absurd h List.not_mem_nil
  have hSP : SPI [] (fun _ => 99) (fun _ => .inr (0, [])) := fun a k h => absurd h.1 List.not_mem_nil
  have hl := lv_entry ([.ref b]) (n := 4) (Nat.le_of_ble_eq_true rfl)
  rw [lg_entry_eq]
  generalize (lg_sl ([.ref b]) ++ List.replicate (4 - (lg_sl ([.ref b])).length) Slot.unset).toArray = ls at hl ⊢
  have hl : lv_has ls 4 [(0, .ref b)] := hl
  refine pl_new (kap := (fun _ => 99)) (k := 99) (ci := 11) (fs := [.null, .null, .null, .null, .null, .null, .null, .null, .null, .null, .null, .null, .int 0]) (C := RX11) (T := TX11) (N := 13) hx hb hT iX11 tyX11 tyX11_ok hown (hT _ w22) (hT _ w23) (hT _ w1) hK hW hA rfl (fun j hj => by rcases (show j = 0 ∨ j = 1 ∨ j = 2 ∨ j = 3 ∨ j = 4 ∨ j = 5 ∨ j = 6 ∨ j = 7 ∨ j = 8 ∨ j = 9 ∨ j = 10 ∨ j = 11 ∨ j = 12 by omega) with rfl | rfl | rfl | rfl | rfl | rfl | rfl | rfl | rfl | rfl | rfl | rfl | rfl <;> rfl) (Nat.le_of_ble_eq_true rfl) (Nat.le_of_ble_eq_true rfl) dL_law_0 (fun q1 H L1 kap1 S1 hG1 hW => ?_)
  have hTy := hG1.ty hTy okc_99
  have hSP := SP_gr hSP hG1 (STPQ_n (by decide))
  refine W.widen (k := 1) (n := 13) (Nat.le_of_ble_eq_true rfl) (Nat.le_of_ble_eq_true rfl) ?_
  refine lv_dup hx hb dL_law_3 rfl ?_
  refine pl_callk (va_runI (As := []) (rest := [.ref q1]) ⟨hx, hb, hml, hown, hT⟩ (n_Swap l dC dI cy L1 kap1 S1 H.size q1 hTy hSP hG1.new hG1.self) (cwI 0 hT (gT w26) rfl rfl rfl (hT _ w1) (hT _ w24) (hT _ w25) rfl (by decide +kernel) ⟨(Nat.le_of_ble_eq_true rfl), (Nat.le_of_ble_eq_true rfl)⟩) ⟨pcN.blind, pcN.pre hW.1 hK hW.2.1 hN hO⟩ rfl rfl hl.1 rfl (lv_room (Nat.le_of_ble_eq_true rfl)) dL_law_4 ⟨(Nat.le_of_ble_eq_true rfl), (Nat.le_of_ble_eq_true rfl)⟩) hW hA (fun L2 kap2 S2 H locs hrel hW => ?_)
  obtain ⟨hTy, hSP, hEX2, hTh2, t27, t10, t6, hU2⟩ := hrel
  refine W.widen (k := 132) (n := 6105) (Nat.le_of_ble_eq_true rfl) (Nat.le_of_ble_eq_true rfl) ?_
  refine lv_astore_n (lv' := [(1, .ref q1), (0, .ref b)]) hx hb dL_law_7 rfl hl (by decide) rfl (fun ls hl => ?_)
  refine pl_new (kap := kap2) (k := 99) (ci := 12) (fs := [.null, .null, .null, .null, .null, .int 0, .int 0, .int 0, .int 0, .null, .int 0, .int 0, .int 0, .int 0, .int 0, .int 0, .int 0, .null, .null, .int 0, .null, .null, .null, .null, .null, .null, .null, .null, .null, .null, .null, .int 0]) (C := RX12) (T := TX12) (N := 32) hx hb hT iX12 tyX12 tyX12_ok hown (hT _ w1071) (hT _ w1072) (hT _ w14) hK hW hA rfl (fun j hj => by rcases (show j = 0 ∨ j = 1 ∨ j = 2 ∨ j = 3 ∨ j = 4 ∨ j = 5 ∨ j = 6 ∨ j = 7 ∨ j = 8 ∨ j = 9 ∨ j = 10 ∨ j = 11 ∨ j = 12 ∨ j = 13 ∨ j = 14 ∨ j = 15 ∨ j = 16 ∨ j = 17 ∨ j = 18 ∨ j = 19 ∨ j = 20 ∨ j = 21 ∨ j = 22 ∨ j = 23 ∨ j = 24 ∨ j = 25 ∨ j = 26 ∨ j = 27 ∨ j = 28 ∨ j = 29 ∨ j = 30 ∨ j = 31 by omega) with rfl | rfl | rfl | rfl | rfl | rfl | rfl | rfl | rfl | rfl | rfl | rfl | rfl | rfl | rfl | rfl | rfl | rfl | rfl | rfl | rfl | rfl | rfl | rfl | rfl | rfl | rfl | rfl | rfl | rfl | rfl | rfl <;> rfl) (Nat.le_of_ble_eq_true rfl) (Nat.le_of_ble_eq_true rfl) dL_law_8 (fun q2 H L3 kap3 S3 hG3 hW => ?_)
  have hTy := hG3.ty hTy okc_99
  have hSP := SP_gr hSP hG3 (STPQ_n (by decide))
  refine W.widen (k := 133) (n := 6137) (Nat.le_of_ble_eq_true rfl) (Nat.le_of_ble_eq_true rfl) ?_
  refine lv_dup hx hb dL_law_11 rfl ?_
  refine pl_callk (va_runI (As := []) (rest := [.ref q2]) ⟨hx, hb, hml, hown, hT⟩ (n_Model l dC dI cy L3 kap3 S3 H.size q2 hTy hSP hG3.new hG3.self) (cwI 0 hT (gT w1075) rfl rfl rfl (hT _ w14) (hT _ w1073) (hT _ w1074) rfl (by decide +kernel) ⟨(Nat.le_of_ble_eq_true rfl), (Nat.le_of_ble_eq_true rfl)⟩) ⟨pcN.blind, pcN.pre hW.1 hK hW.2.1 hN hO⟩ rfl rfl hl.1 rfl (lv_room (Nat.le_of_ble_eq_true rfl)) dL_law_12 ⟨(Nat.le_of_ble_eq_true rfl), (Nat.le_of_ble_eq_true rfl)⟩) hW hA (fun L4 kap4 S4 H locs hrel hW => ?_)
  obtain ⟨hTy, hSP, hEX4, hT_m0, t50, t51, t52, t55, hU4, hS52, hdg4⟩ := hrel
  refine W.widen (k := 152) (n := 10885) (Nat.le_of_ble_eq_true rfl) (Nat.le_of_ble_eq_true rfl) ?_
  refine lv_astore_n (lv' := [(2, .ref q2), (1, .ref q1), (0, .ref b)]) hx hb dL_law_15 rfl hl (by decide) rfl (fun ls hl => ?_)
  refine lv_iconst (v := 0) hx hb dL_law_16 (by decide) ?_
  refine lv_istore_n (lv' := [(3, .int 0), (2, .ref q2), (1, .ref q1), (0, .ref b)]) hx hb dL_law_17 rfl hl (by decide) rfl (fun ls hl => ?_)
  have hT_h0 : TK L4 kap4 q1 11 := (hEX4.2 _ _ (hG3.tk hTh2) (hG3.ne hTh2.1)).1
  have hfin : FIN L4 kap4 t27 t10 t6 t50 t51 t52 t55 q2 := fun a k hk h => by
    rcases hU4 a k hk h with h3 | h3
    · rcases hG3.inv h3 with h2 | ⟨-, h2⟩
      · rcases hU2 a k hk h2 with h1 | h1
        · rcases hG1.inv h1 with h0 | ⟨-, h0⟩
          · exact absurd h0.1 List.not_mem_nil
          · rw [h0] at hk; exact absurd hk (by decide)
        · exact Or.inl h1
      · rw [h2] at hk; exact absurd hk (by decide)
    · exact Or.inr h3
  have hLs : ∀ q, q ∈ L4 → s.heap.size ≤ q := fun q hq => (PW_A hW hq).elim (fun z => absurd z List.not_mem_nil) (fun z => z)
  have hDI : DIs S4 q2 := ⟨hdg4, by obtain ⟨x, hx2, ex⟩ := fld_2 hTy hT_m0; rw [ex, fin_52 hfin hx2, af_i hS52]; exact DGA_z⟩
  have hSTR : STR ad (AL L4 s.heap.size) s s.heap := by
    have hAB : ∀ q, AL L4 s.heap.size q → (fun q => s.heap.size ≤ q) q := fun q h => h.elim (hLs q) (fun z => z)
    exact ⟨hSTR0.1.narrow hAB, hSTR0.2.1.narrow hAB, hSTR0.2.2.1.narrow hAB, hSTR0.2.2.2⟩
  have hbA : ¬ AL L4 s.heap.size b := fun h => h.elim (fun z => absurd (hLs b z) (Nat.not_le.mpr hbl)) (fun z => absurd z (Nat.not_le.mpr hbl))
  have hl : lv_has ls 4 [(3, .int (nI (6 * 0))), (2, .ref q2), (1, .ref q1), (0, .ref b)] := hl
  exact law_loop hx hb hr hml hown hT hX hbl hlocks hL hK (fun q h => hN q (List.mem_append_left _ h)) hSTR hbA hT_h0 hT_m0 (fun _ _ x y => (fin_6 hfin x).trans (fin_6 hfin y).symm) (fun _ _ x y => (fin_10 hfin x).trans (fin_10 hfin y).symm) (fun _ _ x y => (fin_12 hfin x).trans (fin_12 hfin y).symm) (fun _ _ x y => (fin_27 hfin x).trans (fin_27 hfin y).symm) (fun _ _ x y => (fin_50 hfin x).trans (fin_50 hfin y).symm) (fun _ _ x y => (fin_51 hfin x).trans (fin_51 hfin y).symm) (fun _ _ x y => (fin_52 hfin x).trans (fin_52 hfin y).symm) (fun _ _ x y => (fin_55 hfin x).trans (fin_55 hfin y).symm) hLs 514 0 0 _ _ _ _ (by omega) (by omega) hTy hDI (JY_0 hSP) (PW_mono hW (fun q h => h.elim (fun z => absurd z List.not_mem_nil) Or.inr)) hl

