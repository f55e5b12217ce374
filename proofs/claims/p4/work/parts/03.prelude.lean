/-! Contracts over explicit cells: one list of words for every method (TB), the start and the end of a contract (pcW, pB). -/
def TB : List Cond := lw_tbl.filter goodWord
theorem mTB {w : Cond} (h : w ∈ tables_1) (hg : goodWord w = true) : w ∈ TB := List.mem_filter.mpr ⟨List.mem_append_right _ h, hg⟩
theorem mSel {y : MethodName} {n : Nat} (h : (y, n) ∈ lw_privs) (hg : goodWord (.selects y.cls y y) = true) : Cond.selects y.cls y y ∈ TB := List.mem_filter.mpr ⟨List.mem_append_left _ (List.mem_map.mpr ⟨(y, n), h, rfl⟩), hg⟩
abbrev wT (y : MethodName) (c : ByteArray) (n : Nat) (r : Option FieldType) : List Cond := .code y c n r :: TB
theorem gO {w : Cond} (h : w ∈ TB) : w ∈ TB ∧ ((w.onTables && w.keeps) = true ∨ ∃ ty, w = .arrayClass ty) := ⟨h, good_of_word (List.mem_filter.mp h).2⟩
theorem gT {y : MethodName} {c : ByteArray} {n : Nat} {r : Option FieldType} (h : Cond.code y c n r ∈ TB) : GoodIn TB (wT y c n r) := fun w hw => (List.mem_cons.mp hw).elim (fun e => e ▸ gO h) (fun h' => gO h')
theorem gV {own C : String} {idx : Nat} {y : MethodName} {c : ByteArray} {n : Nat} {r : Option FieldType} (h1 : Cond.methodLink own idx y ∈ TB) (h2 : Cond.instanceMethod y ∈ TB) (h3 : Cond.selects C y y ∈ TB) (h4 : Cond.initialized C ∈ TB) (h5 : Cond.code y c n r ∈ TB) : GoodIn TB (wsV own idx C y (wT y c n r)) := by
  intro w hw
  rcases List.mem_append.mp hw with h | h
  · rcases List.mem_cons.mp h with e | h
    · exact e ▸ gO h1
    · rcases List.mem_cons.mp h with e | h
      · exact e ▸ gO h2
      · rcases List.mem_cons.mp h with e | h
        · exact e ▸ gO h3
        · exact (List.mem_singleton.mp h) ▸ gO h4
  · exact gT h5 w h
theorem gS {own : String} {idx : Nat} {y : MethodName} {c : ByteArray} {n : Nat} {r : Option FieldType} (h1 : Cond.methodLink own idx y ∈ TB) (h2 : Cond.static y ∈ TB) (h4 : Cond.initialized y.cls ∈ TB) (h5 : Cond.code y c n r ∈ TB) : GoodIn TB (va_wsS own idx y (wT y c n r)) := by
  intro w hw
  rcases List.mem_append.mp hw with h | h
  · rcases List.mem_cons.mp h with e | h
    · exact e ▸ gO h1
    · rcases List.mem_cons.mp h with e | h
      · exact e ▸ gO h2
      · exact (List.mem_singleton.mp h) ▸ gO h4
  · exact gT h5 w h
def pcW (dC : Nat → ClassId) (dI : Nat → Nat → Nat) (av : List Value) (sz : Nat) (ws : va_W) (tys : List (ClassId × FieldType)) : Array Value → State → Prop := va_Pc av (fun U => U.heap.size = sz ∧ va_P (dC, dI) vwCl ws U.heap ∧ va_K (dC, dI) vwCl tys U ∧ va_D (fun _ => True) ws)
theorem pcW.blind {dC : Nat → ClassId} {dI : Nat → Nat → Nat} {av : List Value} {sz : Nat} {ws : va_W} {tys : List (ClassId × FieldType)} : FrameBlind (pcW dC dI av sz ws tys) := fun a U g mk q => by
  obtain ⟨q0, q1, qP, qK, qD⟩ := q
  exact ⟨q0, q1, qP, va_K.moved (u := U) (U := U.calling g mk a) (Vm.Alike.refl U.vm) qK, qD⟩
theorem pcW.pre {dC : Nat → ClassId} {dI : Nat → Nat → Nat} {av : List Value} {ws : va_W} {tys : List (ClassId × FieldType)} {A : Nat → Prop} {s : State} {H : Heap} (hP : va_P (dC, dI) vwCl ws H) (hK : va_K (dC, dI) vwCl tys s) (hD : va_D A ws) : ∀ U : State, U.heap = H → s.WarmedH U.vm → pcW dC dI av H.size ws tys av.toArray U := fun U hU hW => ⟨rfl, by rw [hU], by rw [hU]; exact hP, va_K.moved hW.alike hK, hD.weaken (fun _ _ _ _ => trivial)⟩
abbrev nLk : Type := String × Nat × MethodName × String
def pcN (dC : Nat → ClassId) (dI : Nat → Nat → Nat) (av : List Value) (sz : Nat) (ws : va_W) (tys : List (ClassId × FieldType)) (ns : List nLk) (os : List String) : Array Value → State → Prop := va_Pc av (fun U => U.heap.size = sz ∧ va_P (dC, dI) vwCl ws U.heap ∧ va_K (dC, dI) vwCl tys U ∧ va_D (fun _ => True) ws ∧ (∀ q ∈ ns, va_Nw (.methodLinkNest q.1 q.2.1 q.2.2.1 q.2.2.2) U) ∧ ∀ C ∈ os, va_AO C U)
theorem pcN.blind {dC : Nat → ClassId} {dI : Nat → Nat → Nat} {av : List Value} {sz : Nat} {ws : va_W} {tys : List (ClassId × FieldType)} {ns : List nLk} {os : List String} : FrameBlind (pcN dC dI av sz ws tys ns os) := fun a U g mk q => by
  obtain ⟨q0, q1, qP, qK, qD, qN, qO⟩ := q
  exact ⟨q0, q1, qP, va_K.moved (u := U) (U := U.calling g mk a) (Vm.Alike.refl U.vm) qK, qD, fun q hq => va_Nw.same rfl rfl (qN q hq), fun q hq => va_AO.moved (u := U) (U := U.calling g mk a) (Vm.Alike.refl U.vm) (qO q hq)⟩
theorem pcN.pre {dC : Nat → ClassId} {dI : Nat → Nat → Nat} {av : List Value} {ws : va_W} {tys : List (ClassId × FieldType)} {ns : List nLk} {os : List String} {A : Nat → Prop} {s : State} {H : Heap} (hP : va_P (dC, dI) vwCl ws H) (hK : va_K (dC, dI) vwCl tys s) (hD : va_D A ws) (hN : ∀ q ∈ ns, va_Nw (.methodLinkNest q.1 q.2.1 q.2.2.1 q.2.2.2) s) (hO : ∀ q ∈ os, va_AO q s) : ∀ U : State, U.heap = H → s.WarmedH U.vm → pcN dC dI av H.size ws tys ns os av.toArray U := fun U hU hW => ⟨rfl, by rw [hU], by rw [hU]; exact hP, va_K.moved hW.alike hK, hD.weaken (fun _ _ _ _ => trivial), fun q hq => va_Nw.warmM hW (hN q hq), fun q hq => va_AO.moved hW.alike (hO q hq)⟩
def pB (dC : Nat → ClassId) (dI : Nat → Nat → Nat) (A : Nat → Prop) (ws : va_W) (tys : List (ClassId × FieldType)) (t : State) : Prop := va_P (dC, dI) vwCl ws t.heap ∧ va_K (dC, dI) vwCl tys t ∧ va_D A ws
theorem va_P0 (D : va_G) (cl : List vw_C) (H : Heap) : va_P D cl [] H := fun k q h => by simp at h
theorem va_D0 (A : Nat → Prop) : va_D A [] := ⟨fun i j p q h => by simp at h, fun k q h => by simp at h⟩
theorem i_no {k : Int32} (h1 : ¬ k < 0) (h2 : ¬ 0 ≤ k) : False := by
  rw [Int32.lt_iff_toInt_lt] at h1
  rw [Int32.le_iff_toInt_le] at h2
  omega
theorem isIn_1 {v lo hi : Int64} (h1 : ¬ lg_cmp v lo < 0) (h2 : ¬ 0 < lg_cmp v hi) : (1 : Int32) = (if lo ≤ v ∧ v ≤ hi then 1 else 0) := by
  rw [lg_cmp_lt] at h1
  rw [lg_cmp_gt] at h2
  rw [Int64.lt_iff_toInt_lt] at h1 h2
  rw [if_pos]
  exact ⟨Int64.le_iff_toInt_le.mpr (by omega), Int64.le_iff_toInt_le.mpr (by omega)⟩
theorem isIn_a {v lo hi : Int64} (h1 : lg_cmp v lo < 0) : (0 : Int32) = (if lo ≤ v ∧ v ≤ hi then 1 else 0) := by
  rw [lg_cmp_lt, Int64.lt_iff_toInt_lt] at h1
  rw [if_neg]
  rintro ⟨h, -⟩
  rw [Int64.le_iff_toInt_le] at h
  omega
theorem isIn_b {v lo hi : Int64} (h1 : 0 < lg_cmp v hi) : (0 : Int32) = (if lo ≤ v ∧ v ≤ hi then 1 else 0) := by
  rw [lg_cmp_gt, Int64.lt_iff_toInt_lt] at h1
  rw [if_neg]
  rintro ⟨-, h⟩
  rw [Int64.le_iff_toInt_le] at h
  omega
theorem isIn_0 (v : Int64) : (if 0 ≤ v ∧ v ≤ (-1) then 1 else 0 : Int32) = 0 := by
  rw [if_neg]
  rintro ⟨h, h2⟩
  rw [Int64.le_iff_toInt_le] at h h2
  have e1 : (0 : Int64).toInt = 0 := by decide
  have e2 : (-1 : Int64).toInt = -1 := by decide
  omega
theorem i_eq0 {k : Int32} (h1 : ¬ k < 0) (h2 : k ≤ 0) : k = 0 := by
  rw [Int32.lt_iff_toInt_lt] at h1
  rw [Int32.le_iff_toInt_le] at h2
  have e : (0 : Int32).toInt = 0 := by decide
  exact Int32.toInt_inj.mp (by omega)
theorem tl_a {k : Int32} (h : k < 0) : (-3 : Int32) = (if k = 0 then 0 else (-3)) := by
  rw [if_neg]
  rintro rfl
  exact absurd h (by decide)
theorem tl_b {k : Int32} (h : ¬ k ≤ 0) : (-3 : Int32) = (if k = 0 then 0 else (-3)) := by
  rw [if_neg]
  rintro rfl
  exact absurd (by decide) h
theorem md_a {k : Int32} (h : k < 0) : (-3 : Int32) = (if 0 ≤ k ∧ k ≤ 3 then 0 else (-3)) := by
  rw [if_neg]
  rintro ⟨q, -⟩
  rw [Int32.lt_iff_toInt_lt] at h
  rw [Int32.le_iff_toInt_le] at q
  omega
theorem md_b {k : Int32} (h : ¬ k ≤ 3) : (-3 : Int32) = (if 0 ≤ k ∧ k ≤ 3 then 0 else (-3)) := by
  rw [if_neg]
  exact fun q => h q.2
theorem md_c {k : Int32} (h : ¬ k < 0) (h2 : k ≤ 3) : (0 : Int32) = (if 0 ≤ k ∧ k ≤ 3 then 0 else (-3)) := by
  rw [if_pos]
  refine ⟨?_, h2⟩
  rw [Int32.lt_iff_toInt_lt] at h
  rw [Int32.le_iff_toInt_le]
  omega
theorem mm_iff {k : Int32} {z : Int64} (hz : z = k.toInt64) : (0 ≤ z ∧ z ≤ 3) ↔ (0 ≤ k ∧ k ≤ 3) := by
  subst hz
  rw [Int64.le_iff_toInt_le, Int64.le_iff_toInt_le, Int32.le_iff_toInt_le, Int32.le_iff_toInt_le, Int32.toInt_toInt64]
  have e0 : (0 : Int64).toInt = 0 := by decide
  have e3 : (3 : Int64).toInt = 3 := by decide
  have f0 : (0 : Int32).toInt = 0 := by decide
  have f3 : (3 : Int32).toInt = 3 := by decide
  rw [e0, e3, f0, f3]
theorem mm_a {k : Int32} {z : Int64} (hz : z = k.toInt64) (h : (if 0 ≤ z ∧ z ≤ 3 then 1 else 0 : Int32) = 0) : (-3 : Int32) = (if 0 ≤ k ∧ k ≤ 3 then 0 else (-3)) := by
  rw [if_neg]
  intro q
  rw [if_pos ((mm_iff hz).mpr q)] at h
  exact absurd h (by decide)
theorem mm_b {k : Int32} {z : Int64} (hz : z = k.toInt64) (h : ¬ (if 0 ≤ z ∧ z ≤ 3 then 1 else 0 : Int32) = 0) : (0 : Int32) = (if 0 ≤ k ∧ k ≤ 3 then 0 else (-3)) := by
  rw [if_pos]
  by_cases q : 0 ≤ z ∧ z ≤ 3
  · exact (mm_iff hz).mp q
  · rw [if_neg q] at h
    exact absurd rfl h
theorem mt_iff {k : Int32} {z : Int64} (hz : z = k.toInt64) : (0 ≤ z ∧ z ≤ 0) ↔ k = 0 := by
  subst hz
  rw [Int64.le_iff_toInt_le, Int64.le_iff_toInt_le, Int32.toInt_toInt64]
  have e0 : (0 : Int64).toInt = 0 := by decide
  have f0 : (0 : Int32).toInt = 0 := by decide
  rw [e0]
  exact ⟨fun q => Int32.toInt_inj.mp (by omega), fun q => by subst q; rw [f0]; omega⟩
theorem mt_a {k : Int32} {z : Int64} (hz : z = k.toInt64) (h : (if 0 ≤ z ∧ z ≤ 0 then 1 else 0 : Int32) = 0) : (-3 : Int32) = (if k = 0 then 0 else (-3)) := by
  rw [if_neg]
  intro q
  rw [if_pos ((mt_iff hz).mpr q)] at h
  exact absurd h (by decide)
theorem mt_b {k : Int32} {z : Int64} (hz : z = k.toInt64) (h : ¬ (if 0 ≤ z ∧ z ≤ 0 then 1 else 0 : Int32) = 0) : k = 0 := by
  by_cases q : 0 ≤ z ∧ z ≤ 0
  · exact (mt_iff hz).mp q
  · rw [if_neg q] at h
    exact absurd rfl h
theorem fl_0 {k : Int32} (h : k = 0) : (0 : Int32) = (if k = 0 then 0 else (-1)) := by rw [if_pos h]
theorem fl_n {k : Int32} (h : ¬ k = 0) : (-1 : Int32) = (if k = 0 then 0 else (-1)) := by rw [if_neg h]
theorem sw7 (k : Int32) : k = 0 ∨ k = 1 ∨ k = 2 ∨ k = 3 ∨ k = 4 ∨ k = 5 ∨ k = 6 ∨ (k.toInt < 0 ∨ 6 < k.toInt) := by
  have e : ∀ j : Int32, k.toInt = j.toInt → k = j := fun j h => Int32.toInt_inj.mp h
  have f0 : (0 : Int32).toInt = 0 := by decide
  have f1 : (1 : Int32).toInt = 1 := by decide
  have f2 : (2 : Int32).toInt = 2 := by decide
  have f3 : (3 : Int32).toInt = 3 := by decide
  have f4 : (4 : Int32).toInt = 4 := by decide
  have f5 : (5 : Int32).toInt = 5 := by decide
  have f6 : (6 : Int32).toInt = 6 := by decide
  have h : k.toInt = 0 ∨ k.toInt = 1 ∨ k.toInt = 2 ∨ k.toInt = 3 ∨ k.toInt = 4 ∨ k.toInt = 5 ∨ k.toInt = 6 ∨ (k.toInt < 0 ∨ 6 < k.toInt) := by omega
  rcases h with h | h | h | h | h | h | h | h
  · exact Or.inl (e 0 (h.trans f0.symm))
  · exact Or.inr (Or.inl (e 1 (h.trans f1.symm)))
  · exact Or.inr (Or.inr (Or.inl (e 2 (h.trans f2.symm))))
  · exact Or.inr (Or.inr (Or.inr (Or.inl (e 3 (h.trans f3.symm)))))
  · exact Or.inr (Or.inr (Or.inr (Or.inr (Or.inl (e 4 (h.trans f4.symm))))))
  · exact Or.inr (Or.inr (Or.inr (Or.inr (Or.inr (Or.inl (e 5 (h.trans f5.symm)))))))
  · exact Or.inr (Or.inr (Or.inr (Or.inr (Or.inr (Or.inr (Or.inl (e 6 (h.trans f6.symm))))))))
  · exact Or.inr (Or.inr (Or.inr (Or.inr (Or.inr (Or.inr (Or.inr h))))))
theorem sw2 (k : Int32) : k = 0 ∨ k = 1 ∨ (¬ k = 0 ∧ ¬ k = 1) := by
  by_cases h : k = 0
  · exact Or.inl h
  · by_cases h1 : k = 1
    · exact Or.inr (Or.inl h1)
    · exact Or.inr (Or.inr ⟨h, h1⟩)
theorem ct_d {k : Int32} (h : k.toInt < 0 ∨ 6 < k.toInt) : (-1 : Int32) = (if 0 ≤ k ∧ k ≤ 6 then 0 else (-1)) := by
  rw [if_neg]
  rintro ⟨q1, q2⟩
  rw [Int32.le_iff_toInt_le] at q1 q2
  have f0 : (0 : Int32).toInt = 0 := by decide
  have f6 : (6 : Int32).toInt = 6 := by decide
  omega
theorem pl_s {f g : Nat → Int32} {i : Nat} {v : Int32} (hi : i < 266) (hg : g = upd f (nI i).toNatClampNeg v) (hv : i < 2 → v = 0) (h : (0 < i → f 0 = 0) ∧ (1 < i → f 1 = 0)) : (0 < i + 1 → g 0 = 0) ∧ (1 < i + 1 → g 1 = 0) := by
  rw [nI_clamp (by omega)] at hg
  subst hg
  refine ⟨fun _ => ?_, fun h1 => ?_⟩
  · by_cases e : i = 0
    · subst e
      rw [pk_us]
      exact hv (by decide)
    · rw [pk_un (fun q => e q.symm)]
      exact h.1 (by omega)
  · by_cases e : i = 1
    · subst e
      rw [pk_us]
      exact hv (by decide)
    · rw [pk_un (fun q => e q.symm)]
      exact h.2 (by omega)
theorem rm_in {i : Nat} (h : i < 266) : vp_in (0 + nI i) 2660 := by
  have e : (0 : Int32) + nI i = nI i := by rw [← nI_0, nI_add, Nat.zero_add]
  rw [e]
  exact vp_in_nI (by omega) (by decide)

theorem iX0 : ∀ w ∈ u_ws RX0 TX0 8, w ∈ TB := fun w h => mTB ((by decide +kernel : ∀ w ∈ u_ws RX0 TX0 8, w ∈ tables_1) w h) ((by decide +kernel : ∀ w ∈ u_ws RX0 TX0 8, goodWord w = true) w h)
theorem iX1 : ∀ w ∈ u_ws RX1 TX1 2, w ∈ TB := fun w h => mTB ((by decide +kernel : ∀ w ∈ u_ws RX1 TX1 2, w ∈ tables_1) w h) ((by decide +kernel : ∀ w ∈ u_ws RX1 TX1 2, goodWord w = true) w h)
theorem iX2 : ∀ w ∈ u_ws RX2 TX2 5, w ∈ TB := fun w h => mTB ((by decide +kernel : ∀ w ∈ u_ws RX2 TX2 5, w ∈ tables_1) w h) ((by decide +kernel : ∀ w ∈ u_ws RX2 TX2 5, goodWord w = true) w h)
theorem iX3 : ∀ w ∈ u_ws RX3 TX3 4, w ∈ TB := fun w h => mTB ((by decide +kernel : ∀ w ∈ u_ws RX3 TX3 4, w ∈ tables_1) w h) ((by decide +kernel : ∀ w ∈ u_ws RX3 TX3 4, goodWord w = true) w h)
theorem iX4 : ∀ w ∈ u_ws RX4 TX4 3, w ∈ TB := fun w h => mTB ((by decide +kernel : ∀ w ∈ u_ws RX4 TX4 3, w ∈ tables_1) w h) ((by decide +kernel : ∀ w ∈ u_ws RX4 TX4 3, goodWord w = true) w h)
theorem iX5 : ∀ w ∈ u_ws RX5 TX5 2, w ∈ TB := fun w h => mTB ((by decide +kernel : ∀ w ∈ u_ws RX5 TX5 2, w ∈ tables_1) w h) ((by decide +kernel : ∀ w ∈ u_ws RX5 TX5 2, goodWord w = true) w h)
theorem iX6 : ∀ w ∈ u_ws RX6 TX6 10, w ∈ TB := fun w h => mTB ((by decide +kernel : ∀ w ∈ u_ws RX6 TX6 10, w ∈ tables_1) w h) ((by decide +kernel : ∀ w ∈ u_ws RX6 TX6 10, goodWord w = true) w h)
theorem iX7 : ∀ w ∈ u_ws RX7 TX7 6, w ∈ TB := fun w h => mTB ((by decide +kernel : ∀ w ∈ u_ws RX7 TX7 6, w ∈ tables_1) w h) ((by decide +kernel : ∀ w ∈ u_ws RX7 TX7 6, goodWord w = true) w h)
theorem iX8 : ∀ w ∈ u_ws RX8 TX8 3, w ∈ TB := fun w h => mTB ((by decide +kernel : ∀ w ∈ u_ws RX8 TX8 3, w ∈ tables_1) w h) ((by decide +kernel : ∀ w ∈ u_ws RX8 TX8 3, goodWord w = true) w h)
theorem iX9 : ∀ w ∈ u_ws RX9 TX9 13, w ∈ TB := fun w h => mTB ((by decide +kernel : ∀ w ∈ u_ws RX9 TX9 13, w ∈ tables_1) w h) ((by decide +kernel : ∀ w ∈ u_ws RX9 TX9 13, goodWord w = true) w h)
theorem iX10 : ∀ w ∈ u_ws RX10 TX10 2, w ∈ TB := fun w h => mTB ((by decide +kernel : ∀ w ∈ u_ws RX10 TX10 2, w ∈ tables_1) w h) ((by decide +kernel : ∀ w ∈ u_ws RX10 TX10 2, goodWord w = true) w h)
theorem iX11 : ∀ w ∈ u_ws RX11 TX11 13, w ∈ TB := fun w h => mTB ((by decide +kernel : ∀ w ∈ u_ws RX11 TX11 13, w ∈ tables_1) w h) ((by decide +kernel : ∀ w ∈ u_ws RX11 TX11 13, goodWord w = true) w h)
theorem iX12 : ∀ w ∈ u_ws RX12 TX12 32, w ∈ TB := fun w h => mTB ((by decide +kernel : ∀ w ∈ u_ws RX12 TX12 32, w ∈ tables_1) w h) ((by decide +kernel : ∀ w ∈ u_ws RX12 TX12 32, goodWord w = true) w h)
