set_option maxHeartbeats 4000000 in
set_option maxRecDepth 100000 in
theorem law_at {p : Program} {l : Launch} {e : Env} {s : State} {m : MethodId} {below : List Frame} {meth : Method} {c : Code} {b : Nat} {xs : Nat → Int32} (hx : p.tables.exec = Jvm.exec) (hb : c.code = code) (hr : meth.sig.returnType = ret) (hml : c.maxLocals = 4) (hown : s.vm.findClass RL = some m.cls) (hT : ∀ w ∈ TB, w.before #[Value.ref b] s = true) (hX : va_X b 6 xs s s.heap) (hbl : b < s.heap.size) (hlocks : meth.locks = false) {dC : Nat → ClassId} {dI : Nat → Nat → Nat} {h0 : Nat} {a0 : Nat} {a1 : Nat} {a2 : Nat} {a3 : Nat} {a4 : Nat} {a5 : Nat} {a6 : Nat} {a7 : Nat} {a8 : Nat} {a9 : Nat} {n0 : Nat} {b0 : Nat} {tb : Nat} {cB : ClassId} {fb : Nat → Int32} {rn : Nat} {rb : Nat} {s0 : Nat} {s1 : Nat} {r0 : Nat} {r1 : Nat} {r2 : Nat} {r3 : Nat} {r4 : Nat} {r5 : Nat} {cR : ClassId} {fr : Nat → Int32} {ba : Nat} {cP : ClassId} {fp : Nat → Option Nat} {p0 : Nat} {q0 : Nat} {q1 : Nat} {q2 : Nat} {q3 : Nat} {q4 : Nat} {q5 : Nat} {cQ : ClassId} {fq : Nat → Int32} {l0 : Nat} {l1 : Nat} {e0 : Nat} {e1 : Nat} {e2 : Nat} {e3 : Nat} {e4 : Nat} {e5 : Nat} {cC : ClassId} {fc : Nat → Int32} {m0 : Nat} {g0 : Nat} {g1 : Nat} {g2 : Nat} {g3 : Nat} {g4 : Nat} {g9 : Nat} {g17 : Nat} {g18 : Nat} {g20 : Nat} {g21 : Nat} {g22 : Nat} {g23 : Nat} {g24 : Nat} {g25 : Nat} {g26 : Nat} {g27 : Nat} {g28 : Nat} {g29 : Nat} {g30 : Nat} {cS : ClassId} {f : Nat → Int32} {cT : ClassId} {ft : Nat → Int32} {cU : ClassId} {fu : Nat → Int32} {cV : ClassId} {fv : Nat → Int32} {cN : ClassId} {fn : Nat → Int64} {cO : ClassId} {fo : Nat → Int64} {H : Heap} {locs : List Loc} {ls : Array Slot} (hK : va_K (dC, dI) vwCl [(cB, .byte), (cR, .int), (cP, .object RX0), (cQ, .int), (cC, .int), (cS, .int), (cT, .int), (cU, .byte), (cV, .int), (cN, .long), (cO, .long)] s) (hP : va_P (dC, dI) vwCl [(h0, .inr (11, [.ref a0, .ref a1, .ref a2, .ref a3, .ref a4, .ref a5, .ref a6, .ref a7, .ref a8, .ref a9, .ref n0, .ref b0, .int (-1)])), (a0, .inr (10, [.ref tb, .int 0])), (tb, .inl (cB, 900, .inl fb)), (a1, .inr (6, [.int 0, .int (-1), .ref rn, .ref rb, .ref tb, .int 0, .int 0, .int 0, .int 0, .int 0])), (rn, .inr (3, [.ref s0, .ref s1, .int 0, .int 0])), (rb, .inr (0, [.ref r0, .ref r1, .ref r2, .ref r3, .ref r4, .ref r5, .int 0, .int 0])), (r5, .inl (cR, 64, .inl fr)), (a2, .inr (5, [.ref ba, .int 0])), (ba, .inl (cP, 10, .inr (.inr (.inr (.inr fp))))), (p0, .inr (0, [.ref q0, .ref q1, .ref q2, .ref q3, .ref q4, .ref q5, .int 0, .int 0])), (q5, .inl (cQ, 64, .inl fq)), (n0, .inr (3, [.ref l0, .ref l1, .int 0, .int 0])), (b0, .inr (0, [.ref e0, .ref e1, .ref e2, .ref e3, .ref e4, .ref e5, .int 0, .int 0])), (e5, .inl (cC, 64, .inl fc)), (m0, .inr (12, [.ref g0, .ref g1, .ref g2, .ref g3, .ref g4, .int 0, .int 0, .int 0, .int 0, .ref g9, .int 0, .int 0, .int 0, .int 0, .int (-1), .int 0, .int 0, .ref g17, .ref g18, .int 0, .ref g20, .ref g21, .ref g22, .ref g23, .ref g24, .ref g25, .ref g26, .ref g27, .ref g28, .ref g29, .ref g30, .int 0])), (g0, .inl (cS, 266, .inl f)), (g2, .inl (cT, 2660, .inl ft)), (g9, .inl (cU, 900, .inl fu)), (g1, .inl (cV, 266, .inl fv)), (g3, .inl (cN, 12, .inr (.inl fn))), (g4, .inl (cO, 12, .inr (.inl fo)))] H) (hD : va_D (fun q : Nat => s.heap.size ≤ q) [(h0, .inr (11, [.ref a0, .ref a1, .ref a2, .ref a3, .ref a4, .ref a5, .ref a6, .ref a7, .ref a8, .ref a9, .ref n0, .ref b0, .int (-1)])), (a0, .inr (10, [.ref tb, .int 0])), (tb, .inl (cB, 900, .inl fb)), (a1, .inr (6, [.int 0, .int (-1), .ref rn, .ref rb, .ref tb, .int 0, .int 0, .int 0, .int 0, .int 0])), (rn, .inr (3, [.ref s0, .ref s1, .int 0, .int 0])), (rb, .inr (0, [.ref r0, .ref r1, .ref r2, .ref r3, .ref r4, .ref r5, .int 0, .int 0])), (r5, .inl (cR, 64, .inl fr)), (a2, .inr (5, [.ref ba, .int 0])), (ba, .inl (cP, 10, .inr (.inr (.inr (.inr fp))))), (p0, .inr (0, [.ref q0, .ref q1, .ref q2, .ref q3, .ref q4, .ref q5, .int 0, .int 0])), (q5, .inl (cQ, 64, .inl fq)), (n0, .inr (3, [.ref l0, .ref l1, .int 0, .int 0])), (b0, .inr (0, [.ref e0, .ref e1, .ref e2, .ref e3, .ref e4, .ref e5, .int 0, .int 0])), (e5, .inl (cC, 64, .inl fc)), (m0, .inr (12, [.ref g0, .ref g1, .ref g2, .ref g3, .ref g4, .int 0, .int 0, .int 0, .int 0, .ref g9, .int 0, .int 0, .int 0, .int 0, .int (-1), .int 0, .int 0, .ref g17, .ref g18, .int 0, .ref g20, .ref g21, .ref g22, .ref g23, .ref g24, .ref g25, .ref g26, .ref g27, .ref g28, .ref g29, .ref g30, .int 0])), (g0, .inl (cS, 266, .inl f)), (g2, .inl (cT, 2660, .inl ft)), (g9, .inl (cU, 900, .inl fu)), (g1, .inl (cV, 266, .inl fv)), (g3, .inl (cN, 12, .inr (.inl fn))), (g4, .inl (cO, 12, .inr (.inl fo)))]) (hS : va_S (fun q : Nat => s.heap.size ≤ q) s.heap H locs) (hl : lv_has ls 4 [(3, .int 0), (2, .ref m0), (1, .ref h0), (0, .ref b)]) (hp0 : fp 0 = some p0) (hf0 : f 0 = 0) (hf1 : f 1 = 0) : W p l e room_1 s m #[Value.ref b] below meth c H locs 152 10885 (lw_Z below #[Value.ref b] s) (F0 m 18 ls []) := by
  have hA : ∀ q : Nat, s.heap.size ≤ q → (fun q : Nat => s.heap.size ≤ q) q := fun _ h => h
  have hbA : ¬ (fun q : Nat => s.heap.size ≤ q) b := Nat.not_le.mpr hbl
  refine lv_iload_n hx hb dL_law_18 rfl (lv_at hl 0 rfl) ?_
  refine lv_aload_n hx hb dL_law_19 rfl (lv_at hl 3 rfl) ?_
  refine va_slen hx hb hX hbl hbA hS dL_law_20 ?_
  refine lv_topi (fun z_1 ez_1 => ?_)
  obtain rfl : z_1 = 6 := ez_1.trans (by decide)
  refine lv_bipush (v := 6) hx hb dL_law_21 (by decide) ?_
  refine lv_isub hx hb dL_law_23 ?_
  refine lv_topi (fun z_2 ez_2 => ?_)
  obtain rfl : z_2 = 0 := ez_2.trans (by decide)
  refine lv_icmp_gt (tgt := 1439) hx hb dL_law_24 (by decide) (fun h => absurd h (by decide)) (fun _ => ?_)
  refine lv_aload_n hx hb dL_law_27 rfl (lv_at hl 3 rfl) ?_
  refine lv_iload_n hx hb dL_law_28 rfl (lv_at hl 0 rfl) ?_
  refine va_sld hx hb hX hbl hbA hS (by unfold vp_in; decide) dL_law_29 ?_
  refine lv_bipush (v := 63) hx hb dL_law_30 (by decide) ?_
  refine lv_iand hx hb dL_law_32 ?_
  refine lv_topi (fun z_3 ez_3 => ?_)
  rcases sw37 z_3 with rfl | rfl | rfl | rfl | rfl | rfl | rfl | rfl | rfl | rfl | rfl | rfl | rfl | rfl | rfl | rfl | rfl | rfl | rfl | rfl | rfl | rfl | rfl | rfl | rfl | rfl | rfl | rfl | rfl | rfl | rfl | rfl | rfl | rfl | rfl | rfl | rfl | hsw
  · refine lv_tableIn (off := 163) (tgt := 196) hx hb dL_law_33 (by decide) (by decide) rfl (by decide) ?_
    exact law_0 hx hb hr hml hown hT hX hbl hlocks hK hP hD hS hl hp0 hf0 hf1
  · refine lv_tableIn (off := 226) (tgt := 259) hx hb dL_law_33 (by decide) (by decide) rfl (by decide) ?_
    exact law_1 hx hb hr hml hown hT hX hbl hlocks hK hP hD hS hl hp0 hf0 hf1
  · refine lv_tableIn (off := 249) (tgt := 282) hx hb dL_law_33 (by decide) (by decide) rfl (by decide) ?_
    exact law_2 hx hb hr hml hown hT hX hbl hlocks hK hP hD hS hl hp0 hf0 hf1
  · refine lv_tableIn (off := 272) (tgt := 305) hx hb dL_law_33 (by decide) (by decide) rfl (by decide) ?_
    exact law_3 hx hb hr hml hown hT hX hbl hlocks hK hP hD hS hl hp0 hf0 hf1
  · refine lv_tableIn (off := 325) (tgt := 358) hx hb dL_law_33 (by decide) (by decide) rfl (by decide) ?_
    exact law_4 hx hb hr hml hown hT hX hbl hlocks hK hP hD hS hl hp0 hf0 hf1
  · refine lv_tableIn (off := 348) (tgt := 381) hx hb dL_law_33 (by decide) (by decide) rfl (by decide) ?_
    exact law_5 hx hb hr hml hown hT hX hbl hlocks hK hP hD hS hl hp0 hf0 hf1
  · refine lv_tableIn (off := 371) (tgt := 404) hx hb dL_law_33 (by decide) (by decide) rfl (by decide) ?_
    exact law_6 hx hb hr hml hown hT hX hbl hlocks hK hP hD hS hl hp0 hf0 hf1
  · refine lv_tableIn (off := 394) (tgt := 427) hx hb dL_law_33 (by decide) (by decide) rfl (by decide) ?_
    exact law_7 hx hb hr hml hown hT hX hbl hlocks hK hP hD hS hl hp0 hf0 hf1
  · refine lv_tableIn (off := 437) (tgt := 470) hx hb dL_law_33 (by decide) (by decide) rfl (by decide) ?_
    exact law_8 hx hb hr hml hown hT hX hbl hlocks hK hP hD hS hl hp0 hf0 hf1
  · refine lv_tableIn (off := 460) (tgt := 493) hx hb dL_law_33 (by decide) (by decide) rfl (by decide) ?_
    exact law_9 hx hb hr hml hown hT hX hbl hlocks hK hP hD hS hl hp0 hf0 hf1
  · refine lv_tableIn (off := 483) (tgt := 516) hx hb dL_law_33 (by decide) (by decide) rfl (by decide) ?_
    exact law_10 hx hb hr hml hown hT hX hbl hlocks hK hP hD hS hl hp0 hf0 hf1
  · refine lv_tableIn (off := 496) (tgt := 529) hx hb dL_law_33 (by decide) (by decide) rfl (by decide) ?_
    exact law_11 hx hb hr hml hown hT hX hbl hlocks hK hP hD hS hl hp0 hf0 hf1
  · refine lv_tableIn (off := 529) (tgt := 562) hx hb dL_law_33 (by decide) (by decide) rfl (by decide) ?_
    exact law_12 hx hb hr hml hown hT hX hbl hlocks hK hP hD hS hl hp0 hf0 hf1
  · refine lv_tableIn (off := 572) (tgt := 605) hx hb dL_law_33 (by decide) (by decide) rfl (by decide) ?_
    exact law_13 hx hb hr hml hown hT hX hbl hlocks hK hP hD hS hl hp0 hf0 hf1
  · refine lv_tableIn (off := 631) (tgt := 664) hx hb dL_law_33 (by decide) (by decide) rfl (by decide) ?_
    exact law_14 hx hb hr hml hown hT hX hbl hlocks hK hP hD hS hl hp0 hf0 hf1
  · refine lv_tableIn (off := 674) (tgt := 707) hx hb dL_law_33 (by decide) (by decide) rfl (by decide) ?_
    exact law_15 hx hb hr hml hown hT hX hbl hlocks hK hP hD hS hl hp0 hf0 hf1
  · refine lv_tableIn (off := 707) (tgt := 740) hx hb dL_law_33 (by decide) (by decide) rfl (by decide) ?_
    exact law_16 hx hb hr hml hown hT hX hbl hlocks hK hP hD hS hl hp0 hf0 hf1
  · refine lv_tableIn (off := 750) (tgt := 783) hx hb dL_law_33 (by decide) (by decide) rfl (by decide) ?_
    exact law_17 hx hb hr hml hown hT hX hbl hlocks hK hP hD hS hl hp0 hf0 hf1
  · refine lv_tableIn (off := 783) (tgt := 816) hx hb dL_law_33 (by decide) (by decide) rfl (by decide) ?_
    exact law_18 hx hb hr hml hown hT hX hbl hlocks hK hP hD hS hl hp0 hf0 hf1
  · refine lv_tableIn (off := 806) (tgt := 839) hx hb dL_law_33 (by decide) (by decide) rfl (by decide) ?_
    exact law_19 hx hb hr hml hown hT hX hbl hlocks hK hP hD hS hl hp0 hf0 hf1
  · refine lv_tableIn (off := 839) (tgt := 872) hx hb dL_law_33 (by decide) (by decide) rfl (by decide) ?_
    exact law_20 hx hb hr hml hown hT hX hbl hlocks hK hP hD hS hl hp0 hf0 hf1
  · refine lv_tableIn (off := 872) (tgt := 905) hx hb dL_law_33 (by decide) (by decide) rfl (by decide) ?_
    exact law_21 hx hb hr hml hown hT hX hbl hlocks hK hP hD hS hl hp0 hf0 hf1
  · refine lv_tableIn (off := 905) (tgt := 938) hx hb dL_law_33 (by decide) (by decide) rfl (by decide) ?_
    exact law_22 hx hb hr hml hown hT hX hbl hlocks hK hP hD hS hl hp0 hf0 hf1
  · refine lv_tableIn (off := 928) (tgt := 961) hx hb dL_law_33 (by decide) (by decide) rfl (by decide) ?_
    exact law_23 hx hb hr hml hown hT hX hbl hlocks hK hP hD hS hl hp0 hf0 hf1
  · refine lv_tableIn (off := 971) (tgt := 1004) hx hb dL_law_33 (by decide) (by decide) rfl (by decide) ?_
    exact law_24 hx hb hr hml hown hT hX hbl hlocks hK hP hD hS hl hp0 hf0 hf1
  · refine lv_tableIn (off := 994) (tgt := 1027) hx hb dL_law_33 (by decide) (by decide) rfl (by decide) ?_
    exact law_25 hx hb hr hml hown hT hX hbl hlocks hK hP hD hS hl hp0 hf0 hf1
  · refine lv_tableIn (off := 1047) (tgt := 1080) hx hb dL_law_33 (by decide) (by decide) rfl (by decide) ?_
    exact law_26 hx hb hr hml hown hT hX hbl hlocks hK hP hD hS hl hp0 hf0 hf1
  · refine lv_tableIn (off := 1090) (tgt := 1123) hx hb dL_law_33 (by decide) (by decide) rfl (by decide) ?_
    exact law_27 hx hb hr hml hown hT hX hbl hlocks hK hP hD hS hl hp0 hf0 hf1
  · refine lv_tableIn (off := 1123) (tgt := 1156) hx hb dL_law_33 (by decide) (by decide) rfl (by decide) ?_
    exact law_28 hx hb hr hml hown hT hX hbl hlocks hK hP hD hS hl hp0 hf0 hf1
  · refine lv_tableIn (off := 1156) (tgt := 1189) hx hb dL_law_33 (by decide) (by decide) rfl (by decide) ?_
    exact law_29 hx hb hr hml hown hT hX hbl hlocks hK hP hD hS hl hp0 hf0 hf1
  · refine lv_tableIn (off := 1199) (tgt := 1232) hx hb dL_law_33 (by decide) (by decide) rfl (by decide) ?_
    exact law_30 hx hb hr hml hown hT hX hbl hlocks hK hP hD hS hl hp0 hf0 hf1
  · refine lv_tableIn (off := 1222) (tgt := 1255) hx hb dL_law_33 (by decide) (by decide) rfl (by decide) ?_
    exact law_31 hx hb hr hml hown hT hX hbl hlocks hK hP hD hS hl hp0 hf0 hf1
  · refine lv_tableIn (off := 1235) (tgt := 1268) hx hb dL_law_33 (by decide) (by decide) rfl (by decide) ?_
    exact law_32 hx hb hr hml hown hT hX hbl hlocks hK hP hD hS hl hp0 hf0 hf1
  · refine lv_tableIn (off := 1278) (tgt := 1311) hx hb dL_law_33 (by decide) (by decide) rfl (by decide) ?_
    exact law_33 hx hb hr hml hown hT hX hbl hlocks hK hP hD hS hl hp0 hf0 hf1
  · refine lv_tableIn (off := 1311) (tgt := 1344) hx hb dL_law_33 (by decide) (by decide) rfl (by decide) ?_
    exact law_34 hx hb hr hml hown hT hX hbl hlocks hK hP hD hS hl hp0 hf0 hf1
  · refine lv_tableIn (off := 1344) (tgt := 1377) hx hb dL_law_33 (by decide) (by decide) rfl (by decide) ?_
    exact law_35 hx hb hr hml hown hT hX hbl hlocks hK hP hD hS hl hp0 hf0 hf1
  · refine lv_tableIn (off := 1377) (tgt := 1410) hx hb dL_law_33 (by decide) (by decide) rfl (by decide) ?_
    exact law_36 hx hb hr hml hown hT hX hbl hlocks hK hP hD hS hl hp0 hf0 hf1
  · refine lv_tableOut (tgt := 1433) hx hb dL_law_33 hsw (by decide) ?_
    exact law_end hx hb hr hml hown hT hX hbl hlocks hS (lv_sub hl [0, 3] rfl)

set_option maxHeartbeats 4000000 in
set_option maxRecDepth 100000 in
theorem whole_start {p : Program} {e : Env} {s : State} {m : MethodId} {below : List Frame} {meth : Method} {c : Code} (l : Launch) (hflags : l.flags = flags0) {b L : Nat} {xs : Nat → Int32} (hL : L ≤ 6) (C0 : lw_At p s m meth c b L xs) : W p l e room_1 s m #[Value.ref b] below meth c s.heap [] 0 0 (lw_Z below #[Value.ref b] s) (entryFrame m ([Value.ref b] : List Value).toArray 4) := by
  obtain ⟨hx, hb, hr, hml, hown, hts, hX, hbl, hlocks, hgv⟩ := id C0
  have hT : ∀ w ∈ TB, w.before #[Value.ref b] s = true := fun w h => hts w (List.mem_filter.mp h).1
  have hA : ∀ q : Nat, s.heap.size ≤ q → (fun q : Nat => s.heap.size ≤ q) q := fun _ h => h
  have hbA : ¬ (fun q : Nat => s.heap.size ≤ q) b := Nat.not_le.mpr hbl
  obtain ⟨c0, iS0, hKn0⟩ := u_known (C := RX0) (T := TX0) (N := 8) (n := 8) hT iX0 (hT _ w79)
  obtain ⟨c1, iS1, hKn1⟩ := u_known (C := RX1) (T := TX1) (N := 2) (n := 2) hT iX1 (hT _ w192)
  obtain ⟨c2, iS2, hKn2⟩ := u_known (C := RX2) (T := TX2) (N := 5) (n := 5) hT iX2 (hT _ w308)
  obtain ⟨c3, iS3, hKn3⟩ := u_known (C := RX3) (T := TX3) (N := 4) (n := 4) hT iX3 (hT _ w53)
  obtain ⟨c4, iS4, hKn4⟩ := u_known (C := RX4) (T := TX4) (N := 3) (n := 3) hT iX4 (hT _ w332)
  obtain ⟨c5, iS5, hKn5⟩ := u_known (C := RX5) (T := TX5) (N := 2) (n := 2) hT iX5 (hT _ w175)
  obtain ⟨c6, iS6, hKn6⟩ := u_known (C := RX6) (T := TX6) (N := 10) (n := 10) hT iX6 (hT _ w47)
  obtain ⟨c7, iS7, hKn7⟩ := u_known (C := RX7) (T := TX7) (N := 6) (n := 6) hT iX7 (hT _ w211)
  obtain ⟨c8, iS8, hKn8⟩ := u_known (C := RX8) (T := TX8) (N := 3) (n := 3) hT iX8 (hT _ w240)
  obtain ⟨c9, iS9, hKn9⟩ := u_known (C := RX9) (T := TX9) (N := 13) (n := 13) hT iX9 (hT _ w258)
  obtain ⟨c10, iS10, hKn10⟩ := u_known (C := RX10) (T := TX10) (N := 2) (n := 2) hT iX10 (hT _ w31)
  obtain ⟨c11, iS11, hKn11⟩ := u_known (C := RX11) (T := TX11) (N := 13) (n := 13) hT iX11 (hT _ w23)
  obtain ⟨c12, iS12, hKn12⟩ := u_known (C := RX12) (T := TX12) (N := 32) (n := 32) hT iX12 (hT _ w1072)
  obtain ⟨dC, dI, hKc⟩ : ∃ (dC : Nat → ClassId) (dI : Nat → Nat → Nat), ∀ (k : Nat) (q : vw_C), vwCl[k]? = some q → u_Kn s q.1 q.2.1 q.2.2 (dC k) (dI k) := by
    refine ⟨fun k => match k with | 0 => c0 | 1 => c1 | 2 => c2 | 3 => c3 | 4 => c4 | 5 => c5 | 6 => c6 | 7 => c7 | 8 => c8 | 9 => c9 | 10 => c10 | 11 => c11 | _ => c12, fun k => match k with | 0 => iS0 | 1 => iS1 | 2 => iS2 | 3 => iS3 | 4 => iS4 | 5 => iS5 | 6 => iS6 | 7 => iS7 | 8 => iS8 | 9 => iS9 | 10 => iS10 | 11 => iS11 | _ => iS12, ?_⟩
    intro k q hq
    match k, hq with
    | 0, hq => cases hq; exact hKn0
    | 1, hq => cases hq; exact hKn1
    | 2, hq => cases hq; exact hKn2
    | 3, hq => cases hq; exact hKn3
    | 4, hq => cases hq; exact hKn4
    | 5, hq => cases hq; exact hKn5
    | 6, hq => cases hq; exact hKn6
    | 7, hq => cases hq; exact hKn7
    | 8, hq => cases hq; exact hKn8
    | 9, hq => cases hq; exact hKn9
    | 10, hq => cases hq; exact hKn10
    | 11, hq => cases hq; exact hKn11
    | 12, hq => cases hq; exact hKn12
    | k + 13, hq => simp [vwCl] at hq
  have hS : va_S (fun q : Nat => s.heap.size ≤ q) s.heap s.heap [] := va_S.rf
  have hK : va_K (dC, dI) vwCl [] s := ⟨hKc, fun k q h => by simp at h⟩
  have hP : va_P (dC, dI) vwCl [] s.heap := va_P0 _ _ _
  have hD : va_D (fun q : Nat => s.heap.size ≤ q) [] := va_D0 _
  have hN : ∀ q ∈ ([(RX11, 11, yX10_init, RX11), (RX11, 34, yX1_init, RX11), (RX11, 41, yX7_init, RX11), (RX11, 48, yX8_init, RX11), (RX11, 55, yX9_init, RX11), (RX11, 65, yX2_init, RX11), (RX11, 72, yX4_init, RX11), (RX11, 79, yX3_init, RX11), (RX6, 17, yX3_init, RX11)] : List nLk), va_Nw (.methodLinkNest q.1 q.2.1 q.2.2.1 q.2.2.2) s := List.forall_mem_cons.mpr ⟨va_Nw.of rfl (hts _ wn32), List.forall_mem_cons.mpr ⟨va_Nw.of rfl (hts _ wn193), List.forall_mem_cons.mpr ⟨va_Nw.of rfl (hts _ wn212), List.forall_mem_cons.mpr ⟨va_Nw.of rfl (hts _ wn241), List.forall_mem_cons.mpr ⟨va_Nw.of rfl (hts _ wn259), List.forall_mem_cons.mpr ⟨va_Nw.of rfl (hts _ wn309), List.forall_mem_cons.mpr ⟨va_Nw.of rfl (hts _ wn333), List.forall_mem_cons.mpr ⟨va_Nw.of rfl (hts _ wn350), List.forall_mem_cons.mpr ⟨va_Nw.of rfl (hts _ wn54), fun q h => absurd h List.not_mem_nil⟩⟩⟩⟩⟩⟩⟩⟩⟩
  have hO : ∀ q ∈ ([RX0] : List String), va_AO q s := List.forall_mem_cons.mpr ⟨va_AO.of (A := #[]) (va_tabs0 (hts _ wn181)), fun q h => absurd h List.not_mem_nil⟩
  have hl := lv_entry ([.ref b]) (n := 4) (Nat.le_of_ble_eq_true rfl)
  rw [lg_entry_eq]
  generalize (lg_sl ([.ref b]) ++ List.replicate (4 - (lg_sl ([.ref b])).length) Slot.unset).toArray = ls at hl ⊢
  have hl : lv_has ls 4 [(0, .ref b)] := hl
  refine va_new (ci := 11) (fs := [.null, .null, .null, .null, .null, .null, .null, .null, .null, .null, .null, .null, .int 0]) (C := RX11) (T := TX11) (N := 13) hx hb hT iX11 tyX11 tyX11_ok hown (hT _ w22) (hT _ w23) (hT _ w1) hK hP hD hS hA rfl (fun j hj => by rcases (show j = 0 ∨ j = 1 ∨ j = 2 ∨ j = 3 ∨ j = 4 ∨ j = 5 ∨ j = 6 ∨ j = 7 ∨ j = 8 ∨ j = 9 ∨ j = 10 ∨ j = 11 ∨ j = 12 by omega) with rfl | rfl | rfl | rfl | rfl | rfl | rfl | rfl | rfl | rfl | rfl | rfl | rfl <;> rfl) (Nat.le_of_ble_eq_true rfl) (Nat.le_of_ble_eq_true rfl) dL_law_0 (fun q_1 H hP hD hS => ?_)
  have hP : va_P (dC, dI) vwCl [(q_1, .inr (11, [.null, .null, .null, .null, .null, .null, .null, .null, .null, .null, .null, .null, .int 0]))] H := hP
  have hD : va_D (fun q : Nat => s.heap.size ≤ q) [(q_1, .inr (11, [.null, .null, .null, .null, .null, .null, .null, .null, .null, .null, .null, .null, .int 0]))] := hD
  refine W.widen (k := 1) (n := 13) (Nat.le_of_ble_eq_true rfl) (Nat.le_of_ble_eq_true rfl) ?_
  refine lv_dup hx hb dL_law_3 rfl ?_
  have hPc := hP.sub (ws' := [(q_1, .inr (11, [.null, .null, .null, .null, .null, .null, .null, .null, .null, .null, .null, .null, .int 0]))]) [0] rfl
  have hDc := hD.sub (ws' := [(q_1, .inr (11, [.null, .null, .null, .null, .null, .null, .null, .null, .null, .null, .null, .null, .int 0]))]) [0] (by decide) rfl
  have hKc := hK.sub (tys' := []) [] rfl
  have hFc := va_free (wc := [(q_1, .inr (11, [.null, .null, .null, .null, .null, .null, .null, .null, .null, .null, .null, .null, .int 0]))]) hD hS hA [0] rfl
  refine va_callv (va_runI (As := []) (rest := [.ref q_1]) ⟨hx, hb, hml, hown, hT⟩ (k_Swap l dC dI q_1 H.size) (cwI 0 hT (gT w26) rfl rfl rfl (hT _ w1) (hT _ w24) (hT _ w25) rfl (by decide +kernel) ⟨(Nat.le_of_ble_eq_true rfl), (Nat.le_of_ble_eq_true rfl)⟩) ⟨pcN.blind, pcN.pre hPc hKc hDc (fun q h => hN q ((by decide +kernel : ∀ q ∈ ([(RX11, 11, yX10_init, RX11), (RX11, 34, yX1_init, RX11), (RX11, 41, yX7_init, RX11), (RX11, 48, yX8_init, RX11), (RX11, 55, yX9_init, RX11), (RX11, 65, yX2_init, RX11), (RX11, 72, yX4_init, RX11), (RX11, 79, yX3_init, RX11), (RX6, 17, yX3_init, RX11)] : List nLk), q ∈ ([(RX11, 11, yX10_init, RX11), (RX11, 34, yX1_init, RX11), (RX11, 41, yX7_init, RX11), (RX11, 48, yX8_init, RX11), (RX11, 55, yX9_init, RX11), (RX11, 65, yX2_init, RX11), (RX11, 72, yX4_init, RX11), (RX11, 79, yX3_init, RX11), (RX6, 17, yX3_init, RX11)] : List nLk)) q h)) (fun q h => hO q ((by decide +kernel : ∀ q ∈ ([RX0] : List String), q ∈ ([RX0] : List String)) q h))⟩ rfl rfl hl.1 rfl (lv_room (Nat.le_of_ble_eq_true rfl)) dL_law_4 ⟨(Nat.le_of_ble_eq_true rfl), (Nat.le_of_ble_eq_true rfl)⟩) hS (fun q _ h => hFc q h) hFc (fun u t H1 locs ht hvm hw hB hz1 hk1 hS => ?_)
  obtain ⟨a0_2, a1_3, a2_4, a3_5, a4_6, a5_7, a6_8, a7_9, a8_10, a9_11, n0_12, b0_13, tb_14, cB_15, fb_16, rn_17, rb_18, s0_19, s1_20, r0_21, r1_22, r2_23, r3_24, r4_25, r5_26, cR_27, fr_28, ba_29, cP_30, fp_31, p0_32, q0_33, q1_34, q2_35, q3_36, q4_37, q5_38, cQ_39, fq_40, l0_41, l1_42, e0_43, e1_44, e2_45, e3_46, e4_47, e5_48, cC_49, fc_50, hx_51, hP1, hK1, hD1⟩ := hB
  rw [ht] at hP1
  have hK1 := va_K.moved hvm.symm hK1
  obtain ⟨hP, hD⟩ := va_join (wr := []) (w1 := [(q_1, .inr (11, [.ref a0_2, .ref a1_3, .ref a2_4, .ref a3_5, .ref a4_6, .ref a5_7, .ref a6_8, .ref a7_9, .ref a8_10, .ref a9_11, .ref n0_12, .ref b0_13, .int (-1)])), (a0_2, .inr (10, [.ref tb_14, .int 0])), (tb_14, .inl (cB_15, 900, .inl fb_16)), (a1_3, .inr (6, [.int 0, .int (-1), .ref rn_17, .ref rb_18, .ref tb_14, .int 0, .int 0, .int 0, .int 0, .int 0])), (rn_17, .inr (3, [.ref s0_19, .ref s1_20, .int 0, .int 0])), (rb_18, .inr (0, [.ref r0_21, .ref r1_22, .ref r2_23, .ref r3_24, .ref r4_25, .ref r5_26, .int 0, .int 0])), (r5_26, .inl (cR_27, 64, .inl fr_28)), (a2_4, .inr (5, [.ref ba_29, .int 0])), (ba_29, .inl (cP_30, 10, .inr (.inr (.inr (.inr fp_31))))), (p0_32, .inr (0, [.ref q0_33, .ref q1_34, .ref q2_35, .ref q3_36, .ref q4_37, .ref q5_38, .int 0, .int 0])), (q5_38, .inl (cQ_39, 64, .inl fq_40)), (n0_12, .inr (3, [.ref l0_41, .ref l1_42, .int 0, .int 0])), (b0_13, .inr (0, [.ref e0_43, .ref e1_44, .ref e2_45, .ref e3_46, .ref e4_47, .ref e5_48, .int 0, .int 0])), (e5_48, .inl (cC_49, 64, .inl fc_50))]) hP hD [0] [] rfl rfl (by decide) (by decide) hk1 hFc hP1 hD1
  have hK := hK.app hK1
  generalize H1 = H at hP hS ⊢
  have hP : va_P (dC, dI) vwCl [(q_1, .inr (11, [.ref a0_2, .ref a1_3, .ref a2_4, .ref a3_5, .ref a4_6, .ref a5_7, .ref a6_8, .ref a7_9, .ref a8_10, .ref a9_11, .ref n0_12, .ref b0_13, .int (-1)])), (a0_2, .inr (10, [.ref tb_14, .int 0])), (tb_14, .inl (cB_15, 900, .inl fb_16)), (a1_3, .inr (6, [.int 0, .int (-1), .ref rn_17, .ref rb_18, .ref tb_14, .int 0, .int 0, .int 0, .int 0, .int 0])), (rn_17, .inr (3, [.ref s0_19, .ref s1_20, .int 0, .int 0])), (rb_18, .inr (0, [.ref r0_21, .ref r1_22, .ref r2_23, .ref r3_24, .ref r4_25, .ref r5_26, .int 0, .int 0])), (r5_26, .inl (cR_27, 64, .inl fr_28)), (a2_4, .inr (5, [.ref ba_29, .int 0])), (ba_29, .inl (cP_30, 10, .inr (.inr (.inr (.inr fp_31))))), (p0_32, .inr (0, [.ref q0_33, .ref q1_34, .ref q2_35, .ref q3_36, .ref q4_37, .ref q5_38, .int 0, .int 0])), (q5_38, .inl (cQ_39, 64, .inl fq_40)), (n0_12, .inr (3, [.ref l0_41, .ref l1_42, .int 0, .int 0])), (b0_13, .inr (0, [.ref e0_43, .ref e1_44, .ref e2_45, .ref e3_46, .ref e4_47, .ref e5_48, .int 0, .int 0])), (e5_48, .inl (cC_49, 64, .inl fc_50))] H := hP
  have hD : va_D (fun q : Nat => s.heap.size ≤ q) [(q_1, .inr (11, [.ref a0_2, .ref a1_3, .ref a2_4, .ref a3_5, .ref a4_6, .ref a5_7, .ref a6_8, .ref a7_9, .ref a8_10, .ref a9_11, .ref n0_12, .ref b0_13, .int (-1)])), (a0_2, .inr (10, [.ref tb_14, .int 0])), (tb_14, .inl (cB_15, 900, .inl fb_16)), (a1_3, .inr (6, [.int 0, .int (-1), .ref rn_17, .ref rb_18, .ref tb_14, .int 0, .int 0, .int 0, .int 0, .int 0])), (rn_17, .inr (3, [.ref s0_19, .ref s1_20, .int 0, .int 0])), (rb_18, .inr (0, [.ref r0_21, .ref r1_22, .ref r2_23, .ref r3_24, .ref r4_25, .ref r5_26, .int 0, .int 0])), (r5_26, .inl (cR_27, 64, .inl fr_28)), (a2_4, .inr (5, [.ref ba_29, .int 0])), (ba_29, .inl (cP_30, 10, .inr (.inr (.inr (.inr fp_31))))), (p0_32, .inr (0, [.ref q0_33, .ref q1_34, .ref q2_35, .ref q3_36, .ref q4_37, .ref q5_38, .int 0, .int 0])), (q5_38, .inl (cQ_39, 64, .inl fq_40)), (n0_12, .inr (3, [.ref l0_41, .ref l1_42, .int 0, .int 0])), (b0_13, .inr (0, [.ref e0_43, .ref e1_44, .ref e2_45, .ref e3_46, .ref e4_47, .ref e5_48, .int 0, .int 0])), (e5_48, .inl (cC_49, 64, .inl fc_50))] := hD
  have hK : va_K (dC, dI) vwCl [(cB_15, .byte), (cR_27, .int), (cP_30, .object RX0), (cQ_39, .int), (cC_49, .int)] s := hK
  refine W.widen (k := 132) (n := 6105) (Nat.le_of_ble_eq_true rfl) (Nat.le_of_ble_eq_true rfl) ?_
  refine lv_astore_n (lv' := [(1, .ref q_1), (0, .ref b)]) hx hb dL_law_7 rfl hl (by decide) rfl (fun ls hl => ?_)
  refine va_new (ci := 12) (fs := [.null, .null, .null, .null, .null, .int 0, .int 0, .int 0, .int 0, .null, .int 0, .int 0, .int 0, .int 0, .int 0, .int 0, .int 0, .null, .null, .int 0, .null, .null, .null, .null, .null, .null, .null, .null, .null, .null, .null, .int 0]) (C := RX12) (T := TX12) (N := 32) hx hb hT iX12 tyX12 tyX12_ok hown (hT _ w1071) (hT _ w1072) (hT _ w14) hK hP hD hS hA rfl (fun j hj => by rcases (show j = 0 ∨ j = 1 ∨ j = 2 ∨ j = 3 ∨ j = 4 ∨ j = 5 ∨ j = 6 ∨ j = 7 ∨ j = 8 ∨ j = 9 ∨ j = 10 ∨ j = 11 ∨ j = 12 ∨ j = 13 ∨ j = 14 ∨ j = 15 ∨ j = 16 ∨ j = 17 ∨ j = 18 ∨ j = 19 ∨ j = 20 ∨ j = 21 ∨ j = 22 ∨ j = 23 ∨ j = 24 ∨ j = 25 ∨ j = 26 ∨ j = 27 ∨ j = 28 ∨ j = 29 ∨ j = 30 ∨ j = 31 by omega) with rfl | rfl | rfl | rfl | rfl | rfl | rfl | rfl | rfl | rfl | rfl | rfl | rfl | rfl | rfl | rfl | rfl | rfl | rfl | rfl | rfl | rfl | rfl | rfl | rfl | rfl | rfl | rfl | rfl | rfl | rfl | rfl <;> rfl) (Nat.le_of_ble_eq_true rfl) (Nat.le_of_ble_eq_true rfl) dL_law_8 (fun q_52 H hP hD hS => ?_)
  have hP : va_P (dC, dI) vwCl [(q_1, .inr (11, [.ref a0_2, .ref a1_3, .ref a2_4, .ref a3_5, .ref a4_6, .ref a5_7, .ref a6_8, .ref a7_9, .ref a8_10, .ref a9_11, .ref n0_12, .ref b0_13, .int (-1)])), (a0_2, .inr (10, [.ref tb_14, .int 0])), (tb_14, .inl (cB_15, 900, .inl fb_16)), (a1_3, .inr (6, [.int 0, .int (-1), .ref rn_17, .ref rb_18, .ref tb_14, .int 0, .int 0, .int 0, .int 0, .int 0])), (rn_17, .inr (3, [.ref s0_19, .ref s1_20, .int 0, .int 0])), (rb_18, .inr (0, [.ref r0_21, .ref r1_22, .ref r2_23, .ref r3_24, .ref r4_25, .ref r5_26, .int 0, .int 0])), (r5_26, .inl (cR_27, 64, .inl fr_28)), (a2_4, .inr (5, [.ref ba_29, .int 0])), (ba_29, .inl (cP_30, 10, .inr (.inr (.inr (.inr fp_31))))), (p0_32, .inr (0, [.ref q0_33, .ref q1_34, .ref q2_35, .ref q3_36, .ref q4_37, .ref q5_38, .int 0, .int 0])), (q5_38, .inl (cQ_39, 64, .inl fq_40)), (n0_12, .inr (3, [.ref l0_41, .ref l1_42, .int 0, .int 0])), (b0_13, .inr (0, [.ref e0_43, .ref e1_44, .ref e2_45, .ref e3_46, .ref e4_47, .ref e5_48, .int 0, .int 0])), (e5_48, .inl (cC_49, 64, .inl fc_50)), (q_52, .inr (12, [.null, .null, .null, .null, .null, .int 0, .int 0, .int 0, .int 0, .null, .int 0, .int 0, .int 0, .int 0, .int 0, .int 0, .int 0, .null, .null, .int 0, .null, .null, .null, .null, .null, .null, .null, .null, .null, .null, .null, .int 0]))] H := hP
  have hD : va_D (fun q : Nat => s.heap.size ≤ q) [(q_1, .inr (11, [.ref a0_2, .ref a1_3, .ref a2_4, .ref a3_5, .ref a4_6, .ref a5_7, .ref a6_8, .ref a7_9, .ref a8_10, .ref a9_11, .ref n0_12, .ref b0_13, .int (-1)])), (a0_2, .inr (10, [.ref tb_14, .int 0])), (tb_14, .inl (cB_15, 900, .inl fb_16)), (a1_3, .inr (6, [.int 0, .int (-1), .ref rn_17, .ref rb_18, .ref tb_14, .int 0, .int 0, .int 0, .int 0, .int 0])), (rn_17, .inr (3, [.ref s0_19, .ref s1_20, .int 0, .int 0])), (rb_18, .inr (0, [.ref r0_21, .ref r1_22, .ref r2_23, .ref r3_24, .ref r4_25, .ref r5_26, .int 0, .int 0])), (r5_26, .inl (cR_27, 64, .inl fr_28)), (a2_4, .inr (5, [.ref ba_29, .int 0])), (ba_29, .inl (cP_30, 10, .inr (.inr (.inr (.inr fp_31))))), (p0_32, .inr (0, [.ref q0_33, .ref q1_34, .ref q2_35, .ref q3_36, .ref q4_37, .ref q5_38, .int 0, .int 0])), (q5_38, .inl (cQ_39, 64, .inl fq_40)), (n0_12, .inr (3, [.ref l0_41, .ref l1_42, .int 0, .int 0])), (b0_13, .inr (0, [.ref e0_43, .ref e1_44, .ref e2_45, .ref e3_46, .ref e4_47, .ref e5_48, .int 0, .int 0])), (e5_48, .inl (cC_49, 64, .inl fc_50)), (q_52, .inr (12, [.null, .null, .null, .null, .null, .int 0, .int 0, .int 0, .int 0, .null, .int 0, .int 0, .int 0, .int 0, .int 0, .int 0, .int 0, .null, .null, .int 0, .null, .null, .null, .null, .null, .null, .null, .null, .null, .null, .null, .int 0]))] := hD
  refine W.widen (k := 133) (n := 6137) (Nat.le_of_ble_eq_true rfl) (Nat.le_of_ble_eq_true rfl) ?_
  refine lv_dup hx hb dL_law_11 rfl ?_
  have hPc := hP.sub (ws' := [(q_52, .inr (12, [.null, .null, .null, .null, .null, .int 0, .int 0, .int 0, .int 0, .null, .int 0, .int 0, .int 0, .int 0, .int 0, .int 0, .int 0, .null, .null, .int 0, .null, .null, .null, .null, .null, .null, .null, .null, .null, .null, .null, .int 0]))]) [14] rfl
  have hDc := hD.sub (ws' := [(q_52, .inr (12, [.null, .null, .null, .null, .null, .int 0, .int 0, .int 0, .int 0, .null, .int 0, .int 0, .int 0, .int 0, .int 0, .int 0, .int 0, .null, .null, .int 0, .null, .null, .null, .null, .null, .null, .null, .null, .null, .null, .null, .int 0]))]) [14] (by decide) rfl
  have hKc := hK.sub (tys' := []) [] rfl
  have hFc := va_free (wc := [(q_52, .inr (12, [.null, .null, .null, .null, .null, .int 0, .int 0, .int 0, .int 0, .null, .int 0, .int 0, .int 0, .int 0, .int 0, .int 0, .int 0, .null, .null, .int 0, .null, .null, .null, .null, .null, .null, .null, .null, .null, .null, .null, .int 0]))]) hD hS hA [14] rfl
  refine va_callv (va_runI (As := []) (rest := [.ref q_52]) ⟨hx, hb, hml, hown, hT⟩ (k_Model l dC dI q_52 H.size) (cwI 0 hT (gT w1075) rfl rfl rfl (hT _ w14) (hT _ w1073) (hT _ w1074) rfl (by decide +kernel) ⟨(Nat.le_of_ble_eq_true rfl), (Nat.le_of_ble_eq_true rfl)⟩) ⟨pcW.blind, pcW.pre hPc hKc hDc⟩ rfl rfl hl.1 rfl (lv_room (Nat.le_of_ble_eq_true rfl)) dL_law_12 ⟨(Nat.le_of_ble_eq_true rfl), (Nat.le_of_ble_eq_true rfl)⟩) hS (fun q _ h => hFc q h) hFc (fun u t H1 locs ht hvm hw hB hz1 hk1 hS => ?_)
  obtain ⟨g0_53, g1_54, g2_55, g3_56, g4_57, g9_58, g17_59, g18_60, g20_61, g21_62, g22_63, g23_64, g24_65, g25_66, g26_67, g27_68, g28_69, g29_70, g30_71, cS_72, f_73, cT_74, ft_75, cU_76, fu_77, cV_78, fv_79, cN_80, fn_81, cO_82, fo_83, hx_84, hx_85, hP1, hK1, hD1⟩ := hB
  rw [ht] at hP1
  have hK1 := va_K.moved hvm.symm hK1
  obtain ⟨hP, hD⟩ := va_join (wr := [(q_1, .inr (11, [.ref a0_2, .ref a1_3, .ref a2_4, .ref a3_5, .ref a4_6, .ref a5_7, .ref a6_8, .ref a7_9, .ref a8_10, .ref a9_11, .ref n0_12, .ref b0_13, .int (-1)])), (a0_2, .inr (10, [.ref tb_14, .int 0])), (tb_14, .inl (cB_15, 900, .inl fb_16)), (a1_3, .inr (6, [.int 0, .int (-1), .ref rn_17, .ref rb_18, .ref tb_14, .int 0, .int 0, .int 0, .int 0, .int 0])), (rn_17, .inr (3, [.ref s0_19, .ref s1_20, .int 0, .int 0])), (rb_18, .inr (0, [.ref r0_21, .ref r1_22, .ref r2_23, .ref r3_24, .ref r4_25, .ref r5_26, .int 0, .int 0])), (r5_26, .inl (cR_27, 64, .inl fr_28)), (a2_4, .inr (5, [.ref ba_29, .int 0])), (ba_29, .inl (cP_30, 10, .inr (.inr (.inr (.inr fp_31))))), (p0_32, .inr (0, [.ref q0_33, .ref q1_34, .ref q2_35, .ref q3_36, .ref q4_37, .ref q5_38, .int 0, .int 0])), (q5_38, .inl (cQ_39, 64, .inl fq_40)), (n0_12, .inr (3, [.ref l0_41, .ref l1_42, .int 0, .int 0])), (b0_13, .inr (0, [.ref e0_43, .ref e1_44, .ref e2_45, .ref e3_46, .ref e4_47, .ref e5_48, .int 0, .int 0])), (e5_48, .inl (cC_49, 64, .inl fc_50))]) (w1 := [(q_52, .inr (12, [.ref g0_53, .ref g1_54, .ref g2_55, .ref g3_56, .ref g4_57, .int 0, .int 0, .int 0, .int 0, .ref g9_58, .int 0, .int 0, .int 0, .int 0, .int (-1), .int 0, .int 0, .ref g17_59, .ref g18_60, .int 0, .ref g20_61, .ref g21_62, .ref g22_63, .ref g23_64, .ref g24_65, .ref g25_66, .ref g26_67, .ref g27_68, .ref g28_69, .ref g29_70, .ref g30_71, .int 0])), (g0_53, .inl (cS_72, 266, .inl f_73)), (g2_55, .inl (cT_74, 2660, .inl ft_75)), (g9_58, .inl (cU_76, 900, .inl fu_77)), (g1_54, .inl (cV_78, 266, .inl fv_79)), (g3_56, .inl (cN_80, 12, .inr (.inl fn_81))), (g4_57, .inl (cO_82, 12, .inr (.inl fo_83)))]) hP hD [14] [0, 1, 2, 3, 4, 5, 6, 7, 8, 9, 10, 11, 12, 13] rfl rfl (by decide) (by decide) hk1 hFc hP1 hD1
  have hK := hK.app hK1
  generalize H1 = H at hP hS ⊢
  have hP : va_P (dC, dI) vwCl [(q_1, .inr (11, [.ref a0_2, .ref a1_3, .ref a2_4, .ref a3_5, .ref a4_6, .ref a5_7, .ref a6_8, .ref a7_9, .ref a8_10, .ref a9_11, .ref n0_12, .ref b0_13, .int (-1)])), (a0_2, .inr (10, [.ref tb_14, .int 0])), (tb_14, .inl (cB_15, 900, .inl fb_16)), (a1_3, .inr (6, [.int 0, .int (-1), .ref rn_17, .ref rb_18, .ref tb_14, .int 0, .int 0, .int 0, .int 0, .int 0])), (rn_17, .inr (3, [.ref s0_19, .ref s1_20, .int 0, .int 0])), (rb_18, .inr (0, [.ref r0_21, .ref r1_22, .ref r2_23, .ref r3_24, .ref r4_25, .ref r5_26, .int 0, .int 0])), (r5_26, .inl (cR_27, 64, .inl fr_28)), (a2_4, .inr (5, [.ref ba_29, .int 0])), (ba_29, .inl (cP_30, 10, .inr (.inr (.inr (.inr fp_31))))), (p0_32, .inr (0, [.ref q0_33, .ref q1_34, .ref q2_35, .ref q3_36, .ref q4_37, .ref q5_38, .int 0, .int 0])), (q5_38, .inl (cQ_39, 64, .inl fq_40)), (n0_12, .inr (3, [.ref l0_41, .ref l1_42, .int 0, .int 0])), (b0_13, .inr (0, [.ref e0_43, .ref e1_44, .ref e2_45, .ref e3_46, .ref e4_47, .ref e5_48, .int 0, .int 0])), (e5_48, .inl (cC_49, 64, .inl fc_50)), (q_52, .inr (12, [.ref g0_53, .ref g1_54, .ref g2_55, .ref g3_56, .ref g4_57, .int 0, .int 0, .int 0, .int 0, .ref g9_58, .int 0, .int 0, .int 0, .int 0, .int (-1), .int 0, .int 0, .ref g17_59, .ref g18_60, .int 0, .ref g20_61, .ref g21_62, .ref g22_63, .ref g23_64, .ref g24_65, .ref g25_66, .ref g26_67, .ref g27_68, .ref g28_69, .ref g29_70, .ref g30_71, .int 0])), (g0_53, .inl (cS_72, 266, .inl f_73)), (g2_55, .inl (cT_74, 2660, .inl ft_75)), (g9_58, .inl (cU_76, 900, .inl fu_77)), (g1_54, .inl (cV_78, 266, .inl fv_79)), (g3_56, .inl (cN_80, 12, .inr (.inl fn_81))), (g4_57, .inl (cO_82, 12, .inr (.inl fo_83)))] H := hP
  have hD : va_D (fun q : Nat => s.heap.size ≤ q) [(q_1, .inr (11, [.ref a0_2, .ref a1_3, .ref a2_4, .ref a3_5, .ref a4_6, .ref a5_7, .ref a6_8, .ref a7_9, .ref a8_10, .ref a9_11, .ref n0_12, .ref b0_13, .int (-1)])), (a0_2, .inr (10, [.ref tb_14, .int 0])), (tb_14, .inl (cB_15, 900, .inl fb_16)), (a1_3, .inr (6, [.int 0, .int (-1), .ref rn_17, .ref rb_18, .ref tb_14, .int 0, .int 0, .int 0, .int 0, .int 0])), (rn_17, .inr (3, [.ref s0_19, .ref s1_20, .int 0, .int 0])), (rb_18, .inr (0, [.ref r0_21, .ref r1_22, .ref r2_23, .ref r3_24, .ref r4_25, .ref r5_26, .int 0, .int 0])), (r5_26, .inl (cR_27, 64, .inl fr_28)), (a2_4, .inr (5, [.ref ba_29, .int 0])), (ba_29, .inl (cP_30, 10, .inr (.inr (.inr (.inr fp_31))))), (p0_32, .inr (0, [.ref q0_33, .ref q1_34, .ref q2_35, .ref q3_36, .ref q4_37, .ref q5_38, .int 0, .int 0])), (q5_38, .inl (cQ_39, 64, .inl fq_40)), (n0_12, .inr (3, [.ref l0_41, .ref l1_42, .int 0, .int 0])), (b0_13, .inr (0, [.ref e0_43, .ref e1_44, .ref e2_45, .ref e3_46, .ref e4_47, .ref e5_48, .int 0, .int 0])), (e5_48, .inl (cC_49, 64, .inl fc_50)), (q_52, .inr (12, [.ref g0_53, .ref g1_54, .ref g2_55, .ref g3_56, .ref g4_57, .int 0, .int 0, .int 0, .int 0, .ref g9_58, .int 0, .int 0, .int 0, .int 0, .int (-1), .int 0, .int 0, .ref g17_59, .ref g18_60, .int 0, .ref g20_61, .ref g21_62, .ref g22_63, .ref g23_64, .ref g24_65, .ref g25_66, .ref g26_67, .ref g27_68, .ref g28_69, .ref g29_70, .ref g30_71, .int 0])), (g0_53, .inl (cS_72, 266, .inl f_73)), (g2_55, .inl (cT_74, 2660, .inl ft_75)), (g9_58, .inl (cU_76, 900, .inl fu_77)), (g1_54, .inl (cV_78, 266, .inl fv_79)), (g3_56, .inl (cN_80, 12, .inr (.inl fn_81))), (g4_57, .inl (cO_82, 12, .inr (.inl fo_83)))] := hD
  have hK : va_K (dC, dI) vwCl [(cB_15, .byte), (cR_27, .int), (cP_30, .object RX0), (cQ_39, .int), (cC_49, .int), (cS_72, .int), (cT_74, .int), (cU_76, .byte), (cV_78, .int), (cN_80, .long), (cO_82, .long)] s := hK
  refine W.widen (k := 152) (n := 10885) (Nat.le_of_ble_eq_true rfl) (Nat.le_of_ble_eq_true rfl) ?_
  refine lv_astore_n (lv' := [(2, .ref q_52), (1, .ref q_1), (0, .ref b)]) hx hb dL_law_15 rfl hl (by decide) rfl (fun ls hl => ?_)
  refine lv_iconst (v := 0) hx hb dL_law_16 (by decide) ?_
  refine lv_istore_n (lv' := [(3, .int 0), (2, .ref q_52), (1, .ref q_1), (0, .ref b)]) hx hb dL_law_17 rfl hl (by decide) rfl (fun ls hl => ?_)
  rcases Nat.lt_or_ge L 6 with hlt | hge
  · refine lv_iload_n hx hb dL_law_18 rfl (lv_at hl 0 rfl) ?_
    refine lv_aload_n hx hb dL_law_19 rfl (lv_at hl 3 rfl) ?_
    refine va_slen hx hb hX hbl hbA hS dL_law_20 ?_
    refine lv_bipush (v := 6) hx hb dL_law_21 (by decide) ?_
    refine lv_isub hx hb dL_law_23 ?_
    refine lv_topi (fun z_86 ez_86 => ?_)
    refine lv_icmp_gt (tgt := 1439) hx hb dL_law_24 (by decide) (fun _ => ?_) (fun h => absurd (by rw [ez_86]; exact len_lt hlt) h)
    refine lv_iconst (v := 1) hx hb dL_law_1439 (by decide) ?_
    refine va_forget (fun q h => hS.2.2 q h) ?_
    refine W.widen (k := 600000) (n := 7302250) (Nat.le_of_ble_eq_true rfl) (Nat.le_of_ble_eq_true rfl) ?_
    exact lw_ret hx hb hr hlocks dL_law_1440
  · obtain rfl : L = 6 := by omega
    exact law_at hx hb hr hml hown hT hX hbl hlocks (hK.sub [0, 1, 2, 3, 4, 5, 6, 7, 8, 9, 10] rfl) (hP.sub [0, 1, 2, 3, 4, 5, 6, 7, 8, 9, 10, 11, 12, 13, 14, 15, 16, 17, 18, 19, 20] rfl) (hD.sub [0, 1, 2, 3, 4, 5, 6, 7, 8, 9, 10, 11, 12, 13, 14, 15, 16, 17, 18, 19, 20] (by decide) rfl) hS (lv_sub hl [0, 1, 2, 3] rfl) hx_51 hx_84 hx_85
