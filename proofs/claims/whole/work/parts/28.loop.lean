set_option maxHeartbeats 4000000 in
set_option maxRecDepth 100000 in
theorem law_loop {p : Program} {l : Launch} {e : Env} {s : State} {m : MethodId} {below : List Frame} {meth : Method} {c : Code} {dC : Nat → ClassId} {dI : Nat → Nat → Nat} {cA cE : ClassId} {b L : Nat} {xs : Nat → Int32} (hL : L ≤ 1540) (C0 : lw_At p s m meth c b L xs) {qx qp qf qb qe qm : Nat} {pk pl ul : Int32} {PL UL : Nat} (hPL : PL ≤ 7) (hUL : UL ≤ 7) (epl : pl = nI PL) (eul : ul = nI UL) {bb gg : Nat → Int32} {pw hi ta od ot tm ac ag pn pt ut en og pw2 hd tn tk ar dn e0 e1 : Int32} (hR : tt_R (pw, hi, ta, bb, gg, od, ot, tm) (ac, ag, pn, pt, ut, en, og, pw2, hd, tn, tk, ar, dn, e0, e1)) (hK : va_K (dC, dI) ttCl [(cA, .int), (cE, .int)] s) {H : Heap} {locs : List Loc} {ls : Array Slot} (hP : va_P (dC, dI) ttCl [(qx, .inr (2, [.ref qf, .ref qp, .int pk, .int pl, .int ul, .int pw, .int hi, .int ta])), (qp, .inr (1, [.ref qf])), (qf, .inr (0, [.ref qb, .ref qe, .int od, .int ot, .int tm])), (qb, .inl (cA, 32, .inl bb)), (qe, .inl (cE, 2, .inl gg)), (qm, .inr (3, [.int pl, .int ul, .int pk, .int ac, .int ag, .int pn, .int pt, .int ut, .int en, .int og, .int pw2, .int hd, .int tn, .int tk, .int ar, .int dn, .int e0, .int e1]))] H) (hD : va_D (fun q : Nat => s.heap.size ≤ q) [(qx, .inr (2, [.ref qf, .ref qp, .int pk, .int pl, .int ul, .int pw, .int hi, .int ta])), (qp, .inr (1, [.ref qf])), (qf, .inr (0, [.ref qb, .ref qe, .int od, .int ot, .int tm])), (qb, .inl (cA, 32, .inl bb)), (qe, .inl (cE, 2, .inl gg)), (qm, .inr (3, [.int pl, .int ul, .int pk, .int ac, .int ag, .int pn, .int pt, .int ut, .int en, .int og, .int pw2, .int hd, .int tn, .int tk, .int ar, .int dn, .int e0, .int e1]))]) (hS : va_S (fun q : Nat => s.heap.size ≤ q) s.heap H locs) (hl : lv_has ls 4 [(0, .ref b), (1, .ref qx), (2, .ref qm), (3, .int 4)]) : W p l e room_1 s m #[Value.ref b] below meth c H locs 6 66 (lw_Z below #[Value.ref b] s) (F0 m 58 ls []) := by
  have C1 := C0
  obtain ⟨hx, hb, hr, hml, hown, hts, hX, hbl, hlocks, hgv⟩ := C0
  have hA : ∀ q : Nat, s.heap.size ≤ q → (fun q : Nat => s.heap.size ≤ q) q := fun _ h => h
  have hbA : ¬ (fun q : Nat => s.heap.size ≤ q) b := Nat.not_le.mpr hbl
  refine tt_rec (pc := 58) (I := fun n H locs ls => ∃ (i : Nat) (bb gg : Nat → Int32) (pw hi ta od ot tm ac ag pn pt ut en og pw2 hd tn tk ar dn e0 e1 : Int32), i + n = 1600 ∧ tt_R (pw, hi, ta, bb, gg, od, ot, tm) (ac, ag, pn, pt, ut, en, og, pw2, hd, tn, tk, ar, dn, e0, e1) ∧ va_P (dC, dI) ttCl [(qx, .inr (2, [.ref qf, .ref qp, .int pk, .int pl, .int ul, .int pw, .int hi, .int ta])), (qp, .inr (1, [.ref qf])), (qf, .inr (0, [.ref qb, .ref qe, .int od, .int ot, .int tm])), (qb, .inl (cA, 32, .inl bb)), (qe, .inl (cE, 2, .inl gg)), (qm, .inr (3, [.int pl, .int ul, .int pk, .int ac, .int ag, .int pn, .int pt, .int ut, .int en, .int og, .int pw2, .int hd, .int tn, .int tk, .int ar, .int dn, .int e0, .int e1]))] H ∧ va_D (fun q : Nat => s.heap.size ≤ q) [(qx, .inr (2, [.ref qf, .ref qp, .int pk, .int pl, .int ul, .int pw, .int hi, .int ta])), (qp, .inr (1, [.ref qf])), (qf, .inr (0, [.ref qb, .ref qe, .int od, .int ot, .int tm])), (qb, .inl (cA, 32, .inl bb)), (qe, .inl (cE, 2, .inl gg)), (qm, .inr (3, [.int pl, .int ul, .int pk, .int ac, .int ag, .int pn, .int pt, .int ut, .int en, .int og, .int pw2, .int hd, .int tn, .int tk, .int ar, .int dn, .int e0, .int e1]))] ∧ va_S (fun q : Nat => s.heap.size ≤ q) s.heap H locs ∧ lv_has ls 4 [(0, .ref b), (1, .ref qx), (2, .ref qm), (3, .int (nI i))]) ?_ 1596 ⟨4, bb, gg, pw, hi, ta, od, ot, tm, ac, ag, pn, pt, ut, en, og, pw2, hd, tn, tk, ar, dn, e0, e1, rfl, hR, hP, hD, hS, hl⟩
  intro n H locs ls ih hI
  obtain ⟨i, bb, gg, pw, hi, ta, od, ot, tm, ac, ag, pn, pt, ut, en, og, pw2, hd, tn, tk, ar, dn, e0, e1, hin, hR, hP, hD, hS, hl⟩ := hI
  refine lv_iload_n hx hb dL_law_58 rfl (lv_at hl 3 rfl) ?_
  refine lv_aload_n hx hb dL_law_59 rfl (lv_at hl 0 rfl) ?_
  refine va_slen hx hb hX hbl hbA hS dL_law_60 ?_
  refine lv_iconst (v := 3) hx hb dL_law_61 (by decide) ?_
  refine lv_isub hx hb dL_law_62 ?_
  refine lv_icmp_gt (tgt := 429) hx hb dL_law_63 (by decide) (fun c_1 => ?_) (fun c_1 => ?_)
  · refine lv_iconst (v := 1) hx hb dL_law_429 (by decide) ?_
    refine va_forget (fun q hq => hS.2.2 q hq) ?_
    exact lw_ret hx hb hr hlocks dL_law_430
  have hi3 : i + 3 ≤ L := tt_lawc hL (by omega) c_1
  have kk : ∀ (bb' gg' : Nat → Int32) (pw' hi' ta' od' ot' tm' ac' ag' pn' pt' ut' en' og' pw2' hd' tn' tk' ar' dn' e0' e1' : Int32) (H : Heap) (locs : List Loc) (ls : Array Slot), tt_R (pw', hi', ta', bb', gg', od', ot', tm') (ac', ag', pn', pt', ut', en', og', pw2', hd', tn', tk', ar', dn', e0', e1') → va_P (dC, dI) ttCl [(qx, .inr (2, [.ref qf, .ref qp, .int pk, .int pl, .int ul, .int pw', .int hi', .int ta'])), (qp, .inr (1, [.ref qf])), (qf, .inr (0, [.ref qb, .ref qe, .int od', .int ot', .int tm'])), (qb, .inl (cA, 32, .inl bb')), (qe, .inl (cE, 2, .inl gg')), (qm, .inr (3, [.int pl, .int ul, .int pk, .int ac', .int ag', .int pn', .int pt', .int ut', .int en', .int og', .int pw2', .int hd', .int tn', .int tk', .int ar', .int dn', .int e0', .int e1']))] H → va_D (fun q : Nat => s.heap.size ≤ q) [(qx, .inr (2, [.ref qf, .ref qp, .int pk, .int pl, .int ul, .int pw', .int hi', .int ta'])), (qp, .inr (1, [.ref qf])), (qf, .inr (0, [.ref qb, .ref qe, .int od', .int ot', .int tm'])), (qb, .inl (cA, 32, .inl bb')), (qe, .inl (cE, 2, .inl gg')), (qm, .inr (3, [.int pl, .int ul, .int pk, .int ac', .int ag', .int pn', .int pt', .int ut', .int en', .int og', .int pw2', .int hd', .int tn', .int tk', .int ar', .int dn', .int e0', .int e1']))] → va_S (fun q : Nat => s.heap.size ≤ q) s.heap H locs → lv_has ls 4 [(0, .ref b), (1, .ref qx), (2, .ref qm), (3, .int (nI i))] → W p l e room_1 s m #[Value.ref b] below meth c H locs 6 66 (lw_Z below #[Value.ref b] s) (F0 m 423 ls []) := by
    intro bb' gg' pw' hi' ta' od' ot' tm' ac' ag' pn' pt' ut' en' og' pw2' hd' tn' tk' ar' dn' e0' e1' H locs ls hR hP hD hS hl
    refine lv_iinc (v := nI i + 3) (lv' := [(3, .int (nI i + 3)), (0, .ref b), (1, .ref qx), (2, .ref qm)]) hx hb dL_law_423 hl (k := 3) rfl rfl (by decide) rfl (fun ls hl => ?_)
    refine lv_goto (tgt := 58) hx hb dL_law_426 (by decide) ?_
    refine ih (n - 3) (by omega) _ _ _ ⟨i + 3, bb', gg', pw', hi', ta', od', ot', tm', ac', ag', pn', pt', ut', en', og', pw2', hd', tn', tk', ar', dn', e0', e1', by omega, hR, hP, hD, hS, ?_⟩
    rw [show nI (i + 3) = nI i + 3 from (nI_add i 3).symm]
    exact lv_sub hl [1, 2, 3, 0] rfl
  refine lv_aload_n hx hb dL_law_66 rfl (lv_at hl 0 rfl) ?_
  refine lv_iload_n hx hb dL_law_67 rfl (lv_at hl 3 rfl) ?_
  refine va_sld hx hb hX hbl hbA hS (tt_inL0 hi3 hL) dL_law_68 ?_
  refine lv_bipush (v := 15) hx hb dL_law_69 (by decide) ?_
  refine lv_iand hx hb dL_law_71 ?_
  obtain ⟨j, hj, ej⟩ := pk_andE (xs (nI i).toNatClampNeg) (m := 15) 4 (by decide)
  rw [ej]
  rcases (show j = 0 ∨ j = 1 ∨ j = 2 ∨ j = 3 ∨ j = 4 ∨ j = 5 ∨ j = 6 ∨ j = 7 ∨ j = 8 ∨ j = 9 ∨ j = 10 ∨ j = 11 ∨ j = 12 ∨ j = 13 ∨ j = 14 ∨ j = 15 by omega) with rfl | rfl | rfl | rfl | rfl | rfl | rfl | rfl | rfl | rfl | rfl | rfl | rfl | rfl | rfl | rfl
  · refine lv_tableIn (off := 76) (tgt := 148) hx hb dL_law_72 (by decide +kernel) (by decide +kernel) (by decide +kernel) (by decide) ?_
    exact law_case_0 hL C1 hPL hUL epl eul hR hi3 hK hP hD hS hl kk
  · refine lv_tableIn (off := 99) (tgt := 171) hx hb dL_law_72 (by decide +kernel) (by decide +kernel) (by decide +kernel) (by decide) ?_
    exact law_case_1 hL C1 hPL hUL epl eul hR hi3 hK hP hD hS hl kk
  · refine lv_tableIn (off := 132) (tgt := 204) hx hb dL_law_72 (by decide +kernel) (by decide +kernel) (by decide +kernel) (by decide) ?_
    exact law_case_2 hL C1 hPL hUL epl eul hR hi3 hK hP hD hS hl kk
  · refine lv_tableIn (off := 165) (tgt := 237) hx hb dL_law_72 (by decide +kernel) (by decide +kernel) (by decide +kernel) (by decide) ?_
    exact law_case_3 hL C1 hPL hUL epl eul hR hi3 hK hP hD hS hl kk
  · refine lv_tableIn (off := 198) (tgt := 270) hx hb dL_law_72 (by decide +kernel) (by decide +kernel) (by decide +kernel) (by decide) ?_
    exact law_case_4 hL C1 hPL hUL epl eul hR hi3 hK hP hD hS hl kk
  · refine lv_tableIn (off := 211) (tgt := 283) hx hb dL_law_72 (by decide +kernel) (by decide +kernel) (by decide +kernel) (by decide) ?_
    exact law_case_5 hL C1 hPL hUL epl eul hR hi3 hK hP hD hS hl kk
  · refine lv_tableIn (off := 224) (tgt := 296) hx hb dL_law_72 (by decide +kernel) (by decide +kernel) (by decide +kernel) (by decide) ?_
    exact law_case_6 hL C1 hPL hUL epl eul hR hi3 hK hP hD hS hl kk
  · refine lv_tableIn (off := 237) (tgt := 309) hx hb dL_law_72 (by decide +kernel) (by decide +kernel) (by decide +kernel) (by decide) ?_
    exact law_case_7 hL C1 hPL hUL epl eul hR hi3 hK hP hD hS hl kk
  · refine lv_tableIn (off := 250) (tgt := 322) hx hb dL_law_72 (by decide +kernel) (by decide +kernel) (by decide +kernel) (by decide) ?_
    exact law_case_8 hL C1 hPL hUL epl eul hR hi3 hK hP hD hS hl kk
  · refine lv_tableIn (off := 263) (tgt := 335) hx hb dL_law_72 (by decide +kernel) (by decide +kernel) (by decide +kernel) (by decide) ?_
    exact law_case_9 hL C1 hPL hUL epl eul hR hi3 hK hP hD hS hl kk
  · refine lv_tableIn (off := 276) (tgt := 348) hx hb dL_law_72 (by decide +kernel) (by decide +kernel) (by decide +kernel) (by decide) ?_
    exact law_case_10 hL C1 hPL hUL epl eul hR hi3 hK hP hD hS hl kk
  · refine lv_tableIn (off := 289) (tgt := 361) hx hb dL_law_72 (by decide +kernel) (by decide +kernel) (by decide +kernel) (by decide) ?_
    exact law_case_11 hL C1 hPL hUL epl eul hR hi3 hK hP hD hS hl kk
  · refine lv_tableIn (off := 302) (tgt := 374) hx hb dL_law_72 (by decide +kernel) (by decide +kernel) (by decide +kernel) (by decide) ?_
    exact law_case_12 hL C1 hPL hUL epl eul hR hi3 hK hP hD hS hl kk
  · refine lv_tableIn (off := 315) (tgt := 387) hx hb dL_law_72 (by decide +kernel) (by decide +kernel) (by decide +kernel) (by decide) ?_
    exact law_case_13 hL C1 hPL hUL epl eul hR hi3 hK hP hD hS hl kk
  · refine lv_tableIn (off := 328) (tgt := 400) hx hb dL_law_72 (by decide +kernel) (by decide +kernel) (by decide +kernel) (by decide) ?_
    exact law_case_14 hL C1 hPL hUL epl eul hR hi3 hK hP hD hS hl kk
  · refine lv_tableOut (tgt := 423) hx hb dL_law_72 (by decide +kernel) (by decide) ?_
    exact kk bb gg pw hi ta od ot tm ac ag pn pt ut en og pw2 hd tn tk ar dn e0 e1 _ _ _ hR hP hD hS hl
