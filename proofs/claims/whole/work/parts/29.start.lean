set_option maxHeartbeats 4000000 in
set_option maxRecDepth 100000 in
theorem whole_start {p : Program} {e : Env} {s : State} {m : MethodId} {below : List Frame} {meth : Method} {c : Code} (l : Launch) {b L : Nat} {xs : Nat → Int32} (hL : L ≤ 1540) (C0 : lw_At p s m meth c b L xs) : W p l e room_1 s m #[Value.ref b] below meth c s.heap [] 0 0 (lw_Z below #[Value.ref b] s) (entryFrame m ([Value.ref b] : List Value).toArray 4) := by
  obtain ⟨hx, hb, hr, hml, hown, hts0, hX, hbl, hlocks, hgv⟩ := id C0
  have hA : ∀ q : Nat, s.heap.size ≤ q → (fun q : Nat => s.heap.size ≤ q) q := fun _ h => h
  have hbA : ¬ (fun q : Nat => s.heap.size ≤ q) b := Nat.not_le.mpr hbl
  obtain ⟨c0, iS0, hKn0⟩ := u_known (C := RX0) (T := TX0) (N := 5) (n := 5) hts0 inX0 (hts0 (.instantiable RX0 5) (by decide +kernel))
  obtain ⟨c1, iS1, hKn1⟩ := u_known (C := RX1) (T := TX1) (N := 1) (n := 1) hts0 inX1 (hts0 (.instantiable RX1 1) (by decide +kernel))
  obtain ⟨c2, iS2, hKn2⟩ := u_known (C := RX2) (T := TX2) (N := 8) (n := 8) hts0 inX2 (hts0 (.instantiable RX2 8) (by decide +kernel))
  obtain ⟨c3, iS3, hKn3⟩ := u_known (C := RM) (T := TM) (N := 18) (n := 18) hts0 inM (hts0 (.instantiable RM 18) (by decide +kernel))
  obtain ⟨dC, dI, hKc⟩ : ∃ (dC : Nat → ClassId) (dI : Nat → Nat → Nat), ∀ (k : Nat) (q : vw_C), ttCl[k]? = some q → u_Kn s q.1 q.2.1 q.2.2 (dC k) (dI k) := by
    refine ⟨fun k => if k = 0 then c0 else if k = 1 then c1 else if k = 2 then c2 else c3, fun k => if k = 0 then iS0 else if k = 1 then iS1 else if k = 2 then iS2 else iS3, ?_⟩
    intro k q hq
    match k, hq with
    | 0, hq => cases hq; exact hKn0
    | 1, hq => cases hq; exact hKn1
    | 2, hq => cases hq; exact hKn2
    | 3, hq => cases hq; exact hKn3
    | k + 4, hq => simp [ttCl] at hq
  have hts := hts0
  have hS : va_S (fun q : Nat => s.heap.size ≤ q) s.heap s.heap [] := va_S.rf
  have hK : va_K (dC, dI) ttCl [] s := ⟨hKc, fun k q h => by simp at h⟩
  have hP : va_P (dC, dI) ttCl [] s.heap := fun k q h => by simp at h
  have hD : va_D (fun q : Nat => s.heap.size ≤ q) [] := ⟨fun i j p q h => by simp at h, fun k q h => by simp at h⟩
  have hl := lv_entry ([.ref b]) (n := 4) (Nat.le_of_ble_eq_true rfl)
  rw [lg_entry_eq]
  generalize (lg_sl ([.ref b]) ++ List.replicate (4 - (lg_sl ([.ref b])).length) Slot.unset).toArray = ls at hl ⊢
  have hl : lv_has ls 4 [(0, .ref b)] := hl
  refine va_new (ci := 2) (fs := [.null, .null, .int 0, .int 0, .int 0, .int 0, .int 0, .int 0]) (C := RX2) (T := TX2) (N := 8) hx hb hts (by decide +kernel) tyX2 tyX2_ok hown (hts (.classLink RL 7 RX2) (by decide +kernel)) (hts (.instantiable RX2 8) (by decide +kernel)) (hts (.initialized RX2) (by decide +kernel)) hK hP hD hS hA rfl (fun j hj => by rcases (show j = 0 ∨ j = 1 ∨ j = 2 ∨ j = 3 ∨ j = 4 ∨ j = 5 ∨ j = 6 ∨ j = 7 by omega) with rfl | rfl | rfl | rfl | rfl | rfl | rfl | rfl <;> rfl) (Nat.le_of_ble_eq_true rfl) (Nat.le_of_ble_eq_true rfl) dL_law_0 (fun qn0 H hP hD hS => ?_)
  have hP : va_P (dC, dI) ttCl [(qn0, .inr (2, [.null, .null, .int 0, .int 0, .int 0, .int 0, .int 0, .int 0]))] H := hP
  have hD : va_D (fun q : Nat => s.heap.size ≤ q) [(qn0, .inr (2, [.null, .null, .int 0, .int 0, .int 0, .int 0, .int 0, .int 0]))] := hD
  refine W.widen (k := 1) (n := 8) (by omega) (by omega) ?_
  refine lv_dup hx hb dL_law_3 rfl ?_
  refine lv_aload_n hx hb dL_law_4 rfl (lv_at hl 0 rfl) ?_
  refine lv_iconst (v := 0) hx hb dL_law_5 (by decide) ?_
  have hPc := hP.sub (ws' := []) [] rfl
  have hDc := hD.sub (ws' := []) [] (by decide) rfl
  have hKc := hK.sub (tys' := []) [] rfl
  have hFc := va_free (wc := []) hD hS hA [] rfl
  refine va_calli (va_runS (As := [.ref b, .int 0]) (rest := [.ref qn0, .ref qn0]) ⟨hx, hb, hml, hown, hts⟩ (c_L_cell l dC dI b L (H.size) xs 0 (by decide) (by omega) (Nat.lt_of_lt_of_le hbl hS.1)) (va_cwS 2 hts gL_law_L_cell rfl rfl rfl (by decide +kernel) ⟨Nat.le_of_ble_eq_true rfl, Nat.le_of_ble_eq_true rfl⟩) ⟨fun a U g mk q => by obtain ⟨q0, q1, qP, qK, qD, qX⟩ := q; exact ⟨q0, q1, qP, va_K.moved (u := U) (U := U.calling g mk a) (Vm.Alike.refl U.vm) qK, qD, va_X.moved (u := U) (U := U.calling g mk a) (Vm.Alike.refl U.vm) qX⟩, fun U hU hW => ⟨rfl, by rw [hU], by rw [hU]; exact hPc, va_K.moved hW.alike hKc, hDc.weaken (fun _ _ _ _ => trivial), by rw [hU]; exact va_X.moved hW.alike (hX.kept (hS.2.1 b hbl hbA))⟩⟩ rfl rfl hl.1 rfl (lv_room (Nat.le_of_ble_eq_true rfl)) dL_law_6 ⟨Nat.le_of_ble_eq_true rfl, Nat.le_of_ble_eq_true rfl⟩) hS (fun q _ h => hFc q h) hFc (fun r_1 u t H locs ht hvm hw hB hz1 hk1 hS => ?_)
  have hw : tt_cell L xs 0 = r_1 := hw.symm
  subst hw
  obtain ⟨hP1, hK1, hD1⟩ := hB
  rw [ht] at hP1
  obtain ⟨hP, hD⟩ := va_join (wr := [(qn0, .inr (2, [.null, .null, .int 0, .int 0, .int 0, .int 0, .int 0, .int 0]))]) (w1 := []) hP hD [] [0] rfl rfl (by decide) (by decide) hk1 hFc hP1 hD1
  have hP : va_P (dC, dI) ttCl [(qn0, .inr (2, [.null, .null, .int 0, .int 0, .int 0, .int 0, .int 0, .int 0]))] H := hP
  have hD : va_D (fun q : Nat => s.heap.size ≤ q) [(qn0, .inr (2, [.null, .null, .int 0, .int 0, .int 0, .int 0, .int 0, .int 0]))] := hD
  refine lv_aload_n hx hb dL_law_9 rfl (lv_at hl 0 rfl) ?_
  refine lv_iconst (v := 1) hx hb dL_law_10 (by decide) ?_
  have hPc := hP.sub (ws' := []) [] rfl
  have hDc := hD.sub (ws' := []) [] (by decide) rfl
  have hKc := hK.sub (tys' := []) [] rfl
  have hFc := va_free (wc := []) hD hS hA [] rfl
  refine va_calli (va_runS (As := [.ref b, .int 1]) (rest := [.int (tt_cell L xs 0), .ref qn0, .ref qn0]) ⟨hx, hb, hml, hown, hts⟩ (c_L_cell l dC dI b L (H.size) xs 1 (by decide) (by omega) (Nat.lt_of_lt_of_le hbl hS.1)) (va_cwS 2 hts gL_law_L_cell rfl rfl rfl (by decide +kernel) ⟨Nat.le_of_ble_eq_true rfl, Nat.le_of_ble_eq_true rfl⟩) ⟨fun a U g mk q => by obtain ⟨q0, q1, qP, qK, qD, qX⟩ := q; exact ⟨q0, q1, qP, va_K.moved (u := U) (U := U.calling g mk a) (Vm.Alike.refl U.vm) qK, qD, va_X.moved (u := U) (U := U.calling g mk a) (Vm.Alike.refl U.vm) qX⟩, fun U hU hW => ⟨rfl, by rw [hU], by rw [hU]; exact hPc, va_K.moved hW.alike hKc, hDc.weaken (fun _ _ _ _ => trivial), by rw [hU]; exact va_X.moved hW.alike (hX.kept (hS.2.1 b hbl hbA))⟩⟩ rfl rfl hl.1 rfl (lv_room (Nat.le_of_ble_eq_true rfl)) dL_law_11 ⟨Nat.le_of_ble_eq_true rfl, Nat.le_of_ble_eq_true rfl⟩) hS (fun q _ h => hFc q h) hFc (fun r_2 u t H locs ht hvm hw hB hz1 hk1 hS => ?_)
  have hw : tt_cell L xs 1 = r_2 := hw.symm
  subst hw
  obtain ⟨hP1, hK1, hD1⟩ := hB
  rw [ht] at hP1
  obtain ⟨hP, hD⟩ := va_join (wr := [(qn0, .inr (2, [.null, .null, .int 0, .int 0, .int 0, .int 0, .int 0, .int 0]))]) (w1 := []) hP hD [] [0] rfl rfl (by decide) (by decide) hk1 hFc hP1 hD1
  have hP : va_P (dC, dI) ttCl [(qn0, .inr (2, [.null, .null, .int 0, .int 0, .int 0, .int 0, .int 0, .int 0]))] H := hP
  have hD : va_D (fun q : Nat => s.heap.size ≤ q) [(qn0, .inr (2, [.null, .null, .int 0, .int 0, .int 0, .int 0, .int 0, .int 0]))] := hD
  refine lv_aload_n hx hb dL_law_14 rfl (lv_at hl 0 rfl) ?_
  refine lv_iconst (v := 2) hx hb dL_law_15 (by decide) ?_
  have hPc := hP.sub (ws' := []) [] rfl
  have hDc := hD.sub (ws' := []) [] (by decide) rfl
  have hKc := hK.sub (tys' := []) [] rfl
  have hFc := va_free (wc := []) hD hS hA [] rfl
  refine va_calli (va_runS (As := [.ref b, .int 2]) (rest := [.int (tt_cell L xs 1), .int (tt_cell L xs 0), .ref qn0, .ref qn0]) ⟨hx, hb, hml, hown, hts⟩ (c_L_cell l dC dI b L (H.size) xs 2 (by decide) (by omega) (Nat.lt_of_lt_of_le hbl hS.1)) (va_cwS 2 hts gL_law_L_cell rfl rfl rfl (by decide +kernel) ⟨Nat.le_of_ble_eq_true rfl, Nat.le_of_ble_eq_true rfl⟩) ⟨fun a U g mk q => by obtain ⟨q0, q1, qP, qK, qD, qX⟩ := q; exact ⟨q0, q1, qP, va_K.moved (u := U) (U := U.calling g mk a) (Vm.Alike.refl U.vm) qK, qD, va_X.moved (u := U) (U := U.calling g mk a) (Vm.Alike.refl U.vm) qX⟩, fun U hU hW => ⟨rfl, by rw [hU], by rw [hU]; exact hPc, va_K.moved hW.alike hKc, hDc.weaken (fun _ _ _ _ => trivial), by rw [hU]; exact va_X.moved hW.alike (hX.kept (hS.2.1 b hbl hbA))⟩⟩ rfl rfl hl.1 rfl (lv_room (Nat.le_of_ble_eq_true rfl)) dL_law_16 ⟨Nat.le_of_ble_eq_true rfl, Nat.le_of_ble_eq_true rfl⟩) hS (fun q _ h => hFc q h) hFc (fun r_3 u t H locs ht hvm hw hB hz1 hk1 hS => ?_)
  have hw : tt_cell L xs 2 = r_3 := hw.symm
  subst hw
  obtain ⟨hP1, hK1, hD1⟩ := hB
  rw [ht] at hP1
  obtain ⟨hP, hD⟩ := va_join (wr := [(qn0, .inr (2, [.null, .null, .int 0, .int 0, .int 0, .int 0, .int 0, .int 0]))]) (w1 := []) hP hD [] [0] rfl rfl (by decide) (by decide) hk1 hFc hP1 hD1
  have hP : va_P (dC, dI) ttCl [(qn0, .inr (2, [.null, .null, .int 0, .int 0, .int 0, .int 0, .int 0, .int 0]))] H := hP
  have hD : va_D (fun q : Nat => s.heap.size ≤ q) [(qn0, .inr (2, [.null, .null, .int 0, .int 0, .int 0, .int 0, .int 0, .int 0]))] := hD
  refine lv_aload_n hx hb dL_law_19 rfl (lv_at hl 0 rfl) ?_
  refine lv_iconst (v := 3) hx hb dL_law_20 (by decide) ?_
  have hPc := hP.sub (ws' := []) [] rfl
  have hDc := hD.sub (ws' := []) [] (by decide) rfl
  have hKc := hK.sub (tys' := []) [] rfl
  have hFc := va_free (wc := []) hD hS hA [] rfl
  refine va_calli (va_runS (As := [.ref b, .int 3]) (rest := [.int (tt_cell L xs 2), .int (tt_cell L xs 1), .int (tt_cell L xs 0), .ref qn0, .ref qn0]) ⟨hx, hb, hml, hown, hts⟩ (c_L_cell l dC dI b L (H.size) xs 3 (by decide) (by omega) (Nat.lt_of_lt_of_le hbl hS.1)) (va_cwS 2 hts gL_law_L_cell rfl rfl rfl (by decide +kernel) ⟨Nat.le_of_ble_eq_true rfl, Nat.le_of_ble_eq_true rfl⟩) ⟨fun a U g mk q => by obtain ⟨q0, q1, qP, qK, qD, qX⟩ := q; exact ⟨q0, q1, qP, va_K.moved (u := U) (U := U.calling g mk a) (Vm.Alike.refl U.vm) qK, qD, va_X.moved (u := U) (U := U.calling g mk a) (Vm.Alike.refl U.vm) qX⟩, fun U hU hW => ⟨rfl, by rw [hU], by rw [hU]; exact hPc, va_K.moved hW.alike hKc, hDc.weaken (fun _ _ _ _ => trivial), by rw [hU]; exact va_X.moved hW.alike (hX.kept (hS.2.1 b hbl hbA))⟩⟩ rfl rfl hl.1 rfl (lv_room (Nat.le_of_ble_eq_true rfl)) dL_law_21 ⟨Nat.le_of_ble_eq_true rfl, Nat.le_of_ble_eq_true rfl⟩) hS (fun q _ h => hFc q h) hFc (fun r_4 u t H locs ht hvm hw hB hz1 hk1 hS => ?_)
  have hw : tt_cell L xs 3 = r_4 := hw.symm
  subst hw
  obtain ⟨hP1, hK1, hD1⟩ := hB
  rw [ht] at hP1
  obtain ⟨hP, hD⟩ := va_join (wr := [(qn0, .inr (2, [.null, .null, .int 0, .int 0, .int 0, .int 0, .int 0, .int 0]))]) (w1 := []) hP hD [] [0] rfl rfl (by decide) (by decide) hk1 hFc hP1 hD1
  have hP : va_P (dC, dI) ttCl [(qn0, .inr (2, [.null, .null, .int 0, .int 0, .int 0, .int 0, .int 0, .int 0]))] H := hP
  have hD : va_D (fun q : Nat => s.heap.size ≤ q) [(qn0, .inr (2, [.null, .null, .int 0, .int 0, .int 0, .int 0, .int 0, .int 0]))] := hD
  have hPc := hP.sub (ws' := [(qn0, .inr (2, [.null, .null, .int 0, .int 0, .int 0, .int 0, .int 0, .int 0]))]) [0] rfl
  have hDc := hD.sub (ws' := [(qn0, .inr (2, [.null, .null, .int 0, .int 0, .int 0, .int 0, .int 0, .int 0]))]) [0] (by decide) rfl
  have hKc := hK.sub (tys' := []) [] rfl
  have hFc := va_free (wc := [(qn0, .inr (2, [.null, .null, .int 0, .int 0, .int 0, .int 0, .int 0, .int 0]))]) hD hS hA [0] rfl
  refine va_callv (va_runI (As := [.int (tt_cell L xs 0), .int (tt_cell L xs 1), .int (tt_cell L xs 2), .int (tt_cell L xs 3)]) (rest := [.ref qn0]) ⟨hx, hb, hml, hown, hts⟩ (c_X_init l dC dI qn0 (H.size) (tt_cell L xs 0) (tt_cell L xs 1) (tt_cell L xs 2) (tt_cell L xs 3)) (cwI 4 hts gL_law_X2_init rfl rfl rfl (hts (.initialized RX2) (by decide +kernel)) (hts (.methodLink RL 15 yX2_init) (by decide +kernel)) (hts (.instanceMethod yX2_init) (by decide +kernel)) rfl (by decide +kernel) ⟨Nat.le_of_ble_eq_true rfl, Nat.le_of_ble_eq_true rfl⟩) ⟨fun a U g mk q => by obtain ⟨q0, q1, qP, qK, qD⟩ := q; exact ⟨q0, q1, qP, va_K.moved (u := U) (U := U.calling g mk a) (Vm.Alike.refl U.vm) qK, qD⟩, fun U hU hW => ⟨rfl, by rw [hU], by rw [hU]; exact hPc, va_K.moved hW.alike hKc, hDc.weaken (fun _ _ _ _ => trivial)⟩⟩ rfl rfl hl.1 rfl (lv_room (Nat.le_of_ble_eq_true rfl)) dL_law_24 ⟨Nat.le_of_ble_eq_true rfl, Nat.le_of_ble_eq_true rfl⟩) hS (fun q _ h => hFc q h) hFc (fun u t H locs ht hvm hw hB hz1 hk1 hS => ?_)
  obtain ⟨qp, qf, qb, qe, cA, cE, hP1, hK1, hD1⟩ := hB
  rw [ht] at hP1
  obtain ⟨hP, hD⟩ := va_join (wr := []) (w1 := [(qn0, .inr (2, [.ref qf, .ref qp, .int (tt_cell L xs 1), .int (tt_lim (tt_cell L xs 2) 3), .int (tt_lim (tt_cell L xs 3) 5), .int 1, .int 0, .int 0])), (qp, .inr (1, [.ref qf])), (qf, .inr (0, [.ref qb, .ref qe, .int 0, .int 0, .int 0])), (qb, .inl (cA, 32, .inl (tt_pres (tt_fl 32) ((tt_cell L xs 0) &&& 65535)))), (qe, .inl (cE, 2, .inl (fun _ => 0)))]) hP hD [0] [] rfl rfl (by decide) (by decide) hk1 hFc hP1 hD1
  have hK := hK.app (va_K.moved hvm.symm hK1)
  have hK : va_K (dC, dI) ttCl [(cA, .int), (cE, .int)] s := hK
  have hP : va_P (dC, dI) ttCl [(qn0, .inr (2, [.ref qf, .ref qp, .int (tt_cell L xs 1), .int (tt_lim (tt_cell L xs 2) 3), .int (tt_lim (tt_cell L xs 3) 5), .int 1, .int 0, .int 0])), (qp, .inr (1, [.ref qf])), (qf, .inr (0, [.ref qb, .ref qe, .int 0, .int 0, .int 0])), (qb, .inl (cA, 32, .inl (tt_pres (tt_fl 32) ((tt_cell L xs 0) &&& 65535)))), (qe, .inl (cE, 2, .inl (fun _ => 0)))] H := hP
  have hD : va_D (fun q : Nat => s.heap.size ≤ q) [(qn0, .inr (2, [.ref qf, .ref qp, .int (tt_cell L xs 1), .int (tt_lim (tt_cell L xs 2) 3), .int (tt_lim (tt_cell L xs 3) 5), .int 1, .int 0, .int 0])), (qp, .inr (1, [.ref qf])), (qf, .inr (0, [.ref qb, .ref qe, .int 0, .int 0, .int 0])), (qb, .inl (cA, 32, .inl (tt_pres (tt_fl 32) ((tt_cell L xs 0) &&& 65535)))), (qe, .inl (cE, 2, .inl (fun _ => 0)))] := hD
  refine W.widen (k := 5) (n := 48) (by omega) (by omega) ?_
  refine lv_astore_n (lv' := [(1, .ref qn0), (0, .ref b)]) hx hb dL_law_27 rfl hl (by decide) rfl (fun ls hl => ?_)
  refine va_new (ci := 3) (fs := [.int 0, .int 0, .int 0, .int 0, .int 0, .int 0, .int 0, .int 0, .int 0, .int 0, .int 0, .int 0, .int 0, .int 0, .int 0, .int 0, .int 0, .int 0]) (C := RM) (T := TM) (N := 18) hx hb hts (by decide +kernel) tyM tyM_ok hown (hts (.classLink RL 18 RM) (by decide +kernel)) (hts (.instantiable RM 18) (by decide +kernel)) (hts (.initialized RM) (by decide +kernel)) hK hP hD hS hA rfl (fun j hj => by rcases (show j = 0 ∨ j = 1 ∨ j = 2 ∨ j = 3 ∨ j = 4 ∨ j = 5 ∨ j = 6 ∨ j = 7 ∨ j = 8 ∨ j = 9 ∨ j = 10 ∨ j = 11 ∨ j = 12 ∨ j = 13 ∨ j = 14 ∨ j = 15 ∨ j = 16 ∨ j = 17 by omega) with rfl | rfl | rfl | rfl | rfl | rfl | rfl | rfl | rfl | rfl | rfl | rfl | rfl | rfl | rfl | rfl | rfl | rfl <;> rfl) (Nat.le_of_ble_eq_true rfl) (Nat.le_of_ble_eq_true rfl) dL_law_28 (fun qn28 H hP hD hS => ?_)
  have hP : va_P (dC, dI) ttCl [(qn0, .inr (2, [.ref qf, .ref qp, .int (tt_cell L xs 1), .int (tt_lim (tt_cell L xs 2) 3), .int (tt_lim (tt_cell L xs 3) 5), .int 1, .int 0, .int 0])), (qp, .inr (1, [.ref qf])), (qf, .inr (0, [.ref qb, .ref qe, .int 0, .int 0, .int 0])), (qb, .inl (cA, 32, .inl (tt_pres (tt_fl 32) ((tt_cell L xs 0) &&& 65535)))), (qe, .inl (cE, 2, .inl (fun _ => 0))), (qn28, .inr (3, [.int 0, .int 0, .int 0, .int 0, .int 0, .int 0, .int 0, .int 0, .int 0, .int 0, .int 0, .int 0, .int 0, .int 0, .int 0, .int 0, .int 0, .int 0]))] H := hP
  have hD : va_D (fun q : Nat => s.heap.size ≤ q) [(qn0, .inr (2, [.ref qf, .ref qp, .int (tt_cell L xs 1), .int (tt_lim (tt_cell L xs 2) 3), .int (tt_lim (tt_cell L xs 3) 5), .int 1, .int 0, .int 0])), (qp, .inr (1, [.ref qf])), (qf, .inr (0, [.ref qb, .ref qe, .int 0, .int 0, .int 0])), (qb, .inl (cA, 32, .inl (tt_pres (tt_fl 32) ((tt_cell L xs 0) &&& 65535)))), (qe, .inl (cE, 2, .inl (fun _ => 0))), (qn28, .inr (3, [.int 0, .int 0, .int 0, .int 0, .int 0, .int 0, .int 0, .int 0, .int 0, .int 0, .int 0, .int 0, .int 0, .int 0, .int 0, .int 0, .int 0, .int 0]))] := hD
  refine W.widen (k := 6) (n := 66) (by omega) (by omega) ?_
  refine lv_dup hx hb dL_law_31 rfl ?_
  refine lv_aload_n hx hb dL_law_32 rfl (lv_at hl 1 rfl) ?_
  refine lv_iconst (v := 0) hx hb dL_law_33 (by decide) ?_
  have hPc := hP.sub (ws' := []) [] rfl
  have hDc := hD.sub (ws' := []) [] (by decide) rfl
  have hKc := hK.sub (tys' := []) [] rfl
  have hFc := va_free (wc := []) hD hS hA [] rfl
  refine va_calli (va_runS (As := [.ref b, .int 0]) (rest := [.ref qn28, .ref qn28]) ⟨hx, hb, hml, hown, hts⟩ (c_L_cell l dC dI b L (H.size) xs 0 (by decide) (by omega) (Nat.lt_of_lt_of_le hbl hS.1)) (va_cwS 2 hts gL_law_L_cell rfl rfl rfl (by decide +kernel) ⟨Nat.le_of_ble_eq_true rfl, Nat.le_of_ble_eq_true rfl⟩) ⟨fun a U g mk q => by obtain ⟨q0, q1, qP, qK, qD, qX⟩ := q; exact ⟨q0, q1, qP, va_K.moved (u := U) (U := U.calling g mk a) (Vm.Alike.refl U.vm) qK, qD, va_X.moved (u := U) (U := U.calling g mk a) (Vm.Alike.refl U.vm) qX⟩, fun U hU hW => ⟨rfl, by rw [hU], by rw [hU]; exact hPc, va_K.moved hW.alike hKc, hDc.weaken (fun _ _ _ _ => trivial), by rw [hU]; exact va_X.moved hW.alike (hX.kept (hS.2.1 b hbl hbA))⟩⟩ rfl rfl hl.1 rfl (lv_room (Nat.le_of_ble_eq_true rfl)) dL_law_34 ⟨Nat.le_of_ble_eq_true rfl, Nat.le_of_ble_eq_true rfl⟩) hS (fun q _ h => hFc q h) hFc (fun r_6 u t H locs ht hvm hw hB hz1 hk1 hS => ?_)
  have hw : tt_cell L xs 0 = r_6 := hw.symm
  subst hw
  obtain ⟨hP1, hK1, hD1⟩ := hB
  rw [ht] at hP1
  obtain ⟨hP, hD⟩ := va_join (wr := [(qn0, .inr (2, [.ref qf, .ref qp, .int (tt_cell L xs 1), .int (tt_lim (tt_cell L xs 2) 3), .int (tt_lim (tt_cell L xs 3) 5), .int 1, .int 0, .int 0])), (qp, .inr (1, [.ref qf])), (qf, .inr (0, [.ref qb, .ref qe, .int 0, .int 0, .int 0])), (qb, .inl (cA, 32, .inl (tt_pres (tt_fl 32) ((tt_cell L xs 0) &&& 65535)))), (qe, .inl (cE, 2, .inl (fun _ => 0))), (qn28, .inr (3, [.int 0, .int 0, .int 0, .int 0, .int 0, .int 0, .int 0, .int 0, .int 0, .int 0, .int 0, .int 0, .int 0, .int 0, .int 0, .int 0, .int 0, .int 0]))]) (w1 := []) hP hD [] [0, 1, 2, 3, 4, 5] rfl rfl (by decide) (by decide) hk1 hFc hP1 hD1
  have hP : va_P (dC, dI) ttCl [(qn0, .inr (2, [.ref qf, .ref qp, .int (tt_cell L xs 1), .int (tt_lim (tt_cell L xs 2) 3), .int (tt_lim (tt_cell L xs 3) 5), .int 1, .int 0, .int 0])), (qp, .inr (1, [.ref qf])), (qf, .inr (0, [.ref qb, .ref qe, .int 0, .int 0, .int 0])), (qb, .inl (cA, 32, .inl (tt_pres (tt_fl 32) ((tt_cell L xs 0) &&& 65535)))), (qe, .inl (cE, 2, .inl (fun _ => 0))), (qn28, .inr (3, [.int 0, .int 0, .int 0, .int 0, .int 0, .int 0, .int 0, .int 0, .int 0, .int 0, .int 0, .int 0, .int 0, .int 0, .int 0, .int 0, .int 0, .int 0]))] H := hP
  have hD : va_D (fun q : Nat => s.heap.size ≤ q) [(qn0, .inr (2, [.ref qf, .ref qp, .int (tt_cell L xs 1), .int (tt_lim (tt_cell L xs 2) 3), .int (tt_lim (tt_cell L xs 3) 5), .int 1, .int 0, .int 0])), (qp, .inr (1, [.ref qf])), (qf, .inr (0, [.ref qb, .ref qe, .int 0, .int 0, .int 0])), (qb, .inl (cA, 32, .inl (tt_pres (tt_fl 32) ((tt_cell L xs 0) &&& 65535)))), (qe, .inl (cE, 2, .inl (fun _ => 0))), (qn28, .inr (3, [.int 0, .int 0, .int 0, .int 0, .int 0, .int 0, .int 0, .int 0, .int 0, .int 0, .int 0, .int 0, .int 0, .int 0, .int 0, .int 0, .int 0, .int 0]))] := hD
  refine lv_aload_n hx hb dL_law_37 rfl (lv_at hl 1 rfl) ?_
  refine lv_iconst (v := 1) hx hb dL_law_38 (by decide) ?_
  have hPc := hP.sub (ws' := []) [] rfl
  have hDc := hD.sub (ws' := []) [] (by decide) rfl
  have hKc := hK.sub (tys' := []) [] rfl
  have hFc := va_free (wc := []) hD hS hA [] rfl
  refine va_calli (va_runS (As := [.ref b, .int 1]) (rest := [.int (tt_cell L xs 0), .ref qn28, .ref qn28]) ⟨hx, hb, hml, hown, hts⟩ (c_L_cell l dC dI b L (H.size) xs 1 (by decide) (by omega) (Nat.lt_of_lt_of_le hbl hS.1)) (va_cwS 2 hts gL_law_L_cell rfl rfl rfl (by decide +kernel) ⟨Nat.le_of_ble_eq_true rfl, Nat.le_of_ble_eq_true rfl⟩) ⟨fun a U g mk q => by obtain ⟨q0, q1, qP, qK, qD, qX⟩ := q; exact ⟨q0, q1, qP, va_K.moved (u := U) (U := U.calling g mk a) (Vm.Alike.refl U.vm) qK, qD, va_X.moved (u := U) (U := U.calling g mk a) (Vm.Alike.refl U.vm) qX⟩, fun U hU hW => ⟨rfl, by rw [hU], by rw [hU]; exact hPc, va_K.moved hW.alike hKc, hDc.weaken (fun _ _ _ _ => trivial), by rw [hU]; exact va_X.moved hW.alike (hX.kept (hS.2.1 b hbl hbA))⟩⟩ rfl rfl hl.1 rfl (lv_room (Nat.le_of_ble_eq_true rfl)) dL_law_39 ⟨Nat.le_of_ble_eq_true rfl, Nat.le_of_ble_eq_true rfl⟩) hS (fun q _ h => hFc q h) hFc (fun r_7 u t H locs ht hvm hw hB hz1 hk1 hS => ?_)
  have hw : tt_cell L xs 1 = r_7 := hw.symm
  subst hw
  obtain ⟨hP1, hK1, hD1⟩ := hB
  rw [ht] at hP1
  obtain ⟨hP, hD⟩ := va_join (wr := [(qn0, .inr (2, [.ref qf, .ref qp, .int (tt_cell L xs 1), .int (tt_lim (tt_cell L xs 2) 3), .int (tt_lim (tt_cell L xs 3) 5), .int 1, .int 0, .int 0])), (qp, .inr (1, [.ref qf])), (qf, .inr (0, [.ref qb, .ref qe, .int 0, .int 0, .int 0])), (qb, .inl (cA, 32, .inl (tt_pres (tt_fl 32) ((tt_cell L xs 0) &&& 65535)))), (qe, .inl (cE, 2, .inl (fun _ => 0))), (qn28, .inr (3, [.int 0, .int 0, .int 0, .int 0, .int 0, .int 0, .int 0, .int 0, .int 0, .int 0, .int 0, .int 0, .int 0, .int 0, .int 0, .int 0, .int 0, .int 0]))]) (w1 := []) hP hD [] [0, 1, 2, 3, 4, 5] rfl rfl (by decide) (by decide) hk1 hFc hP1 hD1
  have hP : va_P (dC, dI) ttCl [(qn0, .inr (2, [.ref qf, .ref qp, .int (tt_cell L xs 1), .int (tt_lim (tt_cell L xs 2) 3), .int (tt_lim (tt_cell L xs 3) 5), .int 1, .int 0, .int 0])), (qp, .inr (1, [.ref qf])), (qf, .inr (0, [.ref qb, .ref qe, .int 0, .int 0, .int 0])), (qb, .inl (cA, 32, .inl (tt_pres (tt_fl 32) ((tt_cell L xs 0) &&& 65535)))), (qe, .inl (cE, 2, .inl (fun _ => 0))), (qn28, .inr (3, [.int 0, .int 0, .int 0, .int 0, .int 0, .int 0, .int 0, .int 0, .int 0, .int 0, .int 0, .int 0, .int 0, .int 0, .int 0, .int 0, .int 0, .int 0]))] H := hP
  have hD : va_D (fun q : Nat => s.heap.size ≤ q) [(qn0, .inr (2, [.ref qf, .ref qp, .int (tt_cell L xs 1), .int (tt_lim (tt_cell L xs 2) 3), .int (tt_lim (tt_cell L xs 3) 5), .int 1, .int 0, .int 0])), (qp, .inr (1, [.ref qf])), (qf, .inr (0, [.ref qb, .ref qe, .int 0, .int 0, .int 0])), (qb, .inl (cA, 32, .inl (tt_pres (tt_fl 32) ((tt_cell L xs 0) &&& 65535)))), (qe, .inl (cE, 2, .inl (fun _ => 0))), (qn28, .inr (3, [.int 0, .int 0, .int 0, .int 0, .int 0, .int 0, .int 0, .int 0, .int 0, .int 0, .int 0, .int 0, .int 0, .int 0, .int 0, .int 0, .int 0, .int 0]))] := hD
  refine lv_aload_n hx hb dL_law_42 rfl (lv_at hl 1 rfl) ?_
  refine lv_iconst (v := 2) hx hb dL_law_43 (by decide) ?_
  have hPc := hP.sub (ws' := []) [] rfl
  have hDc := hD.sub (ws' := []) [] (by decide) rfl
  have hKc := hK.sub (tys' := []) [] rfl
  have hFc := va_free (wc := []) hD hS hA [] rfl
  refine va_calli (va_runS (As := [.ref b, .int 2]) (rest := [.int (tt_cell L xs 1), .int (tt_cell L xs 0), .ref qn28, .ref qn28]) ⟨hx, hb, hml, hown, hts⟩ (c_L_cell l dC dI b L (H.size) xs 2 (by decide) (by omega) (Nat.lt_of_lt_of_le hbl hS.1)) (va_cwS 2 hts gL_law_L_cell rfl rfl rfl (by decide +kernel) ⟨Nat.le_of_ble_eq_true rfl, Nat.le_of_ble_eq_true rfl⟩) ⟨fun a U g mk q => by obtain ⟨q0, q1, qP, qK, qD, qX⟩ := q; exact ⟨q0, q1, qP, va_K.moved (u := U) (U := U.calling g mk a) (Vm.Alike.refl U.vm) qK, qD, va_X.moved (u := U) (U := U.calling g mk a) (Vm.Alike.refl U.vm) qX⟩, fun U hU hW => ⟨rfl, by rw [hU], by rw [hU]; exact hPc, va_K.moved hW.alike hKc, hDc.weaken (fun _ _ _ _ => trivial), by rw [hU]; exact va_X.moved hW.alike (hX.kept (hS.2.1 b hbl hbA))⟩⟩ rfl rfl hl.1 rfl (lv_room (Nat.le_of_ble_eq_true rfl)) dL_law_44 ⟨Nat.le_of_ble_eq_true rfl, Nat.le_of_ble_eq_true rfl⟩) hS (fun q _ h => hFc q h) hFc (fun r_8 u t H locs ht hvm hw hB hz1 hk1 hS => ?_)
  have hw : tt_cell L xs 2 = r_8 := hw.symm
  subst hw
  obtain ⟨hP1, hK1, hD1⟩ := hB
  rw [ht] at hP1
  obtain ⟨hP, hD⟩ := va_join (wr := [(qn0, .inr (2, [.ref qf, .ref qp, .int (tt_cell L xs 1), .int (tt_lim (tt_cell L xs 2) 3), .int (tt_lim (tt_cell L xs 3) 5), .int 1, .int 0, .int 0])), (qp, .inr (1, [.ref qf])), (qf, .inr (0, [.ref qb, .ref qe, .int 0, .int 0, .int 0])), (qb, .inl (cA, 32, .inl (tt_pres (tt_fl 32) ((tt_cell L xs 0) &&& 65535)))), (qe, .inl (cE, 2, .inl (fun _ => 0))), (qn28, .inr (3, [.int 0, .int 0, .int 0, .int 0, .int 0, .int 0, .int 0, .int 0, .int 0, .int 0, .int 0, .int 0, .int 0, .int 0, .int 0, .int 0, .int 0, .int 0]))]) (w1 := []) hP hD [] [0, 1, 2, 3, 4, 5] rfl rfl (by decide) (by decide) hk1 hFc hP1 hD1
  have hP : va_P (dC, dI) ttCl [(qn0, .inr (2, [.ref qf, .ref qp, .int (tt_cell L xs 1), .int (tt_lim (tt_cell L xs 2) 3), .int (tt_lim (tt_cell L xs 3) 5), .int 1, .int 0, .int 0])), (qp, .inr (1, [.ref qf])), (qf, .inr (0, [.ref qb, .ref qe, .int 0, .int 0, .int 0])), (qb, .inl (cA, 32, .inl (tt_pres (tt_fl 32) ((tt_cell L xs 0) &&& 65535)))), (qe, .inl (cE, 2, .inl (fun _ => 0))), (qn28, .inr (3, [.int 0, .int 0, .int 0, .int 0, .int 0, .int 0, .int 0, .int 0, .int 0, .int 0, .int 0, .int 0, .int 0, .int 0, .int 0, .int 0, .int 0, .int 0]))] H := hP
  have hD : va_D (fun q : Nat => s.heap.size ≤ q) [(qn0, .inr (2, [.ref qf, .ref qp, .int (tt_cell L xs 1), .int (tt_lim (tt_cell L xs 2) 3), .int (tt_lim (tt_cell L xs 3) 5), .int 1, .int 0, .int 0])), (qp, .inr (1, [.ref qf])), (qf, .inr (0, [.ref qb, .ref qe, .int 0, .int 0, .int 0])), (qb, .inl (cA, 32, .inl (tt_pres (tt_fl 32) ((tt_cell L xs 0) &&& 65535)))), (qe, .inl (cE, 2, .inl (fun _ => 0))), (qn28, .inr (3, [.int 0, .int 0, .int 0, .int 0, .int 0, .int 0, .int 0, .int 0, .int 0, .int 0, .int 0, .int 0, .int 0, .int 0, .int 0, .int 0, .int 0, .int 0]))] := hD
  refine lv_aload_n hx hb dL_law_47 rfl (lv_at hl 1 rfl) ?_
  refine lv_iconst (v := 3) hx hb dL_law_48 (by decide) ?_
  have hPc := hP.sub (ws' := []) [] rfl
  have hDc := hD.sub (ws' := []) [] (by decide) rfl
  have hKc := hK.sub (tys' := []) [] rfl
  have hFc := va_free (wc := []) hD hS hA [] rfl
  refine va_calli (va_runS (As := [.ref b, .int 3]) (rest := [.int (tt_cell L xs 2), .int (tt_cell L xs 1), .int (tt_cell L xs 0), .ref qn28, .ref qn28]) ⟨hx, hb, hml, hown, hts⟩ (c_L_cell l dC dI b L (H.size) xs 3 (by decide) (by omega) (Nat.lt_of_lt_of_le hbl hS.1)) (va_cwS 2 hts gL_law_L_cell rfl rfl rfl (by decide +kernel) ⟨Nat.le_of_ble_eq_true rfl, Nat.le_of_ble_eq_true rfl⟩) ⟨fun a U g mk q => by obtain ⟨q0, q1, qP, qK, qD, qX⟩ := q; exact ⟨q0, q1, qP, va_K.moved (u := U) (U := U.calling g mk a) (Vm.Alike.refl U.vm) qK, qD, va_X.moved (u := U) (U := U.calling g mk a) (Vm.Alike.refl U.vm) qX⟩, fun U hU hW => ⟨rfl, by rw [hU], by rw [hU]; exact hPc, va_K.moved hW.alike hKc, hDc.weaken (fun _ _ _ _ => trivial), by rw [hU]; exact va_X.moved hW.alike (hX.kept (hS.2.1 b hbl hbA))⟩⟩ rfl rfl hl.1 rfl (lv_room (Nat.le_of_ble_eq_true rfl)) dL_law_49 ⟨Nat.le_of_ble_eq_true rfl, Nat.le_of_ble_eq_true rfl⟩) hS (fun q _ h => hFc q h) hFc (fun r_9 u t H locs ht hvm hw hB hz1 hk1 hS => ?_)
  have hw : tt_cell L xs 3 = r_9 := hw.symm
  subst hw
  obtain ⟨hP1, hK1, hD1⟩ := hB
  rw [ht] at hP1
  obtain ⟨hP, hD⟩ := va_join (wr := [(qn0, .inr (2, [.ref qf, .ref qp, .int (tt_cell L xs 1), .int (tt_lim (tt_cell L xs 2) 3), .int (tt_lim (tt_cell L xs 3) 5), .int 1, .int 0, .int 0])), (qp, .inr (1, [.ref qf])), (qf, .inr (0, [.ref qb, .ref qe, .int 0, .int 0, .int 0])), (qb, .inl (cA, 32, .inl (tt_pres (tt_fl 32) ((tt_cell L xs 0) &&& 65535)))), (qe, .inl (cE, 2, .inl (fun _ => 0))), (qn28, .inr (3, [.int 0, .int 0, .int 0, .int 0, .int 0, .int 0, .int 0, .int 0, .int 0, .int 0, .int 0, .int 0, .int 0, .int 0, .int 0, .int 0, .int 0, .int 0]))]) (w1 := []) hP hD [] [0, 1, 2, 3, 4, 5] rfl rfl (by decide) (by decide) hk1 hFc hP1 hD1
  have hP : va_P (dC, dI) ttCl [(qn0, .inr (2, [.ref qf, .ref qp, .int (tt_cell L xs 1), .int (tt_lim (tt_cell L xs 2) 3), .int (tt_lim (tt_cell L xs 3) 5), .int 1, .int 0, .int 0])), (qp, .inr (1, [.ref qf])), (qf, .inr (0, [.ref qb, .ref qe, .int 0, .int 0, .int 0])), (qb, .inl (cA, 32, .inl (tt_pres (tt_fl 32) ((tt_cell L xs 0) &&& 65535)))), (qe, .inl (cE, 2, .inl (fun _ => 0))), (qn28, .inr (3, [.int 0, .int 0, .int 0, .int 0, .int 0, .int 0, .int 0, .int 0, .int 0, .int 0, .int 0, .int 0, .int 0, .int 0, .int 0, .int 0, .int 0, .int 0]))] H := hP
  have hD : va_D (fun q : Nat => s.heap.size ≤ q) [(qn0, .inr (2, [.ref qf, .ref qp, .int (tt_cell L xs 1), .int (tt_lim (tt_cell L xs 2) 3), .int (tt_lim (tt_cell L xs 3) 5), .int 1, .int 0, .int 0])), (qp, .inr (1, [.ref qf])), (qf, .inr (0, [.ref qb, .ref qe, .int 0, .int 0, .int 0])), (qb, .inl (cA, 32, .inl (tt_pres (tt_fl 32) ((tt_cell L xs 0) &&& 65535)))), (qe, .inl (cE, 2, .inl (fun _ => 0))), (qn28, .inr (3, [.int 0, .int 0, .int 0, .int 0, .int 0, .int 0, .int 0, .int 0, .int 0, .int 0, .int 0, .int 0, .int 0, .int 0, .int 0, .int 0, .int 0, .int 0]))] := hD
  have hPc := hP.sub (ws' := [(qn28, .inr (3, [.int 0, .int 0, .int 0, .int 0, .int 0, .int 0, .int 0, .int 0, .int 0, .int 0, .int 0, .int 0, .int 0, .int 0, .int 0, .int 0, .int 0, .int 0]))]) [5] rfl
  have hDc := hD.sub (ws' := [(qn28, .inr (3, [.int 0, .int 0, .int 0, .int 0, .int 0, .int 0, .int 0, .int 0, .int 0, .int 0, .int 0, .int 0, .int 0, .int 0, .int 0, .int 0, .int 0, .int 0]))]) [5] (by decide) rfl
  have hKc := hK.sub (tys' := []) [] rfl
  have hFc := va_free (wc := [(qn28, .inr (3, [.int 0, .int 0, .int 0, .int 0, .int 0, .int 0, .int 0, .int 0, .int 0, .int 0, .int 0, .int 0, .int 0, .int 0, .int 0, .int 0, .int 0, .int 0]))]) hD hS hA [5] rfl
  refine va_callv (va_runI (As := [.int (tt_cell L xs 0), .int (tt_cell L xs 1), .int (tt_cell L xs 2), .int (tt_cell L xs 3)]) (rest := [.ref qn28]) ⟨hx, hb, hml, hown, hts⟩ (c_M_init l dC dI qn28 (H.size) (tt_cell L xs 0) (tt_cell L xs 1) (tt_cell L xs 2) (tt_cell L xs 3)) (cwI 4 hts gL_law_M_init rfl rfl rfl (hts (.initialized RM) (by decide +kernel)) (hts (.methodLink RL 20 yM_init) (by decide +kernel)) (hts (.instanceMethod yM_init) (by decide +kernel)) rfl (by decide +kernel) ⟨Nat.le_of_ble_eq_true rfl, Nat.le_of_ble_eq_true rfl⟩) ⟨fun a U g mk q => by obtain ⟨q0, q1, qP, qK, qD⟩ := q; exact ⟨q0, q1, qP, va_K.moved (u := U) (U := U.calling g mk a) (Vm.Alike.refl U.vm) qK, qD⟩, fun U hU hW => ⟨rfl, by rw [hU], by rw [hU]; exact hPc, va_K.moved hW.alike hKc, hDc.weaken (fun _ _ _ _ => trivial)⟩⟩ rfl rfl hl.1 rfl (lv_room (Nat.le_of_ble_eq_true rfl)) dL_law_52 ⟨Nat.le_of_ble_eq_true rfl, Nat.le_of_ble_eq_true rfl⟩) hS (fun q _ h => hFc q h) hFc (fun u t H locs ht hvm hw hB hz1 hk1 hS => ?_)
  have hw : (mm_lim (tt_cell L xs 2) 3, mm_lim (tt_cell L xs 3) 5) = u := hw
  subst hw
  obtain ⟨hP1, hK1, hD1⟩ := hB
  rw [ht] at hP1
  obtain ⟨hP, hD⟩ := va_join (wr := [(qn0, .inr (2, [.ref qf, .ref qp, .int (tt_cell L xs 1), .int (tt_lim (tt_cell L xs 2) 3), .int (tt_lim (tt_cell L xs 3) 5), .int 1, .int 0, .int 0])), (qp, .inr (1, [.ref qf])), (qf, .inr (0, [.ref qb, .ref qe, .int 0, .int 0, .int 0])), (qb, .inl (cA, 32, .inl (tt_pres (tt_fl 32) ((tt_cell L xs 0) &&& 65535)))), (qe, .inl (cE, 2, .inl (fun _ => 0)))]) (w1 := [(qn28, .inr (3, [.int (mm_lim (tt_cell L xs 2) 3), .int (mm_lim (tt_cell L xs 3) 5), .int (tt_cell L xs 1), .int 0, .int 0, .int ((tt_cell L xs 0) &&& 65535), .int 0, .int 0, .int 10, .int 0, .int 1, .int 0, .int 0, .int 0, .int 0, .int 0, .int 0, .int 0]))]) hP hD [5] [0, 1, 2, 3, 4] rfl rfl (by decide) (by decide) hk1 hFc hP1 hD1
  have hP : va_P (dC, dI) ttCl [(qn0, .inr (2, [.ref qf, .ref qp, .int (tt_cell L xs 1), .int (tt_lim (tt_cell L xs 2) 3), .int (tt_lim (tt_cell L xs 3) 5), .int 1, .int 0, .int 0])), (qp, .inr (1, [.ref qf])), (qf, .inr (0, [.ref qb, .ref qe, .int 0, .int 0, .int 0])), (qb, .inl (cA, 32, .inl (tt_pres (tt_fl 32) ((tt_cell L xs 0) &&& 65535)))), (qe, .inl (cE, 2, .inl (fun _ => 0))), (qn28, .inr (3, [.int (mm_lim (tt_cell L xs 2) 3), .int (mm_lim (tt_cell L xs 3) 5), .int (tt_cell L xs 1), .int 0, .int 0, .int ((tt_cell L xs 0) &&& 65535), .int 0, .int 0, .int 10, .int 0, .int 1, .int 0, .int 0, .int 0, .int 0, .int 0, .int 0, .int 0]))] H := hP
  have hD : va_D (fun q : Nat => s.heap.size ≤ q) [(qn0, .inr (2, [.ref qf, .ref qp, .int (tt_cell L xs 1), .int (tt_lim (tt_cell L xs 2) 3), .int (tt_lim (tt_cell L xs 3) 5), .int 1, .int 0, .int 0])), (qp, .inr (1, [.ref qf])), (qf, .inr (0, [.ref qb, .ref qe, .int 0, .int 0, .int 0])), (qb, .inl (cA, 32, .inl (tt_pres (tt_fl 32) ((tt_cell L xs 0) &&& 65535)))), (qe, .inl (cE, 2, .inl (fun _ => 0))), (qn28, .inr (3, [.int (mm_lim (tt_cell L xs 2) 3), .int (mm_lim (tt_cell L xs 3) 5), .int (tt_cell L xs 1), .int 0, .int 0, .int ((tt_cell L xs 0) &&& 65535), .int 0, .int 0, .int 10, .int 0, .int 1, .int 0, .int 0, .int 0, .int 0, .int 0, .int 0, .int 0]))] := hD
  refine lv_astore_n (lv' := [(2, .ref qn28), (1, .ref qn0), (0, .ref b)]) hx hb dL_law_55 rfl hl (by decide) rfl (fun ls hl => ?_)
  refine lv_iconst (v := 4) hx hb dL_law_56 (by decide) ?_
  refine lv_istore_n (lv' := [(3, .int 4), (2, .ref qn28), (1, .ref qn0), (0, .ref b)]) hx hb dL_law_57 rfl hl (by decide) rfl (fun ls hl => ?_)
  obtain ⟨PL, hPL, ePL⟩ := tt_lim_le (tt_cell L xs 2) (d := 3) (by decide)
  obtain ⟨UL, hUL, eUL⟩ := tt_lim_le (tt_cell L xs 3) (d := 5) (by decide)
  have hP := hP.sub (ws' := [(qn0, .inr (2, [.ref qf, .ref qp, .int (tt_cell L xs 1), .int (tt_lim (tt_cell L xs 2) 3), .int (tt_lim (tt_cell L xs 3) 5), .int 1, .int 0, .int 0])), (qp, .inr (1, [.ref qf])), (qf, .inr (0, [.ref qb, .ref qe, .int 0, .int 0, .int 0])), (qb, .inl (cA, 32, .inl (tt_pres (tt_fl 32) ((tt_cell L xs 0) &&& 65535)))), (qe, .inl (cE, 2, .inl (fun _ => 0))), (qn28, .inr (3, [.int (mm_lim (tt_cell L xs 2) 3), .int (mm_lim (tt_cell L xs 3) 5), .int (tt_cell L xs 1), .int 0, .int 0, .int ((tt_cell L xs 0) &&& 65535), .int 0, .int 0, .int 10, .int 0, .int 1, .int 0, .int 0, .int 0, .int 0, .int 0, .int 0, .int 0]))]) [0, 1, 2, 3, 4, 5] rfl
  have hD := hD.sub (ws' := [(qn0, .inr (2, [.ref qf, .ref qp, .int (tt_cell L xs 1), .int (tt_lim (tt_cell L xs 2) 3), .int (tt_lim (tt_cell L xs 3) 5), .int 1, .int 0, .int 0])), (qp, .inr (1, [.ref qf])), (qf, .inr (0, [.ref qb, .ref qe, .int 0, .int 0, .int 0])), (qb, .inl (cA, 32, .inl (tt_pres (tt_fl 32) ((tt_cell L xs 0) &&& 65535)))), (qe, .inl (cE, 2, .inl (fun _ => 0))), (qn28, .inr (3, [.int (mm_lim (tt_cell L xs 2) 3), .int (mm_lim (tt_cell L xs 3) 5), .int (tt_cell L xs 1), .int 0, .int 0, .int ((tt_cell L xs 0) &&& 65535), .int 0, .int 0, .int 10, .int 0, .int 1, .int 0, .int 0, .int 0, .int 0, .int 0, .int 0, .int 0]))]) [0, 1, 2, 3, 4, 5] (by decide) rfl
  rw [← tt_lim_eq (tt_cell L xs 2) 3, ← tt_lim_eq (tt_cell L xs 3) 5] at hP hD
  exact law_loop hL C0 hPL hUL ePL eUL (tt_R_0 (tt_cell L xs 0)) hK hP hD hS (lv_sub hl [3, 2, 1, 0] rfl)
