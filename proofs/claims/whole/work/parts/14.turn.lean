set_option maxHeartbeats 4000000 in
set_option maxRecDepth 100000 in
theorem c_P_turn (l : Launch) (dC : Nat → ClassId) (dI : Nat → Nat → Nat) (cA cE : ClassId) (qp qf qb qe : Nat) (sz : Nat) (b g : Nat → Int32) (od ot tm : Int32) (p1 a1 c1 : Int32) : Met l yX1_turn wsX1_turn ({ frames := 3, cells := 0, slots := 0, locals := 64 }) (va_Pc [.ref qp, .int p1, .int a1, .int c1] (fun U => U.heap.size = sz ∧ va_P (dC, dI) ttCl [(qp, .inr (1, [.ref qf])), (qf, .inr (0, [.ref qb, .ref qe, .int od, .int ot, .int tm])), (qb, .inl (cA, 32, .inl b)), (qe, .inl (cE, 2, .inl g))] U.heap ∧ va_K (dC, dI) ttCl [(cA, .int), (cE, .int)] U ∧ va_D (fun _ => True) [(qp, .inr (1, [.ref qf])), (qf, .inr (0, [.ref qb, .ref qe, .int od, .int ot, .int tm])), (qb, .inl (cA, 32, .inl b)), (qe, .inl (cE, 2, .inl g))])) (va_Qi (fun (r : Int32) (u : tt_F) => tt_turn (b, g, od, ot, tm) p1 a1 c1 = (r, u)) (fun (u : tt_F) (t : State) => at_P dC dI cA cE (va_A [(qp, .inr (1, [.ref qf])), (qf, .inr (0, [.ref qb, .ref qe, .int od, .int ot, .int tm])), (qb, .inl (cA, 32, .inl b)), (qe, .inl (cE, 2, .inl g))] sz) qp qf qb qe u t) (va_A [(qp, .inr (1, [.ref qf])), (qf, .inr (0, [.ref qb, .ref qe, .int od, .int ot, .int tm])), (qb, .inl (cA, 32, .inl b)), (qe, .inl (cE, 2, .inl g))] sz)) 0 0 (va_A [(qp, .inr (1, [.ref qf])), (qf, .inr (0, [.ref qb, .ref qe, .int od, .int ot, .int tm])), (qb, .inl (cA, 32, .inl b)), (qe, .inl (cE, 2, .inl g))] sz) := by
  refine Met.ofW (cc := cX1_turn) (maxL := 6) (ret := (some .boolean)) (by decide) rfl ?_
  intro p e s m args below meth c s₁ B hml hv
  obtain ⟨rfl, hsz, hP, hK, hD0⟩ := hv
  have hx := B.exec
  have hb := B.bytes
  have hr := B.returns
  have hts := atoms_spec (ws := wsX1_turn) B.pre
  have hown : s.vm.findClass RX1 = some m.cls := findClass_of_methodNamed B.named
  have hlocks := B.notSynchronized
  subst hsz
  have hD := hD0.self (sz := s.heap.size)
  generalize hAe : va_A [(qp, .inr (1, [.ref qf])), (qf, .inr (0, [.ref qb, .ref qe, .int od, .int ot, .int tm])), (qb, .inl (cA, 32, .inl b)), (qe, .inl (cE, 2, .inl g))] s.heap.size = A at hD ⊢
  have hA : ∀ q : Nat, s.heap.size ≤ q → A q := fun q h => by rw [← hAe]; exact Or.inr h
  have hS : va_S A s.heap s.heap [] := va_S.rf
  have hP : va_P (dC, dI) ttCl [(qp, .inr (1, [.ref qf])), (qf, .inr (0, [.ref qb, .ref qe, .int od, .int ot, .int tm])), (qb, .inl (cA, 32, .inl b)), (qe, .inl (cE, 2, .inl g))] s.heap := hP
  have hl := lv_entry ([.ref qp, .int p1, .int a1, .int c1]) (n := 6) (Nat.le_of_ble_eq_true rfl)
  rw [lg_entry_eq]
  generalize (lg_sl ([.ref qp, .int p1, .int a1, .int c1]) ++ List.replicate (6 - (lg_sl ([.ref qp, .int p1, .int a1, .int c1])).length) Slot.unset).toArray = ls at hl ⊢
  have hl : lv_has ls 6 [(0, .ref qp), (1, .int p1), (2, .int a1), (3, .int c1)] := hl
  refine lv_aload_n hx hb dX1_turn_0 rfl (lv_at hl 0 rfl) ?_
  have hPc := hP.sub (ws' := [(qp, .inr (1, [.ref qf])), (qf, .inr (0, [.ref qb, .ref qe, .int od, .int ot, .int tm])), (qb, .inl (cA, 32, .inl b)), (qe, .inl (cE, 2, .inl g))]) [0, 1, 2, 3] rfl
  have hDc := hD.sub (ws' := [(qp, .inr (1, [.ref qf])), (qf, .inr (0, [.ref qb, .ref qe, .int od, .int ot, .int tm])), (qb, .inl (cA, 32, .inl b)), (qe, .inl (cE, 2, .inl g))]) [0, 1, 2, 3] (by decide) rfl
  have hKc := hK.sub (tys' := [(cA, .int), (cE, .int)]) [0, 1] rfl
  have hFc := va_free (wc := [(qp, .inr (1, [.ref qf])), (qf, .inr (0, [.ref qb, .ref qe, .int od, .int ot, .int tm])), (qb, .inl (cA, 32, .inl b)), (qe, .inl (cE, 2, .inl g))]) hD hS hA [0, 1, 2, 3] rfl
  refine va_calli (va_runV (As := []) (rest := []) ⟨hx, hb, hml, hown, hts⟩ (c_P_active l dC dI cA cE qp qf qb qe s.heap.size b g od ot tm) (cwV 0 hts gX1_turn_X1_active rfl rfl rfl (by decide +kernel) ⟨Nat.le_of_ble_eq_true rfl, Nat.le_of_ble_eq_true rfl⟩) ⟨fun a U g mk q => by obtain ⟨q0, q1, qP, qK, qD⟩ := q; exact ⟨q0, q1, qP, va_K.moved (u := U) (U := U.calling g mk a) (Vm.Alike.refl U.vm) qK, qD⟩, va_recv hKc hPc (ci := 1) (q0 := 0) rfl rfl, fun U hU hW => ⟨rfl, by rw [hU], by rw [hU]; exact hPc, va_K.moved hW.alike hKc, hDc.weaken (fun _ _ _ _ => trivial)⟩⟩ rfl rfl hl.1 rfl (lv_room (Nat.le_of_ble_eq_true rfl)) dX1_turn_1 ⟨(Nat.zero_le _), (Nat.zero_le _)⟩) hS (fun q _ h => hFc q h) hFc (fun r_1 u t H locs ht hvm hw hB hz1 hk1 hS => ?_)
  have hw : tt_ac b = r_1 := hw.symm
  subst hw
  obtain ⟨hP1, hK1, hD1⟩ := hB
  rw [ht] at hP1
  obtain ⟨hP, hD⟩ := va_join (wr := []) (w1 := [(qp, .inr (1, [.ref qf])), (qf, .inr (0, [.ref qb, .ref qe, .int od, .int ot, .int tm])), (qb, .inl (cA, 32, .inl b)), (qe, .inl (cE, 2, .inl g))]) hP hD [0, 1, 2, 3] [] rfl rfl (by decide) (by decide) hk1 hFc hP1 hD1
  have hP : va_P (dC, dI) ttCl [(qp, .inr (1, [.ref qf])), (qf, .inr (0, [.ref qb, .ref qe, .int od, .int ot, .int tm])), (qb, .inl (cA, 32, .inl b)), (qe, .inl (cE, 2, .inl g))] H := hP
  have hD : va_D A [(qp, .inr (1, [.ref qf])), (qf, .inr (0, [.ref qb, .ref qe, .int od, .int ot, .int tm])), (qb, .inl (cA, 32, .inl b)), (qe, .inl (cE, 2, .inl g))] := hD
  refine lv_istore (lv' := [(4, .int (tt_ac b)), (0, .ref qp), (1, .int p1), (2, .int a1), (3, .int c1)]) hx hb dX1_turn_4 hl (by decide) rfl (fun ls hl => ?_)
  refine lv_iconst (v := 1) hx hb dX1_turn_6 (by decide) ?_
  refine lv_iload hx hb dX1_turn_7 (lv_at hl 0 rfl) ?_
  refine lv_isub hx hb dX1_turn_9 ?_
  refine lv_istore (lv' := [(5, .int (1 - (tt_ac b))), (4, .int (tt_ac b)), (0, .ref qp), (1, .int p1), (2, .int a1), (3, .int c1)]) hx hb dX1_turn_10 hl (by decide) rfl (fun ls hl => ?_)
  refine lv_aload_n hx hb dX1_turn_12 rfl (lv_at hl 2 rfl) ?_
  refine lv_iload hx hb dX1_turn_13 (lv_at hl 0 rfl) ?_
  have hPc := hP.sub (ws' := [(qp, .inr (1, [.ref qf])), (qf, .inr (0, [.ref qb, .ref qe, .int od, .int ot, .int tm])), (qb, .inl (cA, 32, .inl b)), (qe, .inl (cE, 2, .inl g))]) [0, 1, 2, 3] rfl
  have hDc := hD.sub (ws' := [(qp, .inr (1, [.ref qf])), (qf, .inr (0, [.ref qb, .ref qe, .int od, .int ot, .int tm])), (qb, .inl (cA, 32, .inl b)), (qe, .inl (cE, 2, .inl g))]) [0, 1, 2, 3] (by decide) rfl
  have hKc := hK.sub (tys' := [(cA, .int), (cE, .int)]) [0, 1] rfl
  have hFc := va_free (wc := [(qp, .inr (1, [.ref qf])), (qf, .inr (0, [.ref qb, .ref qe, .int od, .int ot, .int tm])), (qb, .inl (cA, 32, .inl b)), (qe, .inl (cE, 2, .inl g))]) hD hS hA [0, 1, 2, 3] rfl
  refine va_calli (va_runV (As := [.int (1 - (tt_ac b))]) (rest := []) ⟨hx, hb, hml, hown, hts⟩ (c_P_isGood l dC dI cA cE qp qf qb qe H.size b g od ot tm (1 - (tt_ac b))) (cwV 1 hts gX1_turn_X1_isGood rfl rfl rfl (by decide +kernel) ⟨Nat.le_of_ble_eq_true rfl, Nat.le_of_ble_eq_true rfl⟩) ⟨fun a U g mk q => by obtain ⟨q0, q1, qP, qK, qD⟩ := q; exact ⟨q0, q1, qP, va_K.moved (u := U) (U := U.calling g mk a) (Vm.Alike.refl U.vm) qK, qD⟩, va_recv hKc hPc (ci := 1) (q0 := 0) rfl rfl, fun U hU hW => ⟨rfl, by rw [hU], by rw [hU]; exact hPc, va_K.moved hW.alike hKc, hDc.weaken (fun _ _ _ _ => trivial)⟩⟩ rfl rfl hl.1 rfl (lv_room (Nat.le_of_ble_eq_true rfl)) dX1_turn_15 ⟨(Nat.zero_le _), (Nat.zero_le _)⟩) hS (fun q _ h => hFc q h) hFc (fun r_2 u t H locs ht hvm hw hB hz1 hk1 hS => ?_)
  have hw : tt_gd b (1 - (tt_ac b)) = r_2 := hw.symm
  subst hw
  obtain ⟨hP1, hK1, hD1⟩ := hB
  rw [ht] at hP1
  obtain ⟨hP, hD⟩ := va_join (wr := []) (w1 := [(qp, .inr (1, [.ref qf])), (qf, .inr (0, [.ref qb, .ref qe, .int od, .int ot, .int tm])), (qb, .inl (cA, 32, .inl b)), (qe, .inl (cE, 2, .inl g))]) hP hD [0, 1, 2, 3] [] rfl rfl (by decide) (by decide) hk1 hFc hP1 hD1
  have hP : va_P (dC, dI) ttCl [(qp, .inr (1, [.ref qf])), (qf, .inr (0, [.ref qb, .ref qe, .int od, .int ot, .int tm])), (qb, .inl (cA, 32, .inl b)), (qe, .inl (cE, 2, .inl g))] H := hP
  have hD : va_D A [(qp, .inr (1, [.ref qf])), (qf, .inr (0, [.ref qb, .ref qe, .int od, .int ot, .int tm])), (qb, .inl (cA, 32, .inl b)), (qe, .inl (cE, 2, .inl g))] := hD
  refine lv_if_eq (tgt := 37) hx hb dX1_turn_18 (by decide) (fun c_3 => ?_) (fun c_3 => ?_)
  · refine lv_aload_n hx hb dX1_turn_37 rfl (lv_at hl 2 rfl) ?_
    refine va_get (D := (dC, dI)) (ci := 1) (v := .ref qf) (C := RX1) (T := TX1) (N := 1) hx hb hts (by decide +kernel) hown hK hP 0 rfl rfl 0 (by decide) (hts (.fieldLink RX1 7 "TornTryCounter$Pages" "flash" "LTornTryCounter$Flash;") (by decide +kernel)) (fun _ h9 => h9) rfl dX1_turn_38 ?_
    refine lv_iload hx hb dX1_turn_41 (lv_at hl 0 rfl) ?_
    have hPc := hP.sub (ws' := [(qf, .inr (0, [.ref qb, .ref qe, .int od, .int ot, .int tm])), (qb, .inl (cA, 32, .inl b)), (qe, .inl (cE, 2, .inl g))]) [1, 2, 3] rfl
    have hDc := hD.sub (ws' := [(qf, .inr (0, [.ref qb, .ref qe, .int od, .int ot, .int tm])), (qb, .inl (cA, 32, .inl b)), (qe, .inl (cE, 2, .inl g))]) [1, 2, 3] (by decide) rfl
    have hKc := hK.sub (tys' := [(cA, .int), (cE, .int)]) [0, 1] rfl
    have hFc := va_free (wc := [(qf, .inr (0, [.ref qb, .ref qe, .int od, .int ot, .int tm])), (qb, .inl (cA, 32, .inl b)), (qe, .inl (cE, 2, .inl g))]) hD hS hA [1, 2, 3] rfl
    refine va_calli (va_runV (As := [.int (1 - (tt_ac b))]) (rest := []) ⟨hx, hb, hml, hown, hts⟩ (c_F_erase l dC dI cA cE qf qb qe H.size b g od ot tm (1 - (tt_ac b))) (cwV 1 hts gX1_turn_X0_erase rfl rfl rfl (by decide +kernel) ⟨Nat.le_of_ble_eq_true rfl, Nat.le_of_ble_eq_true rfl⟩) ⟨fun a U g mk q => by obtain ⟨q0, q1, qP, qK, qD⟩ := q; exact ⟨q0, q1, qP, va_K.moved (u := U) (U := U.calling g mk a) (Vm.Alike.refl U.vm) qK, qD⟩, va_recv hKc hPc (ci := 0) (q0 := 0) rfl rfl, fun U hU hW => ⟨rfl, by rw [hU], by rw [hU]; exact hPc, va_K.moved hW.alike hKc, hDc.weaken (fun _ _ _ _ => trivial)⟩⟩ rfl rfl hl.1 rfl (lv_room (Nat.le_of_ble_eq_true rfl)) dX1_turn_43 ⟨(Nat.zero_le _), (Nat.zero_le _)⟩) hS (fun q _ h => hFc q h) hFc (fun r_4 u t H locs ht hvm hw hB hz1 hk1 hS => ?_)
    obtain ⟨b_4, g_4, od_4, ot_4, tm_4⟩ := u
    obtain ⟨hP1, hK1, hD1⟩ := hB
    have e_4 : tt_erase (b, g, od, ot, tm) (1 - (tt_ac b)) = (r_4, (b_4, g_4, od_4, ot_4, tm_4)) := hw
    rw [ht] at hP1
    obtain ⟨hP, hD⟩ := va_join (wr := [(qp, .inr (1, [.ref qf]))]) (w1 := [(qf, .inr (0, [.ref qb, .ref qe, .int od_4, .int ot_4, .int tm_4])), (qb, .inl (cA, 32, .inl b_4)), (qe, .inl (cE, 2, .inl g_4))]) hP hD [1, 2, 3] [0] rfl rfl (by decide) (by decide) hk1 hFc hP1 hD1
    have hP : va_P (dC, dI) ttCl [(qp, .inr (1, [.ref qf])), (qf, .inr (0, [.ref qb, .ref qe, .int od_4, .int ot_4, .int tm_4])), (qb, .inl (cA, 32, .inl b_4)), (qe, .inl (cE, 2, .inl g_4))] H := hP
    have hD : va_D A [(qp, .inr (1, [.ref qf])), (qf, .inr (0, [.ref qb, .ref qe, .int od_4, .int ot_4, .int tm_4])), (qb, .inl (cA, 32, .inl b_4)), (qe, .inl (cE, 2, .inl g_4))] := hD
    refine lv_if_eq (tgt := 150) hx hb dX1_turn_46 (by decide) (fun c_5 => ?_) (fun c_5 => ?_)
    · refine lv_iconst (v := 0) hx hb dX1_turn_150 (by decide) ?_
      have hP9 := hP.sub (ws' := [(qp, .inr (1, [.ref qf])), (qf, .inr (0, [.ref qb, .ref qe, .int od_4, .int ot_4, .int tm_4])), (qb, .inl (cA, 32, .inl b_4)), (qe, .inl (cE, 2, .inl g_4))]) [0, 1, 2, 3] rfl
      have hD9 := hD.sub (ws' := [(qp, .inr (1, [.ref qf])), (qf, .inr (0, [.ref qb, .ref qe, .int od_4, .int ot_4, .int tm_4])), (qb, .inl (cA, 32, .inl b_4)), (qe, .inl (cE, 2, .inl g_4))]) [0, 1, 2, 3] (by decide) rfl
      have hK9 := hK.sub (tys' := [(cA, .int), (cE, .int)]) [0, 1] rfl
      exact W.zret (v := 0) hx hb hr (by first | rfl | decide) (fun t ht hW => ⟨⟨0, (b_4, g_4, od_4, ot_4, tm_4), rfl, (by first | (simp only [tt_turn, tt_t0, tt_seq_p, c_3, e_4, c_5, reduceIte, eq_self]; done) | (simp [tt_turn, tt_t0, tt_seq_p, c_3, e_4, c_5]; done)), by rw [ht]; exact hP9, va_K.moved hW.alike hK9, hD9⟩, hS.F ht⟩) hS.2.2 dX1_turn_151
    · refine lv_aload_n hx hb dX1_turn_49 rfl (lv_at hl 2 rfl) ?_
      refine va_get (D := (dC, dI)) (ci := 1) (v := .ref qf) (C := RX1) (T := TX1) (N := 1) hx hb hts (by decide +kernel) hown hK hP 0 rfl rfl 0 (by decide) (hts (.fieldLink RX1 7 "TornTryCounter$Pages" "flash" "LTornTryCounter$Flash;") (by decide +kernel)) (fun _ h9 => h9) rfl dX1_turn_50 ?_
      refine lv_iload hx hb dX1_turn_53 (lv_at hl 0 rfl) ?_
      refine lv_iconst (v := 1) hx hb dX1_turn_55 (by decide) ?_
      refine lv_aload_n hx hb dX1_turn_56 rfl (lv_at hl 2 rfl) ?_
      refine lv_iload hx hb dX1_turn_57 (lv_at hl 1 rfl) ?_
      have hPc := hP.sub (ws' := [(qp, .inr (1, [.ref qf])), (qf, .inr (0, [.ref qb, .ref qe, .int od_4, .int ot_4, .int tm_4])), (qb, .inl (cA, 32, .inl b_4)), (qe, .inl (cE, 2, .inl g_4))]) [0, 1, 2, 3] rfl
      have hDc := hD.sub (ws' := [(qp, .inr (1, [.ref qf])), (qf, .inr (0, [.ref qb, .ref qe, .int od_4, .int ot_4, .int tm_4])), (qb, .inl (cA, 32, .inl b_4)), (qe, .inl (cE, 2, .inl g_4))]) [0, 1, 2, 3] (by decide) rfl
      have hKc := hK.sub (tys' := [(cA, .int), (cE, .int)]) [0, 1] rfl
      have hFc := va_free (wc := [(qp, .inr (1, [.ref qf])), (qf, .inr (0, [.ref qb, .ref qe, .int od_4, .int ot_4, .int tm_4])), (qb, .inl (cA, 32, .inl b_4)), (qe, .inl (cE, 2, .inl g_4))]) hD hS hA [0, 1, 2, 3] rfl
      refine va_calli (va_runV (As := [.int (tt_ac b)]) (rest := [.int 1, .int (1 - (tt_ac b)), .ref qf]) ⟨hx, hb, hml, hown, hts⟩ (c_P_generationAfter l dC dI cA cE qp qf qb qe H.size b_4 g_4 od_4 ot_4 tm_4 (tt_ac b)) (cwV 1 hts gX1_turn_X1_generationAfter rfl rfl rfl (by decide +kernel) ⟨Nat.le_of_ble_eq_true rfl, Nat.le_of_ble_eq_true rfl⟩) ⟨fun a U g mk q => by obtain ⟨q0, q1, qP, qK, qD⟩ := q; exact ⟨q0, q1, qP, va_K.moved (u := U) (U := U.calling g mk a) (Vm.Alike.refl U.vm) qK, qD⟩, va_recv hKc hPc (ci := 1) (q0 := 0) rfl rfl, fun U hU hW => ⟨rfl, by rw [hU], by rw [hU]; exact hPc, va_K.moved hW.alike hKc, hDc.weaken (fun _ _ _ _ => trivial)⟩⟩ rfl rfl hl.1 rfl (lv_room (Nat.le_of_ble_eq_true rfl)) dX1_turn_59 ⟨(Nat.zero_le _), (Nat.zero_le _)⟩) hS (fun q _ h => hFc q h) hFc (fun r_6 u t H locs ht hvm hw hB hz1 hk1 hS => ?_)
      have hw : tt_ga b_4 (tt_ac b) = r_6 := hw.symm
      subst hw
      obtain ⟨hP1, hK1, hD1⟩ := hB
      rw [ht] at hP1
      obtain ⟨hP, hD⟩ := va_join (wr := []) (w1 := [(qp, .inr (1, [.ref qf])), (qf, .inr (0, [.ref qb, .ref qe, .int od_4, .int ot_4, .int tm_4])), (qb, .inl (cA, 32, .inl b_4)), (qe, .inl (cE, 2, .inl g_4))]) hP hD [0, 1, 2, 3] [] rfl rfl (by decide) (by decide) hk1 hFc hP1 hD1
      have hP : va_P (dC, dI) ttCl [(qp, .inr (1, [.ref qf])), (qf, .inr (0, [.ref qb, .ref qe, .int od_4, .int ot_4, .int tm_4])), (qb, .inl (cA, 32, .inl b_4)), (qe, .inl (cE, 2, .inl g_4))] H := hP
      have hD : va_D A [(qp, .inr (1, [.ref qf])), (qf, .inr (0, [.ref qb, .ref qe, .int od_4, .int ot_4, .int tm_4])), (qb, .inl (cA, 32, .inl b_4)), (qe, .inl (cE, 2, .inl g_4))] := hD
      have hPc := hP.sub (ws' := [(qf, .inr (0, [.ref qb, .ref qe, .int od_4, .int ot_4, .int tm_4])), (qb, .inl (cA, 32, .inl b_4)), (qe, .inl (cE, 2, .inl g_4))]) [1, 2, 3] rfl
      have hDc := hD.sub (ws' := [(qf, .inr (0, [.ref qb, .ref qe, .int od_4, .int ot_4, .int tm_4])), (qb, .inl (cA, 32, .inl b_4)), (qe, .inl (cE, 2, .inl g_4))]) [1, 2, 3] (by decide) rfl
      have hKc := hK.sub (tys' := [(cA, .int), (cE, .int)]) [0, 1] rfl
      have hFc := va_free (wc := [(qf, .inr (0, [.ref qb, .ref qe, .int od_4, .int ot_4, .int tm_4])), (qb, .inl (cA, 32, .inl b_4)), (qe, .inl (cE, 2, .inl g_4))]) hD hS hA [1, 2, 3] rfl
      refine va_calli (va_runV (As := [.int (1 - (tt_ac b)), .int 1, .int (tt_ga b_4 (tt_ac b))]) (rest := []) ⟨hx, hb, hml, hown, hts⟩ (c_F_program l dC dI cA cE qf qb qe H.size b_4 g_4 od_4 ot_4 tm_4 (1 - (tt_ac b)) 1 (tt_ga b_4 (tt_ac b))) (cwV 3 hts gX1_turn_X0_program rfl rfl rfl (by decide +kernel) ⟨Nat.le_of_ble_eq_true rfl, Nat.le_of_ble_eq_true rfl⟩) ⟨fun a U g mk q => by obtain ⟨q0, q1, qP, qK, qD⟩ := q; exact ⟨q0, q1, qP, va_K.moved (u := U) (U := U.calling g mk a) (Vm.Alike.refl U.vm) qK, qD⟩, va_recv hKc hPc (ci := 0) (q0 := 0) rfl rfl, fun U hU hW => ⟨rfl, by rw [hU], by rw [hU]; exact hPc, va_K.moved hW.alike hKc, hDc.weaken (fun _ _ _ _ => trivial)⟩⟩ rfl rfl hl.1 rfl (lv_room (Nat.le_of_ble_eq_true rfl)) dX1_turn_62 ⟨(Nat.zero_le _), (Nat.zero_le _)⟩) hS (fun q _ h => hFc q h) hFc (fun r_7 u t H locs ht hvm hw hB hz1 hk1 hS => ?_)
      obtain ⟨b_7, g_7, od_7, ot_7, tm_7⟩ := u
      obtain ⟨hP1, hK1, hD1⟩ := hB
      have e_7 : tt_prog (b_4, g_4, od_4, ot_4, tm_4) (1 - (tt_ac b)) 1 (tt_ga b_4 (tt_ac b)) = (r_7, (b_7, g_7, od_7, ot_7, tm_7)) := hw
      rw [ht] at hP1
      obtain ⟨hP, hD⟩ := va_join (wr := [(qp, .inr (1, [.ref qf]))]) (w1 := [(qf, .inr (0, [.ref qb, .ref qe, .int od_7, .int ot_7, .int tm_7])), (qb, .inl (cA, 32, .inl b_7)), (qe, .inl (cE, 2, .inl g_7))]) hP hD [1, 2, 3] [0] rfl rfl (by decide) (by decide) hk1 hFc hP1 hD1
      have hP : va_P (dC, dI) ttCl [(qp, .inr (1, [.ref qf])), (qf, .inr (0, [.ref qb, .ref qe, .int od_7, .int ot_7, .int tm_7])), (qb, .inl (cA, 32, .inl b_7)), (qe, .inl (cE, 2, .inl g_7))] H := hP
      have hD : va_D A [(qp, .inr (1, [.ref qf])), (qf, .inr (0, [.ref qb, .ref qe, .int od_7, .int ot_7, .int tm_7])), (qb, .inl (cA, 32, .inl b_7)), (qe, .inl (cE, 2, .inl g_7))] := hD
      refine lv_if_eq (tgt := 150) hx hb dX1_turn_65 (by decide) (fun c_8 => ?_) (fun c_8 => ?_)
      · refine lv_iconst (v := 0) hx hb dX1_turn_150 (by decide) ?_
        have hP9 := hP.sub (ws' := [(qp, .inr (1, [.ref qf])), (qf, .inr (0, [.ref qb, .ref qe, .int od_7, .int ot_7, .int tm_7])), (qb, .inl (cA, 32, .inl b_7)), (qe, .inl (cE, 2, .inl g_7))]) [0, 1, 2, 3] rfl
        have hD9 := hD.sub (ws' := [(qp, .inr (1, [.ref qf])), (qf, .inr (0, [.ref qb, .ref qe, .int od_7, .int ot_7, .int tm_7])), (qb, .inl (cA, 32, .inl b_7)), (qe, .inl (cE, 2, .inl g_7))]) [0, 1, 2, 3] (by decide) rfl
        have hK9 := hK.sub (tys' := [(cA, .int), (cE, .int)]) [0, 1] rfl
        exact W.zret (v := 0) hx hb hr (by first | rfl | decide) (fun t ht hW => ⟨⟨0, (b_7, g_7, od_7, ot_7, tm_7), rfl, (by first | (simp only [tt_turn, tt_t0, tt_seq_p, c_3, e_4, c_5, e_7, c_8, reduceIte, eq_self]; done) | (simp [tt_turn, tt_t0, tt_seq_p, c_3, e_4, c_5, e_7, c_8]; done)), by rw [ht]; exact hP9, va_K.moved hW.alike hK9, hD9⟩, hS.F ht⟩) hS.2.2 dX1_turn_151
      · refine lv_aload_n hx hb dX1_turn_68 rfl (lv_at hl 2 rfl) ?_
        refine va_get (D := (dC, dI)) (ci := 1) (v := .ref qf) (C := RX1) (T := TX1) (N := 1) hx hb hts (by decide +kernel) hown hK hP 0 rfl rfl 0 (by decide) (hts (.fieldLink RX1 7 "TornTryCounter$Pages" "flash" "LTornTryCounter$Flash;") (by decide +kernel)) (fun _ h9 => h9) rfl dX1_turn_69 ?_
        refine lv_iload hx hb dX1_turn_72 (lv_at hl 0 rfl) ?_
        refine lv_iconst (v := 2) hx hb dX1_turn_74 (by decide) ?_
        refine lv_iload_n hx hb dX1_turn_75 rfl (lv_at hl 3 rfl) ?_
        refine lv_bipush (v := 8) hx hb dX1_turn_76 (by decide) ?_
        refine lv_ishr hx hb dX1_turn_78 ?_
        have hPc := hP.sub (ws' := [(qf, .inr (0, [.ref qb, .ref qe, .int od_7, .int ot_7, .int tm_7])), (qb, .inl (cA, 32, .inl b_7)), (qe, .inl (cE, 2, .inl g_7))]) [1, 2, 3] rfl
        have hDc := hD.sub (ws' := [(qf, .inr (0, [.ref qb, .ref qe, .int od_7, .int ot_7, .int tm_7])), (qb, .inl (cA, 32, .inl b_7)), (qe, .inl (cE, 2, .inl g_7))]) [1, 2, 3] (by decide) rfl
        have hKc := hK.sub (tys' := [(cA, .int), (cE, .int)]) [0, 1] rfl
        have hFc := va_free (wc := [(qf, .inr (0, [.ref qb, .ref qe, .int od_7, .int ot_7, .int tm_7])), (qb, .inl (cA, 32, .inl b_7)), (qe, .inl (cE, 2, .inl g_7))]) hD hS hA [1, 2, 3] rfl
        refine va_calli (va_runV (As := [.int (1 - (tt_ac b)), .int 2, .int (p1 >>> ((8 : Int32) &&& 31))]) (rest := []) ⟨hx, hb, hml, hown, hts⟩ (c_F_program l dC dI cA cE qf qb qe H.size b_7 g_7 od_7 ot_7 tm_7 (1 - (tt_ac b)) 2 (p1 >>> ((8 : Int32) &&& 31))) (cwV 3 hts gX1_turn_X0_program rfl rfl rfl (by decide +kernel) ⟨Nat.le_of_ble_eq_true rfl, Nat.le_of_ble_eq_true rfl⟩) ⟨fun a U g mk q => by obtain ⟨q0, q1, qP, qK, qD⟩ := q; exact ⟨q0, q1, qP, va_K.moved (u := U) (U := U.calling g mk a) (Vm.Alike.refl U.vm) qK, qD⟩, va_recv hKc hPc (ci := 0) (q0 := 0) rfl rfl, fun U hU hW => ⟨rfl, by rw [hU], by rw [hU]; exact hPc, va_K.moved hW.alike hKc, hDc.weaken (fun _ _ _ _ => trivial)⟩⟩ rfl rfl hl.1 rfl (lv_room (Nat.le_of_ble_eq_true rfl)) dX1_turn_79 ⟨(Nat.zero_le _), (Nat.zero_le _)⟩) hS (fun q _ h => hFc q h) hFc (fun r_9 u t H locs ht hvm hw hB hz1 hk1 hS => ?_)
        obtain ⟨b_9, g_9, od_9, ot_9, tm_9⟩ := u
        obtain ⟨hP1, hK1, hD1⟩ := hB
        have e_9 : tt_prog (b_7, g_7, od_7, ot_7, tm_7) (1 - (tt_ac b)) 2 (p1 >>> ((8 : Int32) &&& 31)) = (r_9, (b_9, g_9, od_9, ot_9, tm_9)) := hw
        rw [ht] at hP1
        obtain ⟨hP, hD⟩ := va_join (wr := [(qp, .inr (1, [.ref qf]))]) (w1 := [(qf, .inr (0, [.ref qb, .ref qe, .int od_9, .int ot_9, .int tm_9])), (qb, .inl (cA, 32, .inl b_9)), (qe, .inl (cE, 2, .inl g_9))]) hP hD [1, 2, 3] [0] rfl rfl (by decide) (by decide) hk1 hFc hP1 hD1
        have hP : va_P (dC, dI) ttCl [(qp, .inr (1, [.ref qf])), (qf, .inr (0, [.ref qb, .ref qe, .int od_9, .int ot_9, .int tm_9])), (qb, .inl (cA, 32, .inl b_9)), (qe, .inl (cE, 2, .inl g_9))] H := hP
        have hD : va_D A [(qp, .inr (1, [.ref qf])), (qf, .inr (0, [.ref qb, .ref qe, .int od_9, .int ot_9, .int tm_9])), (qb, .inl (cA, 32, .inl b_9)), (qe, .inl (cE, 2, .inl g_9))] := hD
        refine lv_if_eq (tgt := 150) hx hb dX1_turn_82 (by decide) (fun c_10 => ?_) (fun c_10 => ?_)
        · refine lv_iconst (v := 0) hx hb dX1_turn_150 (by decide) ?_
          have hP9 := hP.sub (ws' := [(qp, .inr (1, [.ref qf])), (qf, .inr (0, [.ref qb, .ref qe, .int od_9, .int ot_9, .int tm_9])), (qb, .inl (cA, 32, .inl b_9)), (qe, .inl (cE, 2, .inl g_9))]) [0, 1, 2, 3] rfl
          have hD9 := hD.sub (ws' := [(qp, .inr (1, [.ref qf])), (qf, .inr (0, [.ref qb, .ref qe, .int od_9, .int ot_9, .int tm_9])), (qb, .inl (cA, 32, .inl b_9)), (qe, .inl (cE, 2, .inl g_9))]) [0, 1, 2, 3] (by decide) rfl
          have hK9 := hK.sub (tys' := [(cA, .int), (cE, .int)]) [0, 1] rfl
          exact W.zret (v := 0) hx hb hr (by first | rfl | decide) (fun t ht hW => ⟨⟨0, (b_9, g_9, od_9, ot_9, tm_9), rfl, (by first | (simp only [tt_turn, tt_t0, tt_seq_p, c_3, e_4, c_5, e_7, c_8, e_9, c_10, reduceIte, eq_self]; done) | (simp [tt_turn, tt_t0, tt_seq_p, c_3, e_4, c_5, e_7, c_8, e_9, c_10]; done)), by rw [ht]; exact hP9, va_K.moved hW.alike hK9, hD9⟩, hS.F ht⟩) hS.2.2 dX1_turn_151
        · refine lv_aload_n hx hb dX1_turn_85 rfl (lv_at hl 2 rfl) ?_
          refine va_get (D := (dC, dI)) (ci := 1) (v := .ref qf) (C := RX1) (T := TX1) (N := 1) hx hb hts (by decide +kernel) hown hK hP 0 rfl rfl 0 (by decide) (hts (.fieldLink RX1 7 "TornTryCounter$Pages" "flash" "LTornTryCounter$Flash;") (by decide +kernel)) (fun _ h9 => h9) rfl dX1_turn_86 ?_
          refine lv_iload hx hb dX1_turn_89 (lv_at hl 0 rfl) ?_
          refine lv_iconst (v := 3) hx hb dX1_turn_91 (by decide) ?_
          refine lv_iload_n hx hb dX1_turn_92 rfl (lv_at hl 3 rfl) ?_
          refine lv_sipush (v := 255) hx hb dX1_turn_93 (by decide) ?_
          refine lv_iand hx hb dX1_turn_96 ?_
          have hPc := hP.sub (ws' := [(qf, .inr (0, [.ref qb, .ref qe, .int od_9, .int ot_9, .int tm_9])), (qb, .inl (cA, 32, .inl b_9)), (qe, .inl (cE, 2, .inl g_9))]) [1, 2, 3] rfl
          have hDc := hD.sub (ws' := [(qf, .inr (0, [.ref qb, .ref qe, .int od_9, .int ot_9, .int tm_9])), (qb, .inl (cA, 32, .inl b_9)), (qe, .inl (cE, 2, .inl g_9))]) [1, 2, 3] (by decide) rfl
          have hKc := hK.sub (tys' := [(cA, .int), (cE, .int)]) [0, 1] rfl
          have hFc := va_free (wc := [(qf, .inr (0, [.ref qb, .ref qe, .int od_9, .int ot_9, .int tm_9])), (qb, .inl (cA, 32, .inl b_9)), (qe, .inl (cE, 2, .inl g_9))]) hD hS hA [1, 2, 3] rfl
          refine va_calli (va_runV (As := [.int (1 - (tt_ac b)), .int 3, .int (p1 &&& 255)]) (rest := []) ⟨hx, hb, hml, hown, hts⟩ (c_F_program l dC dI cA cE qf qb qe H.size b_9 g_9 od_9 ot_9 tm_9 (1 - (tt_ac b)) 3 (p1 &&& 255)) (cwV 3 hts gX1_turn_X0_program rfl rfl rfl (by decide +kernel) ⟨Nat.le_of_ble_eq_true rfl, Nat.le_of_ble_eq_true rfl⟩) ⟨fun a U g mk q => by obtain ⟨q0, q1, qP, qK, qD⟩ := q; exact ⟨q0, q1, qP, va_K.moved (u := U) (U := U.calling g mk a) (Vm.Alike.refl U.vm) qK, qD⟩, va_recv hKc hPc (ci := 0) (q0 := 0) rfl rfl, fun U hU hW => ⟨rfl, by rw [hU], by rw [hU]; exact hPc, va_K.moved hW.alike hKc, hDc.weaken (fun _ _ _ _ => trivial)⟩⟩ rfl rfl hl.1 rfl (lv_room (Nat.le_of_ble_eq_true rfl)) dX1_turn_97 ⟨(Nat.zero_le _), (Nat.zero_le _)⟩) hS (fun q _ h => hFc q h) hFc (fun r_11 u t H locs ht hvm hw hB hz1 hk1 hS => ?_)
          obtain ⟨b_11, g_11, od_11, ot_11, tm_11⟩ := u
          obtain ⟨hP1, hK1, hD1⟩ := hB
          have e_11 : tt_prog (b_9, g_9, od_9, ot_9, tm_9) (1 - (tt_ac b)) 3 (p1 &&& 255) = (r_11, (b_11, g_11, od_11, ot_11, tm_11)) := hw
          rw [ht] at hP1
          obtain ⟨hP, hD⟩ := va_join (wr := [(qp, .inr (1, [.ref qf]))]) (w1 := [(qf, .inr (0, [.ref qb, .ref qe, .int od_11, .int ot_11, .int tm_11])), (qb, .inl (cA, 32, .inl b_11)), (qe, .inl (cE, 2, .inl g_11))]) hP hD [1, 2, 3] [0] rfl rfl (by decide) (by decide) hk1 hFc hP1 hD1
          have hP : va_P (dC, dI) ttCl [(qp, .inr (1, [.ref qf])), (qf, .inr (0, [.ref qb, .ref qe, .int od_11, .int ot_11, .int tm_11])), (qb, .inl (cA, 32, .inl b_11)), (qe, .inl (cE, 2, .inl g_11))] H := hP
          have hD : va_D A [(qp, .inr (1, [.ref qf])), (qf, .inr (0, [.ref qb, .ref qe, .int od_11, .int ot_11, .int tm_11])), (qb, .inl (cA, 32, .inl b_11)), (qe, .inl (cE, 2, .inl g_11))] := hD
          refine lv_if_eq (tgt := 150) hx hb dX1_turn_100 (by decide) (fun c_12 => ?_) (fun c_12 => ?_)
          · refine lv_iconst (v := 0) hx hb dX1_turn_150 (by decide) ?_
            have hP9 := hP.sub (ws' := [(qp, .inr (1, [.ref qf])), (qf, .inr (0, [.ref qb, .ref qe, .int od_11, .int ot_11, .int tm_11])), (qb, .inl (cA, 32, .inl b_11)), (qe, .inl (cE, 2, .inl g_11))]) [0, 1, 2, 3] rfl
            have hD9 := hD.sub (ws' := [(qp, .inr (1, [.ref qf])), (qf, .inr (0, [.ref qb, .ref qe, .int od_11, .int ot_11, .int tm_11])), (qb, .inl (cA, 32, .inl b_11)), (qe, .inl (cE, 2, .inl g_11))]) [0, 1, 2, 3] (by decide) rfl
            have hK9 := hK.sub (tys' := [(cA, .int), (cE, .int)]) [0, 1] rfl
            exact W.zret (v := 0) hx hb hr (by first | rfl | decide) (fun t ht hW => ⟨⟨0, (b_11, g_11, od_11, ot_11, tm_11), rfl, (by first | (simp only [tt_turn, tt_t0, tt_seq_p, c_3, e_4, c_5, e_7, c_8, e_9, c_10, e_11, c_12, reduceIte, eq_self]; done) | (simp [tt_turn, tt_t0, tt_seq_p, c_3, e_4, c_5, e_7, c_8, e_9, c_10, e_11, c_12]; done)), by rw [ht]; exact hP9, va_K.moved hW.alike hK9, hD9⟩, hS.F ht⟩) hS.2.2 dX1_turn_151
          · refine lv_aload_n hx hb dX1_turn_103 rfl (lv_at hl 2 rfl) ?_
            refine va_get (D := (dC, dI)) (ci := 1) (v := .ref qf) (C := RX1) (T := TX1) (N := 1) hx hb hts (by decide +kernel) hown hK hP 0 rfl rfl 0 (by decide) (hts (.fieldLink RX1 7 "TornTryCounter$Pages" "flash" "LTornTryCounter$Flash;") (by decide +kernel)) (fun _ h9 => h9) rfl dX1_turn_104 ?_
            refine lv_iload hx hb dX1_turn_107 (lv_at hl 0 rfl) ?_
            refine lv_iconst (v := 4) hx hb dX1_turn_109 (by decide) ?_
            refine lv_iload_n hx hb dX1_turn_110 rfl (lv_at hl 4 rfl) ?_
            have hPc := hP.sub (ws' := [(qf, .inr (0, [.ref qb, .ref qe, .int od_11, .int ot_11, .int tm_11])), (qb, .inl (cA, 32, .inl b_11)), (qe, .inl (cE, 2, .inl g_11))]) [1, 2, 3] rfl
            have hDc := hD.sub (ws' := [(qf, .inr (0, [.ref qb, .ref qe, .int od_11, .int ot_11, .int tm_11])), (qb, .inl (cA, 32, .inl b_11)), (qe, .inl (cE, 2, .inl g_11))]) [1, 2, 3] (by decide) rfl
            have hKc := hK.sub (tys' := [(cA, .int), (cE, .int)]) [0, 1] rfl
            have hFc := va_free (wc := [(qf, .inr (0, [.ref qb, .ref qe, .int od_11, .int ot_11, .int tm_11])), (qb, .inl (cA, 32, .inl b_11)), (qe, .inl (cE, 2, .inl g_11))]) hD hS hA [1, 2, 3] rfl
            refine va_calli (va_runV (As := [.int (1 - (tt_ac b)), .int 4, .int a1]) (rest := []) ⟨hx, hb, hml, hown, hts⟩ (c_F_program l dC dI cA cE qf qb qe H.size b_11 g_11 od_11 ot_11 tm_11 (1 - (tt_ac b)) 4 a1) (cwV 3 hts gX1_turn_X0_program rfl rfl rfl (by decide +kernel) ⟨Nat.le_of_ble_eq_true rfl, Nat.le_of_ble_eq_true rfl⟩) ⟨fun a U g mk q => by obtain ⟨q0, q1, qP, qK, qD⟩ := q; exact ⟨q0, q1, qP, va_K.moved (u := U) (U := U.calling g mk a) (Vm.Alike.refl U.vm) qK, qD⟩, va_recv hKc hPc (ci := 0) (q0 := 0) rfl rfl, fun U hU hW => ⟨rfl, by rw [hU], by rw [hU]; exact hPc, va_K.moved hW.alike hKc, hDc.weaken (fun _ _ _ _ => trivial)⟩⟩ rfl rfl hl.1 rfl (lv_room (Nat.le_of_ble_eq_true rfl)) dX1_turn_111 ⟨(Nat.zero_le _), (Nat.zero_le _)⟩) hS (fun q _ h => hFc q h) hFc (fun r_13 u t H locs ht hvm hw hB hz1 hk1 hS => ?_)
            obtain ⟨b_13, g_13, od_13, ot_13, tm_13⟩ := u
            obtain ⟨hP1, hK1, hD1⟩ := hB
            have e_13 : tt_prog (b_11, g_11, od_11, ot_11, tm_11) (1 - (tt_ac b)) 4 a1 = (r_13, (b_13, g_13, od_13, ot_13, tm_13)) := hw
            rw [ht] at hP1
            obtain ⟨hP, hD⟩ := va_join (wr := [(qp, .inr (1, [.ref qf]))]) (w1 := [(qf, .inr (0, [.ref qb, .ref qe, .int od_13, .int ot_13, .int tm_13])), (qb, .inl (cA, 32, .inl b_13)), (qe, .inl (cE, 2, .inl g_13))]) hP hD [1, 2, 3] [0] rfl rfl (by decide) (by decide) hk1 hFc hP1 hD1
            have hP : va_P (dC, dI) ttCl [(qp, .inr (1, [.ref qf])), (qf, .inr (0, [.ref qb, .ref qe, .int od_13, .int ot_13, .int tm_13])), (qb, .inl (cA, 32, .inl b_13)), (qe, .inl (cE, 2, .inl g_13))] H := hP
            have hD : va_D A [(qp, .inr (1, [.ref qf])), (qf, .inr (0, [.ref qb, .ref qe, .int od_13, .int ot_13, .int tm_13])), (qb, .inl (cA, 32, .inl b_13)), (qe, .inl (cE, 2, .inl g_13))] := hD
            refine lv_if_eq (tgt := 150) hx hb dX1_turn_114 (by decide) (fun c_14 => ?_) (fun c_14 => ?_)
            · refine lv_iconst (v := 0) hx hb dX1_turn_150 (by decide) ?_
              have hP9 := hP.sub (ws' := [(qp, .inr (1, [.ref qf])), (qf, .inr (0, [.ref qb, .ref qe, .int od_13, .int ot_13, .int tm_13])), (qb, .inl (cA, 32, .inl b_13)), (qe, .inl (cE, 2, .inl g_13))]) [0, 1, 2, 3] rfl
              have hD9 := hD.sub (ws' := [(qp, .inr (1, [.ref qf])), (qf, .inr (0, [.ref qb, .ref qe, .int od_13, .int ot_13, .int tm_13])), (qb, .inl (cA, 32, .inl b_13)), (qe, .inl (cE, 2, .inl g_13))]) [0, 1, 2, 3] (by decide) rfl
              have hK9 := hK.sub (tys' := [(cA, .int), (cE, .int)]) [0, 1] rfl
              exact W.zret (v := 0) hx hb hr (by first | rfl | decide) (fun t ht hW => ⟨⟨0, (b_13, g_13, od_13, ot_13, tm_13), rfl, (by first | (simp only [tt_turn, tt_t0, tt_seq_p, c_3, e_4, c_5, e_7, c_8, e_9, c_10, e_11, c_12, e_13, c_14, reduceIte, eq_self]; done) | (simp [tt_turn, tt_t0, tt_seq_p, c_3, e_4, c_5, e_7, c_8, e_9, c_10, e_11, c_12, e_13, c_14]; done)), by rw [ht]; exact hP9, va_K.moved hW.alike hK9, hD9⟩, hS.F ht⟩) hS.2.2 dX1_turn_151
            · refine lv_aload_n hx hb dX1_turn_117 rfl (lv_at hl 2 rfl) ?_
              refine va_get (D := (dC, dI)) (ci := 1) (v := .ref qf) (C := RX1) (T := TX1) (N := 1) hx hb hts (by decide +kernel) hown hK hP 0 rfl rfl 0 (by decide) (hts (.fieldLink RX1 7 "TornTryCounter$Pages" "flash" "LTornTryCounter$Flash;") (by decide +kernel)) (fun _ h9 => h9) rfl dX1_turn_118 ?_
              refine lv_iload hx hb dX1_turn_121 (lv_at hl 0 rfl) ?_
              refine lv_iconst (v := 5) hx hb dX1_turn_123 (by decide) ?_
              refine lv_iload_n hx hb dX1_turn_124 rfl (lv_at hl 5 rfl) ?_
              have hPc := hP.sub (ws' := [(qf, .inr (0, [.ref qb, .ref qe, .int od_13, .int ot_13, .int tm_13])), (qb, .inl (cA, 32, .inl b_13)), (qe, .inl (cE, 2, .inl g_13))]) [1, 2, 3] rfl
              have hDc := hD.sub (ws' := [(qf, .inr (0, [.ref qb, .ref qe, .int od_13, .int ot_13, .int tm_13])), (qb, .inl (cA, 32, .inl b_13)), (qe, .inl (cE, 2, .inl g_13))]) [1, 2, 3] (by decide) rfl
              have hKc := hK.sub (tys' := [(cA, .int), (cE, .int)]) [0, 1] rfl
              have hFc := va_free (wc := [(qf, .inr (0, [.ref qb, .ref qe, .int od_13, .int ot_13, .int tm_13])), (qb, .inl (cA, 32, .inl b_13)), (qe, .inl (cE, 2, .inl g_13))]) hD hS hA [1, 2, 3] rfl
              refine va_calli (va_runV (As := [.int (1 - (tt_ac b)), .int 5, .int c1]) (rest := []) ⟨hx, hb, hml, hown, hts⟩ (c_F_program l dC dI cA cE qf qb qe H.size b_13 g_13 od_13 ot_13 tm_13 (1 - (tt_ac b)) 5 c1) (cwV 3 hts gX1_turn_X0_program rfl rfl rfl (by decide +kernel) ⟨Nat.le_of_ble_eq_true rfl, Nat.le_of_ble_eq_true rfl⟩) ⟨fun a U g mk q => by obtain ⟨q0, q1, qP, qK, qD⟩ := q; exact ⟨q0, q1, qP, va_K.moved (u := U) (U := U.calling g mk a) (Vm.Alike.refl U.vm) qK, qD⟩, va_recv hKc hPc (ci := 0) (q0 := 0) rfl rfl, fun U hU hW => ⟨rfl, by rw [hU], by rw [hU]; exact hPc, va_K.moved hW.alike hKc, hDc.weaken (fun _ _ _ _ => trivial)⟩⟩ rfl rfl hl.1 rfl (lv_room (Nat.le_of_ble_eq_true rfl)) dX1_turn_125 ⟨(Nat.zero_le _), (Nat.zero_le _)⟩) hS (fun q _ h => hFc q h) hFc (fun r_15 u t H locs ht hvm hw hB hz1 hk1 hS => ?_)
              obtain ⟨b_15, g_15, od_15, ot_15, tm_15⟩ := u
              obtain ⟨hP1, hK1, hD1⟩ := hB
              have e_15 : tt_prog (b_13, g_13, od_13, ot_13, tm_13) (1 - (tt_ac b)) 5 c1 = (r_15, (b_15, g_15, od_15, ot_15, tm_15)) := hw
              rw [ht] at hP1
              obtain ⟨hP, hD⟩ := va_join (wr := [(qp, .inr (1, [.ref qf]))]) (w1 := [(qf, .inr (0, [.ref qb, .ref qe, .int od_15, .int ot_15, .int tm_15])), (qb, .inl (cA, 32, .inl b_15)), (qe, .inl (cE, 2, .inl g_15))]) hP hD [1, 2, 3] [0] rfl rfl (by decide) (by decide) hk1 hFc hP1 hD1
              have hP : va_P (dC, dI) ttCl [(qp, .inr (1, [.ref qf])), (qf, .inr (0, [.ref qb, .ref qe, .int od_15, .int ot_15, .int tm_15])), (qb, .inl (cA, 32, .inl b_15)), (qe, .inl (cE, 2, .inl g_15))] H := hP
              have hD : va_D A [(qp, .inr (1, [.ref qf])), (qf, .inr (0, [.ref qb, .ref qe, .int od_15, .int ot_15, .int tm_15])), (qb, .inl (cA, 32, .inl b_15)), (qe, .inl (cE, 2, .inl g_15))] := hD
              refine lv_if_eq (tgt := 150) hx hb dX1_turn_128 (by decide) (fun c_16 => ?_) (fun c_16 => ?_)
              · refine lv_iconst (v := 0) hx hb dX1_turn_150 (by decide) ?_
                have hP9 := hP.sub (ws' := [(qp, .inr (1, [.ref qf])), (qf, .inr (0, [.ref qb, .ref qe, .int od_15, .int ot_15, .int tm_15])), (qb, .inl (cA, 32, .inl b_15)), (qe, .inl (cE, 2, .inl g_15))]) [0, 1, 2, 3] rfl
                have hD9 := hD.sub (ws' := [(qp, .inr (1, [.ref qf])), (qf, .inr (0, [.ref qb, .ref qe, .int od_15, .int ot_15, .int tm_15])), (qb, .inl (cA, 32, .inl b_15)), (qe, .inl (cE, 2, .inl g_15))]) [0, 1, 2, 3] (by decide) rfl
                have hK9 := hK.sub (tys' := [(cA, .int), (cE, .int)]) [0, 1] rfl
                exact W.zret (v := 0) hx hb hr (by first | rfl | decide) (fun t ht hW => ⟨⟨0, (b_15, g_15, od_15, ot_15, tm_15), rfl, (by first | (simp only [tt_turn, tt_t0, tt_seq_p, c_3, e_4, c_5, e_7, c_8, e_9, c_10, e_11, c_12, e_13, c_14, e_15, c_16, reduceIte, eq_self]; done) | (simp [tt_turn, tt_t0, tt_seq_p, c_3, e_4, c_5, e_7, c_8, e_9, c_10, e_11, c_12, e_13, c_14, e_15, c_16]; done)), by rw [ht]; exact hP9, va_K.moved hW.alike hK9, hD9⟩, hS.F ht⟩) hS.2.2 dX1_turn_151
              · refine lv_aload_n hx hb dX1_turn_131 rfl (lv_at hl 2 rfl) ?_
                refine va_get (D := (dC, dI)) (ci := 1) (v := .ref qf) (C := RX1) (T := TX1) (N := 1) hx hb hts (by decide +kernel) hown hK hP 0 rfl rfl 0 (by decide) (hts (.fieldLink RX1 7 "TornTryCounter$Pages" "flash" "LTornTryCounter$Flash;") (by decide +kernel)) (fun _ h9 => h9) rfl dX1_turn_132 ?_
                refine lv_iload hx hb dX1_turn_135 (lv_at hl 0 rfl) ?_
                refine lv_iconst (v := 0) hx hb dX1_turn_137 (by decide) ?_
                refine lv_bipush (v := 90) hx hb dX1_turn_138 (by decide) ?_
                have hPc := hP.sub (ws' := [(qf, .inr (0, [.ref qb, .ref qe, .int od_15, .int ot_15, .int tm_15])), (qb, .inl (cA, 32, .inl b_15)), (qe, .inl (cE, 2, .inl g_15))]) [1, 2, 3] rfl
                have hDc := hD.sub (ws' := [(qf, .inr (0, [.ref qb, .ref qe, .int od_15, .int ot_15, .int tm_15])), (qb, .inl (cA, 32, .inl b_15)), (qe, .inl (cE, 2, .inl g_15))]) [1, 2, 3] (by decide) rfl
                have hKc := hK.sub (tys' := [(cA, .int), (cE, .int)]) [0, 1] rfl
                have hFc := va_free (wc := [(qf, .inr (0, [.ref qb, .ref qe, .int od_15, .int ot_15, .int tm_15])), (qb, .inl (cA, 32, .inl b_15)), (qe, .inl (cE, 2, .inl g_15))]) hD hS hA [1, 2, 3] rfl
                refine va_calli (va_runV (As := [.int (1 - (tt_ac b)), .int 0, .int 90]) (rest := []) ⟨hx, hb, hml, hown, hts⟩ (c_F_program l dC dI cA cE qf qb qe H.size b_15 g_15 od_15 ot_15 tm_15 (1 - (tt_ac b)) 0 90) (cwV 3 hts gX1_turn_X0_program rfl rfl rfl (by decide +kernel) ⟨Nat.le_of_ble_eq_true rfl, Nat.le_of_ble_eq_true rfl⟩) ⟨fun a U g mk q => by obtain ⟨q0, q1, qP, qK, qD⟩ := q; exact ⟨q0, q1, qP, va_K.moved (u := U) (U := U.calling g mk a) (Vm.Alike.refl U.vm) qK, qD⟩, va_recv hKc hPc (ci := 0) (q0 := 0) rfl rfl, fun U hU hW => ⟨rfl, by rw [hU], by rw [hU]; exact hPc, va_K.moved hW.alike hKc, hDc.weaken (fun _ _ _ _ => trivial)⟩⟩ rfl rfl hl.1 rfl (lv_room (Nat.le_of_ble_eq_true rfl)) dX1_turn_140 ⟨(Nat.zero_le _), (Nat.zero_le _)⟩) hS (fun q _ h => hFc q h) hFc (fun r_17 u t H locs ht hvm hw hB hz1 hk1 hS => ?_)
                obtain ⟨b_17, g_17, od_17, ot_17, tm_17⟩ := u
                obtain ⟨hP1, hK1, hD1⟩ := hB
                have e_17 : tt_prog (b_15, g_15, od_15, ot_15, tm_15) (1 - (tt_ac b)) 0 90 = (r_17, (b_17, g_17, od_17, ot_17, tm_17)) := hw
                rw [ht] at hP1
                obtain ⟨hP, hD⟩ := va_join (wr := [(qp, .inr (1, [.ref qf]))]) (w1 := [(qf, .inr (0, [.ref qb, .ref qe, .int od_17, .int ot_17, .int tm_17])), (qb, .inl (cA, 32, .inl b_17)), (qe, .inl (cE, 2, .inl g_17))]) hP hD [1, 2, 3] [0] rfl rfl (by decide) (by decide) hk1 hFc hP1 hD1
                have hP : va_P (dC, dI) ttCl [(qp, .inr (1, [.ref qf])), (qf, .inr (0, [.ref qb, .ref qe, .int od_17, .int ot_17, .int tm_17])), (qb, .inl (cA, 32, .inl b_17)), (qe, .inl (cE, 2, .inl g_17))] H := hP
                have hD : va_D A [(qp, .inr (1, [.ref qf])), (qf, .inr (0, [.ref qb, .ref qe, .int od_17, .int ot_17, .int tm_17])), (qb, .inl (cA, 32, .inl b_17)), (qe, .inl (cE, 2, .inl g_17))] := hD
                refine lv_if_eq (tgt := 150) hx hb dX1_turn_143 (by decide) (fun c_18 => ?_) (fun c_18 => ?_)
                · refine lv_iconst (v := 0) hx hb dX1_turn_150 (by decide) ?_
                  have hP9 := hP.sub (ws' := [(qp, .inr (1, [.ref qf])), (qf, .inr (0, [.ref qb, .ref qe, .int od_17, .int ot_17, .int tm_17])), (qb, .inl (cA, 32, .inl b_17)), (qe, .inl (cE, 2, .inl g_17))]) [0, 1, 2, 3] rfl
                  have hD9 := hD.sub (ws' := [(qp, .inr (1, [.ref qf])), (qf, .inr (0, [.ref qb, .ref qe, .int od_17, .int ot_17, .int tm_17])), (qb, .inl (cA, 32, .inl b_17)), (qe, .inl (cE, 2, .inl g_17))]) [0, 1, 2, 3] (by decide) rfl
                  have hK9 := hK.sub (tys' := [(cA, .int), (cE, .int)]) [0, 1] rfl
                  exact W.zret (v := 0) hx hb hr (by first | rfl | decide) (fun t ht hW => ⟨⟨0, (b_17, g_17, od_17, ot_17, tm_17), rfl, (by first | (simp only [tt_turn, tt_t0, tt_seq_p, c_3, e_4, c_5, e_7, c_8, e_9, c_10, e_11, c_12, e_13, c_14, e_15, c_16, e_17, c_18, reduceIte, eq_self]; done) | (simp [tt_turn, tt_t0, tt_seq_p, c_3, e_4, c_5, e_7, c_8, e_9, c_10, e_11, c_12, e_13, c_14, e_15, c_16, e_17, c_18]; done)), by rw [ht]; exact hP9, va_K.moved hW.alike hK9, hD9⟩, hS.F ht⟩) hS.2.2 dX1_turn_151
                · refine lv_iconst (v := 1) hx hb dX1_turn_146 (by decide) ?_
                  refine lv_goto (tgt := 151) hx hb dX1_turn_147 (by decide) ?_
                  have hP9 := hP.sub (ws' := [(qp, .inr (1, [.ref qf])), (qf, .inr (0, [.ref qb, .ref qe, .int od_17, .int ot_17, .int tm_17])), (qb, .inl (cA, 32, .inl b_17)), (qe, .inl (cE, 2, .inl g_17))]) [0, 1, 2, 3] rfl
                  have hD9 := hD.sub (ws' := [(qp, .inr (1, [.ref qf])), (qf, .inr (0, [.ref qb, .ref qe, .int od_17, .int ot_17, .int tm_17])), (qb, .inl (cA, 32, .inl b_17)), (qe, .inl (cE, 2, .inl g_17))]) [0, 1, 2, 3] (by decide) rfl
                  have hK9 := hK.sub (tys' := [(cA, .int), (cE, .int)]) [0, 1] rfl
                  exact W.zret (v := 1) hx hb hr (by first | rfl | decide) (fun t ht hW => ⟨⟨1, (b_17, g_17, od_17, ot_17, tm_17), rfl, (by first | (simp only [tt_turn, tt_t0, tt_seq_p, c_3, e_4, c_5, e_7, c_8, e_9, c_10, e_11, c_12, e_13, c_14, e_15, c_16, e_17, c_18, reduceIte, eq_self]; done) | (simp [tt_turn, tt_t0, tt_seq_p, c_3, e_4, c_5, e_7, c_8, e_9, c_10, e_11, c_12, e_13, c_14, e_15, c_16, e_17, c_18]; done)), by rw [ht]; exact hP9, va_K.moved hW.alike hK9, hD9⟩, hS.F ht⟩) hS.2.2 dX1_turn_151
  · refine lv_aload_n hx hb dX1_turn_21 rfl (lv_at hl 2 rfl) ?_
    refine va_get (D := (dC, dI)) (ci := 1) (v := .ref qf) (C := RX1) (T := TX1) (N := 1) hx hb hts (by decide +kernel) hown hK hP 0 rfl rfl 0 (by decide) (hts (.fieldLink RX1 7 "TornTryCounter$Pages" "flash" "LTornTryCounter$Flash;") (by decide +kernel)) (fun _ h9 => h9) rfl dX1_turn_22 ?_
    refine lv_iload hx hb dX1_turn_25 (lv_at hl 0 rfl) ?_
    refine lv_iconst (v := 0) hx hb dX1_turn_27 (by decide) ?_
    refine lv_iconst (v := 0) hx hb dX1_turn_28 (by decide) ?_
    have hPc := hP.sub (ws' := [(qf, .inr (0, [.ref qb, .ref qe, .int od, .int ot, .int tm])), (qb, .inl (cA, 32, .inl b)), (qe, .inl (cE, 2, .inl g))]) [1, 2, 3] rfl
    have hDc := hD.sub (ws' := [(qf, .inr (0, [.ref qb, .ref qe, .int od, .int ot, .int tm])), (qb, .inl (cA, 32, .inl b)), (qe, .inl (cE, 2, .inl g))]) [1, 2, 3] (by decide) rfl
    have hKc := hK.sub (tys' := [(cA, .int), (cE, .int)]) [0, 1] rfl
    have hFc := va_free (wc := [(qf, .inr (0, [.ref qb, .ref qe, .int od, .int ot, .int tm])), (qb, .inl (cA, 32, .inl b)), (qe, .inl (cE, 2, .inl g))]) hD hS hA [1, 2, 3] rfl
    refine va_calli (va_runV (As := [.int (1 - (tt_ac b)), .int 0, .int 0]) (rest := []) ⟨hx, hb, hml, hown, hts⟩ (c_F_program l dC dI cA cE qf qb qe H.size b g od ot tm (1 - (tt_ac b)) 0 0) (cwV 3 hts gX1_turn_X0_program rfl rfl rfl (by decide +kernel) ⟨Nat.le_of_ble_eq_true rfl, Nat.le_of_ble_eq_true rfl⟩) ⟨fun a U g mk q => by obtain ⟨q0, q1, qP, qK, qD⟩ := q; exact ⟨q0, q1, qP, va_K.moved (u := U) (U := U.calling g mk a) (Vm.Alike.refl U.vm) qK, qD⟩, va_recv hKc hPc (ci := 0) (q0 := 0) rfl rfl, fun U hU hW => ⟨rfl, by rw [hU], by rw [hU]; exact hPc, va_K.moved hW.alike hKc, hDc.weaken (fun _ _ _ _ => trivial)⟩⟩ rfl rfl hl.1 rfl (lv_room (Nat.le_of_ble_eq_true rfl)) dX1_turn_29 ⟨(Nat.zero_le _), (Nat.zero_le _)⟩) hS (fun q _ h => hFc q h) hFc (fun r_19 u t H locs ht hvm hw hB hz1 hk1 hS => ?_)
    obtain ⟨b_19, g_19, od_19, ot_19, tm_19⟩ := u
    obtain ⟨hP1, hK1, hD1⟩ := hB
    have e_19 : tt_prog (b, g, od, ot, tm) (1 - (tt_ac b)) 0 0 = (r_19, (b_19, g_19, od_19, ot_19, tm_19)) := hw
    rw [ht] at hP1
    obtain ⟨hP, hD⟩ := va_join (wr := [(qp, .inr (1, [.ref qf]))]) (w1 := [(qf, .inr (0, [.ref qb, .ref qe, .int od_19, .int ot_19, .int tm_19])), (qb, .inl (cA, 32, .inl b_19)), (qe, .inl (cE, 2, .inl g_19))]) hP hD [1, 2, 3] [0] rfl rfl (by decide) (by decide) hk1 hFc hP1 hD1
    have hP : va_P (dC, dI) ttCl [(qp, .inr (1, [.ref qf])), (qf, .inr (0, [.ref qb, .ref qe, .int od_19, .int ot_19, .int tm_19])), (qb, .inl (cA, 32, .inl b_19)), (qe, .inl (cE, 2, .inl g_19))] H := hP
    have hD : va_D A [(qp, .inr (1, [.ref qf])), (qf, .inr (0, [.ref qb, .ref qe, .int od_19, .int ot_19, .int tm_19])), (qb, .inl (cA, 32, .inl b_19)), (qe, .inl (cE, 2, .inl g_19))] := hD
    refine lv_if_ne (tgt := 37) hx hb dX1_turn_32 (by decide) (fun c_20 => ?_) (fun c_20 => ?_)
    · refine lv_aload_n hx hb dX1_turn_37 rfl (lv_at hl 2 rfl) ?_
      refine va_get (D := (dC, dI)) (ci := 1) (v := .ref qf) (C := RX1) (T := TX1) (N := 1) hx hb hts (by decide +kernel) hown hK hP 0 rfl rfl 0 (by decide) (hts (.fieldLink RX1 7 "TornTryCounter$Pages" "flash" "LTornTryCounter$Flash;") (by decide +kernel)) (fun _ h9 => h9) rfl dX1_turn_38 ?_
      refine lv_iload hx hb dX1_turn_41 (lv_at hl 0 rfl) ?_
      have hPc := hP.sub (ws' := [(qf, .inr (0, [.ref qb, .ref qe, .int od_19, .int ot_19, .int tm_19])), (qb, .inl (cA, 32, .inl b_19)), (qe, .inl (cE, 2, .inl g_19))]) [1, 2, 3] rfl
      have hDc := hD.sub (ws' := [(qf, .inr (0, [.ref qb, .ref qe, .int od_19, .int ot_19, .int tm_19])), (qb, .inl (cA, 32, .inl b_19)), (qe, .inl (cE, 2, .inl g_19))]) [1, 2, 3] (by decide) rfl
      have hKc := hK.sub (tys' := [(cA, .int), (cE, .int)]) [0, 1] rfl
      have hFc := va_free (wc := [(qf, .inr (0, [.ref qb, .ref qe, .int od_19, .int ot_19, .int tm_19])), (qb, .inl (cA, 32, .inl b_19)), (qe, .inl (cE, 2, .inl g_19))]) hD hS hA [1, 2, 3] rfl
      refine va_calli (va_runV (As := [.int (1 - (tt_ac b))]) (rest := []) ⟨hx, hb, hml, hown, hts⟩ (c_F_erase l dC dI cA cE qf qb qe H.size b_19 g_19 od_19 ot_19 tm_19 (1 - (tt_ac b))) (cwV 1 hts gX1_turn_X0_erase rfl rfl rfl (by decide +kernel) ⟨Nat.le_of_ble_eq_true rfl, Nat.le_of_ble_eq_true rfl⟩) ⟨fun a U g mk q => by obtain ⟨q0, q1, qP, qK, qD⟩ := q; exact ⟨q0, q1, qP, va_K.moved (u := U) (U := U.calling g mk a) (Vm.Alike.refl U.vm) qK, qD⟩, va_recv hKc hPc (ci := 0) (q0 := 0) rfl rfl, fun U hU hW => ⟨rfl, by rw [hU], by rw [hU]; exact hPc, va_K.moved hW.alike hKc, hDc.weaken (fun _ _ _ _ => trivial)⟩⟩ rfl rfl hl.1 rfl (lv_room (Nat.le_of_ble_eq_true rfl)) dX1_turn_43 ⟨(Nat.zero_le _), (Nat.zero_le _)⟩) hS (fun q _ h => hFc q h) hFc (fun r_21 u t H locs ht hvm hw hB hz1 hk1 hS => ?_)
      obtain ⟨b_21, g_21, od_21, ot_21, tm_21⟩ := u
      obtain ⟨hP1, hK1, hD1⟩ := hB
      have e_21 : tt_erase (b_19, g_19, od_19, ot_19, tm_19) (1 - (tt_ac b)) = (r_21, (b_21, g_21, od_21, ot_21, tm_21)) := hw
      rw [ht] at hP1
      obtain ⟨hP, hD⟩ := va_join (wr := [(qp, .inr (1, [.ref qf]))]) (w1 := [(qf, .inr (0, [.ref qb, .ref qe, .int od_21, .int ot_21, .int tm_21])), (qb, .inl (cA, 32, .inl b_21)), (qe, .inl (cE, 2, .inl g_21))]) hP hD [1, 2, 3] [0] rfl rfl (by decide) (by decide) hk1 hFc hP1 hD1
      have hP : va_P (dC, dI) ttCl [(qp, .inr (1, [.ref qf])), (qf, .inr (0, [.ref qb, .ref qe, .int od_21, .int ot_21, .int tm_21])), (qb, .inl (cA, 32, .inl b_21)), (qe, .inl (cE, 2, .inl g_21))] H := hP
      have hD : va_D A [(qp, .inr (1, [.ref qf])), (qf, .inr (0, [.ref qb, .ref qe, .int od_21, .int ot_21, .int tm_21])), (qb, .inl (cA, 32, .inl b_21)), (qe, .inl (cE, 2, .inl g_21))] := hD
      refine lv_if_eq (tgt := 150) hx hb dX1_turn_46 (by decide) (fun c_22 => ?_) (fun c_22 => ?_)
      · refine lv_iconst (v := 0) hx hb dX1_turn_150 (by decide) ?_
        have hP9 := hP.sub (ws' := [(qp, .inr (1, [.ref qf])), (qf, .inr (0, [.ref qb, .ref qe, .int od_21, .int ot_21, .int tm_21])), (qb, .inl (cA, 32, .inl b_21)), (qe, .inl (cE, 2, .inl g_21))]) [0, 1, 2, 3] rfl
        have hD9 := hD.sub (ws' := [(qp, .inr (1, [.ref qf])), (qf, .inr (0, [.ref qb, .ref qe, .int od_21, .int ot_21, .int tm_21])), (qb, .inl (cA, 32, .inl b_21)), (qe, .inl (cE, 2, .inl g_21))]) [0, 1, 2, 3] (by decide) rfl
        have hK9 := hK.sub (tys' := [(cA, .int), (cE, .int)]) [0, 1] rfl
        exact W.zret (v := 0) hx hb hr (by first | rfl | decide) (fun t ht hW => ⟨⟨0, (b_21, g_21, od_21, ot_21, tm_21), rfl, (by first | (simp only [tt_turn, tt_t0, tt_seq_p, c_3, e_19, c_20, e_21, c_22, reduceIte, eq_self]; done) | (simp [tt_turn, tt_t0, tt_seq_p, c_3, e_19, c_20, e_21, c_22]; done)), by rw [ht]; exact hP9, va_K.moved hW.alike hK9, hD9⟩, hS.F ht⟩) hS.2.2 dX1_turn_151
      · refine lv_aload_n hx hb dX1_turn_49 rfl (lv_at hl 2 rfl) ?_
        refine va_get (D := (dC, dI)) (ci := 1) (v := .ref qf) (C := RX1) (T := TX1) (N := 1) hx hb hts (by decide +kernel) hown hK hP 0 rfl rfl 0 (by decide) (hts (.fieldLink RX1 7 "TornTryCounter$Pages" "flash" "LTornTryCounter$Flash;") (by decide +kernel)) (fun _ h9 => h9) rfl dX1_turn_50 ?_
        refine lv_iload hx hb dX1_turn_53 (lv_at hl 0 rfl) ?_
        refine lv_iconst (v := 1) hx hb dX1_turn_55 (by decide) ?_
        refine lv_aload_n hx hb dX1_turn_56 rfl (lv_at hl 2 rfl) ?_
        refine lv_iload hx hb dX1_turn_57 (lv_at hl 1 rfl) ?_
        have hPc := hP.sub (ws' := [(qp, .inr (1, [.ref qf])), (qf, .inr (0, [.ref qb, .ref qe, .int od_21, .int ot_21, .int tm_21])), (qb, .inl (cA, 32, .inl b_21)), (qe, .inl (cE, 2, .inl g_21))]) [0, 1, 2, 3] rfl
        have hDc := hD.sub (ws' := [(qp, .inr (1, [.ref qf])), (qf, .inr (0, [.ref qb, .ref qe, .int od_21, .int ot_21, .int tm_21])), (qb, .inl (cA, 32, .inl b_21)), (qe, .inl (cE, 2, .inl g_21))]) [0, 1, 2, 3] (by decide) rfl
        have hKc := hK.sub (tys' := [(cA, .int), (cE, .int)]) [0, 1] rfl
        have hFc := va_free (wc := [(qp, .inr (1, [.ref qf])), (qf, .inr (0, [.ref qb, .ref qe, .int od_21, .int ot_21, .int tm_21])), (qb, .inl (cA, 32, .inl b_21)), (qe, .inl (cE, 2, .inl g_21))]) hD hS hA [0, 1, 2, 3] rfl
        refine va_calli (va_runV (As := [.int (tt_ac b)]) (rest := [.int 1, .int (1 - (tt_ac b)), .ref qf]) ⟨hx, hb, hml, hown, hts⟩ (c_P_generationAfter l dC dI cA cE qp qf qb qe H.size b_21 g_21 od_21 ot_21 tm_21 (tt_ac b)) (cwV 1 hts gX1_turn_X1_generationAfter rfl rfl rfl (by decide +kernel) ⟨Nat.le_of_ble_eq_true rfl, Nat.le_of_ble_eq_true rfl⟩) ⟨fun a U g mk q => by obtain ⟨q0, q1, qP, qK, qD⟩ := q; exact ⟨q0, q1, qP, va_K.moved (u := U) (U := U.calling g mk a) (Vm.Alike.refl U.vm) qK, qD⟩, va_recv hKc hPc (ci := 1) (q0 := 0) rfl rfl, fun U hU hW => ⟨rfl, by rw [hU], by rw [hU]; exact hPc, va_K.moved hW.alike hKc, hDc.weaken (fun _ _ _ _ => trivial)⟩⟩ rfl rfl hl.1 rfl (lv_room (Nat.le_of_ble_eq_true rfl)) dX1_turn_59 ⟨(Nat.zero_le _), (Nat.zero_le _)⟩) hS (fun q _ h => hFc q h) hFc (fun r_23 u t H locs ht hvm hw hB hz1 hk1 hS => ?_)
        have hw : tt_ga b_21 (tt_ac b) = r_23 := hw.symm
        subst hw
        obtain ⟨hP1, hK1, hD1⟩ := hB
        rw [ht] at hP1
        obtain ⟨hP, hD⟩ := va_join (wr := []) (w1 := [(qp, .inr (1, [.ref qf])), (qf, .inr (0, [.ref qb, .ref qe, .int od_21, .int ot_21, .int tm_21])), (qb, .inl (cA, 32, .inl b_21)), (qe, .inl (cE, 2, .inl g_21))]) hP hD [0, 1, 2, 3] [] rfl rfl (by decide) (by decide) hk1 hFc hP1 hD1
        have hP : va_P (dC, dI) ttCl [(qp, .inr (1, [.ref qf])), (qf, .inr (0, [.ref qb, .ref qe, .int od_21, .int ot_21, .int tm_21])), (qb, .inl (cA, 32, .inl b_21)), (qe, .inl (cE, 2, .inl g_21))] H := hP
        have hD : va_D A [(qp, .inr (1, [.ref qf])), (qf, .inr (0, [.ref qb, .ref qe, .int od_21, .int ot_21, .int tm_21])), (qb, .inl (cA, 32, .inl b_21)), (qe, .inl (cE, 2, .inl g_21))] := hD
        have hPc := hP.sub (ws' := [(qf, .inr (0, [.ref qb, .ref qe, .int od_21, .int ot_21, .int tm_21])), (qb, .inl (cA, 32, .inl b_21)), (qe, .inl (cE, 2, .inl g_21))]) [1, 2, 3] rfl
        have hDc := hD.sub (ws' := [(qf, .inr (0, [.ref qb, .ref qe, .int od_21, .int ot_21, .int tm_21])), (qb, .inl (cA, 32, .inl b_21)), (qe, .inl (cE, 2, .inl g_21))]) [1, 2, 3] (by decide) rfl
        have hKc := hK.sub (tys' := [(cA, .int), (cE, .int)]) [0, 1] rfl
        have hFc := va_free (wc := [(qf, .inr (0, [.ref qb, .ref qe, .int od_21, .int ot_21, .int tm_21])), (qb, .inl (cA, 32, .inl b_21)), (qe, .inl (cE, 2, .inl g_21))]) hD hS hA [1, 2, 3] rfl
        refine va_calli (va_runV (As := [.int (1 - (tt_ac b)), .int 1, .int (tt_ga b_21 (tt_ac b))]) (rest := []) ⟨hx, hb, hml, hown, hts⟩ (c_F_program l dC dI cA cE qf qb qe H.size b_21 g_21 od_21 ot_21 tm_21 (1 - (tt_ac b)) 1 (tt_ga b_21 (tt_ac b))) (cwV 3 hts gX1_turn_X0_program rfl rfl rfl (by decide +kernel) ⟨Nat.le_of_ble_eq_true rfl, Nat.le_of_ble_eq_true rfl⟩) ⟨fun a U g mk q => by obtain ⟨q0, q1, qP, qK, qD⟩ := q; exact ⟨q0, q1, qP, va_K.moved (u := U) (U := U.calling g mk a) (Vm.Alike.refl U.vm) qK, qD⟩, va_recv hKc hPc (ci := 0) (q0 := 0) rfl rfl, fun U hU hW => ⟨rfl, by rw [hU], by rw [hU]; exact hPc, va_K.moved hW.alike hKc, hDc.weaken (fun _ _ _ _ => trivial)⟩⟩ rfl rfl hl.1 rfl (lv_room (Nat.le_of_ble_eq_true rfl)) dX1_turn_62 ⟨(Nat.zero_le _), (Nat.zero_le _)⟩) hS (fun q _ h => hFc q h) hFc (fun r_24 u t H locs ht hvm hw hB hz1 hk1 hS => ?_)
        obtain ⟨b_24, g_24, od_24, ot_24, tm_24⟩ := u
        obtain ⟨hP1, hK1, hD1⟩ := hB
        have e_24 : tt_prog (b_21, g_21, od_21, ot_21, tm_21) (1 - (tt_ac b)) 1 (tt_ga b_21 (tt_ac b)) = (r_24, (b_24, g_24, od_24, ot_24, tm_24)) := hw
        rw [ht] at hP1
        obtain ⟨hP, hD⟩ := va_join (wr := [(qp, .inr (1, [.ref qf]))]) (w1 := [(qf, .inr (0, [.ref qb, .ref qe, .int od_24, .int ot_24, .int tm_24])), (qb, .inl (cA, 32, .inl b_24)), (qe, .inl (cE, 2, .inl g_24))]) hP hD [1, 2, 3] [0] rfl rfl (by decide) (by decide) hk1 hFc hP1 hD1
        have hP : va_P (dC, dI) ttCl [(qp, .inr (1, [.ref qf])), (qf, .inr (0, [.ref qb, .ref qe, .int od_24, .int ot_24, .int tm_24])), (qb, .inl (cA, 32, .inl b_24)), (qe, .inl (cE, 2, .inl g_24))] H := hP
        have hD : va_D A [(qp, .inr (1, [.ref qf])), (qf, .inr (0, [.ref qb, .ref qe, .int od_24, .int ot_24, .int tm_24])), (qb, .inl (cA, 32, .inl b_24)), (qe, .inl (cE, 2, .inl g_24))] := hD
        refine lv_if_eq (tgt := 150) hx hb dX1_turn_65 (by decide) (fun c_25 => ?_) (fun c_25 => ?_)
        · refine lv_iconst (v := 0) hx hb dX1_turn_150 (by decide) ?_
          have hP9 := hP.sub (ws' := [(qp, .inr (1, [.ref qf])), (qf, .inr (0, [.ref qb, .ref qe, .int od_24, .int ot_24, .int tm_24])), (qb, .inl (cA, 32, .inl b_24)), (qe, .inl (cE, 2, .inl g_24))]) [0, 1, 2, 3] rfl
          have hD9 := hD.sub (ws' := [(qp, .inr (1, [.ref qf])), (qf, .inr (0, [.ref qb, .ref qe, .int od_24, .int ot_24, .int tm_24])), (qb, .inl (cA, 32, .inl b_24)), (qe, .inl (cE, 2, .inl g_24))]) [0, 1, 2, 3] (by decide) rfl
          have hK9 := hK.sub (tys' := [(cA, .int), (cE, .int)]) [0, 1] rfl
          exact W.zret (v := 0) hx hb hr (by first | rfl | decide) (fun t ht hW => ⟨⟨0, (b_24, g_24, od_24, ot_24, tm_24), rfl, (by first | (simp only [tt_turn, tt_t0, tt_seq_p, c_3, e_19, c_20, e_21, c_22, e_24, c_25, reduceIte, eq_self]; done) | (simp [tt_turn, tt_t0, tt_seq_p, c_3, e_19, c_20, e_21, c_22, e_24, c_25]; done)), by rw [ht]; exact hP9, va_K.moved hW.alike hK9, hD9⟩, hS.F ht⟩) hS.2.2 dX1_turn_151
        · refine lv_aload_n hx hb dX1_turn_68 rfl (lv_at hl 2 rfl) ?_
          refine va_get (D := (dC, dI)) (ci := 1) (v := .ref qf) (C := RX1) (T := TX1) (N := 1) hx hb hts (by decide +kernel) hown hK hP 0 rfl rfl 0 (by decide) (hts (.fieldLink RX1 7 "TornTryCounter$Pages" "flash" "LTornTryCounter$Flash;") (by decide +kernel)) (fun _ h9 => h9) rfl dX1_turn_69 ?_
          refine lv_iload hx hb dX1_turn_72 (lv_at hl 0 rfl) ?_
          refine lv_iconst (v := 2) hx hb dX1_turn_74 (by decide) ?_
          refine lv_iload_n hx hb dX1_turn_75 rfl (lv_at hl 3 rfl) ?_
          refine lv_bipush (v := 8) hx hb dX1_turn_76 (by decide) ?_
          refine lv_ishr hx hb dX1_turn_78 ?_
          have hPc := hP.sub (ws' := [(qf, .inr (0, [.ref qb, .ref qe, .int od_24, .int ot_24, .int tm_24])), (qb, .inl (cA, 32, .inl b_24)), (qe, .inl (cE, 2, .inl g_24))]) [1, 2, 3] rfl
          have hDc := hD.sub (ws' := [(qf, .inr (0, [.ref qb, .ref qe, .int od_24, .int ot_24, .int tm_24])), (qb, .inl (cA, 32, .inl b_24)), (qe, .inl (cE, 2, .inl g_24))]) [1, 2, 3] (by decide) rfl
          have hKc := hK.sub (tys' := [(cA, .int), (cE, .int)]) [0, 1] rfl
          have hFc := va_free (wc := [(qf, .inr (0, [.ref qb, .ref qe, .int od_24, .int ot_24, .int tm_24])), (qb, .inl (cA, 32, .inl b_24)), (qe, .inl (cE, 2, .inl g_24))]) hD hS hA [1, 2, 3] rfl
          refine va_calli (va_runV (As := [.int (1 - (tt_ac b)), .int 2, .int (p1 >>> ((8 : Int32) &&& 31))]) (rest := []) ⟨hx, hb, hml, hown, hts⟩ (c_F_program l dC dI cA cE qf qb qe H.size b_24 g_24 od_24 ot_24 tm_24 (1 - (tt_ac b)) 2 (p1 >>> ((8 : Int32) &&& 31))) (cwV 3 hts gX1_turn_X0_program rfl rfl rfl (by decide +kernel) ⟨Nat.le_of_ble_eq_true rfl, Nat.le_of_ble_eq_true rfl⟩) ⟨fun a U g mk q => by obtain ⟨q0, q1, qP, qK, qD⟩ := q; exact ⟨q0, q1, qP, va_K.moved (u := U) (U := U.calling g mk a) (Vm.Alike.refl U.vm) qK, qD⟩, va_recv hKc hPc (ci := 0) (q0 := 0) rfl rfl, fun U hU hW => ⟨rfl, by rw [hU], by rw [hU]; exact hPc, va_K.moved hW.alike hKc, hDc.weaken (fun _ _ _ _ => trivial)⟩⟩ rfl rfl hl.1 rfl (lv_room (Nat.le_of_ble_eq_true rfl)) dX1_turn_79 ⟨(Nat.zero_le _), (Nat.zero_le _)⟩) hS (fun q _ h => hFc q h) hFc (fun r_26 u t H locs ht hvm hw hB hz1 hk1 hS => ?_)
          obtain ⟨b_26, g_26, od_26, ot_26, tm_26⟩ := u
          obtain ⟨hP1, hK1, hD1⟩ := hB
          have e_26 : tt_prog (b_24, g_24, od_24, ot_24, tm_24) (1 - (tt_ac b)) 2 (p1 >>> ((8 : Int32) &&& 31)) = (r_26, (b_26, g_26, od_26, ot_26, tm_26)) := hw
          rw [ht] at hP1
          obtain ⟨hP, hD⟩ := va_join (wr := [(qp, .inr (1, [.ref qf]))]) (w1 := [(qf, .inr (0, [.ref qb, .ref qe, .int od_26, .int ot_26, .int tm_26])), (qb, .inl (cA, 32, .inl b_26)), (qe, .inl (cE, 2, .inl g_26))]) hP hD [1, 2, 3] [0] rfl rfl (by decide) (by decide) hk1 hFc hP1 hD1
          have hP : va_P (dC, dI) ttCl [(qp, .inr (1, [.ref qf])), (qf, .inr (0, [.ref qb, .ref qe, .int od_26, .int ot_26, .int tm_26])), (qb, .inl (cA, 32, .inl b_26)), (qe, .inl (cE, 2, .inl g_26))] H := hP
          have hD : va_D A [(qp, .inr (1, [.ref qf])), (qf, .inr (0, [.ref qb, .ref qe, .int od_26, .int ot_26, .int tm_26])), (qb, .inl (cA, 32, .inl b_26)), (qe, .inl (cE, 2, .inl g_26))] := hD
          refine lv_if_eq (tgt := 150) hx hb dX1_turn_82 (by decide) (fun c_27 => ?_) (fun c_27 => ?_)
          · refine lv_iconst (v := 0) hx hb dX1_turn_150 (by decide) ?_
            have hP9 := hP.sub (ws' := [(qp, .inr (1, [.ref qf])), (qf, .inr (0, [.ref qb, .ref qe, .int od_26, .int ot_26, .int tm_26])), (qb, .inl (cA, 32, .inl b_26)), (qe, .inl (cE, 2, .inl g_26))]) [0, 1, 2, 3] rfl
            have hD9 := hD.sub (ws' := [(qp, .inr (1, [.ref qf])), (qf, .inr (0, [.ref qb, .ref qe, .int od_26, .int ot_26, .int tm_26])), (qb, .inl (cA, 32, .inl b_26)), (qe, .inl (cE, 2, .inl g_26))]) [0, 1, 2, 3] (by decide) rfl
            have hK9 := hK.sub (tys' := [(cA, .int), (cE, .int)]) [0, 1] rfl
            exact W.zret (v := 0) hx hb hr (by first | rfl | decide) (fun t ht hW => ⟨⟨0, (b_26, g_26, od_26, ot_26, tm_26), rfl, (by first | (simp only [tt_turn, tt_t0, tt_seq_p, c_3, e_19, c_20, e_21, c_22, e_24, c_25, e_26, c_27, reduceIte, eq_self]; done) | (simp [tt_turn, tt_t0, tt_seq_p, c_3, e_19, c_20, e_21, c_22, e_24, c_25, e_26, c_27]; done)), by rw [ht]; exact hP9, va_K.moved hW.alike hK9, hD9⟩, hS.F ht⟩) hS.2.2 dX1_turn_151
          · refine lv_aload_n hx hb dX1_turn_85 rfl (lv_at hl 2 rfl) ?_
            refine va_get (D := (dC, dI)) (ci := 1) (v := .ref qf) (C := RX1) (T := TX1) (N := 1) hx hb hts (by decide +kernel) hown hK hP 0 rfl rfl 0 (by decide) (hts (.fieldLink RX1 7 "TornTryCounter$Pages" "flash" "LTornTryCounter$Flash;") (by decide +kernel)) (fun _ h9 => h9) rfl dX1_turn_86 ?_
            refine lv_iload hx hb dX1_turn_89 (lv_at hl 0 rfl) ?_
            refine lv_iconst (v := 3) hx hb dX1_turn_91 (by decide) ?_
            refine lv_iload_n hx hb dX1_turn_92 rfl (lv_at hl 3 rfl) ?_
            refine lv_sipush (v := 255) hx hb dX1_turn_93 (by decide) ?_
            refine lv_iand hx hb dX1_turn_96 ?_
            have hPc := hP.sub (ws' := [(qf, .inr (0, [.ref qb, .ref qe, .int od_26, .int ot_26, .int tm_26])), (qb, .inl (cA, 32, .inl b_26)), (qe, .inl (cE, 2, .inl g_26))]) [1, 2, 3] rfl
            have hDc := hD.sub (ws' := [(qf, .inr (0, [.ref qb, .ref qe, .int od_26, .int ot_26, .int tm_26])), (qb, .inl (cA, 32, .inl b_26)), (qe, .inl (cE, 2, .inl g_26))]) [1, 2, 3] (by decide) rfl
            have hKc := hK.sub (tys' := [(cA, .int), (cE, .int)]) [0, 1] rfl
            have hFc := va_free (wc := [(qf, .inr (0, [.ref qb, .ref qe, .int od_26, .int ot_26, .int tm_26])), (qb, .inl (cA, 32, .inl b_26)), (qe, .inl (cE, 2, .inl g_26))]) hD hS hA [1, 2, 3] rfl
            refine va_calli (va_runV (As := [.int (1 - (tt_ac b)), .int 3, .int (p1 &&& 255)]) (rest := []) ⟨hx, hb, hml, hown, hts⟩ (c_F_program l dC dI cA cE qf qb qe H.size b_26 g_26 od_26 ot_26 tm_26 (1 - (tt_ac b)) 3 (p1 &&& 255)) (cwV 3 hts gX1_turn_X0_program rfl rfl rfl (by decide +kernel) ⟨Nat.le_of_ble_eq_true rfl, Nat.le_of_ble_eq_true rfl⟩) ⟨fun a U g mk q => by obtain ⟨q0, q1, qP, qK, qD⟩ := q; exact ⟨q0, q1, qP, va_K.moved (u := U) (U := U.calling g mk a) (Vm.Alike.refl U.vm) qK, qD⟩, va_recv hKc hPc (ci := 0) (q0 := 0) rfl rfl, fun U hU hW => ⟨rfl, by rw [hU], by rw [hU]; exact hPc, va_K.moved hW.alike hKc, hDc.weaken (fun _ _ _ _ => trivial)⟩⟩ rfl rfl hl.1 rfl (lv_room (Nat.le_of_ble_eq_true rfl)) dX1_turn_97 ⟨(Nat.zero_le _), (Nat.zero_le _)⟩) hS (fun q _ h => hFc q h) hFc (fun r_28 u t H locs ht hvm hw hB hz1 hk1 hS => ?_)
            obtain ⟨b_28, g_28, od_28, ot_28, tm_28⟩ := u
            obtain ⟨hP1, hK1, hD1⟩ := hB
            have e_28 : tt_prog (b_26, g_26, od_26, ot_26, tm_26) (1 - (tt_ac b)) 3 (p1 &&& 255) = (r_28, (b_28, g_28, od_28, ot_28, tm_28)) := hw
            rw [ht] at hP1
            obtain ⟨hP, hD⟩ := va_join (wr := [(qp, .inr (1, [.ref qf]))]) (w1 := [(qf, .inr (0, [.ref qb, .ref qe, .int od_28, .int ot_28, .int tm_28])), (qb, .inl (cA, 32, .inl b_28)), (qe, .inl (cE, 2, .inl g_28))]) hP hD [1, 2, 3] [0] rfl rfl (by decide) (by decide) hk1 hFc hP1 hD1
            have hP : va_P (dC, dI) ttCl [(qp, .inr (1, [.ref qf])), (qf, .inr (0, [.ref qb, .ref qe, .int od_28, .int ot_28, .int tm_28])), (qb, .inl (cA, 32, .inl b_28)), (qe, .inl (cE, 2, .inl g_28))] H := hP
            have hD : va_D A [(qp, .inr (1, [.ref qf])), (qf, .inr (0, [.ref qb, .ref qe, .int od_28, .int ot_28, .int tm_28])), (qb, .inl (cA, 32, .inl b_28)), (qe, .inl (cE, 2, .inl g_28))] := hD
            refine lv_if_eq (tgt := 150) hx hb dX1_turn_100 (by decide) (fun c_29 => ?_) (fun c_29 => ?_)
            · refine lv_iconst (v := 0) hx hb dX1_turn_150 (by decide) ?_
              have hP9 := hP.sub (ws' := [(qp, .inr (1, [.ref qf])), (qf, .inr (0, [.ref qb, .ref qe, .int od_28, .int ot_28, .int tm_28])), (qb, .inl (cA, 32, .inl b_28)), (qe, .inl (cE, 2, .inl g_28))]) [0, 1, 2, 3] rfl
              have hD9 := hD.sub (ws' := [(qp, .inr (1, [.ref qf])), (qf, .inr (0, [.ref qb, .ref qe, .int od_28, .int ot_28, .int tm_28])), (qb, .inl (cA, 32, .inl b_28)), (qe, .inl (cE, 2, .inl g_28))]) [0, 1, 2, 3] (by decide) rfl
              have hK9 := hK.sub (tys' := [(cA, .int), (cE, .int)]) [0, 1] rfl
              exact W.zret (v := 0) hx hb hr (by first | rfl | decide) (fun t ht hW => ⟨⟨0, (b_28, g_28, od_28, ot_28, tm_28), rfl, (by first | (simp only [tt_turn, tt_t0, tt_seq_p, c_3, e_19, c_20, e_21, c_22, e_24, c_25, e_26, c_27, e_28, c_29, reduceIte, eq_self]; done) | (simp [tt_turn, tt_t0, tt_seq_p, c_3, e_19, c_20, e_21, c_22, e_24, c_25, e_26, c_27, e_28, c_29]; done)), by rw [ht]; exact hP9, va_K.moved hW.alike hK9, hD9⟩, hS.F ht⟩) hS.2.2 dX1_turn_151
            · refine lv_aload_n hx hb dX1_turn_103 rfl (lv_at hl 2 rfl) ?_
              refine va_get (D := (dC, dI)) (ci := 1) (v := .ref qf) (C := RX1) (T := TX1) (N := 1) hx hb hts (by decide +kernel) hown hK hP 0 rfl rfl 0 (by decide) (hts (.fieldLink RX1 7 "TornTryCounter$Pages" "flash" "LTornTryCounter$Flash;") (by decide +kernel)) (fun _ h9 => h9) rfl dX1_turn_104 ?_
              refine lv_iload hx hb dX1_turn_107 (lv_at hl 0 rfl) ?_
              refine lv_iconst (v := 4) hx hb dX1_turn_109 (by decide) ?_
              refine lv_iload_n hx hb dX1_turn_110 rfl (lv_at hl 4 rfl) ?_
              have hPc := hP.sub (ws' := [(qf, .inr (0, [.ref qb, .ref qe, .int od_28, .int ot_28, .int tm_28])), (qb, .inl (cA, 32, .inl b_28)), (qe, .inl (cE, 2, .inl g_28))]) [1, 2, 3] rfl
              have hDc := hD.sub (ws' := [(qf, .inr (0, [.ref qb, .ref qe, .int od_28, .int ot_28, .int tm_28])), (qb, .inl (cA, 32, .inl b_28)), (qe, .inl (cE, 2, .inl g_28))]) [1, 2, 3] (by decide) rfl
              have hKc := hK.sub (tys' := [(cA, .int), (cE, .int)]) [0, 1] rfl
              have hFc := va_free (wc := [(qf, .inr (0, [.ref qb, .ref qe, .int od_28, .int ot_28, .int tm_28])), (qb, .inl (cA, 32, .inl b_28)), (qe, .inl (cE, 2, .inl g_28))]) hD hS hA [1, 2, 3] rfl
              refine va_calli (va_runV (As := [.int (1 - (tt_ac b)), .int 4, .int a1]) (rest := []) ⟨hx, hb, hml, hown, hts⟩ (c_F_program l dC dI cA cE qf qb qe H.size b_28 g_28 od_28 ot_28 tm_28 (1 - (tt_ac b)) 4 a1) (cwV 3 hts gX1_turn_X0_program rfl rfl rfl (by decide +kernel) ⟨Nat.le_of_ble_eq_true rfl, Nat.le_of_ble_eq_true rfl⟩) ⟨fun a U g mk q => by obtain ⟨q0, q1, qP, qK, qD⟩ := q; exact ⟨q0, q1, qP, va_K.moved (u := U) (U := U.calling g mk a) (Vm.Alike.refl U.vm) qK, qD⟩, va_recv hKc hPc (ci := 0) (q0 := 0) rfl rfl, fun U hU hW => ⟨rfl, by rw [hU], by rw [hU]; exact hPc, va_K.moved hW.alike hKc, hDc.weaken (fun _ _ _ _ => trivial)⟩⟩ rfl rfl hl.1 rfl (lv_room (Nat.le_of_ble_eq_true rfl)) dX1_turn_111 ⟨(Nat.zero_le _), (Nat.zero_le _)⟩) hS (fun q _ h => hFc q h) hFc (fun r_30 u t H locs ht hvm hw hB hz1 hk1 hS => ?_)
              obtain ⟨b_30, g_30, od_30, ot_30, tm_30⟩ := u
              obtain ⟨hP1, hK1, hD1⟩ := hB
              have e_30 : tt_prog (b_28, g_28, od_28, ot_28, tm_28) (1 - (tt_ac b)) 4 a1 = (r_30, (b_30, g_30, od_30, ot_30, tm_30)) := hw
              rw [ht] at hP1
              obtain ⟨hP, hD⟩ := va_join (wr := [(qp, .inr (1, [.ref qf]))]) (w1 := [(qf, .inr (0, [.ref qb, .ref qe, .int od_30, .int ot_30, .int tm_30])), (qb, .inl (cA, 32, .inl b_30)), (qe, .inl (cE, 2, .inl g_30))]) hP hD [1, 2, 3] [0] rfl rfl (by decide) (by decide) hk1 hFc hP1 hD1
              have hP : va_P (dC, dI) ttCl [(qp, .inr (1, [.ref qf])), (qf, .inr (0, [.ref qb, .ref qe, .int od_30, .int ot_30, .int tm_30])), (qb, .inl (cA, 32, .inl b_30)), (qe, .inl (cE, 2, .inl g_30))] H := hP
              have hD : va_D A [(qp, .inr (1, [.ref qf])), (qf, .inr (0, [.ref qb, .ref qe, .int od_30, .int ot_30, .int tm_30])), (qb, .inl (cA, 32, .inl b_30)), (qe, .inl (cE, 2, .inl g_30))] := hD
              refine lv_if_eq (tgt := 150) hx hb dX1_turn_114 (by decide) (fun c_31 => ?_) (fun c_31 => ?_)
              · refine lv_iconst (v := 0) hx hb dX1_turn_150 (by decide) ?_
                have hP9 := hP.sub (ws' := [(qp, .inr (1, [.ref qf])), (qf, .inr (0, [.ref qb, .ref qe, .int od_30, .int ot_30, .int tm_30])), (qb, .inl (cA, 32, .inl b_30)), (qe, .inl (cE, 2, .inl g_30))]) [0, 1, 2, 3] rfl
                have hD9 := hD.sub (ws' := [(qp, .inr (1, [.ref qf])), (qf, .inr (0, [.ref qb, .ref qe, .int od_30, .int ot_30, .int tm_30])), (qb, .inl (cA, 32, .inl b_30)), (qe, .inl (cE, 2, .inl g_30))]) [0, 1, 2, 3] (by decide) rfl
                have hK9 := hK.sub (tys' := [(cA, .int), (cE, .int)]) [0, 1] rfl
                exact W.zret (v := 0) hx hb hr (by first | rfl | decide) (fun t ht hW => ⟨⟨0, (b_30, g_30, od_30, ot_30, tm_30), rfl, (by first | (simp only [tt_turn, tt_t0, tt_seq_p, c_3, e_19, c_20, e_21, c_22, e_24, c_25, e_26, c_27, e_28, c_29, e_30, c_31, reduceIte, eq_self]; done) | (simp [tt_turn, tt_t0, tt_seq_p, c_3, e_19, c_20, e_21, c_22, e_24, c_25, e_26, c_27, e_28, c_29, e_30, c_31]; done)), by rw [ht]; exact hP9, va_K.moved hW.alike hK9, hD9⟩, hS.F ht⟩) hS.2.2 dX1_turn_151
              · refine lv_aload_n hx hb dX1_turn_117 rfl (lv_at hl 2 rfl) ?_
                refine va_get (D := (dC, dI)) (ci := 1) (v := .ref qf) (C := RX1) (T := TX1) (N := 1) hx hb hts (by decide +kernel) hown hK hP 0 rfl rfl 0 (by decide) (hts (.fieldLink RX1 7 "TornTryCounter$Pages" "flash" "LTornTryCounter$Flash;") (by decide +kernel)) (fun _ h9 => h9) rfl dX1_turn_118 ?_
                refine lv_iload hx hb dX1_turn_121 (lv_at hl 0 rfl) ?_
                refine lv_iconst (v := 5) hx hb dX1_turn_123 (by decide) ?_
                refine lv_iload_n hx hb dX1_turn_124 rfl (lv_at hl 5 rfl) ?_
                have hPc := hP.sub (ws' := [(qf, .inr (0, [.ref qb, .ref qe, .int od_30, .int ot_30, .int tm_30])), (qb, .inl (cA, 32, .inl b_30)), (qe, .inl (cE, 2, .inl g_30))]) [1, 2, 3] rfl
                have hDc := hD.sub (ws' := [(qf, .inr (0, [.ref qb, .ref qe, .int od_30, .int ot_30, .int tm_30])), (qb, .inl (cA, 32, .inl b_30)), (qe, .inl (cE, 2, .inl g_30))]) [1, 2, 3] (by decide) rfl
                have hKc := hK.sub (tys' := [(cA, .int), (cE, .int)]) [0, 1] rfl
                have hFc := va_free (wc := [(qf, .inr (0, [.ref qb, .ref qe, .int od_30, .int ot_30, .int tm_30])), (qb, .inl (cA, 32, .inl b_30)), (qe, .inl (cE, 2, .inl g_30))]) hD hS hA [1, 2, 3] rfl
                refine va_calli (va_runV (As := [.int (1 - (tt_ac b)), .int 5, .int c1]) (rest := []) ⟨hx, hb, hml, hown, hts⟩ (c_F_program l dC dI cA cE qf qb qe H.size b_30 g_30 od_30 ot_30 tm_30 (1 - (tt_ac b)) 5 c1) (cwV 3 hts gX1_turn_X0_program rfl rfl rfl (by decide +kernel) ⟨Nat.le_of_ble_eq_true rfl, Nat.le_of_ble_eq_true rfl⟩) ⟨fun a U g mk q => by obtain ⟨q0, q1, qP, qK, qD⟩ := q; exact ⟨q0, q1, qP, va_K.moved (u := U) (U := U.calling g mk a) (Vm.Alike.refl U.vm) qK, qD⟩, va_recv hKc hPc (ci := 0) (q0 := 0) rfl rfl, fun U hU hW => ⟨rfl, by rw [hU], by rw [hU]; exact hPc, va_K.moved hW.alike hKc, hDc.weaken (fun _ _ _ _ => trivial)⟩⟩ rfl rfl hl.1 rfl (lv_room (Nat.le_of_ble_eq_true rfl)) dX1_turn_125 ⟨(Nat.zero_le _), (Nat.zero_le _)⟩) hS (fun q _ h => hFc q h) hFc (fun r_32 u t H locs ht hvm hw hB hz1 hk1 hS => ?_)
                obtain ⟨b_32, g_32, od_32, ot_32, tm_32⟩ := u
                obtain ⟨hP1, hK1, hD1⟩ := hB
                have e_32 : tt_prog (b_30, g_30, od_30, ot_30, tm_30) (1 - (tt_ac b)) 5 c1 = (r_32, (b_32, g_32, od_32, ot_32, tm_32)) := hw
                rw [ht] at hP1
                obtain ⟨hP, hD⟩ := va_join (wr := [(qp, .inr (1, [.ref qf]))]) (w1 := [(qf, .inr (0, [.ref qb, .ref qe, .int od_32, .int ot_32, .int tm_32])), (qb, .inl (cA, 32, .inl b_32)), (qe, .inl (cE, 2, .inl g_32))]) hP hD [1, 2, 3] [0] rfl rfl (by decide) (by decide) hk1 hFc hP1 hD1
                have hP : va_P (dC, dI) ttCl [(qp, .inr (1, [.ref qf])), (qf, .inr (0, [.ref qb, .ref qe, .int od_32, .int ot_32, .int tm_32])), (qb, .inl (cA, 32, .inl b_32)), (qe, .inl (cE, 2, .inl g_32))] H := hP
                have hD : va_D A [(qp, .inr (1, [.ref qf])), (qf, .inr (0, [.ref qb, .ref qe, .int od_32, .int ot_32, .int tm_32])), (qb, .inl (cA, 32, .inl b_32)), (qe, .inl (cE, 2, .inl g_32))] := hD
                refine lv_if_eq (tgt := 150) hx hb dX1_turn_128 (by decide) (fun c_33 => ?_) (fun c_33 => ?_)
                · refine lv_iconst (v := 0) hx hb dX1_turn_150 (by decide) ?_
                  have hP9 := hP.sub (ws' := [(qp, .inr (1, [.ref qf])), (qf, .inr (0, [.ref qb, .ref qe, .int od_32, .int ot_32, .int tm_32])), (qb, .inl (cA, 32, .inl b_32)), (qe, .inl (cE, 2, .inl g_32))]) [0, 1, 2, 3] rfl
                  have hD9 := hD.sub (ws' := [(qp, .inr (1, [.ref qf])), (qf, .inr (0, [.ref qb, .ref qe, .int od_32, .int ot_32, .int tm_32])), (qb, .inl (cA, 32, .inl b_32)), (qe, .inl (cE, 2, .inl g_32))]) [0, 1, 2, 3] (by decide) rfl
                  have hK9 := hK.sub (tys' := [(cA, .int), (cE, .int)]) [0, 1] rfl
                  exact W.zret (v := 0) hx hb hr (by first | rfl | decide) (fun t ht hW => ⟨⟨0, (b_32, g_32, od_32, ot_32, tm_32), rfl, (by first | (simp only [tt_turn, tt_t0, tt_seq_p, c_3, e_19, c_20, e_21, c_22, e_24, c_25, e_26, c_27, e_28, c_29, e_30, c_31, e_32, c_33, reduceIte, eq_self]; done) | (simp [tt_turn, tt_t0, tt_seq_p, c_3, e_19, c_20, e_21, c_22, e_24, c_25, e_26, c_27, e_28, c_29, e_30, c_31, e_32, c_33]; done)), by rw [ht]; exact hP9, va_K.moved hW.alike hK9, hD9⟩, hS.F ht⟩) hS.2.2 dX1_turn_151
                · refine lv_aload_n hx hb dX1_turn_131 rfl (lv_at hl 2 rfl) ?_
                  refine va_get (D := (dC, dI)) (ci := 1) (v := .ref qf) (C := RX1) (T := TX1) (N := 1) hx hb hts (by decide +kernel) hown hK hP 0 rfl rfl 0 (by decide) (hts (.fieldLink RX1 7 "TornTryCounter$Pages" "flash" "LTornTryCounter$Flash;") (by decide +kernel)) (fun _ h9 => h9) rfl dX1_turn_132 ?_
                  refine lv_iload hx hb dX1_turn_135 (lv_at hl 0 rfl) ?_
                  refine lv_iconst (v := 0) hx hb dX1_turn_137 (by decide) ?_
                  refine lv_bipush (v := 90) hx hb dX1_turn_138 (by decide) ?_
                  have hPc := hP.sub (ws' := [(qf, .inr (0, [.ref qb, .ref qe, .int od_32, .int ot_32, .int tm_32])), (qb, .inl (cA, 32, .inl b_32)), (qe, .inl (cE, 2, .inl g_32))]) [1, 2, 3] rfl
                  have hDc := hD.sub (ws' := [(qf, .inr (0, [.ref qb, .ref qe, .int od_32, .int ot_32, .int tm_32])), (qb, .inl (cA, 32, .inl b_32)), (qe, .inl (cE, 2, .inl g_32))]) [1, 2, 3] (by decide) rfl
                  have hKc := hK.sub (tys' := [(cA, .int), (cE, .int)]) [0, 1] rfl
                  have hFc := va_free (wc := [(qf, .inr (0, [.ref qb, .ref qe, .int od_32, .int ot_32, .int tm_32])), (qb, .inl (cA, 32, .inl b_32)), (qe, .inl (cE, 2, .inl g_32))]) hD hS hA [1, 2, 3] rfl
                  refine va_calli (va_runV (As := [.int (1 - (tt_ac b)), .int 0, .int 90]) (rest := []) ⟨hx, hb, hml, hown, hts⟩ (c_F_program l dC dI cA cE qf qb qe H.size b_32 g_32 od_32 ot_32 tm_32 (1 - (tt_ac b)) 0 90) (cwV 3 hts gX1_turn_X0_program rfl rfl rfl (by decide +kernel) ⟨Nat.le_of_ble_eq_true rfl, Nat.le_of_ble_eq_true rfl⟩) ⟨fun a U g mk q => by obtain ⟨q0, q1, qP, qK, qD⟩ := q; exact ⟨q0, q1, qP, va_K.moved (u := U) (U := U.calling g mk a) (Vm.Alike.refl U.vm) qK, qD⟩, va_recv hKc hPc (ci := 0) (q0 := 0) rfl rfl, fun U hU hW => ⟨rfl, by rw [hU], by rw [hU]; exact hPc, va_K.moved hW.alike hKc, hDc.weaken (fun _ _ _ _ => trivial)⟩⟩ rfl rfl hl.1 rfl (lv_room (Nat.le_of_ble_eq_true rfl)) dX1_turn_140 ⟨(Nat.zero_le _), (Nat.zero_le _)⟩) hS (fun q _ h => hFc q h) hFc (fun r_34 u t H locs ht hvm hw hB hz1 hk1 hS => ?_)
                  obtain ⟨b_34, g_34, od_34, ot_34, tm_34⟩ := u
                  obtain ⟨hP1, hK1, hD1⟩ := hB
                  have e_34 : tt_prog (b_32, g_32, od_32, ot_32, tm_32) (1 - (tt_ac b)) 0 90 = (r_34, (b_34, g_34, od_34, ot_34, tm_34)) := hw
                  rw [ht] at hP1
                  obtain ⟨hP, hD⟩ := va_join (wr := [(qp, .inr (1, [.ref qf]))]) (w1 := [(qf, .inr (0, [.ref qb, .ref qe, .int od_34, .int ot_34, .int tm_34])), (qb, .inl (cA, 32, .inl b_34)), (qe, .inl (cE, 2, .inl g_34))]) hP hD [1, 2, 3] [0] rfl rfl (by decide) (by decide) hk1 hFc hP1 hD1
                  have hP : va_P (dC, dI) ttCl [(qp, .inr (1, [.ref qf])), (qf, .inr (0, [.ref qb, .ref qe, .int od_34, .int ot_34, .int tm_34])), (qb, .inl (cA, 32, .inl b_34)), (qe, .inl (cE, 2, .inl g_34))] H := hP
                  have hD : va_D A [(qp, .inr (1, [.ref qf])), (qf, .inr (0, [.ref qb, .ref qe, .int od_34, .int ot_34, .int tm_34])), (qb, .inl (cA, 32, .inl b_34)), (qe, .inl (cE, 2, .inl g_34))] := hD
                  refine lv_if_eq (tgt := 150) hx hb dX1_turn_143 (by decide) (fun c_35 => ?_) (fun c_35 => ?_)
                  · refine lv_iconst (v := 0) hx hb dX1_turn_150 (by decide) ?_
                    have hP9 := hP.sub (ws' := [(qp, .inr (1, [.ref qf])), (qf, .inr (0, [.ref qb, .ref qe, .int od_34, .int ot_34, .int tm_34])), (qb, .inl (cA, 32, .inl b_34)), (qe, .inl (cE, 2, .inl g_34))]) [0, 1, 2, 3] rfl
                    have hD9 := hD.sub (ws' := [(qp, .inr (1, [.ref qf])), (qf, .inr (0, [.ref qb, .ref qe, .int od_34, .int ot_34, .int tm_34])), (qb, .inl (cA, 32, .inl b_34)), (qe, .inl (cE, 2, .inl g_34))]) [0, 1, 2, 3] (by decide) rfl
                    have hK9 := hK.sub (tys' := [(cA, .int), (cE, .int)]) [0, 1] rfl
                    exact W.zret (v := 0) hx hb hr (by first | rfl | decide) (fun t ht hW => ⟨⟨0, (b_34, g_34, od_34, ot_34, tm_34), rfl, (by first | (simp only [tt_turn, tt_t0, tt_seq_p, c_3, e_19, c_20, e_21, c_22, e_24, c_25, e_26, c_27, e_28, c_29, e_30, c_31, e_32, c_33, e_34, c_35, reduceIte, eq_self]; done) | (simp [tt_turn, tt_t0, tt_seq_p, c_3, e_19, c_20, e_21, c_22, e_24, c_25, e_26, c_27, e_28, c_29, e_30, c_31, e_32, c_33, e_34, c_35]; done)), by rw [ht]; exact hP9, va_K.moved hW.alike hK9, hD9⟩, hS.F ht⟩) hS.2.2 dX1_turn_151
                  · refine lv_iconst (v := 1) hx hb dX1_turn_146 (by decide) ?_
                    refine lv_goto (tgt := 151) hx hb dX1_turn_147 (by decide) ?_
                    have hP9 := hP.sub (ws' := [(qp, .inr (1, [.ref qf])), (qf, .inr (0, [.ref qb, .ref qe, .int od_34, .int ot_34, .int tm_34])), (qb, .inl (cA, 32, .inl b_34)), (qe, .inl (cE, 2, .inl g_34))]) [0, 1, 2, 3] rfl
                    have hD9 := hD.sub (ws' := [(qp, .inr (1, [.ref qf])), (qf, .inr (0, [.ref qb, .ref qe, .int od_34, .int ot_34, .int tm_34])), (qb, .inl (cA, 32, .inl b_34)), (qe, .inl (cE, 2, .inl g_34))]) [0, 1, 2, 3] (by decide) rfl
                    have hK9 := hK.sub (tys' := [(cA, .int), (cE, .int)]) [0, 1] rfl
                    exact W.zret (v := 1) hx hb hr (by first | rfl | decide) (fun t ht hW => ⟨⟨1, (b_34, g_34, od_34, ot_34, tm_34), rfl, (by first | (simp only [tt_turn, tt_t0, tt_seq_p, c_3, e_19, c_20, e_21, c_22, e_24, c_25, e_26, c_27, e_28, c_29, e_30, c_31, e_32, c_33, e_34, c_35, reduceIte, eq_self]; done) | (simp [tt_turn, tt_t0, tt_seq_p, c_3, e_19, c_20, e_21, c_22, e_24, c_25, e_26, c_27, e_28, c_29, e_30, c_31, e_32, c_33, e_34, c_35]; done)), by rw [ht]; exact hP9, va_K.moved hW.alike hK9, hD9⟩, hS.F ht⟩) hS.2.2 dX1_turn_151
    · refine lv_iconst (v := 0) hx hb dX1_turn_35 (by decide) ?_
      have hP9 := hP.sub (ws' := [(qp, .inr (1, [.ref qf])), (qf, .inr (0, [.ref qb, .ref qe, .int od_19, .int ot_19, .int tm_19])), (qb, .inl (cA, 32, .inl b_19)), (qe, .inl (cE, 2, .inl g_19))]) [0, 1, 2, 3] rfl
      have hD9 := hD.sub (ws' := [(qp, .inr (1, [.ref qf])), (qf, .inr (0, [.ref qb, .ref qe, .int od_19, .int ot_19, .int tm_19])), (qb, .inl (cA, 32, .inl b_19)), (qe, .inl (cE, 2, .inl g_19))]) [0, 1, 2, 3] (by decide) rfl
      have hK9 := hK.sub (tys' := [(cA, .int), (cE, .int)]) [0, 1] rfl
      exact W.zret (v := 0) hx hb hr (by first | rfl | decide) (fun t ht hW => ⟨⟨0, (b_19, g_19, od_19, ot_19, tm_19), rfl, (by first | (simp only [tt_turn, tt_t0, tt_seq_p, c_3, e_19, c_20, reduceIte, eq_self]; done) | (simp [tt_turn, tt_t0, tt_seq_p, c_3, e_19, c_20]; done)), by rw [ht]; exact hP9, va_K.moved hW.alike hK9, hD9⟩, hS.F ht⟩) hS.2.2 dX1_turn_36
set_option maxHeartbeats 4000000 in
set_option maxRecDepth 100000 in
theorem c_P_mark (l : Launch) (dC : Nat → ClassId) (dI : Nat → Nat → Nat) (cA cE : ClassId) (qp qf qb qe : Nat) (sz : Nat) (b g : Nat → Int32) (od ot tm : Int32) (v : Int32) : Met l yX1_mark wsX1_mark ({ frames := 4, cells := 0, slots := 0, locals := 89 }) (va_Pc [.ref qp, .int v] (fun U => U.heap.size = sz ∧ va_P (dC, dI) ttCl [(qp, .inr (1, [.ref qf])), (qf, .inr (0, [.ref qb, .ref qe, .int od, .int ot, .int tm])), (qb, .inl (cA, 32, .inl b)), (qe, .inl (cE, 2, .inl g))] U.heap ∧ va_K (dC, dI) ttCl [(cA, .int), (cE, .int)] U ∧ va_D (fun _ => True) [(qp, .inr (1, [.ref qf])), (qf, .inr (0, [.ref qb, .ref qe, .int od, .int ot, .int tm])), (qb, .inl (cA, 32, .inl b)), (qe, .inl (cE, 2, .inl g))])) (va_Qi (fun (r : Int32) (u : tt_F) => tt_mark (b, g, od, ot, tm) v = (r, u)) (fun (u : tt_F) (t : State) => at_P dC dI cA cE (va_A [(qp, .inr (1, [.ref qf])), (qf, .inr (0, [.ref qb, .ref qe, .int od, .int ot, .int tm])), (qb, .inl (cA, 32, .inl b)), (qe, .inl (cE, 2, .inl g))] sz) qp qf qb qe u t) (va_A [(qp, .inr (1, [.ref qf])), (qf, .inr (0, [.ref qb, .ref qe, .int od, .int ot, .int tm])), (qb, .inl (cA, 32, .inl b)), (qe, .inl (cE, 2, .inl g))] sz)) 0 0 (va_A [(qp, .inr (1, [.ref qf])), (qf, .inr (0, [.ref qb, .ref qe, .int od, .int ot, .int tm])), (qb, .inl (cA, 32, .inl b)), (qe, .inl (cE, 2, .inl g))] sz) := by
  refine Met.ofW (cc := cX1_mark) (maxL := 3) (ret := (some .int)) (by decide) rfl ?_
  intro p e s m args below meth c s₁ B hml hv
  obtain ⟨rfl, hsz, hP, hK, hD0⟩ := hv
  have hx := B.exec
  have hb := B.bytes
  have hr := B.returns
  have hts := atoms_spec (ws := wsX1_mark) B.pre
  have hown : s.vm.findClass RX1 = some m.cls := findClass_of_methodNamed B.named
  have hlocks := B.notSynchronized
  subst hsz
  have hD := hD0.self (sz := s.heap.size)
  generalize hAe : va_A [(qp, .inr (1, [.ref qf])), (qf, .inr (0, [.ref qb, .ref qe, .int od, .int ot, .int tm])), (qb, .inl (cA, 32, .inl b)), (qe, .inl (cE, 2, .inl g))] s.heap.size = A at hD ⊢
  have hA : ∀ q : Nat, s.heap.size ≤ q → A q := fun q h => by rw [← hAe]; exact Or.inr h
  have hS : va_S A s.heap s.heap [] := va_S.rf
  have hP : va_P (dC, dI) ttCl [(qp, .inr (1, [.ref qf])), (qf, .inr (0, [.ref qb, .ref qe, .int od, .int ot, .int tm])), (qb, .inl (cA, 32, .inl b)), (qe, .inl (cE, 2, .inl g))] s.heap := hP
  have hl := lv_entry ([.ref qp, .int v]) (n := 3) (Nat.le_of_ble_eq_true rfl)
  rw [lg_entry_eq]
  generalize (lg_sl ([.ref qp, .int v]) ++ List.replicate (3 - (lg_sl ([.ref qp, .int v])).length) Slot.unset).toArray = ls at hl ⊢
  have hl : lv_has ls 3 [(0, .ref qp), (1, .int v)] := hl
  refine lv_aload_n hx hb dX1_mark_0 rfl (lv_at hl 0 rfl) ?_
  have hPc := hP.sub (ws' := [(qp, .inr (1, [.ref qf])), (qf, .inr (0, [.ref qb, .ref qe, .int od, .int ot, .int tm])), (qb, .inl (cA, 32, .inl b)), (qe, .inl (cE, 2, .inl g))]) [0, 1, 2, 3] rfl
  have hDc := hD.sub (ws' := [(qp, .inr (1, [.ref qf])), (qf, .inr (0, [.ref qb, .ref qe, .int od, .int ot, .int tm])), (qb, .inl (cA, 32, .inl b)), (qe, .inl (cE, 2, .inl g))]) [0, 1, 2, 3] (by decide) rfl
  have hKc := hK.sub (tys' := [(cA, .int), (cE, .int)]) [0, 1] rfl
  have hFc := va_free (wc := [(qp, .inr (1, [.ref qf])), (qf, .inr (0, [.ref qb, .ref qe, .int od, .int ot, .int tm])), (qb, .inl (cA, 32, .inl b)), (qe, .inl (cE, 2, .inl g))]) hD hS hA [0, 1, 2, 3] rfl
  refine va_calli (va_runV (As := []) (rest := []) ⟨hx, hb, hml, hown, hts⟩ (c_P_firstFreeEntry l dC dI cA cE qp qf qb qe s.heap.size b g od ot tm) (cwV 0 hts gX1_mark_X1_firstFreeEntry rfl rfl rfl (by decide +kernel) ⟨Nat.le_of_ble_eq_true rfl, Nat.le_of_ble_eq_true rfl⟩) ⟨fun a U g mk q => by obtain ⟨q0, q1, qP, qK, qD⟩ := q; exact ⟨q0, q1, qP, va_K.moved (u := U) (U := U.calling g mk a) (Vm.Alike.refl U.vm) qK, qD⟩, va_recv hKc hPc (ci := 1) (q0 := 0) rfl rfl, fun U hU hW => ⟨rfl, by rw [hU], by rw [hU]; exact hPc, va_K.moved hW.alike hKc, hDc.weaken (fun _ _ _ _ => trivial)⟩⟩ rfl rfl hl.1 rfl (lv_room (Nat.le_of_ble_eq_true rfl)) dX1_mark_1 ⟨(Nat.zero_le _), (Nat.zero_le _)⟩) hS (fun q _ h => hFc q h) hFc (fun r_1 u t H locs ht hvm hw hB hz1 hk1 hS => ?_)
  have hw : tt_fst b = r_1 := hw.symm
  subst hw
  obtain ⟨hP1, hK1, hD1⟩ := hB
  rw [ht] at hP1
  obtain ⟨hP, hD⟩ := va_join (wr := []) (w1 := [(qp, .inr (1, [.ref qf])), (qf, .inr (0, [.ref qb, .ref qe, .int od, .int ot, .int tm])), (qb, .inl (cA, 32, .inl b)), (qe, .inl (cE, 2, .inl g))]) hP hD [0, 1, 2, 3] [] rfl rfl (by decide) (by decide) hk1 hFc hP1 hD1
  have hP : va_P (dC, dI) ttCl [(qp, .inr (1, [.ref qf])), (qf, .inr (0, [.ref qb, .ref qe, .int od, .int ot, .int tm])), (qb, .inl (cA, 32, .inl b)), (qe, .inl (cE, 2, .inl g))] H := hP
  have hD : va_D A [(qp, .inr (1, [.ref qf])), (qf, .inr (0, [.ref qb, .ref qe, .int od, .int ot, .int tm])), (qb, .inl (cA, 32, .inl b)), (qe, .inl (cE, 2, .inl g))] := hD
  refine lv_iconst (v := (-1)) hx hb dX1_mark_4 (by decide) ?_
  refine lv_icmp_ne (tgt := 29) hx hb dX1_mark_5 (by decide) (fun c_2 => ?_) (fun c_2 => ?_)
  · refine lv_aload_n hx hb dX1_mark_29 rfl (lv_at hl 0 rfl) ?_
    have hPc := hP.sub (ws' := [(qp, .inr (1, [.ref qf])), (qf, .inr (0, [.ref qb, .ref qe, .int od, .int ot, .int tm])), (qb, .inl (cA, 32, .inl b)), (qe, .inl (cE, 2, .inl g))]) [0, 1, 2, 3] rfl
    have hDc := hD.sub (ws' := [(qp, .inr (1, [.ref qf])), (qf, .inr (0, [.ref qb, .ref qe, .int od, .int ot, .int tm])), (qb, .inl (cA, 32, .inl b)), (qe, .inl (cE, 2, .inl g))]) [0, 1, 2, 3] (by decide) rfl
    have hKc := hK.sub (tys' := [(cA, .int), (cE, .int)]) [0, 1] rfl
    have hFc := va_free (wc := [(qp, .inr (1, [.ref qf])), (qf, .inr (0, [.ref qb, .ref qe, .int od, .int ot, .int tm])), (qb, .inl (cA, 32, .inl b)), (qe, .inl (cE, 2, .inl g))]) hD hS hA [0, 1, 2, 3] rfl
    refine va_calli (va_runV (As := []) (rest := []) ⟨hx, hb, hml, hown, hts⟩ (c_P_firstFreeEntry l dC dI cA cE qp qf qb qe H.size b g od ot tm) (cwV 0 hts gX1_mark_X1_firstFreeEntry rfl rfl rfl (by decide +kernel) ⟨Nat.le_of_ble_eq_true rfl, Nat.le_of_ble_eq_true rfl⟩) ⟨fun a U g mk q => by obtain ⟨q0, q1, qP, qK, qD⟩ := q; exact ⟨q0, q1, qP, va_K.moved (u := U) (U := U.calling g mk a) (Vm.Alike.refl U.vm) qK, qD⟩, va_recv hKc hPc (ci := 1) (q0 := 0) rfl rfl, fun U hU hW => ⟨rfl, by rw [hU], by rw [hU]; exact hPc, va_K.moved hW.alike hKc, hDc.weaken (fun _ _ _ _ => trivial)⟩⟩ rfl rfl hl.1 rfl (lv_room (Nat.le_of_ble_eq_true rfl)) dX1_mark_30 ⟨(Nat.zero_le _), (Nat.zero_le _)⟩) hS (fun q _ h => hFc q h) hFc (fun r_3 u t H locs ht hvm hw hB hz1 hk1 hS => ?_)
    have hw : tt_fst b = r_3 := hw.symm
    subst hw
    obtain ⟨hP1, hK1, hD1⟩ := hB
    rw [ht] at hP1
    obtain ⟨hP, hD⟩ := va_join (wr := []) (w1 := [(qp, .inr (1, [.ref qf])), (qf, .inr (0, [.ref qb, .ref qe, .int od, .int ot, .int tm])), (qb, .inl (cA, 32, .inl b)), (qe, .inl (cE, 2, .inl g))]) hP hD [0, 1, 2, 3] [] rfl rfl (by decide) (by decide) hk1 hFc hP1 hD1
    have hP : va_P (dC, dI) ttCl [(qp, .inr (1, [.ref qf])), (qf, .inr (0, [.ref qb, .ref qe, .int od, .int ot, .int tm])), (qb, .inl (cA, 32, .inl b)), (qe, .inl (cE, 2, .inl g))] H := hP
    have hD : va_D A [(qp, .inr (1, [.ref qf])), (qf, .inr (0, [.ref qb, .ref qe, .int od, .int ot, .int tm])), (qb, .inl (cA, 32, .inl b)), (qe, .inl (cE, 2, .inl g))] := hD
    refine lv_istore_n (lv' := [(2, .int (tt_fst b)), (0, .ref qp), (1, .int v)]) hx hb dX1_mark_33 rfl hl (by decide) rfl (fun ls hl => ?_)
    refine lv_iload_n hx hb dX1_mark_34 rfl (lv_at hl 0 rfl) ?_
    refine lv_iconst (v := (-1)) hx hb dX1_mark_35 (by decide) ?_
    refine lv_icmp_eq (tgt := 59) hx hb dX1_mark_36 (by decide) (fun c_4 => ?_) (fun c_4 => ?_)
    · exact absurd c_4 c_2
    · refine lv_aload_n hx hb dX1_mark_39 rfl (lv_at hl 1 rfl) ?_
      refine va_get (D := (dC, dI)) (ci := 1) (v := .ref qf) (C := RX1) (T := TX1) (N := 1) hx hb hts (by decide +kernel) hown hK hP 0 rfl rfl 0 (by decide) (hts (.fieldLink RX1 7 "TornTryCounter$Pages" "flash" "LTornTryCounter$Flash;") (by decide +kernel)) (fun _ h9 => h9) rfl dX1_mark_40 ?_
      refine lv_aload_n hx hb dX1_mark_43 rfl (lv_at hl 1 rfl) ?_
      have hPc := hP.sub (ws' := [(qp, .inr (1, [.ref qf])), (qf, .inr (0, [.ref qb, .ref qe, .int od, .int ot, .int tm])), (qb, .inl (cA, 32, .inl b)), (qe, .inl (cE, 2, .inl g))]) [0, 1, 2, 3] rfl
      have hDc := hD.sub (ws' := [(qp, .inr (1, [.ref qf])), (qf, .inr (0, [.ref qb, .ref qe, .int od, .int ot, .int tm])), (qb, .inl (cA, 32, .inl b)), (qe, .inl (cE, 2, .inl g))]) [0, 1, 2, 3] (by decide) rfl
      have hKc := hK.sub (tys' := [(cA, .int), (cE, .int)]) [0, 1] rfl
      have hFc := va_free (wc := [(qp, .inr (1, [.ref qf])), (qf, .inr (0, [.ref qb, .ref qe, .int od, .int ot, .int tm])), (qb, .inl (cA, 32, .inl b)), (qe, .inl (cE, 2, .inl g))]) hD hS hA [0, 1, 2, 3] rfl
      refine va_calli (va_runV (As := []) (rest := [.ref qf]) ⟨hx, hb, hml, hown, hts⟩ (c_P_active l dC dI cA cE qp qf qb qe H.size b g od ot tm) (cwV 0 hts gX1_mark_X1_active rfl rfl rfl (by decide +kernel) ⟨Nat.le_of_ble_eq_true rfl, Nat.le_of_ble_eq_true rfl⟩) ⟨fun a U g mk q => by obtain ⟨q0, q1, qP, qK, qD⟩ := q; exact ⟨q0, q1, qP, va_K.moved (u := U) (U := U.calling g mk a) (Vm.Alike.refl U.vm) qK, qD⟩, va_recv hKc hPc (ci := 1) (q0 := 0) rfl rfl, fun U hU hW => ⟨rfl, by rw [hU], by rw [hU]; exact hPc, va_K.moved hW.alike hKc, hDc.weaken (fun _ _ _ _ => trivial)⟩⟩ rfl rfl hl.1 rfl (lv_room (Nat.le_of_ble_eq_true rfl)) dX1_mark_44 ⟨(Nat.zero_le _), (Nat.zero_le _)⟩) hS (fun q _ h => hFc q h) hFc (fun r_5 u t H locs ht hvm hw hB hz1 hk1 hS => ?_)
      have hw : tt_ac b = r_5 := hw.symm
      subst hw
      obtain ⟨hP1, hK1, hD1⟩ := hB
      rw [ht] at hP1
      obtain ⟨hP, hD⟩ := va_join (wr := []) (w1 := [(qp, .inr (1, [.ref qf])), (qf, .inr (0, [.ref qb, .ref qe, .int od, .int ot, .int tm])), (qb, .inl (cA, 32, .inl b)), (qe, .inl (cE, 2, .inl g))]) hP hD [0, 1, 2, 3] [] rfl rfl (by decide) (by decide) hk1 hFc hP1 hD1
      have hP : va_P (dC, dI) ttCl [(qp, .inr (1, [.ref qf])), (qf, .inr (0, [.ref qb, .ref qe, .int od, .int ot, .int tm])), (qb, .inl (cA, 32, .inl b)), (qe, .inl (cE, 2, .inl g))] H := hP
      have hD : va_D A [(qp, .inr (1, [.ref qf])), (qf, .inr (0, [.ref qb, .ref qe, .int od, .int ot, .int tm])), (qb, .inl (cA, 32, .inl b)), (qe, .inl (cE, 2, .inl g))] := hD
      refine lv_iload_n hx hb dX1_mark_47 rfl (lv_at hl 0 rfl) ?_
      refine lv_iload_n hx hb dX1_mark_48 rfl (lv_at hl 2 rfl) ?_
      have hPc := hP.sub (ws' := [(qf, .inr (0, [.ref qb, .ref qe, .int od, .int ot, .int tm])), (qb, .inl (cA, 32, .inl b)), (qe, .inl (cE, 2, .inl g))]) [1, 2, 3] rfl
      have hDc := hD.sub (ws' := [(qf, .inr (0, [.ref qb, .ref qe, .int od, .int ot, .int tm])), (qb, .inl (cA, 32, .inl b)), (qe, .inl (cE, 2, .inl g))]) [1, 2, 3] (by decide) rfl
      have hKc := hK.sub (tys' := [(cA, .int), (cE, .int)]) [0, 1] rfl
      have hFc := va_free (wc := [(qf, .inr (0, [.ref qb, .ref qe, .int od, .int ot, .int tm])), (qb, .inl (cA, 32, .inl b)), (qe, .inl (cE, 2, .inl g))]) hD hS hA [1, 2, 3] rfl
      refine va_calli (va_runV (As := [.int (tt_ac b), .int (tt_fst b), .int v]) (rest := []) ⟨hx, hb, hml, hown, hts⟩ (c_F_program l dC dI cA cE qf qb qe H.size b g od ot tm (tt_ac b) (tt_fst b) v) (cwV 3 hts gX1_mark_X0_program rfl rfl rfl (by decide +kernel) ⟨Nat.le_of_ble_eq_true rfl, Nat.le_of_ble_eq_true rfl⟩) ⟨fun a U g mk q => by obtain ⟨q0, q1, qP, qK, qD⟩ := q; exact ⟨q0, q1, qP, va_K.moved (u := U) (U := U.calling g mk a) (Vm.Alike.refl U.vm) qK, qD⟩, va_recv hKc hPc (ci := 0) (q0 := 0) rfl rfl, fun U hU hW => ⟨rfl, by rw [hU], by rw [hU]; exact hPc, va_K.moved hW.alike hKc, hDc.weaken (fun _ _ _ _ => trivial)⟩⟩ rfl rfl hl.1 rfl (lv_room (Nat.le_of_ble_eq_true rfl)) dX1_mark_49 ⟨(Nat.zero_le _), (Nat.zero_le _)⟩) hS (fun q _ h => hFc q h) hFc (fun r_6 u t H locs ht hvm hw hB hz1 hk1 hS => ?_)
      obtain ⟨b_6, g_6, od_6, ot_6, tm_6⟩ := u
      obtain ⟨hP1, hK1, hD1⟩ := hB
      have e_6 : tt_prog (b, g, od, ot, tm) (tt_ac b) (tt_fst b) v = (r_6, (b_6, g_6, od_6, ot_6, tm_6)) := hw
      rw [ht] at hP1
      obtain ⟨hP, hD⟩ := va_join (wr := [(qp, .inr (1, [.ref qf]))]) (w1 := [(qf, .inr (0, [.ref qb, .ref qe, .int od_6, .int ot_6, .int tm_6])), (qb, .inl (cA, 32, .inl b_6)), (qe, .inl (cE, 2, .inl g_6))]) hP hD [1, 2, 3] [0] rfl rfl (by decide) (by decide) hk1 hFc hP1 hD1
      have hP : va_P (dC, dI) ttCl [(qp, .inr (1, [.ref qf])), (qf, .inr (0, [.ref qb, .ref qe, .int od_6, .int ot_6, .int tm_6])), (qb, .inl (cA, 32, .inl b_6)), (qe, .inl (cE, 2, .inl g_6))] H := hP
      have hD : va_D A [(qp, .inr (1, [.ref qf])), (qf, .inr (0, [.ref qb, .ref qe, .int od_6, .int ot_6, .int tm_6])), (qb, .inl (cA, 32, .inl b_6)), (qe, .inl (cE, 2, .inl g_6))] := hD
      refine lv_if_eq (tgt := 59) hx hb dX1_mark_52 (by decide) (fun c_7 => ?_) (fun c_7 => ?_)
      · refine lv_iconst (v := (-1)) hx hb dX1_mark_59 (by decide) ?_
        have hP9 := hP.sub (ws' := [(qp, .inr (1, [.ref qf])), (qf, .inr (0, [.ref qb, .ref qe, .int od_6, .int ot_6, .int tm_6])), (qb, .inl (cA, 32, .inl b_6)), (qe, .inl (cE, 2, .inl g_6))]) [0, 1, 2, 3] rfl
        have hD9 := hD.sub (ws' := [(qp, .inr (1, [.ref qf])), (qf, .inr (0, [.ref qb, .ref qe, .int od_6, .int ot_6, .int tm_6])), (qb, .inl (cA, 32, .inl b_6)), (qe, .inl (cE, 2, .inl g_6))]) [0, 1, 2, 3] (by decide) rfl
        have hK9 := hK.sub (tys' := [(cA, .int), (cE, .int)]) [0, 1] rfl
        exact W.iret (v := (-1)) hx hb hr (fun t ht hW => ⟨⟨(-1), (b_6, g_6, od_6, ot_6, tm_6), rfl, (by first | (simp only [tt_mark, tt_m1, c_2, e_6, c_7, reduceIte, eq_self]; done) | (simp [tt_mark, tt_m1, c_2, e_6, c_7]; done)), by rw [ht]; exact hP9, va_K.moved hW.alike hK9, hD9⟩, hS.F ht⟩) hS.2.2 dX1_mark_60
      · refine lv_iload_n hx hb dX1_mark_55 rfl (lv_at hl 0 rfl) ?_
        refine lv_goto (tgt := 60) hx hb dX1_mark_56 (by decide) ?_
        have hP9 := hP.sub (ws' := [(qp, .inr (1, [.ref qf])), (qf, .inr (0, [.ref qb, .ref qe, .int od_6, .int ot_6, .int tm_6])), (qb, .inl (cA, 32, .inl b_6)), (qe, .inl (cE, 2, .inl g_6))]) [0, 1, 2, 3] rfl
        have hD9 := hD.sub (ws' := [(qp, .inr (1, [.ref qf])), (qf, .inr (0, [.ref qb, .ref qe, .int od_6, .int ot_6, .int tm_6])), (qb, .inl (cA, 32, .inl b_6)), (qe, .inl (cE, 2, .inl g_6))]) [0, 1, 2, 3] (by decide) rfl
        have hK9 := hK.sub (tys' := [(cA, .int), (cE, .int)]) [0, 1] rfl
        exact W.iret (v := tt_fst b) hx hb hr (fun t ht hW => ⟨⟨tt_fst b, (b_6, g_6, od_6, ot_6, tm_6), rfl, (by first | (simp only [tt_mark, tt_m1, c_2, e_6, c_7, reduceIte, eq_self]; done) | (simp [tt_mark, tt_m1, c_2, e_6, c_7]; done)), by rw [ht]; exact hP9, va_K.moved hW.alike hK9, hD9⟩, hS.F ht⟩) hS.2.2 dX1_mark_60
  · refine lv_aload_n hx hb dX1_mark_8 rfl (lv_at hl 0 rfl) ?_
    refine lv_aload_n hx hb dX1_mark_9 rfl (lv_at hl 0 rfl) ?_
    have hPc := hP.sub (ws' := [(qp, .inr (1, [.ref qf])), (qf, .inr (0, [.ref qb, .ref qe, .int od, .int ot, .int tm])), (qb, .inl (cA, 32, .inl b)), (qe, .inl (cE, 2, .inl g))]) [0, 1, 2, 3] rfl
    have hDc := hD.sub (ws' := [(qp, .inr (1, [.ref qf])), (qf, .inr (0, [.ref qb, .ref qe, .int od, .int ot, .int tm])), (qb, .inl (cA, 32, .inl b)), (qe, .inl (cE, 2, .inl g))]) [0, 1, 2, 3] (by decide) rfl
    have hKc := hK.sub (tys' := [(cA, .int), (cE, .int)]) [0, 1] rfl
    have hFc := va_free (wc := [(qp, .inr (1, [.ref qf])), (qf, .inr (0, [.ref qb, .ref qe, .int od, .int ot, .int tm])), (qb, .inl (cA, 32, .inl b)), (qe, .inl (cE, 2, .inl g))]) hD hS hA [0, 1, 2, 3] rfl
    refine va_calli (va_runV (As := []) (rest := [.ref qp]) ⟨hx, hb, hml, hown, hts⟩ (c_P_pin l dC dI cA cE qp qf qb qe H.size b g od ot tm) (cwV 0 hts gX1_mark_X1_pin rfl rfl rfl (by decide +kernel) ⟨Nat.le_of_ble_eq_true rfl, Nat.le_of_ble_eq_true rfl⟩) ⟨fun a U g mk q => by obtain ⟨q0, q1, qP, qK, qD⟩ := q; exact ⟨q0, q1, qP, va_K.moved (u := U) (U := U.calling g mk a) (Vm.Alike.refl U.vm) qK, qD⟩, va_recv hKc hPc (ci := 1) (q0 := 0) rfl rfl, fun U hU hW => ⟨rfl, by rw [hU], by rw [hU]; exact hPc, va_K.moved hW.alike hKc, hDc.weaken (fun _ _ _ _ => trivial)⟩⟩ rfl rfl hl.1 rfl (lv_room (Nat.le_of_ble_eq_true rfl)) dX1_mark_10 ⟨(Nat.zero_le _), (Nat.zero_le _)⟩) hS (fun q _ h => hFc q h) hFc (fun r_8 u t H locs ht hvm hw hB hz1 hk1 hS => ?_)
    have hw : tt_pin b = r_8 := hw.symm
    subst hw
    obtain ⟨hP1, hK1, hD1⟩ := hB
    rw [ht] at hP1
    obtain ⟨hP, hD⟩ := va_join (wr := []) (w1 := [(qp, .inr (1, [.ref qf])), (qf, .inr (0, [.ref qb, .ref qe, .int od, .int ot, .int tm])), (qb, .inl (cA, 32, .inl b)), (qe, .inl (cE, 2, .inl g))]) hP hD [0, 1, 2, 3] [] rfl rfl (by decide) (by decide) hk1 hFc hP1 hD1
    have hP : va_P (dC, dI) ttCl [(qp, .inr (1, [.ref qf])), (qf, .inr (0, [.ref qb, .ref qe, .int od, .int ot, .int tm])), (qb, .inl (cA, 32, .inl b)), (qe, .inl (cE, 2, .inl g))] H := hP
    have hD : va_D A [(qp, .inr (1, [.ref qf])), (qf, .inr (0, [.ref qb, .ref qe, .int od, .int ot, .int tm])), (qb, .inl (cA, 32, .inl b)), (qe, .inl (cE, 2, .inl g))] := hD
    refine lv_aload_n hx hb dX1_mark_13 rfl (lv_at hl 0 rfl) ?_
    have hPc := hP.sub (ws' := [(qp, .inr (1, [.ref qf])), (qf, .inr (0, [.ref qb, .ref qe, .int od, .int ot, .int tm])), (qb, .inl (cA, 32, .inl b)), (qe, .inl (cE, 2, .inl g))]) [0, 1, 2, 3] rfl
    have hDc := hD.sub (ws' := [(qp, .inr (1, [.ref qf])), (qf, .inr (0, [.ref qb, .ref qe, .int od, .int ot, .int tm])), (qb, .inl (cA, 32, .inl b)), (qe, .inl (cE, 2, .inl g))]) [0, 1, 2, 3] (by decide) rfl
    have hKc := hK.sub (tys' := [(cA, .int), (cE, .int)]) [0, 1] rfl
    have hFc := va_free (wc := [(qp, .inr (1, [.ref qf])), (qf, .inr (0, [.ref qb, .ref qe, .int od, .int ot, .int tm])), (qb, .inl (cA, 32, .inl b)), (qe, .inl (cE, 2, .inl g))]) hD hS hA [0, 1, 2, 3] rfl
    refine va_calli (va_runV (As := []) (rest := [.int (tt_pin b), .ref qp]) ⟨hx, hb, hml, hown, hts⟩ (c_P_pinTriesUsed l dC dI cA cE qp qf qb qe H.size b g od ot tm) (cwV 0 hts gX1_mark_X1_pinTriesUsed rfl rfl rfl (by decide +kernel) ⟨Nat.le_of_ble_eq_true rfl, Nat.le_of_ble_eq_true rfl⟩) ⟨fun a U g mk q => by obtain ⟨q0, q1, qP, qK, qD⟩ := q; exact ⟨q0, q1, qP, va_K.moved (u := U) (U := U.calling g mk a) (Vm.Alike.refl U.vm) qK, qD⟩, va_recv hKc hPc (ci := 1) (q0 := 0) rfl rfl, fun U hU hW => ⟨rfl, by rw [hU], by rw [hU]; exact hPc, va_K.moved hW.alike hKc, hDc.weaken (fun _ _ _ _ => trivial)⟩⟩ rfl rfl hl.1 rfl (lv_room (Nat.le_of_ble_eq_true rfl)) dX1_mark_14 ⟨(Nat.zero_le _), (Nat.zero_le _)⟩) hS (fun q _ h => hFc q h) hFc (fun r_9 u t H locs ht hvm hw hB hz1 hk1 hS => ?_)
    have hw : tt_pu b = r_9 := hw.symm
    subst hw
    obtain ⟨hP1, hK1, hD1⟩ := hB
    rw [ht] at hP1
    obtain ⟨hP, hD⟩ := va_join (wr := []) (w1 := [(qp, .inr (1, [.ref qf])), (qf, .inr (0, [.ref qb, .ref qe, .int od, .int ot, .int tm])), (qb, .inl (cA, 32, .inl b)), (qe, .inl (cE, 2, .inl g))]) hP hD [0, 1, 2, 3] [] rfl rfl (by decide) (by decide) hk1 hFc hP1 hD1
    have hP : va_P (dC, dI) ttCl [(qp, .inr (1, [.ref qf])), (qf, .inr (0, [.ref qb, .ref qe, .int od, .int ot, .int tm])), (qb, .inl (cA, 32, .inl b)), (qe, .inl (cE, 2, .inl g))] H := hP
    have hD : va_D A [(qp, .inr (1, [.ref qf])), (qf, .inr (0, [.ref qb, .ref qe, .int od, .int ot, .int tm])), (qb, .inl (cA, 32, .inl b)), (qe, .inl (cE, 2, .inl g))] := hD
    refine lv_aload_n hx hb dX1_mark_17 rfl (lv_at hl 0 rfl) ?_
    have hPc := hP.sub (ws' := [(qp, .inr (1, [.ref qf])), (qf, .inr (0, [.ref qb, .ref qe, .int od, .int ot, .int tm])), (qb, .inl (cA, 32, .inl b)), (qe, .inl (cE, 2, .inl g))]) [0, 1, 2, 3] rfl
    have hDc := hD.sub (ws' := [(qp, .inr (1, [.ref qf])), (qf, .inr (0, [.ref qb, .ref qe, .int od, .int ot, .int tm])), (qb, .inl (cA, 32, .inl b)), (qe, .inl (cE, 2, .inl g))]) [0, 1, 2, 3] (by decide) rfl
    have hKc := hK.sub (tys' := [(cA, .int), (cE, .int)]) [0, 1] rfl
    have hFc := va_free (wc := [(qp, .inr (1, [.ref qf])), (qf, .inr (0, [.ref qb, .ref qe, .int od, .int ot, .int tm])), (qb, .inl (cA, 32, .inl b)), (qe, .inl (cE, 2, .inl g))]) hD hS hA [0, 1, 2, 3] rfl
    refine va_calli (va_runV (As := []) (rest := [.int (tt_pu b), .int (tt_pin b), .ref qp]) ⟨hx, hb, hml, hown, hts⟩ (c_P_pukTriesUsed l dC dI cA cE qp qf qb qe H.size b g od ot tm) (cwV 0 hts gX1_mark_X1_pukTriesUsed rfl rfl rfl (by decide +kernel) ⟨Nat.le_of_ble_eq_true rfl, Nat.le_of_ble_eq_true rfl⟩) ⟨fun a U g mk q => by obtain ⟨q0, q1, qP, qK, qD⟩ := q; exact ⟨q0, q1, qP, va_K.moved (u := U) (U := U.calling g mk a) (Vm.Alike.refl U.vm) qK, qD⟩, va_recv hKc hPc (ci := 1) (q0 := 0) rfl rfl, fun U hU hW => ⟨rfl, by rw [hU], by rw [hU]; exact hPc, va_K.moved hW.alike hKc, hDc.weaken (fun _ _ _ _ => trivial)⟩⟩ rfl rfl hl.1 rfl (lv_room (Nat.le_of_ble_eq_true rfl)) dX1_mark_18 ⟨(Nat.zero_le _), (Nat.zero_le _)⟩) hS (fun q _ h => hFc q h) hFc (fun r_10 u t H locs ht hvm hw hB hz1 hk1 hS => ?_)
    have hw : tt_uu b = r_10 := hw.symm
    subst hw
    obtain ⟨hP1, hK1, hD1⟩ := hB
    rw [ht] at hP1
    obtain ⟨hP, hD⟩ := va_join (wr := []) (w1 := [(qp, .inr (1, [.ref qf])), (qf, .inr (0, [.ref qb, .ref qe, .int od, .int ot, .int tm])), (qb, .inl (cA, 32, .inl b)), (qe, .inl (cE, 2, .inl g))]) hP hD [0, 1, 2, 3] [] rfl rfl (by decide) (by decide) hk1 hFc hP1 hD1
    have hP : va_P (dC, dI) ttCl [(qp, .inr (1, [.ref qf])), (qf, .inr (0, [.ref qb, .ref qe, .int od, .int ot, .int tm])), (qb, .inl (cA, 32, .inl b)), (qe, .inl (cE, 2, .inl g))] H := hP
    have hD : va_D A [(qp, .inr (1, [.ref qf])), (qf, .inr (0, [.ref qb, .ref qe, .int od, .int ot, .int tm])), (qb, .inl (cA, 32, .inl b)), (qe, .inl (cE, 2, .inl g))] := hD
    have hPc := hP.sub (ws' := [(qp, .inr (1, [.ref qf])), (qf, .inr (0, [.ref qb, .ref qe, .int od, .int ot, .int tm])), (qb, .inl (cA, 32, .inl b)), (qe, .inl (cE, 2, .inl g))]) [0, 1, 2, 3] rfl
    have hDc := hD.sub (ws' := [(qp, .inr (1, [.ref qf])), (qf, .inr (0, [.ref qb, .ref qe, .int od, .int ot, .int tm])), (qb, .inl (cA, 32, .inl b)), (qe, .inl (cE, 2, .inl g))]) [0, 1, 2, 3] (by decide) rfl
    have hKc := hK.sub (tys' := [(cA, .int), (cE, .int)]) [0, 1] rfl
    have hFc := va_free (wc := [(qp, .inr (1, [.ref qf])), (qf, .inr (0, [.ref qb, .ref qe, .int od, .int ot, .int tm])), (qb, .inl (cA, 32, .inl b)), (qe, .inl (cE, 2, .inl g))]) hD hS hA [0, 1, 2, 3] rfl
    refine va_calli (va_runV (As := [.int (tt_pin b), .int (tt_pu b), .int (tt_uu b)]) (rest := []) ⟨hx, hb, hml, hown, hts⟩ (c_P_turn l dC dI cA cE qp qf qb qe H.size b g od ot tm (tt_pin b) (tt_pu b) (tt_uu b)) (cwV 3 hts gX1_mark_X1_turn rfl rfl rfl (by decide +kernel) ⟨Nat.le_of_ble_eq_true rfl, Nat.le_of_ble_eq_true rfl⟩) ⟨fun a U g mk q => by obtain ⟨q0, q1, qP, qK, qD⟩ := q; exact ⟨q0, q1, qP, va_K.moved (u := U) (U := U.calling g mk a) (Vm.Alike.refl U.vm) qK, qD⟩, va_recv hKc hPc (ci := 1) (q0 := 0) rfl rfl, fun U hU hW => ⟨rfl, by rw [hU], by rw [hU]; exact hPc, va_K.moved hW.alike hKc, hDc.weaken (fun _ _ _ _ => trivial)⟩⟩ rfl rfl hl.1 rfl (lv_room (Nat.le_of_ble_eq_true rfl)) dX1_mark_21 ⟨(Nat.zero_le _), (Nat.zero_le _)⟩) hS (fun q _ h => hFc q h) hFc (fun r_11 u t H locs ht hvm hw hB hz1 hk1 hS => ?_)
    obtain ⟨b_11, g_11, od_11, ot_11, tm_11⟩ := u
    obtain ⟨hP1, hK1, hD1⟩ := hB
    have e_11 : tt_turn (b, g, od, ot, tm) (tt_pin b) (tt_pu b) (tt_uu b) = (r_11, (b_11, g_11, od_11, ot_11, tm_11)) := hw
    rw [ht] at hP1
    obtain ⟨hP, hD⟩ := va_join (wr := []) (w1 := [(qp, .inr (1, [.ref qf])), (qf, .inr (0, [.ref qb, .ref qe, .int od_11, .int ot_11, .int tm_11])), (qb, .inl (cA, 32, .inl b_11)), (qe, .inl (cE, 2, .inl g_11))]) hP hD [0, 1, 2, 3] [] rfl rfl (by decide) (by decide) hk1 hFc hP1 hD1
    have hP : va_P (dC, dI) ttCl [(qp, .inr (1, [.ref qf])), (qf, .inr (0, [.ref qb, .ref qe, .int od_11, .int ot_11, .int tm_11])), (qb, .inl (cA, 32, .inl b_11)), (qe, .inl (cE, 2, .inl g_11))] H := hP
    have hD : va_D A [(qp, .inr (1, [.ref qf])), (qf, .inr (0, [.ref qb, .ref qe, .int od_11, .int ot_11, .int tm_11])), (qb, .inl (cA, 32, .inl b_11)), (qe, .inl (cE, 2, .inl g_11))] := hD
    refine lv_if_ne (tgt := 29) hx hb dX1_mark_24 (by decide) (fun c_12 => ?_) (fun c_12 => ?_)
    · refine lv_aload_n hx hb dX1_mark_29 rfl (lv_at hl 0 rfl) ?_
      have hPc := hP.sub (ws' := [(qp, .inr (1, [.ref qf])), (qf, .inr (0, [.ref qb, .ref qe, .int od_11, .int ot_11, .int tm_11])), (qb, .inl (cA, 32, .inl b_11)), (qe, .inl (cE, 2, .inl g_11))]) [0, 1, 2, 3] rfl
      have hDc := hD.sub (ws' := [(qp, .inr (1, [.ref qf])), (qf, .inr (0, [.ref qb, .ref qe, .int od_11, .int ot_11, .int tm_11])), (qb, .inl (cA, 32, .inl b_11)), (qe, .inl (cE, 2, .inl g_11))]) [0, 1, 2, 3] (by decide) rfl
      have hKc := hK.sub (tys' := [(cA, .int), (cE, .int)]) [0, 1] rfl
      have hFc := va_free (wc := [(qp, .inr (1, [.ref qf])), (qf, .inr (0, [.ref qb, .ref qe, .int od_11, .int ot_11, .int tm_11])), (qb, .inl (cA, 32, .inl b_11)), (qe, .inl (cE, 2, .inl g_11))]) hD hS hA [0, 1, 2, 3] rfl
      refine va_calli (va_runV (As := []) (rest := []) ⟨hx, hb, hml, hown, hts⟩ (c_P_firstFreeEntry l dC dI cA cE qp qf qb qe H.size b_11 g_11 od_11 ot_11 tm_11) (cwV 0 hts gX1_mark_X1_firstFreeEntry rfl rfl rfl (by decide +kernel) ⟨Nat.le_of_ble_eq_true rfl, Nat.le_of_ble_eq_true rfl⟩) ⟨fun a U g mk q => by obtain ⟨q0, q1, qP, qK, qD⟩ := q; exact ⟨q0, q1, qP, va_K.moved (u := U) (U := U.calling g mk a) (Vm.Alike.refl U.vm) qK, qD⟩, va_recv hKc hPc (ci := 1) (q0 := 0) rfl rfl, fun U hU hW => ⟨rfl, by rw [hU], by rw [hU]; exact hPc, va_K.moved hW.alike hKc, hDc.weaken (fun _ _ _ _ => trivial)⟩⟩ rfl rfl hl.1 rfl (lv_room (Nat.le_of_ble_eq_true rfl)) dX1_mark_30 ⟨(Nat.zero_le _), (Nat.zero_le _)⟩) hS (fun q _ h => hFc q h) hFc (fun r_13 u t H locs ht hvm hw hB hz1 hk1 hS => ?_)
      have hw : tt_fst b_11 = r_13 := hw.symm
      subst hw
      obtain ⟨hP1, hK1, hD1⟩ := hB
      rw [ht] at hP1
      obtain ⟨hP, hD⟩ := va_join (wr := []) (w1 := [(qp, .inr (1, [.ref qf])), (qf, .inr (0, [.ref qb, .ref qe, .int od_11, .int ot_11, .int tm_11])), (qb, .inl (cA, 32, .inl b_11)), (qe, .inl (cE, 2, .inl g_11))]) hP hD [0, 1, 2, 3] [] rfl rfl (by decide) (by decide) hk1 hFc hP1 hD1
      have hP : va_P (dC, dI) ttCl [(qp, .inr (1, [.ref qf])), (qf, .inr (0, [.ref qb, .ref qe, .int od_11, .int ot_11, .int tm_11])), (qb, .inl (cA, 32, .inl b_11)), (qe, .inl (cE, 2, .inl g_11))] H := hP
      have hD : va_D A [(qp, .inr (1, [.ref qf])), (qf, .inr (0, [.ref qb, .ref qe, .int od_11, .int ot_11, .int tm_11])), (qb, .inl (cA, 32, .inl b_11)), (qe, .inl (cE, 2, .inl g_11))] := hD
      refine lv_istore_n (lv' := [(2, .int (tt_fst b_11)), (0, .ref qp), (1, .int v)]) hx hb dX1_mark_33 rfl hl (by decide) rfl (fun ls hl => ?_)
      refine lv_iload_n hx hb dX1_mark_34 rfl (lv_at hl 0 rfl) ?_
      refine lv_iconst (v := (-1)) hx hb dX1_mark_35 (by decide) ?_
      refine lv_icmp_eq (tgt := 59) hx hb dX1_mark_36 (by decide) (fun c_14 => ?_) (fun c_14 => ?_)
      · refine lv_iconst (v := (-1)) hx hb dX1_mark_59 (by decide) ?_
        have hP9 := hP.sub (ws' := [(qp, .inr (1, [.ref qf])), (qf, .inr (0, [.ref qb, .ref qe, .int od_11, .int ot_11, .int tm_11])), (qb, .inl (cA, 32, .inl b_11)), (qe, .inl (cE, 2, .inl g_11))]) [0, 1, 2, 3] rfl
        have hD9 := hD.sub (ws' := [(qp, .inr (1, [.ref qf])), (qf, .inr (0, [.ref qb, .ref qe, .int od_11, .int ot_11, .int tm_11])), (qb, .inl (cA, 32, .inl b_11)), (qe, .inl (cE, 2, .inl g_11))]) [0, 1, 2, 3] (by decide) rfl
        have hK9 := hK.sub (tys' := [(cA, .int), (cE, .int)]) [0, 1] rfl
        exact W.iret (v := (-1)) hx hb hr (fun t ht hW => ⟨⟨(-1), (b_11, g_11, od_11, ot_11, tm_11), rfl, (by first | (simp only [tt_mark, tt_m1, c_2, e_11, c_12, c_14, reduceIte, eq_self]; done) | (simp [tt_mark, tt_m1, c_2, e_11, c_12, c_14]; done)), by rw [ht]; exact hP9, va_K.moved hW.alike hK9, hD9⟩, hS.F ht⟩) hS.2.2 dX1_mark_60
      · refine lv_aload_n hx hb dX1_mark_39 rfl (lv_at hl 1 rfl) ?_
        refine va_get (D := (dC, dI)) (ci := 1) (v := .ref qf) (C := RX1) (T := TX1) (N := 1) hx hb hts (by decide +kernel) hown hK hP 0 rfl rfl 0 (by decide) (hts (.fieldLink RX1 7 "TornTryCounter$Pages" "flash" "LTornTryCounter$Flash;") (by decide +kernel)) (fun _ h9 => h9) rfl dX1_mark_40 ?_
        refine lv_aload_n hx hb dX1_mark_43 rfl (lv_at hl 1 rfl) ?_
        have hPc := hP.sub (ws' := [(qp, .inr (1, [.ref qf])), (qf, .inr (0, [.ref qb, .ref qe, .int od_11, .int ot_11, .int tm_11])), (qb, .inl (cA, 32, .inl b_11)), (qe, .inl (cE, 2, .inl g_11))]) [0, 1, 2, 3] rfl
        have hDc := hD.sub (ws' := [(qp, .inr (1, [.ref qf])), (qf, .inr (0, [.ref qb, .ref qe, .int od_11, .int ot_11, .int tm_11])), (qb, .inl (cA, 32, .inl b_11)), (qe, .inl (cE, 2, .inl g_11))]) [0, 1, 2, 3] (by decide) rfl
        have hKc := hK.sub (tys' := [(cA, .int), (cE, .int)]) [0, 1] rfl
        have hFc := va_free (wc := [(qp, .inr (1, [.ref qf])), (qf, .inr (0, [.ref qb, .ref qe, .int od_11, .int ot_11, .int tm_11])), (qb, .inl (cA, 32, .inl b_11)), (qe, .inl (cE, 2, .inl g_11))]) hD hS hA [0, 1, 2, 3] rfl
        refine va_calli (va_runV (As := []) (rest := [.ref qf]) ⟨hx, hb, hml, hown, hts⟩ (c_P_active l dC dI cA cE qp qf qb qe H.size b_11 g_11 od_11 ot_11 tm_11) (cwV 0 hts gX1_mark_X1_active rfl rfl rfl (by decide +kernel) ⟨Nat.le_of_ble_eq_true rfl, Nat.le_of_ble_eq_true rfl⟩) ⟨fun a U g mk q => by obtain ⟨q0, q1, qP, qK, qD⟩ := q; exact ⟨q0, q1, qP, va_K.moved (u := U) (U := U.calling g mk a) (Vm.Alike.refl U.vm) qK, qD⟩, va_recv hKc hPc (ci := 1) (q0 := 0) rfl rfl, fun U hU hW => ⟨rfl, by rw [hU], by rw [hU]; exact hPc, va_K.moved hW.alike hKc, hDc.weaken (fun _ _ _ _ => trivial)⟩⟩ rfl rfl hl.1 rfl (lv_room (Nat.le_of_ble_eq_true rfl)) dX1_mark_44 ⟨(Nat.zero_le _), (Nat.zero_le _)⟩) hS (fun q _ h => hFc q h) hFc (fun r_15 u t H locs ht hvm hw hB hz1 hk1 hS => ?_)
        have hw : tt_ac b_11 = r_15 := hw.symm
        subst hw
        obtain ⟨hP1, hK1, hD1⟩ := hB
        rw [ht] at hP1
        obtain ⟨hP, hD⟩ := va_join (wr := []) (w1 := [(qp, .inr (1, [.ref qf])), (qf, .inr (0, [.ref qb, .ref qe, .int od_11, .int ot_11, .int tm_11])), (qb, .inl (cA, 32, .inl b_11)), (qe, .inl (cE, 2, .inl g_11))]) hP hD [0, 1, 2, 3] [] rfl rfl (by decide) (by decide) hk1 hFc hP1 hD1
        have hP : va_P (dC, dI) ttCl [(qp, .inr (1, [.ref qf])), (qf, .inr (0, [.ref qb, .ref qe, .int od_11, .int ot_11, .int tm_11])), (qb, .inl (cA, 32, .inl b_11)), (qe, .inl (cE, 2, .inl g_11))] H := hP
        have hD : va_D A [(qp, .inr (1, [.ref qf])), (qf, .inr (0, [.ref qb, .ref qe, .int od_11, .int ot_11, .int tm_11])), (qb, .inl (cA, 32, .inl b_11)), (qe, .inl (cE, 2, .inl g_11))] := hD
        refine lv_iload_n hx hb dX1_mark_47 rfl (lv_at hl 0 rfl) ?_
        refine lv_iload_n hx hb dX1_mark_48 rfl (lv_at hl 2 rfl) ?_
        have hPc := hP.sub (ws' := [(qf, .inr (0, [.ref qb, .ref qe, .int od_11, .int ot_11, .int tm_11])), (qb, .inl (cA, 32, .inl b_11)), (qe, .inl (cE, 2, .inl g_11))]) [1, 2, 3] rfl
        have hDc := hD.sub (ws' := [(qf, .inr (0, [.ref qb, .ref qe, .int od_11, .int ot_11, .int tm_11])), (qb, .inl (cA, 32, .inl b_11)), (qe, .inl (cE, 2, .inl g_11))]) [1, 2, 3] (by decide) rfl
        have hKc := hK.sub (tys' := [(cA, .int), (cE, .int)]) [0, 1] rfl
        have hFc := va_free (wc := [(qf, .inr (0, [.ref qb, .ref qe, .int od_11, .int ot_11, .int tm_11])), (qb, .inl (cA, 32, .inl b_11)), (qe, .inl (cE, 2, .inl g_11))]) hD hS hA [1, 2, 3] rfl
        refine va_calli (va_runV (As := [.int (tt_ac b_11), .int (tt_fst b_11), .int v]) (rest := []) ⟨hx, hb, hml, hown, hts⟩ (c_F_program l dC dI cA cE qf qb qe H.size b_11 g_11 od_11 ot_11 tm_11 (tt_ac b_11) (tt_fst b_11) v) (cwV 3 hts gX1_mark_X0_program rfl rfl rfl (by decide +kernel) ⟨Nat.le_of_ble_eq_true rfl, Nat.le_of_ble_eq_true rfl⟩) ⟨fun a U g mk q => by obtain ⟨q0, q1, qP, qK, qD⟩ := q; exact ⟨q0, q1, qP, va_K.moved (u := U) (U := U.calling g mk a) (Vm.Alike.refl U.vm) qK, qD⟩, va_recv hKc hPc (ci := 0) (q0 := 0) rfl rfl, fun U hU hW => ⟨rfl, by rw [hU], by rw [hU]; exact hPc, va_K.moved hW.alike hKc, hDc.weaken (fun _ _ _ _ => trivial)⟩⟩ rfl rfl hl.1 rfl (lv_room (Nat.le_of_ble_eq_true rfl)) dX1_mark_49 ⟨(Nat.zero_le _), (Nat.zero_le _)⟩) hS (fun q _ h => hFc q h) hFc (fun r_16 u t H locs ht hvm hw hB hz1 hk1 hS => ?_)
        obtain ⟨b_16, g_16, od_16, ot_16, tm_16⟩ := u
        obtain ⟨hP1, hK1, hD1⟩ := hB
        have e_16 : tt_prog (b_11, g_11, od_11, ot_11, tm_11) (tt_ac b_11) (tt_fst b_11) v = (r_16, (b_16, g_16, od_16, ot_16, tm_16)) := hw
        rw [ht] at hP1
        obtain ⟨hP, hD⟩ := va_join (wr := [(qp, .inr (1, [.ref qf]))]) (w1 := [(qf, .inr (0, [.ref qb, .ref qe, .int od_16, .int ot_16, .int tm_16])), (qb, .inl (cA, 32, .inl b_16)), (qe, .inl (cE, 2, .inl g_16))]) hP hD [1, 2, 3] [0] rfl rfl (by decide) (by decide) hk1 hFc hP1 hD1
        have hP : va_P (dC, dI) ttCl [(qp, .inr (1, [.ref qf])), (qf, .inr (0, [.ref qb, .ref qe, .int od_16, .int ot_16, .int tm_16])), (qb, .inl (cA, 32, .inl b_16)), (qe, .inl (cE, 2, .inl g_16))] H := hP
        have hD : va_D A [(qp, .inr (1, [.ref qf])), (qf, .inr (0, [.ref qb, .ref qe, .int od_16, .int ot_16, .int tm_16])), (qb, .inl (cA, 32, .inl b_16)), (qe, .inl (cE, 2, .inl g_16))] := hD
        refine lv_if_eq (tgt := 59) hx hb dX1_mark_52 (by decide) (fun c_17 => ?_) (fun c_17 => ?_)
        · refine lv_iconst (v := (-1)) hx hb dX1_mark_59 (by decide) ?_
          have hP9 := hP.sub (ws' := [(qp, .inr (1, [.ref qf])), (qf, .inr (0, [.ref qb, .ref qe, .int od_16, .int ot_16, .int tm_16])), (qb, .inl (cA, 32, .inl b_16)), (qe, .inl (cE, 2, .inl g_16))]) [0, 1, 2, 3] rfl
          have hD9 := hD.sub (ws' := [(qp, .inr (1, [.ref qf])), (qf, .inr (0, [.ref qb, .ref qe, .int od_16, .int ot_16, .int tm_16])), (qb, .inl (cA, 32, .inl b_16)), (qe, .inl (cE, 2, .inl g_16))]) [0, 1, 2, 3] (by decide) rfl
          have hK9 := hK.sub (tys' := [(cA, .int), (cE, .int)]) [0, 1] rfl
          exact W.iret (v := (-1)) hx hb hr (fun t ht hW => ⟨⟨(-1), (b_16, g_16, od_16, ot_16, tm_16), rfl, (by first | (simp only [tt_mark, tt_m1, c_2, e_11, c_12, c_14, e_16, c_17, reduceIte, eq_self]; done) | (simp [tt_mark, tt_m1, c_2, e_11, c_12, c_14, e_16, c_17]; done)), by rw [ht]; exact hP9, va_K.moved hW.alike hK9, hD9⟩, hS.F ht⟩) hS.2.2 dX1_mark_60
        · refine lv_iload_n hx hb dX1_mark_55 rfl (lv_at hl 0 rfl) ?_
          refine lv_goto (tgt := 60) hx hb dX1_mark_56 (by decide) ?_
          have hP9 := hP.sub (ws' := [(qp, .inr (1, [.ref qf])), (qf, .inr (0, [.ref qb, .ref qe, .int od_16, .int ot_16, .int tm_16])), (qb, .inl (cA, 32, .inl b_16)), (qe, .inl (cE, 2, .inl g_16))]) [0, 1, 2, 3] rfl
          have hD9 := hD.sub (ws' := [(qp, .inr (1, [.ref qf])), (qf, .inr (0, [.ref qb, .ref qe, .int od_16, .int ot_16, .int tm_16])), (qb, .inl (cA, 32, .inl b_16)), (qe, .inl (cE, 2, .inl g_16))]) [0, 1, 2, 3] (by decide) rfl
          have hK9 := hK.sub (tys' := [(cA, .int), (cE, .int)]) [0, 1] rfl
          exact W.iret (v := tt_fst b_11) hx hb hr (fun t ht hW => ⟨⟨tt_fst b_11, (b_16, g_16, od_16, ot_16, tm_16), rfl, (by first | (simp only [tt_mark, tt_m1, c_2, e_11, c_12, c_14, e_16, c_17, reduceIte, eq_self]; done) | (simp [tt_mark, tt_m1, c_2, e_11, c_12, c_14, e_16, c_17]; done)), by rw [ht]; exact hP9, va_K.moved hW.alike hK9, hD9⟩, hS.F ht⟩) hS.2.2 dX1_mark_60
    · refine lv_iconst (v := (-1)) hx hb dX1_mark_27 (by decide) ?_
      have hP9 := hP.sub (ws' := [(qp, .inr (1, [.ref qf])), (qf, .inr (0, [.ref qb, .ref qe, .int od_11, .int ot_11, .int tm_11])), (qb, .inl (cA, 32, .inl b_11)), (qe, .inl (cE, 2, .inl g_11))]) [0, 1, 2, 3] rfl
      have hD9 := hD.sub (ws' := [(qp, .inr (1, [.ref qf])), (qf, .inr (0, [.ref qb, .ref qe, .int od_11, .int ot_11, .int tm_11])), (qb, .inl (cA, 32, .inl b_11)), (qe, .inl (cE, 2, .inl g_11))]) [0, 1, 2, 3] (by decide) rfl
      have hK9 := hK.sub (tys' := [(cA, .int), (cE, .int)]) [0, 1] rfl
      exact W.iret (v := (-1)) hx hb hr (fun t ht hW => ⟨⟨(-1), (b_11, g_11, od_11, ot_11, tm_11), rfl, (by first | (simp only [tt_mark, tt_m1, c_2, e_11, c_12, reduceIte, eq_self]; done) | (simp [tt_mark, tt_m1, c_2, e_11, c_12]; done)), by rw [ht]; exact hP9, va_K.moved hW.alike hK9, hD9⟩, hS.F ht⟩) hS.2.2 dX1_mark_28
