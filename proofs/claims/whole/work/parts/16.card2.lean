set_option maxHeartbeats 4000000 in
set_option maxRecDepth 100000 in
theorem c_X_arm (l : Launch) (dC : Nat → ClassId) (dI : Nat → Nat → Nat) (cA cE : ClassId) (qx qp qf qb qe : Nat) (sz : Nat) (b g : Nat → Int32) (pk pl ul pw hi ta od ot tm : Int32) (n x : Int32) : Met l yX2_arm wsX2_arm ({ frames := 1, cells := 0, slots := 0, locals := 22 }) (va_Pc [.ref qx, .int n, .int x] (fun U => U.heap.size = sz ∧ va_P (dC, dI) ttCl [(qx, .inr (2, [.ref qf, .ref qp, .int pk, .int pl, .int ul, .int pw, .int hi, .int ta])), (qp, .inr (1, [.ref qf])), (qf, .inr (0, [.ref qb, .ref qe, .int od, .int ot, .int tm])), (qb, .inl (cA, 32, .inl b)), (qe, .inl (cE, 2, .inl g))] U.heap ∧ va_K (dC, dI) ttCl [(cA, .int), (cE, .int)] U ∧ va_D (fun _ => True) [(qx, .inr (2, [.ref qf, .ref qp, .int pk, .int pl, .int ul, .int pw, .int hi, .int ta])), (qp, .inr (1, [.ref qf])), (qf, .inr (0, [.ref qb, .ref qe, .int od, .int ot, .int tm])), (qb, .inl (cA, 32, .inl b)), (qe, .inl (cE, 2, .inl g))])) (va_Qi (fun (r : Int32) (u : tt_X) => tt_arm (pw, hi, ta, b, g, od, ot, tm) n x = (r, u)) (fun (u : tt_X) (t : State) => at_X dC dI cA cE (va_A [(qx, .inr (2, [.ref qf, .ref qp, .int pk, .int pl, .int ul, .int pw, .int hi, .int ta])), (qp, .inr (1, [.ref qf])), (qf, .inr (0, [.ref qb, .ref qe, .int od, .int ot, .int tm])), (qb, .inl (cA, 32, .inl b)), (qe, .inl (cE, 2, .inl g))] sz) qx qp qf qb qe pk pl ul u t) (va_A [(qx, .inr (2, [.ref qf, .ref qp, .int pk, .int pl, .int ul, .int pw, .int hi, .int ta])), (qp, .inr (1, [.ref qf])), (qf, .inr (0, [.ref qb, .ref qe, .int od, .int ot, .int tm])), (qb, .inl (cA, 32, .inl b)), (qe, .inl (cE, 2, .inl g))] sz)) 0 0 (va_A [(qx, .inr (2, [.ref qf, .ref qp, .int pk, .int pl, .int ul, .int pw, .int hi, .int ta])), (qp, .inr (1, [.ref qf])), (qf, .inr (0, [.ref qb, .ref qe, .int od, .int ot, .int tm])), (qb, .inl (cA, 32, .inl b)), (qe, .inl (cE, 2, .inl g))] sz) := by
  refine Met.ofW (cc := cX2_arm) (maxL := 3) (ret := (some .boolean)) (by decide) rfl ?_
  intro p e s m args below meth c s₁ B hml hv
  obtain ⟨rfl, hsz, hP, hK, hD0⟩ := hv
  have hx := B.exec
  have hb := B.bytes
  have hr := B.returns
  have hts := atoms_spec (ws := wsX2_arm) B.pre
  have hown : s.vm.findClass RX2 = some m.cls := findClass_of_methodNamed B.named
  have hlocks := B.notSynchronized
  subst hsz
  have hD := hD0.self (sz := s.heap.size)
  generalize hAe : va_A [(qx, .inr (2, [.ref qf, .ref qp, .int pk, .int pl, .int ul, .int pw, .int hi, .int ta])), (qp, .inr (1, [.ref qf])), (qf, .inr (0, [.ref qb, .ref qe, .int od, .int ot, .int tm])), (qb, .inl (cA, 32, .inl b)), (qe, .inl (cE, 2, .inl g))] s.heap.size = A at hD ⊢
  have hA : ∀ q : Nat, s.heap.size ≤ q → A q := fun q h => by rw [← hAe]; exact Or.inr h
  have hS : va_S A s.heap s.heap [] := va_S.rf
  have hP : va_P (dC, dI) ttCl [(qx, .inr (2, [.ref qf, .ref qp, .int pk, .int pl, .int ul, .int pw, .int hi, .int ta])), (qp, .inr (1, [.ref qf])), (qf, .inr (0, [.ref qb, .ref qe, .int od, .int ot, .int tm])), (qb, .inl (cA, 32, .inl b)), (qe, .inl (cE, 2, .inl g))] s.heap := hP
  have hl := lv_entry ([.ref qx, .int n, .int x]) (n := 3) (Nat.le_of_ble_eq_true rfl)
  rw [lg_entry_eq]
  generalize (lg_sl ([.ref qx, .int n, .int x]) ++ List.replicate (3 - (lg_sl ([.ref qx, .int n, .int x])).length) Slot.unset).toArray = ls at hl ⊢
  have hl : lv_has ls 3 [(0, .ref qx), (1, .int n), (2, .int x)] := hl
  refine lv_iload_n hx hb dX2_arm_0 rfl (lv_at hl 1 rfl) ?_
  refine lv_if_lt (tgt := 21) hx hb dX2_arm_1 (by decide) (fun c_1 => ?_) (fun c_1 => ?_)
  · refine lv_iconst (v := 0) hx hb dX2_arm_21 (by decide) ?_
    have hP9 := hP.sub (ws' := [(qx, .inr (2, [.ref qf, .ref qp, .int pk, .int pl, .int ul, .int pw, .int hi, .int ta])), (qp, .inr (1, [.ref qf])), (qf, .inr (0, [.ref qb, .ref qe, .int od, .int ot, .int tm])), (qb, .inl (cA, 32, .inl b)), (qe, .inl (cE, 2, .inl g))]) [0, 1, 2, 3, 4] rfl
    have hD9 := hD.sub (ws' := [(qx, .inr (2, [.ref qf, .ref qp, .int pk, .int pl, .int ul, .int pw, .int hi, .int ta])), (qp, .inr (1, [.ref qf])), (qf, .inr (0, [.ref qb, .ref qe, .int od, .int ot, .int tm])), (qb, .inl (cA, 32, .inl b)), (qe, .inl (cE, 2, .inl g))]) [0, 1, 2, 3, 4] (by decide) rfl
    have hK9 := hK.sub (tys' := [(cA, .int), (cE, .int)]) [0, 1] rfl
    exact W.zret (v := 0) hx hb hr (by first | rfl | decide) (fun t ht hW => ⟨⟨0, (pw, hi, ta, b, g, od, ot, tm), rfl, (by first | (simp only [tt_arm, tt_setT, c_1, reduceIte, eq_self]; done) | (simp [tt_arm, tt_setT, c_1]; done)), by rw [ht]; exact hP9, va_K.moved hW.alike hK9, hD9⟩, hS.F ht⟩) hS.2.2 dX2_arm_22
  · refine lv_iload_n hx hb dX2_arm_4 rfl (lv_at hl 1 rfl) ?_
    refine lv_bipush (v := 30) hx hb dX2_arm_5 (by decide) ?_
    refine lv_icmp_gt (tgt := 21) hx hb dX2_arm_7 (by decide) (fun c_2 => ?_) (fun c_2 => ?_)
    · refine lv_iconst (v := 0) hx hb dX2_arm_21 (by decide) ?_
      have hP9 := hP.sub (ws' := [(qx, .inr (2, [.ref qf, .ref qp, .int pk, .int pl, .int ul, .int pw, .int hi, .int ta])), (qp, .inr (1, [.ref qf])), (qf, .inr (0, [.ref qb, .ref qe, .int od, .int ot, .int tm])), (qb, .inl (cA, 32, .inl b)), (qe, .inl (cE, 2, .inl g))]) [0, 1, 2, 3, 4] rfl
      have hD9 := hD.sub (ws' := [(qx, .inr (2, [.ref qf, .ref qp, .int pk, .int pl, .int ul, .int pw, .int hi, .int ta])), (qp, .inr (1, [.ref qf])), (qf, .inr (0, [.ref qb, .ref qe, .int od, .int ot, .int tm])), (qb, .inl (cA, 32, .inl b)), (qe, .inl (cE, 2, .inl g))]) [0, 1, 2, 3, 4] (by decide) rfl
      have hK9 := hK.sub (tys' := [(cA, .int), (cE, .int)]) [0, 1] rfl
      exact W.zret (v := 0) hx hb hr (by first | rfl | decide) (fun t ht hW => ⟨⟨0, (pw, hi, ta, b, g, od, ot, tm), rfl, (by first | (simp only [tt_arm, tt_setT, c_1, c_2, reduceIte, eq_self]; done) | (simp [tt_arm, tt_setT, c_1, c_2]; done)), by rw [ht]; exact hP9, va_K.moved hW.alike hK9, hD9⟩, hS.F ht⟩) hS.2.2 dX2_arm_22
    · refine lv_iload_n hx hb dX2_arm_10 rfl (lv_at hl 2 rfl) ?_
      refine lv_if_lt (tgt := 21) hx hb dX2_arm_11 (by decide) (fun c_3 => ?_) (fun c_3 => ?_)
      · refine lv_iconst (v := 0) hx hb dX2_arm_21 (by decide) ?_
        have hP9 := hP.sub (ws' := [(qx, .inr (2, [.ref qf, .ref qp, .int pk, .int pl, .int ul, .int pw, .int hi, .int ta])), (qp, .inr (1, [.ref qf])), (qf, .inr (0, [.ref qb, .ref qe, .int od, .int ot, .int tm])), (qb, .inl (cA, 32, .inl b)), (qe, .inl (cE, 2, .inl g))]) [0, 1, 2, 3, 4] rfl
        have hD9 := hD.sub (ws' := [(qx, .inr (2, [.ref qf, .ref qp, .int pk, .int pl, .int ul, .int pw, .int hi, .int ta])), (qp, .inr (1, [.ref qf])), (qf, .inr (0, [.ref qb, .ref qe, .int od, .int ot, .int tm])), (qb, .inl (cA, 32, .inl b)), (qe, .inl (cE, 2, .inl g))]) [0, 1, 2, 3, 4] (by decide) rfl
        have hK9 := hK.sub (tys' := [(cA, .int), (cE, .int)]) [0, 1] rfl
        exact W.zret (v := 0) hx hb hr (by first | rfl | decide) (fun t ht hW => ⟨⟨0, (pw, hi, ta, b, g, od, ot, tm), rfl, (by first | (simp only [tt_arm, tt_setT, c_1, c_2, c_3, reduceIte, eq_self]; done) | (simp [tt_arm, tt_setT, c_1, c_2, c_3]; done)), by rw [ht]; exact hP9, va_K.moved hW.alike hK9, hD9⟩, hS.F ht⟩) hS.2.2 dX2_arm_22
      · refine lv_iload_n hx hb dX2_arm_14 rfl (lv_at hl 2 rfl) ?_
        refine lv_sipush (v := 255) hx hb dX2_arm_15 (by decide) ?_
        refine lv_icmp_le (tgt := 23) hx hb dX2_arm_18 (by decide) (fun c_4 => ?_) (fun c_4 => ?_)
        · refine lv_iload_n hx hb dX2_arm_23 rfl (lv_at hl 1 rfl) ?_
          refine lv_if_le (tgt := 48) hx hb dX2_arm_24 (by decide) (fun c_5 => ?_) (fun c_5 => ?_)
          · refine lv_aload_n hx hb dX2_arm_48 rfl (lv_at hl 0 rfl) ?_
            refine va_get (D := (dC, dI)) (ci := 2) (v := .ref qf) (C := RX2) (T := TX2) (N := 8) hx hb hts (by decide +kernel) hown hK hP 0 rfl rfl 0 (by decide) (hts (.fieldLink RX2 10 "TornTryCounter" "flash" "LTornTryCounter$Flash;") (by decide +kernel)) (fun _ h9 => h9) rfl dX2_arm_49 ?_
            refine lv_iload_n hx hb dX2_arm_52 rfl (lv_at hl 1 rfl) ?_
            refine lv_iload_n hx hb dX2_arm_53 rfl (lv_at hl 2 rfl) ?_
            have hPc := hP.sub (ws' := [(qf, .inr (0, [.ref qb, .ref qe, .int od, .int ot, .int tm])), (qb, .inl (cA, 32, .inl b)), (qe, .inl (cE, 2, .inl g))]) [2, 3, 4] rfl
            have hDc := hD.sub (ws' := [(qf, .inr (0, [.ref qb, .ref qe, .int od, .int ot, .int tm])), (qb, .inl (cA, 32, .inl b)), (qe, .inl (cE, 2, .inl g))]) [2, 3, 4] (by decide) rfl
            have hKc := hK.sub (tys' := [(cA, .int), (cE, .int)]) [0, 1] rfl
            have hFc := va_free (wc := [(qf, .inr (0, [.ref qb, .ref qe, .int od, .int ot, .int tm])), (qb, .inl (cA, 32, .inl b)), (qe, .inl (cE, 2, .inl g))]) hD hS hA [2, 3, 4] rfl
            refine va_callv (va_runV (As := [.int n, .int x]) (rest := []) ⟨hx, hb, hml, hown, hts⟩ (c_F_tearLater l dC dI cA cE qf qb qe s.heap.size b g od ot tm n x) (cwV 2 hts gX2_arm_X0_tearLater rfl rfl rfl (by decide +kernel) ⟨Nat.le_of_ble_eq_true rfl, Nat.le_of_ble_eq_true rfl⟩) ⟨fun a U g mk q => by obtain ⟨q0, q1, qP, qK, qD⟩ := q; exact ⟨q0, q1, qP, va_K.moved (u := U) (U := U.calling g mk a) (Vm.Alike.refl U.vm) qK, qD⟩, va_recv hKc hPc (ci := 0) (q0 := 0) rfl rfl, fun U hU hW => ⟨rfl, by rw [hU], by rw [hU]; exact hPc, va_K.moved hW.alike hKc, hDc.weaken (fun _ _ _ _ => trivial)⟩⟩ rfl rfl hl.1 rfl (lv_room (Nat.le_of_ble_eq_true rfl)) dX2_arm_54 ⟨(Nat.zero_le _), (Nat.zero_le _)⟩) hS (fun q _ h => hFc q h) hFc (fun u t H locs ht hvm hw hB hz1 hk1 hS => ?_)
            have hw : (b, g, od, n, x) = u := hw
            subst hw
            obtain ⟨hP1, hK1, hD1⟩ := hB
            rw [ht] at hP1
            obtain ⟨hP, hD⟩ := va_join (wr := [(qx, .inr (2, [.ref qf, .ref qp, .int pk, .int pl, .int ul, .int pw, .int hi, .int ta])), (qp, .inr (1, [.ref qf]))]) (w1 := [(qf, .inr (0, [.ref qb, .ref qe, .int od, .int n, .int x])), (qb, .inl (cA, 32, .inl b)), (qe, .inl (cE, 2, .inl g))]) hP hD [2, 3, 4] [0, 1] rfl rfl (by decide) (by decide) hk1 hFc hP1 hD1
            have hP : va_P (dC, dI) ttCl [(qx, .inr (2, [.ref qf, .ref qp, .int pk, .int pl, .int ul, .int pw, .int hi, .int ta])), (qp, .inr (1, [.ref qf])), (qf, .inr (0, [.ref qb, .ref qe, .int od, .int n, .int x])), (qb, .inl (cA, 32, .inl b)), (qe, .inl (cE, 2, .inl g))] H := hP
            have hD : va_D A [(qx, .inr (2, [.ref qf, .ref qp, .int pk, .int pl, .int ul, .int pw, .int hi, .int ta])), (qp, .inr (1, [.ref qf])), (qf, .inr (0, [.ref qb, .ref qe, .int od, .int n, .int x])), (qb, .inl (cA, 32, .inl b)), (qe, .inl (cE, 2, .inl g))] := hD
            refine lv_iconst (v := 1) hx hb dX2_arm_57 (by decide) ?_
            have hP9 := hP.sub (ws' := [(qx, .inr (2, [.ref qf, .ref qp, .int pk, .int pl, .int ul, .int pw, .int hi, .int ta])), (qp, .inr (1, [.ref qf])), (qf, .inr (0, [.ref qb, .ref qe, .int od, .int n, .int x])), (qb, .inl (cA, 32, .inl b)), (qe, .inl (cE, 2, .inl g))]) [0, 1, 2, 3, 4] rfl
            have hD9 := hD.sub (ws' := [(qx, .inr (2, [.ref qf, .ref qp, .int pk, .int pl, .int ul, .int pw, .int hi, .int ta])), (qp, .inr (1, [.ref qf])), (qf, .inr (0, [.ref qb, .ref qe, .int od, .int n, .int x])), (qb, .inl (cA, 32, .inl b)), (qe, .inl (cE, 2, .inl g))]) [0, 1, 2, 3, 4] (by decide) rfl
            have hK9 := hK.sub (tys' := [(cA, .int), (cE, .int)]) [0, 1] rfl
            exact W.zret (v := 1) hx hb hr (by first | rfl | decide) (fun t ht hW => ⟨⟨1, (pw, hi, ta, b, g, od, n, x), rfl, (by first | (simp only [tt_arm, tt_setT, c_1, c_2, c_3, c_4, c_5, reduceIte, eq_self]; done) | (simp [tt_arm, tt_setT, c_1, c_2, c_3, c_4, c_5]; done)), by rw [ht]; exact hP9, va_K.moved hW.alike hK9, hD9⟩, hS.F ht⟩) hS.2.2 dX2_arm_58
          · refine lv_aload_n hx hb dX2_arm_27 rfl (lv_at hl 0 rfl) ?_
            refine va_get (D := (dC, dI)) (ci := 2) (v := .int ta) (C := RX2) (T := TX2) (N := 8) hx hb hts (by decide +kernel) hown hK hP 0 rfl rfl 7 (by decide) (hts (.fieldLink RX2 47 "TornTryCounter" "tearsArmed" "I") (by decide +kernel)) (fun _ h9 => h9) rfl dX2_arm_28 ?_
            refine lv_bipush (v := 40) hx hb dX2_arm_31 (by decide) ?_
            refine lv_icmp_lt (tgt := 38) hx hb dX2_arm_33 (by decide) (fun c_7 => ?_) (fun c_7 => ?_)
            · refine lv_aload_n hx hb dX2_arm_38 rfl (lv_at hl 0 rfl) ?_
              refine lv_dup hx hb dX2_arm_39 rfl ?_
              refine va_get (D := (dC, dI)) (ci := 2) (v := .int ta) (C := RX2) (T := TX2) (N := 8) hx hb hts (by decide +kernel) hown hK hP 0 rfl rfl 7 (by decide) (hts (.fieldLink RX2 47 "TornTryCounter" "tearsArmed" "I") (by decide +kernel)) (fun _ h9 => h9) rfl dX2_arm_40 ?_
              refine lv_iconst (v := 1) hx hb dX2_arm_43 (by decide) ?_
              refine lv_iadd hx hb dX2_arm_44 ?_
              refine va_put (D := (dC, dI)) (ci := 2) (v := .int (ta + 1)) (ty := .int) (C := RX2) (T := TX2) (N := 8) hx hb hts (by decide +kernel) tyX2 tyX2_ok nmX2 hown hK hP hD hS 0 rfl rfl 7 (by decide) (hts (.fieldLink RX2 47 "TornTryCounter" "tearsArmed" "I") (by decide +kernel)) (fun _ h9 => h9) rfl (by decide +kernel) rfl rfl (Nat.le_of_ble_eq_true rfl) dX2_arm_45 (fun H locs hP hD hS => ?_)
              have hP : va_P (dC, dI) ttCl [(qx, .inr (2, [.ref qf, .ref qp, .int pk, .int pl, .int ul, .int pw, .int hi, .int (ta + 1)])), (qp, .inr (1, [.ref qf])), (qf, .inr (0, [.ref qb, .ref qe, .int od, .int ot, .int tm])), (qb, .inl (cA, 32, .inl b)), (qe, .inl (cE, 2, .inl g))] H := hP
              have hD : va_D A [(qx, .inr (2, [.ref qf, .ref qp, .int pk, .int pl, .int ul, .int pw, .int hi, .int (ta + 1)])), (qp, .inr (1, [.ref qf])), (qf, .inr (0, [.ref qb, .ref qe, .int od, .int ot, .int tm])), (qb, .inl (cA, 32, .inl b)), (qe, .inl (cE, 2, .inl g))] := hD
              refine lv_aload_n hx hb dX2_arm_48 rfl (lv_at hl 0 rfl) ?_
              refine va_get (D := (dC, dI)) (ci := 2) (v := .ref qf) (C := RX2) (T := TX2) (N := 8) hx hb hts (by decide +kernel) hown hK hP 0 rfl rfl 0 (by decide) (hts (.fieldLink RX2 10 "TornTryCounter" "flash" "LTornTryCounter$Flash;") (by decide +kernel)) (fun _ h9 => h9) rfl dX2_arm_49 ?_
              refine lv_iload_n hx hb dX2_arm_52 rfl (lv_at hl 1 rfl) ?_
              refine lv_iload_n hx hb dX2_arm_53 rfl (lv_at hl 2 rfl) ?_
              have hPc := hP.sub (ws' := [(qf, .inr (0, [.ref qb, .ref qe, .int od, .int ot, .int tm])), (qb, .inl (cA, 32, .inl b)), (qe, .inl (cE, 2, .inl g))]) [2, 3, 4] rfl
              have hDc := hD.sub (ws' := [(qf, .inr (0, [.ref qb, .ref qe, .int od, .int ot, .int tm])), (qb, .inl (cA, 32, .inl b)), (qe, .inl (cE, 2, .inl g))]) [2, 3, 4] (by decide) rfl
              have hKc := hK.sub (tys' := [(cA, .int), (cE, .int)]) [0, 1] rfl
              have hFc := va_free (wc := [(qf, .inr (0, [.ref qb, .ref qe, .int od, .int ot, .int tm])), (qb, .inl (cA, 32, .inl b)), (qe, .inl (cE, 2, .inl g))]) hD hS hA [2, 3, 4] rfl
              refine va_callv (va_runV (As := [.int n, .int x]) (rest := []) ⟨hx, hb, hml, hown, hts⟩ (c_F_tearLater l dC dI cA cE qf qb qe H.size b g od ot tm n x) (cwV 2 hts gX2_arm_X0_tearLater rfl rfl rfl (by decide +kernel) ⟨Nat.le_of_ble_eq_true rfl, Nat.le_of_ble_eq_true rfl⟩) ⟨fun a U g mk q => by obtain ⟨q0, q1, qP, qK, qD⟩ := q; exact ⟨q0, q1, qP, va_K.moved (u := U) (U := U.calling g mk a) (Vm.Alike.refl U.vm) qK, qD⟩, va_recv hKc hPc (ci := 0) (q0 := 0) rfl rfl, fun U hU hW => ⟨rfl, by rw [hU], by rw [hU]; exact hPc, va_K.moved hW.alike hKc, hDc.weaken (fun _ _ _ _ => trivial)⟩⟩ rfl rfl hl.1 rfl (lv_room (Nat.le_of_ble_eq_true rfl)) dX2_arm_54 ⟨(Nat.zero_le _), (Nat.zero_le _)⟩) hS (fun q _ h => hFc q h) hFc (fun u t H locs ht hvm hw hB hz1 hk1 hS => ?_)
              have hw : (b, g, od, n, x) = u := hw
              subst hw
              obtain ⟨hP1, hK1, hD1⟩ := hB
              rw [ht] at hP1
              obtain ⟨hP, hD⟩ := va_join (wr := [(qx, .inr (2, [.ref qf, .ref qp, .int pk, .int pl, .int ul, .int pw, .int hi, .int (ta + 1)])), (qp, .inr (1, [.ref qf]))]) (w1 := [(qf, .inr (0, [.ref qb, .ref qe, .int od, .int n, .int x])), (qb, .inl (cA, 32, .inl b)), (qe, .inl (cE, 2, .inl g))]) hP hD [2, 3, 4] [0, 1] rfl rfl (by decide) (by decide) hk1 hFc hP1 hD1
              have hP : va_P (dC, dI) ttCl [(qx, .inr (2, [.ref qf, .ref qp, .int pk, .int pl, .int ul, .int pw, .int hi, .int (ta + 1)])), (qp, .inr (1, [.ref qf])), (qf, .inr (0, [.ref qb, .ref qe, .int od, .int n, .int x])), (qb, .inl (cA, 32, .inl b)), (qe, .inl (cE, 2, .inl g))] H := hP
              have hD : va_D A [(qx, .inr (2, [.ref qf, .ref qp, .int pk, .int pl, .int ul, .int pw, .int hi, .int (ta + 1)])), (qp, .inr (1, [.ref qf])), (qf, .inr (0, [.ref qb, .ref qe, .int od, .int n, .int x])), (qb, .inl (cA, 32, .inl b)), (qe, .inl (cE, 2, .inl g))] := hD
              refine lv_iconst (v := 1) hx hb dX2_arm_57 (by decide) ?_
              have hP9 := hP.sub (ws' := [(qx, .inr (2, [.ref qf, .ref qp, .int pk, .int pl, .int ul, .int pw, .int hi, .int (ta + 1)])), (qp, .inr (1, [.ref qf])), (qf, .inr (0, [.ref qb, .ref qe, .int od, .int n, .int x])), (qb, .inl (cA, 32, .inl b)), (qe, .inl (cE, 2, .inl g))]) [0, 1, 2, 3, 4] rfl
              have hD9 := hD.sub (ws' := [(qx, .inr (2, [.ref qf, .ref qp, .int pk, .int pl, .int ul, .int pw, .int hi, .int (ta + 1)])), (qp, .inr (1, [.ref qf])), (qf, .inr (0, [.ref qb, .ref qe, .int od, .int n, .int x])), (qb, .inl (cA, 32, .inl b)), (qe, .inl (cE, 2, .inl g))]) [0, 1, 2, 3, 4] (by decide) rfl
              have hK9 := hK.sub (tys' := [(cA, .int), (cE, .int)]) [0, 1] rfl
              exact W.zret (v := 1) hx hb hr (by first | rfl | decide) (fun t ht hW => ⟨⟨1, (pw, hi, ta + 1, b, g, od, n, x), rfl, (by first | (simp only [tt_arm, tt_setT, c_1, c_2, c_3, c_4, c_5, c_7, reduceIte, eq_self]; done) | (simp [tt_arm, tt_setT, c_1, c_2, c_3, c_4, c_5, c_7]; done)), by rw [ht]; exact hP9, va_K.moved hW.alike hK9, hD9⟩, hS.F ht⟩) hS.2.2 dX2_arm_58
            · refine lv_iconst (v := 0) hx hb dX2_arm_36 (by decide) ?_
              have hP9 := hP.sub (ws' := [(qx, .inr (2, [.ref qf, .ref qp, .int pk, .int pl, .int ul, .int pw, .int hi, .int ta])), (qp, .inr (1, [.ref qf])), (qf, .inr (0, [.ref qb, .ref qe, .int od, .int ot, .int tm])), (qb, .inl (cA, 32, .inl b)), (qe, .inl (cE, 2, .inl g))]) [0, 1, 2, 3, 4] rfl
              have hD9 := hD.sub (ws' := [(qx, .inr (2, [.ref qf, .ref qp, .int pk, .int pl, .int ul, .int pw, .int hi, .int ta])), (qp, .inr (1, [.ref qf])), (qf, .inr (0, [.ref qb, .ref qe, .int od, .int ot, .int tm])), (qb, .inl (cA, 32, .inl b)), (qe, .inl (cE, 2, .inl g))]) [0, 1, 2, 3, 4] (by decide) rfl
              have hK9 := hK.sub (tys' := [(cA, .int), (cE, .int)]) [0, 1] rfl
              exact W.zret (v := 0) hx hb hr (by first | rfl | decide) (fun t ht hW => ⟨⟨0, (pw, hi, ta, b, g, od, ot, tm), rfl, (by first | (simp only [tt_arm, tt_setT, c_1, c_2, c_3, c_4, c_5, c_7, reduceIte, eq_self]; done) | (simp [tt_arm, tt_setT, c_1, c_2, c_3, c_4, c_5, c_7]; done)), by rw [ht]; exact hP9, va_K.moved hW.alike hK9, hD9⟩, hS.F ht⟩) hS.2.2 dX2_arm_37
        · refine lv_iconst (v := 0) hx hb dX2_arm_21 (by decide) ?_
          have hP9 := hP.sub (ws' := [(qx, .inr (2, [.ref qf, .ref qp, .int pk, .int pl, .int ul, .int pw, .int hi, .int ta])), (qp, .inr (1, [.ref qf])), (qf, .inr (0, [.ref qb, .ref qe, .int od, .int ot, .int tm])), (qb, .inl (cA, 32, .inl b)), (qe, .inl (cE, 2, .inl g))]) [0, 1, 2, 3, 4] rfl
          have hD9 := hD.sub (ws' := [(qx, .inr (2, [.ref qf, .ref qp, .int pk, .int pl, .int ul, .int pw, .int hi, .int ta])), (qp, .inr (1, [.ref qf])), (qf, .inr (0, [.ref qb, .ref qe, .int od, .int ot, .int tm])), (qb, .inl (cA, 32, .inl b)), (qe, .inl (cE, 2, .inl g))]) [0, 1, 2, 3, 4] (by decide) rfl
          have hK9 := hK.sub (tys' := [(cA, .int), (cE, .int)]) [0, 1] rfl
          exact W.zret (v := 0) hx hb hr (by first | rfl | decide) (fun t ht hW => ⟨⟨0, (pw, hi, ta, b, g, od, ot, tm), rfl, (by first | (simp only [tt_arm, tt_setT, c_1, c_2, c_3, c_4, reduceIte, eq_self]; done) | (simp [tt_arm, tt_setT, c_1, c_2, c_3, c_4]; done)), by rw [ht]; exact hP9, va_K.moved hW.alike hK9, hD9⟩, hS.F ht⟩) hS.2.2 dX2_arm_22
set_option maxHeartbeats 4000000 in
set_option maxRecDepth 100000 in
theorem c_X_cut (l : Launch) (dC : Nat → ClassId) (dI : Nat → Nat → Nat) (cA cE : ClassId) (qx qp qf qb qe : Nat) (sz : Nat) (b g : Nat → Int32) (pk pl ul pw hi ta od ot tm : Int32) : Met l yX2_cut wsX2_cut ({ frames := 1, cells := 0, slots := 0, locals := 20 }) (va_Pc [.ref qx] (fun U => U.heap.size = sz ∧ va_P (dC, dI) ttCl [(qx, .inr (2, [.ref qf, .ref qp, .int pk, .int pl, .int ul, .int pw, .int hi, .int ta])), (qp, .inr (1, [.ref qf])), (qf, .inr (0, [.ref qb, .ref qe, .int od, .int ot, .int tm])), (qb, .inl (cA, 32, .inl b)), (qe, .inl (cE, 2, .inl g))] U.heap ∧ va_K (dC, dI) ttCl [(cA, .int), (cE, .int)] U ∧ va_D (fun _ => True) [(qx, .inr (2, [.ref qf, .ref qp, .int pk, .int pl, .int ul, .int pw, .int hi, .int ta])), (qp, .inr (1, [.ref qf])), (qf, .inr (0, [.ref qb, .ref qe, .int od, .int ot, .int tm])), (qb, .inl (cA, 32, .inl b)), (qe, .inl (cE, 2, .inl g))])) (va_Qi (fun (r : Int32) (u : tt_X) => tt_cut (pw, hi, ta, b, g, od, ot, tm) = (r, u)) (fun (u : tt_X) (t : State) => at_X dC dI cA cE (va_A [(qx, .inr (2, [.ref qf, .ref qp, .int pk, .int pl, .int ul, .int pw, .int hi, .int ta])), (qp, .inr (1, [.ref qf])), (qf, .inr (0, [.ref qb, .ref qe, .int od, .int ot, .int tm])), (qb, .inl (cA, 32, .inl b)), (qe, .inl (cE, 2, .inl g))] sz) qx qp qf qb qe pk pl ul u t) (va_A [(qx, .inr (2, [.ref qf, .ref qp, .int pk, .int pl, .int ul, .int pw, .int hi, .int ta])), (qp, .inr (1, [.ref qf])), (qf, .inr (0, [.ref qb, .ref qe, .int od, .int ot, .int tm])), (qb, .inl (cA, 32, .inl b)), (qe, .inl (cE, 2, .inl g))] sz)) 0 0 (va_A [(qx, .inr (2, [.ref qf, .ref qp, .int pk, .int pl, .int ul, .int pw, .int hi, .int ta])), (qp, .inr (1, [.ref qf])), (qf, .inr (0, [.ref qb, .ref qe, .int od, .int ot, .int tm])), (qb, .inl (cA, 32, .inl b)), (qe, .inl (cE, 2, .inl g))] sz) := by
  refine Met.ofW (cc := cX2_cut) (maxL := 1) (ret := (some .boolean)) (by decide) rfl ?_
  intro p e s m args below meth c s₁ B hml hv
  obtain ⟨rfl, hsz, hP, hK, hD0⟩ := hv
  have hx := B.exec
  have hb := B.bytes
  have hr := B.returns
  have hts := atoms_spec (ws := wsX2_cut) B.pre
  have hown : s.vm.findClass RX2 = some m.cls := findClass_of_methodNamed B.named
  have hlocks := B.notSynchronized
  subst hsz
  have hD := hD0.self (sz := s.heap.size)
  generalize hAe : va_A [(qx, .inr (2, [.ref qf, .ref qp, .int pk, .int pl, .int ul, .int pw, .int hi, .int ta])), (qp, .inr (1, [.ref qf])), (qf, .inr (0, [.ref qb, .ref qe, .int od, .int ot, .int tm])), (qb, .inl (cA, 32, .inl b)), (qe, .inl (cE, 2, .inl g))] s.heap.size = A at hD ⊢
  have hA : ∀ q : Nat, s.heap.size ≤ q → A q := fun q h => by rw [← hAe]; exact Or.inr h
  have hS : va_S A s.heap s.heap [] := va_S.rf
  have hP : va_P (dC, dI) ttCl [(qx, .inr (2, [.ref qf, .ref qp, .int pk, .int pl, .int ul, .int pw, .int hi, .int ta])), (qp, .inr (1, [.ref qf])), (qf, .inr (0, [.ref qb, .ref qe, .int od, .int ot, .int tm])), (qb, .inl (cA, 32, .inl b)), (qe, .inl (cE, 2, .inl g))] s.heap := hP
  have hl := lv_entry ([.ref qx]) (n := 1) (Nat.le_of_ble_eq_true rfl)
  rw [lg_entry_eq]
  generalize (lg_sl ([.ref qx]) ++ List.replicate (1 - (lg_sl ([.ref qx])).length) Slot.unset).toArray = ls at hl ⊢
  have hl : lv_has ls 1 [(0, .ref qx)] := hl
  refine lv_aload_n hx hb dX2_cut_0 rfl (lv_at hl 0 rfl) ?_
  refine va_get (D := (dC, dI)) (ci := 2) (v := .int pw) (C := RX2) (T := TX2) (N := 8) hx hb hts (by decide +kernel) hown hK hP 0 rfl rfl 5 (by decide) (hts (.fieldLink RX2 40 "TornTryCounter" "powered" "Z") (by decide +kernel)) (fun _ h9 => h9) rfl dX2_cut_1 ?_
  refine lv_if_ne (tgt := 9) hx hb dX2_cut_4 (by decide) (fun c_1 => ?_) (fun c_1 => ?_)
  · refine lv_aload_n hx hb dX2_cut_9 rfl (lv_at hl 0 rfl) ?_
    have hPc := hP.sub (ws' := [(qx, .inr (2, [.ref qf, .ref qp, .int pk, .int pl, .int ul, .int pw, .int hi, .int ta])), (qp, .inr (1, [.ref qf])), (qf, .inr (0, [.ref qb, .ref qe, .int od, .int ot, .int tm])), (qb, .inl (cA, 32, .inl b)), (qe, .inl (cE, 2, .inl g))]) [0, 1, 2, 3, 4] rfl
    have hDc := hD.sub (ws' := [(qx, .inr (2, [.ref qf, .ref qp, .int pk, .int pl, .int ul, .int pw, .int hi, .int ta])), (qp, .inr (1, [.ref qf])), (qf, .inr (0, [.ref qb, .ref qe, .int od, .int ot, .int tm])), (qb, .inl (cA, 32, .inl b)), (qe, .inl (cE, 2, .inl g))]) [0, 1, 2, 3, 4] (by decide) rfl
    have hKc := hK.sub (tys' := [(cA, .int), (cE, .int)]) [0, 1] rfl
    have hFc := va_free (wc := [(qx, .inr (2, [.ref qf, .ref qp, .int pk, .int pl, .int ul, .int pw, .int hi, .int ta])), (qp, .inr (1, [.ref qf])), (qf, .inr (0, [.ref qb, .ref qe, .int od, .int ot, .int tm])), (qb, .inl (cA, 32, .inl b)), (qe, .inl (cE, 2, .inl g))]) hD hS hA [0, 1, 2, 3, 4] rfl
    refine va_calli (va_runV (As := []) (rest := []) ⟨hx, hb, hml, hown, hts⟩ (c_X_losePower l dC dI cA cE qx qp qf qb qe s.heap.size b g pk pl ul pw hi ta od ot tm) (cwV 0 hts gX2_cut_X2_losePower rfl rfl rfl (by decide +kernel) ⟨Nat.le_of_ble_eq_true rfl, Nat.le_of_ble_eq_true rfl⟩) ⟨fun a U g mk q => by obtain ⟨q0, q1, qP, qK, qD⟩ := q; exact ⟨q0, q1, qP, va_K.moved (u := U) (U := U.calling g mk a) (Vm.Alike.refl U.vm) qK, qD⟩, va_recv hKc hPc (ci := 2) (q0 := 0) rfl rfl, fun U hU hW => ⟨rfl, by rw [hU], by rw [hU]; exact hPc, va_K.moved hW.alike hKc, hDc.weaken (fun _ _ _ _ => trivial)⟩⟩ rfl rfl hl.1 rfl (lv_room (Nat.le_of_ble_eq_true rfl)) dX2_cut_10 ⟨(Nat.zero_le _), (Nat.zero_le _)⟩) hS (fun q _ h => hFc q h) hFc (fun r_2 u t H locs ht hvm hw hB hz1 hk1 hS => ?_)
    have hw : (-3) = r_2 := hw.symm
    subst hw
    obtain ⟨hP1, hK1, hD1⟩ := hB
    rw [ht] at hP1
    obtain ⟨hP, hD⟩ := va_join (wr := []) (w1 := [(qx, .inr (2, [.ref qf, .ref qp, .int pk, .int pl, .int ul, .int 0, .int 0, .int ta])), (qp, .inr (1, [.ref qf])), (qf, .inr (0, [.ref qb, .ref qe, .int od, .int ot, .int tm])), (qb, .inl (cA, 32, .inl b)), (qe, .inl (cE, 2, .inl g))]) hP hD [0, 1, 2, 3, 4] [] rfl rfl (by decide) (by decide) hk1 hFc hP1 hD1
    have hP : va_P (dC, dI) ttCl [(qx, .inr (2, [.ref qf, .ref qp, .int pk, .int pl, .int ul, .int 0, .int 0, .int ta])), (qp, .inr (1, [.ref qf])), (qf, .inr (0, [.ref qb, .ref qe, .int od, .int ot, .int tm])), (qb, .inl (cA, 32, .inl b)), (qe, .inl (cE, 2, .inl g))] H := hP
    have hD : va_D A [(qx, .inr (2, [.ref qf, .ref qp, .int pk, .int pl, .int ul, .int 0, .int 0, .int ta])), (qp, .inr (1, [.ref qf])), (qf, .inr (0, [.ref qb, .ref qe, .int od, .int ot, .int tm])), (qb, .inl (cA, 32, .inl b)), (qe, .inl (cE, 2, .inl g))] := hD
    refine lv_pop hx hb dX2_cut_13 rfl ?_
    refine lv_iconst (v := 1) hx hb dX2_cut_14 (by decide) ?_
    have hP9 := hP.sub (ws' := [(qx, .inr (2, [.ref qf, .ref qp, .int pk, .int pl, .int ul, .int 0, .int 0, .int ta])), (qp, .inr (1, [.ref qf])), (qf, .inr (0, [.ref qb, .ref qe, .int od, .int ot, .int tm])), (qb, .inl (cA, 32, .inl b)), (qe, .inl (cE, 2, .inl g))]) [0, 1, 2, 3, 4] rfl
    have hD9 := hD.sub (ws' := [(qx, .inr (2, [.ref qf, .ref qp, .int pk, .int pl, .int ul, .int 0, .int 0, .int ta])), (qp, .inr (1, [.ref qf])), (qf, .inr (0, [.ref qb, .ref qe, .int od, .int ot, .int tm])), (qb, .inl (cA, 32, .inl b)), (qe, .inl (cE, 2, .inl g))]) [0, 1, 2, 3, 4] (by decide) rfl
    have hK9 := hK.sub (tys' := [(cA, .int), (cE, .int)]) [0, 1] rfl
    exact W.zret (v := 1) hx hb hr (by first | rfl | decide) (fun t ht hW => ⟨⟨1, (0, 0, ta, b, g, od, ot, tm), rfl, (by first | (simp only [tt_cut, c_1, reduceIte, eq_self]; done) | (simp [tt_cut, c_1]; done)), by rw [ht]; exact hP9, va_K.moved hW.alike hK9, hD9⟩, hS.F ht⟩) hS.2.2 dX2_cut_15
  · refine lv_iconst (v := 0) hx hb dX2_cut_7 (by decide) ?_
    have hP9 := hP.sub (ws' := [(qx, .inr (2, [.ref qf, .ref qp, .int pk, .int pl, .int ul, .int pw, .int hi, .int ta])), (qp, .inr (1, [.ref qf])), (qf, .inr (0, [.ref qb, .ref qe, .int od, .int ot, .int tm])), (qb, .inl (cA, 32, .inl b)), (qe, .inl (cE, 2, .inl g))]) [0, 1, 2, 3, 4] rfl
    have hD9 := hD.sub (ws' := [(qx, .inr (2, [.ref qf, .ref qp, .int pk, .int pl, .int ul, .int pw, .int hi, .int ta])), (qp, .inr (1, [.ref qf])), (qf, .inr (0, [.ref qb, .ref qe, .int od, .int ot, .int tm])), (qb, .inl (cA, 32, .inl b)), (qe, .inl (cE, 2, .inl g))]) [0, 1, 2, 3, 4] (by decide) rfl
    have hK9 := hK.sub (tys' := [(cA, .int), (cE, .int)]) [0, 1] rfl
    exact W.zret (v := 0) hx hb hr (by first | rfl | decide) (fun t ht hW => ⟨⟨0, (pw, hi, ta, b, g, od, ot, tm), rfl, (by first | (simp only [tt_cut, c_1, reduceIte, eq_self]; done) | (simp [tt_cut, c_1]; done)), by rw [ht]; exact hP9, va_K.moved hW.alike hK9, hD9⟩, hS.F ht⟩) hS.2.2 dX2_cut_8
set_option maxHeartbeats 4000000 in
set_option maxRecDepth 100000 in
theorem c_X_start (l : Launch) (dC : Nat → ClassId) (dI : Nat → Nat → Nat) (cA cE : ClassId) (qx qp qf qb qe : Nat) (sz : Nat) (b g : Nat → Int32) (pk pl ul pw hi ta od ot tm : Int32) : Met l yX2_start wsX2_start ({ frames := 0, cells := 0, slots := 0, locals := 0 }) (va_Pc [.ref qx] (fun U => U.heap.size = sz ∧ va_P (dC, dI) ttCl [(qx, .inr (2, [.ref qf, .ref qp, .int pk, .int pl, .int ul, .int pw, .int hi, .int ta])), (qp, .inr (1, [.ref qf])), (qf, .inr (0, [.ref qb, .ref qe, .int od, .int ot, .int tm])), (qb, .inl (cA, 32, .inl b)), (qe, .inl (cE, 2, .inl g))] U.heap ∧ va_K (dC, dI) ttCl [(cA, .int), (cE, .int)] U ∧ va_D (fun _ => True) [(qx, .inr (2, [.ref qf, .ref qp, .int pk, .int pl, .int ul, .int pw, .int hi, .int ta])), (qp, .inr (1, [.ref qf])), (qf, .inr (0, [.ref qb, .ref qe, .int od, .int ot, .int tm])), (qb, .inl (cA, 32, .inl b)), (qe, .inl (cE, 2, .inl g))])) (va_Qi (fun (r : Int32) (u : tt_X) => tt_start (pw, hi, ta, b, g, od, ot, tm) = (r, u)) (fun (u : tt_X) (t : State) => at_X dC dI cA cE (va_A [(qx, .inr (2, [.ref qf, .ref qp, .int pk, .int pl, .int ul, .int pw, .int hi, .int ta])), (qp, .inr (1, [.ref qf])), (qf, .inr (0, [.ref qb, .ref qe, .int od, .int ot, .int tm])), (qb, .inl (cA, 32, .inl b)), (qe, .inl (cE, 2, .inl g))] sz) qx qp qf qb qe pk pl ul u t) (va_A [(qx, .inr (2, [.ref qf, .ref qp, .int pk, .int pl, .int ul, .int pw, .int hi, .int ta])), (qp, .inr (1, [.ref qf])), (qf, .inr (0, [.ref qb, .ref qe, .int od, .int ot, .int tm])), (qb, .inl (cA, 32, .inl b)), (qe, .inl (cE, 2, .inl g))] sz)) 0 0 (va_A [(qx, .inr (2, [.ref qf, .ref qp, .int pk, .int pl, .int ul, .int pw, .int hi, .int ta])), (qp, .inr (1, [.ref qf])), (qf, .inr (0, [.ref qb, .ref qe, .int od, .int ot, .int tm])), (qb, .inl (cA, 32, .inl b)), (qe, .inl (cE, 2, .inl g))] sz) := by
  refine Met.ofW (cc := cX2_start) (maxL := 1) (ret := (some .boolean)) (by decide) rfl ?_
  intro p e s m args below meth c s₁ B hml hv
  obtain ⟨rfl, hsz, hP, hK, hD0⟩ := hv
  have hx := B.exec
  have hb := B.bytes
  have hr := B.returns
  have hts := atoms_spec (ws := wsX2_start) B.pre
  have hown : s.vm.findClass RX2 = some m.cls := findClass_of_methodNamed B.named
  have hlocks := B.notSynchronized
  subst hsz
  have hD := hD0.self (sz := s.heap.size)
  generalize hAe : va_A [(qx, .inr (2, [.ref qf, .ref qp, .int pk, .int pl, .int ul, .int pw, .int hi, .int ta])), (qp, .inr (1, [.ref qf])), (qf, .inr (0, [.ref qb, .ref qe, .int od, .int ot, .int tm])), (qb, .inl (cA, 32, .inl b)), (qe, .inl (cE, 2, .inl g))] s.heap.size = A at hD ⊢
  have hA : ∀ q : Nat, s.heap.size ≤ q → A q := fun q h => by rw [← hAe]; exact Or.inr h
  have hS : va_S A s.heap s.heap [] := va_S.rf
  have hP : va_P (dC, dI) ttCl [(qx, .inr (2, [.ref qf, .ref qp, .int pk, .int pl, .int ul, .int pw, .int hi, .int ta])), (qp, .inr (1, [.ref qf])), (qf, .inr (0, [.ref qb, .ref qe, .int od, .int ot, .int tm])), (qb, .inl (cA, 32, .inl b)), (qe, .inl (cE, 2, .inl g))] s.heap := hP
  have hl := lv_entry ([.ref qx]) (n := 1) (Nat.le_of_ble_eq_true rfl)
  rw [lg_entry_eq]
  generalize (lg_sl ([.ref qx]) ++ List.replicate (1 - (lg_sl ([.ref qx])).length) Slot.unset).toArray = ls at hl ⊢
  have hl : lv_has ls 1 [(0, .ref qx)] := hl
  refine lv_aload_n hx hb dX2_start_0 rfl (lv_at hl 0 rfl) ?_
  refine va_get (D := (dC, dI)) (ci := 2) (v := .int pw) (C := RX2) (T := TX2) (N := 8) hx hb hts (by decide +kernel) hown hK hP 0 rfl rfl 5 (by decide) (hts (.fieldLink RX2 40 "TornTryCounter" "powered" "Z") (by decide +kernel)) (fun _ h9 => h9) rfl dX2_start_1 ?_
  refine lv_if_eq (tgt := 9) hx hb dX2_start_4 (by decide) (fun c_1 => ?_) (fun c_1 => ?_)
  · refine lv_aload_n hx hb dX2_start_9 rfl (lv_at hl 0 rfl) ?_
    refine lv_iconst (v := 1) hx hb dX2_start_10 (by decide) ?_
    refine va_put (D := (dC, dI)) (ci := 2) (v := .int 1) (ty := .boolean) (C := RX2) (T := TX2) (N := 8) hx hb hts (by decide +kernel) tyX2 tyX2_ok nmX2 hown hK hP hD hS 0 rfl rfl 5 (by decide) (hts (.fieldLink RX2 40 "TornTryCounter" "powered" "Z") (by decide +kernel)) (fun _ h9 => h9) rfl (by decide +kernel) rfl rfl (Nat.le_of_ble_eq_true rfl) dX2_start_11 (fun H locs hP hD hS => ?_)
    have hP : va_P (dC, dI) ttCl [(qx, .inr (2, [.ref qf, .ref qp, .int pk, .int pl, .int ul, .int 1, .int hi, .int ta])), (qp, .inr (1, [.ref qf])), (qf, .inr (0, [.ref qb, .ref qe, .int od, .int ot, .int tm])), (qb, .inl (cA, 32, .inl b)), (qe, .inl (cE, 2, .inl g))] H := hP
    have hD : va_D A [(qx, .inr (2, [.ref qf, .ref qp, .int pk, .int pl, .int ul, .int 1, .int hi, .int ta])), (qp, .inr (1, [.ref qf])), (qf, .inr (0, [.ref qb, .ref qe, .int od, .int ot, .int tm])), (qb, .inl (cA, 32, .inl b)), (qe, .inl (cE, 2, .inl g))] := hD
    refine lv_iconst (v := 1) hx hb dX2_start_14 (by decide) ?_
    have hP9 := hP.sub (ws' := [(qx, .inr (2, [.ref qf, .ref qp, .int pk, .int pl, .int ul, .int 1, .int hi, .int ta])), (qp, .inr (1, [.ref qf])), (qf, .inr (0, [.ref qb, .ref qe, .int od, .int ot, .int tm])), (qb, .inl (cA, 32, .inl b)), (qe, .inl (cE, 2, .inl g))]) [0, 1, 2, 3, 4] rfl
    have hD9 := hD.sub (ws' := [(qx, .inr (2, [.ref qf, .ref qp, .int pk, .int pl, .int ul, .int 1, .int hi, .int ta])), (qp, .inr (1, [.ref qf])), (qf, .inr (0, [.ref qb, .ref qe, .int od, .int ot, .int tm])), (qb, .inl (cA, 32, .inl b)), (qe, .inl (cE, 2, .inl g))]) [0, 1, 2, 3, 4] (by decide) rfl
    have hK9 := hK.sub (tys' := [(cA, .int), (cE, .int)]) [0, 1] rfl
    exact W.zret (v := 1) hx hb hr (by first | rfl | decide) (fun t ht hW => ⟨⟨1, (1, hi, ta, b, g, od, ot, tm), rfl, (by first | (simp only [tt_start, c_1, reduceIte, eq_self]; done) | (simp [tt_start, c_1]; done)), by rw [ht]; exact hP9, va_K.moved hW.alike hK9, hD9⟩, hS.F ht⟩) hS.2.2 dX2_start_15
  · refine lv_iconst (v := 0) hx hb dX2_start_7 (by decide) ?_
    have hP9 := hP.sub (ws' := [(qx, .inr (2, [.ref qf, .ref qp, .int pk, .int pl, .int ul, .int pw, .int hi, .int ta])), (qp, .inr (1, [.ref qf])), (qf, .inr (0, [.ref qb, .ref qe, .int od, .int ot, .int tm])), (qb, .inl (cA, 32, .inl b)), (qe, .inl (cE, 2, .inl g))]) [0, 1, 2, 3, 4] rfl
    have hD9 := hD.sub (ws' := [(qx, .inr (2, [.ref qf, .ref qp, .int pk, .int pl, .int ul, .int pw, .int hi, .int ta])), (qp, .inr (1, [.ref qf])), (qf, .inr (0, [.ref qb, .ref qe, .int od, .int ot, .int tm])), (qb, .inl (cA, 32, .inl b)), (qe, .inl (cE, 2, .inl g))]) [0, 1, 2, 3, 4] (by decide) rfl
    have hK9 := hK.sub (tys' := [(cA, .int), (cE, .int)]) [0, 1] rfl
    exact W.zret (v := 0) hx hb hr (by first | rfl | decide) (fun t ht hW => ⟨⟨0, (pw, hi, ta, b, g, od, ot, tm), rfl, (by first | (simp only [tt_start, c_1, reduceIte, eq_self]; done) | (simp [tt_start, c_1]; done)), by rw [ht]; exact hP9, va_K.moved hW.alike hK9, hD9⟩, hS.F ht⟩) hS.2.2 dX2_start_8
set_option maxHeartbeats 4000000 in
set_option maxRecDepth 100000 in
theorem c_X_in (l : Launch) (dC : Nat → ClassId) (dI : Nat → Nat → Nat) (cA cE : ClassId) (qx qp qf qb qe : Nat) (sz : Nat) (b g : Nat → Int32) (pk pl ul pw hi ta od ot tm : Int32) (hz : narrow .boolean (.int hi) = .int hi) : Met l yX2_in wsX2_in ({ frames := 0, cells := 0, slots := 0, locals := 0 }) (va_Pc [.ref qx] (fun U => U.heap.size = sz ∧ va_P (dC, dI) ttCl [(qx, .inr (2, [.ref qf, .ref qp, .int pk, .int pl, .int ul, .int pw, .int hi, .int ta])), (qp, .inr (1, [.ref qf])), (qf, .inr (0, [.ref qb, .ref qe, .int od, .int ot, .int tm])), (qb, .inl (cA, 32, .inl b)), (qe, .inl (cE, 2, .inl g))] U.heap ∧ va_K (dC, dI) ttCl [(cA, .int), (cE, .int)] U ∧ va_D (fun _ => True) [(qx, .inr (2, [.ref qf, .ref qp, .int pk, .int pl, .int ul, .int pw, .int hi, .int ta])), (qp, .inr (1, [.ref qf])), (qf, .inr (0, [.ref qb, .ref qe, .int od, .int ot, .int tm])), (qb, .inl (cA, 32, .inl b)), (qe, .inl (cE, 2, .inl g))])) (va_Qi (fun (r : Int32) (_ : Unit) => r = hi) (fun (_ : Unit) (t : State) => at_X dC dI cA cE (va_A [(qx, .inr (2, [.ref qf, .ref qp, .int pk, .int pl, .int ul, .int pw, .int hi, .int ta])), (qp, .inr (1, [.ref qf])), (qf, .inr (0, [.ref qb, .ref qe, .int od, .int ot, .int tm])), (qb, .inl (cA, 32, .inl b)), (qe, .inl (cE, 2, .inl g))] sz) qx qp qf qb qe pk pl ul (pw, hi, ta, b, g, od, ot, tm) t) (va_A [(qx, .inr (2, [.ref qf, .ref qp, .int pk, .int pl, .int ul, .int pw, .int hi, .int ta])), (qp, .inr (1, [.ref qf])), (qf, .inr (0, [.ref qb, .ref qe, .int od, .int ot, .int tm])), (qb, .inl (cA, 32, .inl b)), (qe, .inl (cE, 2, .inl g))] sz)) 0 0 (va_A [(qx, .inr (2, [.ref qf, .ref qp, .int pk, .int pl, .int ul, .int pw, .int hi, .int ta])), (qp, .inr (1, [.ref qf])), (qf, .inr (0, [.ref qb, .ref qe, .int od, .int ot, .int tm])), (qb, .inl (cA, 32, .inl b)), (qe, .inl (cE, 2, .inl g))] sz) := by
  refine Met.ofW (cc := cX2_in) (maxL := 1) (ret := (some .boolean)) (by decide) rfl ?_
  intro p e s m args below meth c s₁ B hml hv
  obtain ⟨rfl, hsz, hP, hK, hD0⟩ := hv
  have hx := B.exec
  have hb := B.bytes
  have hr := B.returns
  have hts := atoms_spec (ws := wsX2_in) B.pre
  have hown : s.vm.findClass RX2 = some m.cls := findClass_of_methodNamed B.named
  have hlocks := B.notSynchronized
  subst hsz
  have hD := hD0.self (sz := s.heap.size)
  generalize hAe : va_A [(qx, .inr (2, [.ref qf, .ref qp, .int pk, .int pl, .int ul, .int pw, .int hi, .int ta])), (qp, .inr (1, [.ref qf])), (qf, .inr (0, [.ref qb, .ref qe, .int od, .int ot, .int tm])), (qb, .inl (cA, 32, .inl b)), (qe, .inl (cE, 2, .inl g))] s.heap.size = A at hD ⊢
  have hA : ∀ q : Nat, s.heap.size ≤ q → A q := fun q h => by rw [← hAe]; exact Or.inr h
  have hS : va_S A s.heap s.heap [] := va_S.rf
  have hP : va_P (dC, dI) ttCl [(qx, .inr (2, [.ref qf, .ref qp, .int pk, .int pl, .int ul, .int pw, .int hi, .int ta])), (qp, .inr (1, [.ref qf])), (qf, .inr (0, [.ref qb, .ref qe, .int od, .int ot, .int tm])), (qb, .inl (cA, 32, .inl b)), (qe, .inl (cE, 2, .inl g))] s.heap := hP
  have hl := lv_entry ([.ref qx]) (n := 1) (Nat.le_of_ble_eq_true rfl)
  rw [lg_entry_eq]
  generalize (lg_sl ([.ref qx]) ++ List.replicate (1 - (lg_sl ([.ref qx])).length) Slot.unset).toArray = ls at hl ⊢
  have hl : lv_has ls 1 [(0, .ref qx)] := hl
  refine lv_aload_n hx hb dX2_in_0 rfl (lv_at hl 0 rfl) ?_
  refine va_get (D := (dC, dI)) (ci := 2) (v := .int hi) (C := RX2) (T := TX2) (N := 8) hx hb hts (by decide +kernel) hown hK hP 0 rfl rfl 6 (by decide) (hts (.fieldLink RX2 44 "TornTryCounter" "holderIn" "Z") (by decide +kernel)) (fun _ h9 => h9) rfl dX2_in_1 ?_
  have hP9 := hP.sub (ws' := [(qx, .inr (2, [.ref qf, .ref qp, .int pk, .int pl, .int ul, .int pw, .int hi, .int ta])), (qp, .inr (1, [.ref qf])), (qf, .inr (0, [.ref qb, .ref qe, .int od, .int ot, .int tm])), (qb, .inl (cA, 32, .inl b)), (qe, .inl (cE, 2, .inl g))]) [0, 1, 2, 3, 4] rfl
  have hD9 := hD.sub (ws' := [(qx, .inr (2, [.ref qf, .ref qp, .int pk, .int pl, .int ul, .int pw, .int hi, .int ta])), (qp, .inr (1, [.ref qf])), (qf, .inr (0, [.ref qb, .ref qe, .int od, .int ot, .int tm])), (qb, .inl (cA, 32, .inl b)), (qe, .inl (cE, 2, .inl g))]) [0, 1, 2, 3, 4] (by decide) rfl
  have hK9 := hK.sub (tys' := [(cA, .int), (cE, .int)]) [0, 1] rfl
  exact W.zret (v := hi) hx hb hr hz (fun t ht hW => ⟨⟨hi, (), rfl, rfl, by rw [ht]; exact hP9, va_K.moved hW.alike hK9, hD9⟩, hS.F ht⟩) hS.2.2 dX2_in_4
set_option maxHeartbeats 4000000 in
set_option maxRecDepth 100000 in
theorem c_X_up (l : Launch) (dC : Nat → ClassId) (dI : Nat → Nat → Nat) (cA cE : ClassId) (qx qp qf qb qe : Nat) (sz : Nat) (b g : Nat → Int32) (pk pl ul pw hi ta od ot tm : Int32) (hz : narrow .boolean (.int pw) = .int pw) : Met l yX2_up wsX2_up ({ frames := 0, cells := 0, slots := 0, locals := 0 }) (va_Pc [.ref qx] (fun U => U.heap.size = sz ∧ va_P (dC, dI) ttCl [(qx, .inr (2, [.ref qf, .ref qp, .int pk, .int pl, .int ul, .int pw, .int hi, .int ta])), (qp, .inr (1, [.ref qf])), (qf, .inr (0, [.ref qb, .ref qe, .int od, .int ot, .int tm])), (qb, .inl (cA, 32, .inl b)), (qe, .inl (cE, 2, .inl g))] U.heap ∧ va_K (dC, dI) ttCl [(cA, .int), (cE, .int)] U ∧ va_D (fun _ => True) [(qx, .inr (2, [.ref qf, .ref qp, .int pk, .int pl, .int ul, .int pw, .int hi, .int ta])), (qp, .inr (1, [.ref qf])), (qf, .inr (0, [.ref qb, .ref qe, .int od, .int ot, .int tm])), (qb, .inl (cA, 32, .inl b)), (qe, .inl (cE, 2, .inl g))])) (va_Qi (fun (r : Int32) (_ : Unit) => r = pw) (fun (_ : Unit) (t : State) => at_X dC dI cA cE (va_A [(qx, .inr (2, [.ref qf, .ref qp, .int pk, .int pl, .int ul, .int pw, .int hi, .int ta])), (qp, .inr (1, [.ref qf])), (qf, .inr (0, [.ref qb, .ref qe, .int od, .int ot, .int tm])), (qb, .inl (cA, 32, .inl b)), (qe, .inl (cE, 2, .inl g))] sz) qx qp qf qb qe pk pl ul (pw, hi, ta, b, g, od, ot, tm) t) (va_A [(qx, .inr (2, [.ref qf, .ref qp, .int pk, .int pl, .int ul, .int pw, .int hi, .int ta])), (qp, .inr (1, [.ref qf])), (qf, .inr (0, [.ref qb, .ref qe, .int od, .int ot, .int tm])), (qb, .inl (cA, 32, .inl b)), (qe, .inl (cE, 2, .inl g))] sz)) 0 0 (va_A [(qx, .inr (2, [.ref qf, .ref qp, .int pk, .int pl, .int ul, .int pw, .int hi, .int ta])), (qp, .inr (1, [.ref qf])), (qf, .inr (0, [.ref qb, .ref qe, .int od, .int ot, .int tm])), (qb, .inl (cA, 32, .inl b)), (qe, .inl (cE, 2, .inl g))] sz) := by
  refine Met.ofW (cc := cX2_up) (maxL := 1) (ret := (some .boolean)) (by decide) rfl ?_
  intro p e s m args below meth c s₁ B hml hv
  obtain ⟨rfl, hsz, hP, hK, hD0⟩ := hv
  have hx := B.exec
  have hb := B.bytes
  have hr := B.returns
  have hts := atoms_spec (ws := wsX2_up) B.pre
  have hown : s.vm.findClass RX2 = some m.cls := findClass_of_methodNamed B.named
  have hlocks := B.notSynchronized
  subst hsz
  have hD := hD0.self (sz := s.heap.size)
  generalize hAe : va_A [(qx, .inr (2, [.ref qf, .ref qp, .int pk, .int pl, .int ul, .int pw, .int hi, .int ta])), (qp, .inr (1, [.ref qf])), (qf, .inr (0, [.ref qb, .ref qe, .int od, .int ot, .int tm])), (qb, .inl (cA, 32, .inl b)), (qe, .inl (cE, 2, .inl g))] s.heap.size = A at hD ⊢
  have hA : ∀ q : Nat, s.heap.size ≤ q → A q := fun q h => by rw [← hAe]; exact Or.inr h
  have hS : va_S A s.heap s.heap [] := va_S.rf
  have hP : va_P (dC, dI) ttCl [(qx, .inr (2, [.ref qf, .ref qp, .int pk, .int pl, .int ul, .int pw, .int hi, .int ta])), (qp, .inr (1, [.ref qf])), (qf, .inr (0, [.ref qb, .ref qe, .int od, .int ot, .int tm])), (qb, .inl (cA, 32, .inl b)), (qe, .inl (cE, 2, .inl g))] s.heap := hP
  have hl := lv_entry ([.ref qx]) (n := 1) (Nat.le_of_ble_eq_true rfl)
  rw [lg_entry_eq]
  generalize (lg_sl ([.ref qx]) ++ List.replicate (1 - (lg_sl ([.ref qx])).length) Slot.unset).toArray = ls at hl ⊢
  have hl : lv_has ls 1 [(0, .ref qx)] := hl
  refine lv_aload_n hx hb dX2_up_0 rfl (lv_at hl 0 rfl) ?_
  refine va_get (D := (dC, dI)) (ci := 2) (v := .int pw) (C := RX2) (T := TX2) (N := 8) hx hb hts (by decide +kernel) hown hK hP 0 rfl rfl 5 (by decide) (hts (.fieldLink RX2 40 "TornTryCounter" "powered" "Z") (by decide +kernel)) (fun _ h9 => h9) rfl dX2_up_1 ?_
  have hP9 := hP.sub (ws' := [(qx, .inr (2, [.ref qf, .ref qp, .int pk, .int pl, .int ul, .int pw, .int hi, .int ta])), (qp, .inr (1, [.ref qf])), (qf, .inr (0, [.ref qb, .ref qe, .int od, .int ot, .int tm])), (qb, .inl (cA, 32, .inl b)), (qe, .inl (cE, 2, .inl g))]) [0, 1, 2, 3, 4] rfl
  have hD9 := hD.sub (ws' := [(qx, .inr (2, [.ref qf, .ref qp, .int pk, .int pl, .int ul, .int pw, .int hi, .int ta])), (qp, .inr (1, [.ref qf])), (qf, .inr (0, [.ref qb, .ref qe, .int od, .int ot, .int tm])), (qb, .inl (cA, 32, .inl b)), (qe, .inl (cE, 2, .inl g))]) [0, 1, 2, 3, 4] (by decide) rfl
  have hK9 := hK.sub (tys' := [(cA, .int), (cE, .int)]) [0, 1] rfl
  exact W.zret (v := pw) hx hb hr hz (fun t ht hW => ⟨⟨pw, (), rfl, rfl, by rw [ht]; exact hP9, va_K.moved hW.alike hK9, hD9⟩, hS.F ht⟩) hS.2.2 dX2_up_4
set_option maxHeartbeats 4000000 in
set_option maxRecDepth 100000 in
theorem c_X_tries (l : Launch) (dC : Nat → ClassId) (dI : Nat → Nat → Nat) (cA cE : ClassId) (qx qp qf qb qe : Nat) (sz : Nat) (b g : Nat → Int32) (pk pl ul pw hi ta od ot tm : Int32) : Met l yX2_tries wsX2_tries ({ frames := 4, cells := 0, slots := 0, locals := 88 }) (va_Pc [.ref qx] (fun U => U.heap.size = sz ∧ va_P (dC, dI) ttCl [(qx, .inr (2, [.ref qf, .ref qp, .int pk, .int pl, .int ul, .int pw, .int hi, .int ta])), (qp, .inr (1, [.ref qf])), (qf, .inr (0, [.ref qb, .ref qe, .int od, .int ot, .int tm])), (qb, .inl (cA, 32, .inl b)), (qe, .inl (cE, 2, .inl g))] U.heap ∧ va_K (dC, dI) ttCl [(cA, .int), (cE, .int)] U ∧ va_D (fun _ => True) [(qx, .inr (2, [.ref qf, .ref qp, .int pk, .int pl, .int ul, .int pw, .int hi, .int ta])), (qp, .inr (1, [.ref qf])), (qf, .inr (0, [.ref qb, .ref qe, .int od, .int ot, .int tm])), (qb, .inl (cA, 32, .inl b)), (qe, .inl (cE, 2, .inl g))])) (va_Qi (fun (r : Int32) (_ : Unit) => r = if 0 < pl - tt_pu b then pl - tt_pu b else 0) (fun (_ : Unit) (t : State) => at_X dC dI cA cE (va_A [(qx, .inr (2, [.ref qf, .ref qp, .int pk, .int pl, .int ul, .int pw, .int hi, .int ta])), (qp, .inr (1, [.ref qf])), (qf, .inr (0, [.ref qb, .ref qe, .int od, .int ot, .int tm])), (qb, .inl (cA, 32, .inl b)), (qe, .inl (cE, 2, .inl g))] sz) qx qp qf qb qe pk pl ul (pw, hi, ta, b, g, od, ot, tm) t) (va_A [(qx, .inr (2, [.ref qf, .ref qp, .int pk, .int pl, .int ul, .int pw, .int hi, .int ta])), (qp, .inr (1, [.ref qf])), (qf, .inr (0, [.ref qb, .ref qe, .int od, .int ot, .int tm])), (qb, .inl (cA, 32, .inl b)), (qe, .inl (cE, 2, .inl g))] sz)) 0 0 (va_A [(qx, .inr (2, [.ref qf, .ref qp, .int pk, .int pl, .int ul, .int pw, .int hi, .int ta])), (qp, .inr (1, [.ref qf])), (qf, .inr (0, [.ref qb, .ref qe, .int od, .int ot, .int tm])), (qb, .inl (cA, 32, .inl b)), (qe, .inl (cE, 2, .inl g))] sz) := by
  refine Met.ofW (cc := cX2_tries) (maxL := 1) (ret := (some .int)) (by decide) rfl ?_
  intro p e s m args below meth c s₁ B hml hv
  obtain ⟨rfl, hsz, hP, hK, hD0⟩ := hv
  have hx := B.exec
  have hb := B.bytes
  have hr := B.returns
  have hts := atoms_spec (ws := wsX2_tries) B.pre
  have hown : s.vm.findClass RX2 = some m.cls := findClass_of_methodNamed B.named
  have hlocks := B.notSynchronized
  subst hsz
  have hD := hD0.self (sz := s.heap.size)
  generalize hAe : va_A [(qx, .inr (2, [.ref qf, .ref qp, .int pk, .int pl, .int ul, .int pw, .int hi, .int ta])), (qp, .inr (1, [.ref qf])), (qf, .inr (0, [.ref qb, .ref qe, .int od, .int ot, .int tm])), (qb, .inl (cA, 32, .inl b)), (qe, .inl (cE, 2, .inl g))] s.heap.size = A at hD ⊢
  have hA : ∀ q : Nat, s.heap.size ≤ q → A q := fun q h => by rw [← hAe]; exact Or.inr h
  have hS : va_S A s.heap s.heap [] := va_S.rf
  have hP : va_P (dC, dI) ttCl [(qx, .inr (2, [.ref qf, .ref qp, .int pk, .int pl, .int ul, .int pw, .int hi, .int ta])), (qp, .inr (1, [.ref qf])), (qf, .inr (0, [.ref qb, .ref qe, .int od, .int ot, .int tm])), (qb, .inl (cA, 32, .inl b)), (qe, .inl (cE, 2, .inl g))] s.heap := hP
  have hl := lv_entry ([.ref qx]) (n := 1) (Nat.le_of_ble_eq_true rfl)
  rw [lg_entry_eq]
  generalize (lg_sl ([.ref qx]) ++ List.replicate (1 - (lg_sl ([.ref qx])).length) Slot.unset).toArray = ls at hl ⊢
  have hl : lv_has ls 1 [(0, .ref qx)] := hl
  refine lv_iconst (v := 0) hx hb dX2_tries_0 (by decide) ?_
  refine lv_aload_n hx hb dX2_tries_1 rfl (lv_at hl 0 rfl) ?_
  refine va_get (D := (dC, dI)) (ci := 2) (v := .int pl) (C := RX2) (T := TX2) (N := 8) hx hb hts (by decide +kernel) hown hK hP 0 rfl rfl 3 (by decide) (hts (.fieldLink RX2 34 "TornTryCounter" "pinLimit" "I") (by decide +kernel)) (fun _ h9 => h9) rfl dX2_tries_2 ?_
  refine lv_aload_n hx hb dX2_tries_5 rfl (lv_at hl 0 rfl) ?_
  refine va_get (D := (dC, dI)) (ci := 2) (v := .ref qp) (C := RX2) (T := TX2) (N := 8) hx hb hts (by decide +kernel) hown hK hP 0 rfl rfl 1 (by decide) (hts (.fieldLink RX2 22 "TornTryCounter" "pages" "LTornTryCounter$Pages;") (by decide +kernel)) (fun _ h9 => h9) rfl dX2_tries_6 ?_
  have hPc := hP.sub (ws' := [(qp, .inr (1, [.ref qf])), (qf, .inr (0, [.ref qb, .ref qe, .int od, .int ot, .int tm])), (qb, .inl (cA, 32, .inl b)), (qe, .inl (cE, 2, .inl g))]) [1, 2, 3, 4] rfl
  have hDc := hD.sub (ws' := [(qp, .inr (1, [.ref qf])), (qf, .inr (0, [.ref qb, .ref qe, .int od, .int ot, .int tm])), (qb, .inl (cA, 32, .inl b)), (qe, .inl (cE, 2, .inl g))]) [1, 2, 3, 4] (by decide) rfl
  have hKc := hK.sub (tys' := [(cA, .int), (cE, .int)]) [0, 1] rfl
  have hFc := va_free (wc := [(qp, .inr (1, [.ref qf])), (qf, .inr (0, [.ref qb, .ref qe, .int od, .int ot, .int tm])), (qb, .inl (cA, 32, .inl b)), (qe, .inl (cE, 2, .inl g))]) hD hS hA [1, 2, 3, 4] rfl
  refine va_calli (va_runV (As := []) (rest := [.int pl, .int 0]) ⟨hx, hb, hml, hown, hts⟩ (c_P_pinTriesUsed l dC dI cA cE qp qf qb qe s.heap.size b g od ot tm) (cwV 0 hts gX2_tries_X1_pinTriesUsed rfl rfl rfl (by decide +kernel) ⟨Nat.le_of_ble_eq_true rfl, Nat.le_of_ble_eq_true rfl⟩) ⟨fun a U g mk q => by obtain ⟨q0, q1, qP, qK, qD⟩ := q; exact ⟨q0, q1, qP, va_K.moved (u := U) (U := U.calling g mk a) (Vm.Alike.refl U.vm) qK, qD⟩, va_recv hKc hPc (ci := 1) (q0 := 0) rfl rfl, fun U hU hW => ⟨rfl, by rw [hU], by rw [hU]; exact hPc, va_K.moved hW.alike hKc, hDc.weaken (fun _ _ _ _ => trivial)⟩⟩ rfl rfl hl.1 rfl (lv_room (Nat.le_of_ble_eq_true rfl)) dX2_tries_9 ⟨(Nat.zero_le _), (Nat.zero_le _)⟩) hS (fun q _ h => hFc q h) hFc (fun r_1 u t H locs ht hvm hw hB hz1 hk1 hS => ?_)
  have hw : tt_pu b = r_1 := hw.symm
  subst hw
  obtain ⟨hP1, hK1, hD1⟩ := hB
  rw [ht] at hP1
  obtain ⟨hP, hD⟩ := va_join (wr := [(qx, .inr (2, [.ref qf, .ref qp, .int pk, .int pl, .int ul, .int pw, .int hi, .int ta]))]) (w1 := [(qp, .inr (1, [.ref qf])), (qf, .inr (0, [.ref qb, .ref qe, .int od, .int ot, .int tm])), (qb, .inl (cA, 32, .inl b)), (qe, .inl (cE, 2, .inl g))]) hP hD [1, 2, 3, 4] [0] rfl rfl (by decide) (by decide) hk1 hFc hP1 hD1
  have hP : va_P (dC, dI) ttCl [(qx, .inr (2, [.ref qf, .ref qp, .int pk, .int pl, .int ul, .int pw, .int hi, .int ta])), (qp, .inr (1, [.ref qf])), (qf, .inr (0, [.ref qb, .ref qe, .int od, .int ot, .int tm])), (qb, .inl (cA, 32, .inl b)), (qe, .inl (cE, 2, .inl g))] H := hP
  have hD : va_D A [(qx, .inr (2, [.ref qf, .ref qp, .int pk, .int pl, .int ul, .int pw, .int hi, .int ta])), (qp, .inr (1, [.ref qf])), (qf, .inr (0, [.ref qb, .ref qe, .int od, .int ot, .int tm])), (qb, .inl (cA, 32, .inl b)), (qe, .inl (cE, 2, .inl g))] := hD
  refine lv_isub hx hb dX2_tries_12 ?_
  refine va_mmax hx hb (hml.trans hl.1.symm) hown (hts (.methodLink RX2 75 Lib.Math.max.name) (by decide +kernel)) (hts (.static Lib.Math.max.name) (by decide +kernel)) (hts (.initialized "java/lang/Math") (by decide +kernel)) (hts (.code Lib.Math.max.name Lib.Math.max.code 2 (some .int)) (by decide +kernel)) (Nat.le_of_ble_eq_true rfl) (Nat.le_of_ble_eq_true rfl) (Nat.zero_le _) (Nat.zero_le _) dX2_tries_13 ?_
  have hP9 := hP.sub (ws' := [(qx, .inr (2, [.ref qf, .ref qp, .int pk, .int pl, .int ul, .int pw, .int hi, .int ta])), (qp, .inr (1, [.ref qf])), (qf, .inr (0, [.ref qb, .ref qe, .int od, .int ot, .int tm])), (qb, .inl (cA, 32, .inl b)), (qe, .inl (cE, 2, .inl g))]) [0, 1, 2, 3, 4] rfl
  have hD9 := hD.sub (ws' := [(qx, .inr (2, [.ref qf, .ref qp, .int pk, .int pl, .int ul, .int pw, .int hi, .int ta])), (qp, .inr (1, [.ref qf])), (qf, .inr (0, [.ref qb, .ref qe, .int od, .int ot, .int tm])), (qb, .inl (cA, 32, .inl b)), (qe, .inl (cE, 2, .inl g))]) [0, 1, 2, 3, 4] (by decide) rfl
  have hK9 := hK.sub (tys' := [(cA, .int), (cE, .int)]) [0, 1] rfl
  exact W.iret (v := if 0 < pl - (tt_pu b) then pl - (tt_pu b) else 0) hx hb hr (fun t ht hW => ⟨⟨if 0 < pl - (tt_pu b) then pl - (tt_pu b) else 0, (), rfl, (by first | (simp only [reduceIte, eq_self]; done) | (simp []; done)), by rw [ht]; exact hP9, va_K.moved hW.alike hK9, hD9⟩, hS.F ht⟩) hS.2.2 dX2_tries_16
set_option maxHeartbeats 4000000 in
set_option maxRecDepth 100000 in
theorem c_X_puks (l : Launch) (dC : Nat → ClassId) (dI : Nat → Nat → Nat) (cA cE : ClassId) (qx qp qf qb qe : Nat) (sz : Nat) (b g : Nat → Int32) (pk pl ul pw hi ta od ot tm : Int32) : Met l yX2_puks wsX2_puks ({ frames := 4, cells := 0, slots := 0, locals := 87 }) (va_Pc [.ref qx] (fun U => U.heap.size = sz ∧ va_P (dC, dI) ttCl [(qx, .inr (2, [.ref qf, .ref qp, .int pk, .int pl, .int ul, .int pw, .int hi, .int ta])), (qp, .inr (1, [.ref qf])), (qf, .inr (0, [.ref qb, .ref qe, .int od, .int ot, .int tm])), (qb, .inl (cA, 32, .inl b)), (qe, .inl (cE, 2, .inl g))] U.heap ∧ va_K (dC, dI) ttCl [(cA, .int), (cE, .int)] U ∧ va_D (fun _ => True) [(qx, .inr (2, [.ref qf, .ref qp, .int pk, .int pl, .int ul, .int pw, .int hi, .int ta])), (qp, .inr (1, [.ref qf])), (qf, .inr (0, [.ref qb, .ref qe, .int od, .int ot, .int tm])), (qb, .inl (cA, 32, .inl b)), (qe, .inl (cE, 2, .inl g))])) (va_Qi (fun (r : Int32) (_ : Unit) => r = if 0 < ul - tt_uu b then ul - tt_uu b else 0) (fun (_ : Unit) (t : State) => at_X dC dI cA cE (va_A [(qx, .inr (2, [.ref qf, .ref qp, .int pk, .int pl, .int ul, .int pw, .int hi, .int ta])), (qp, .inr (1, [.ref qf])), (qf, .inr (0, [.ref qb, .ref qe, .int od, .int ot, .int tm])), (qb, .inl (cA, 32, .inl b)), (qe, .inl (cE, 2, .inl g))] sz) qx qp qf qb qe pk pl ul (pw, hi, ta, b, g, od, ot, tm) t) (va_A [(qx, .inr (2, [.ref qf, .ref qp, .int pk, .int pl, .int ul, .int pw, .int hi, .int ta])), (qp, .inr (1, [.ref qf])), (qf, .inr (0, [.ref qb, .ref qe, .int od, .int ot, .int tm])), (qb, .inl (cA, 32, .inl b)), (qe, .inl (cE, 2, .inl g))] sz)) 0 0 (va_A [(qx, .inr (2, [.ref qf, .ref qp, .int pk, .int pl, .int ul, .int pw, .int hi, .int ta])), (qp, .inr (1, [.ref qf])), (qf, .inr (0, [.ref qb, .ref qe, .int od, .int ot, .int tm])), (qb, .inl (cA, 32, .inl b)), (qe, .inl (cE, 2, .inl g))] sz) := by
  refine Met.ofW (cc := cX2_puks) (maxL := 1) (ret := (some .int)) (by decide) rfl ?_
  intro p e s m args below meth c s₁ B hml hv
  obtain ⟨rfl, hsz, hP, hK, hD0⟩ := hv
  have hx := B.exec
  have hb := B.bytes
  have hr := B.returns
  have hts := atoms_spec (ws := wsX2_puks) B.pre
  have hown : s.vm.findClass RX2 = some m.cls := findClass_of_methodNamed B.named
  have hlocks := B.notSynchronized
  subst hsz
  have hD := hD0.self (sz := s.heap.size)
  generalize hAe : va_A [(qx, .inr (2, [.ref qf, .ref qp, .int pk, .int pl, .int ul, .int pw, .int hi, .int ta])), (qp, .inr (1, [.ref qf])), (qf, .inr (0, [.ref qb, .ref qe, .int od, .int ot, .int tm])), (qb, .inl (cA, 32, .inl b)), (qe, .inl (cE, 2, .inl g))] s.heap.size = A at hD ⊢
  have hA : ∀ q : Nat, s.heap.size ≤ q → A q := fun q h => by rw [← hAe]; exact Or.inr h
  have hS : va_S A s.heap s.heap [] := va_S.rf
  have hP : va_P (dC, dI) ttCl [(qx, .inr (2, [.ref qf, .ref qp, .int pk, .int pl, .int ul, .int pw, .int hi, .int ta])), (qp, .inr (1, [.ref qf])), (qf, .inr (0, [.ref qb, .ref qe, .int od, .int ot, .int tm])), (qb, .inl (cA, 32, .inl b)), (qe, .inl (cE, 2, .inl g))] s.heap := hP
  have hl := lv_entry ([.ref qx]) (n := 1) (Nat.le_of_ble_eq_true rfl)
  rw [lg_entry_eq]
  generalize (lg_sl ([.ref qx]) ++ List.replicate (1 - (lg_sl ([.ref qx])).length) Slot.unset).toArray = ls at hl ⊢
  have hl : lv_has ls 1 [(0, .ref qx)] := hl
  refine lv_iconst (v := 0) hx hb dX2_puks_0 (by decide) ?_
  refine lv_aload_n hx hb dX2_puks_1 rfl (lv_at hl 0 rfl) ?_
  refine va_get (D := (dC, dI)) (ci := 2) (v := .int ul) (C := RX2) (T := TX2) (N := 8) hx hb hts (by decide +kernel) hown hK hP 0 rfl rfl 4 (by decide) (hts (.fieldLink RX2 37 "TornTryCounter" "pukLimit" "I") (by decide +kernel)) (fun _ h9 => h9) rfl dX2_puks_2 ?_
  refine lv_aload_n hx hb dX2_puks_5 rfl (lv_at hl 0 rfl) ?_
  refine va_get (D := (dC, dI)) (ci := 2) (v := .ref qp) (C := RX2) (T := TX2) (N := 8) hx hb hts (by decide +kernel) hown hK hP 0 rfl rfl 1 (by decide) (hts (.fieldLink RX2 22 "TornTryCounter" "pages" "LTornTryCounter$Pages;") (by decide +kernel)) (fun _ h9 => h9) rfl dX2_puks_6 ?_
  have hPc := hP.sub (ws' := [(qp, .inr (1, [.ref qf])), (qf, .inr (0, [.ref qb, .ref qe, .int od, .int ot, .int tm])), (qb, .inl (cA, 32, .inl b)), (qe, .inl (cE, 2, .inl g))]) [1, 2, 3, 4] rfl
  have hDc := hD.sub (ws' := [(qp, .inr (1, [.ref qf])), (qf, .inr (0, [.ref qb, .ref qe, .int od, .int ot, .int tm])), (qb, .inl (cA, 32, .inl b)), (qe, .inl (cE, 2, .inl g))]) [1, 2, 3, 4] (by decide) rfl
  have hKc := hK.sub (tys' := [(cA, .int), (cE, .int)]) [0, 1] rfl
  have hFc := va_free (wc := [(qp, .inr (1, [.ref qf])), (qf, .inr (0, [.ref qb, .ref qe, .int od, .int ot, .int tm])), (qb, .inl (cA, 32, .inl b)), (qe, .inl (cE, 2, .inl g))]) hD hS hA [1, 2, 3, 4] rfl
  refine va_calli (va_runV (As := []) (rest := [.int ul, .int 0]) ⟨hx, hb, hml, hown, hts⟩ (c_P_pukTriesUsed l dC dI cA cE qp qf qb qe s.heap.size b g od ot tm) (cwV 0 hts gX2_puks_X1_pukTriesUsed rfl rfl rfl (by decide +kernel) ⟨Nat.le_of_ble_eq_true rfl, Nat.le_of_ble_eq_true rfl⟩) ⟨fun a U g mk q => by obtain ⟨q0, q1, qP, qK, qD⟩ := q; exact ⟨q0, q1, qP, va_K.moved (u := U) (U := U.calling g mk a) (Vm.Alike.refl U.vm) qK, qD⟩, va_recv hKc hPc (ci := 1) (q0 := 0) rfl rfl, fun U hU hW => ⟨rfl, by rw [hU], by rw [hU]; exact hPc, va_K.moved hW.alike hKc, hDc.weaken (fun _ _ _ _ => trivial)⟩⟩ rfl rfl hl.1 rfl (lv_room (Nat.le_of_ble_eq_true rfl)) dX2_puks_9 ⟨(Nat.zero_le _), (Nat.zero_le _)⟩) hS (fun q _ h => hFc q h) hFc (fun r_1 u t H locs ht hvm hw hB hz1 hk1 hS => ?_)
  have hw : tt_uu b = r_1 := hw.symm
  subst hw
  obtain ⟨hP1, hK1, hD1⟩ := hB
  rw [ht] at hP1
  obtain ⟨hP, hD⟩ := va_join (wr := [(qx, .inr (2, [.ref qf, .ref qp, .int pk, .int pl, .int ul, .int pw, .int hi, .int ta]))]) (w1 := [(qp, .inr (1, [.ref qf])), (qf, .inr (0, [.ref qb, .ref qe, .int od, .int ot, .int tm])), (qb, .inl (cA, 32, .inl b)), (qe, .inl (cE, 2, .inl g))]) hP hD [1, 2, 3, 4] [0] rfl rfl (by decide) (by decide) hk1 hFc hP1 hD1
  have hP : va_P (dC, dI) ttCl [(qx, .inr (2, [.ref qf, .ref qp, .int pk, .int pl, .int ul, .int pw, .int hi, .int ta])), (qp, .inr (1, [.ref qf])), (qf, .inr (0, [.ref qb, .ref qe, .int od, .int ot, .int tm])), (qb, .inl (cA, 32, .inl b)), (qe, .inl (cE, 2, .inl g))] H := hP
  have hD : va_D A [(qx, .inr (2, [.ref qf, .ref qp, .int pk, .int pl, .int ul, .int pw, .int hi, .int ta])), (qp, .inr (1, [.ref qf])), (qf, .inr (0, [.ref qb, .ref qe, .int od, .int ot, .int tm])), (qb, .inl (cA, 32, .inl b)), (qe, .inl (cE, 2, .inl g))] := hD
  refine lv_isub hx hb dX2_puks_12 ?_
  refine va_mmax hx hb (hml.trans hl.1.symm) hown (hts (.methodLink RX2 75 Lib.Math.max.name) (by decide +kernel)) (hts (.static Lib.Math.max.name) (by decide +kernel)) (hts (.initialized "java/lang/Math") (by decide +kernel)) (hts (.code Lib.Math.max.name Lib.Math.max.code 2 (some .int)) (by decide +kernel)) (Nat.le_of_ble_eq_true rfl) (Nat.le_of_ble_eq_true rfl) (Nat.zero_le _) (Nat.zero_le _) dX2_puks_13 ?_
  have hP9 := hP.sub (ws' := [(qx, .inr (2, [.ref qf, .ref qp, .int pk, .int pl, .int ul, .int pw, .int hi, .int ta])), (qp, .inr (1, [.ref qf])), (qf, .inr (0, [.ref qb, .ref qe, .int od, .int ot, .int tm])), (qb, .inl (cA, 32, .inl b)), (qe, .inl (cE, 2, .inl g))]) [0, 1, 2, 3, 4] rfl
  have hD9 := hD.sub (ws' := [(qx, .inr (2, [.ref qf, .ref qp, .int pk, .int pl, .int ul, .int pw, .int hi, .int ta])), (qp, .inr (1, [.ref qf])), (qf, .inr (0, [.ref qb, .ref qe, .int od, .int ot, .int tm])), (qb, .inl (cA, 32, .inl b)), (qe, .inl (cE, 2, .inl g))]) [0, 1, 2, 3, 4] (by decide) rfl
  have hK9 := hK.sub (tys' := [(cA, .int), (cE, .int)]) [0, 1] rfl
  exact W.iret (v := if 0 < ul - (tt_uu b) then ul - (tt_uu b) else 0) hx hb hr (fun t ht hW => ⟨⟨if 0 < ul - (tt_uu b) then ul - (tt_uu b) else 0, (), rfl, (by first | (simp only [reduceIte, eq_self]; done) | (simp []; done)), by rw [ht]; exact hP9, va_K.moved hW.alike hK9, hD9⟩, hS.F ht⟩) hS.2.2 dX2_puks_16
set_option maxHeartbeats 4000000 in
set_option maxRecDepth 100000 in
theorem c_X_page (l : Launch) (dC : Nat → ClassId) (dI : Nat → Nat → Nat) (cA cE : ClassId) (qx qp qf qb qe : Nat) (sz : Nat) (b g : Nat → Int32) (pk pl ul pw hi ta od ot tm : Int32) : Met l yX2_page wsX2_page ({ frames := 3, cells := 0, slots := 0, locals := 64 }) (va_Pc [.ref qx] (fun U => U.heap.size = sz ∧ va_P (dC, dI) ttCl [(qx, .inr (2, [.ref qf, .ref qp, .int pk, .int pl, .int ul, .int pw, .int hi, .int ta])), (qp, .inr (1, [.ref qf])), (qf, .inr (0, [.ref qb, .ref qe, .int od, .int ot, .int tm])), (qb, .inl (cA, 32, .inl b)), (qe, .inl (cE, 2, .inl g))] U.heap ∧ va_K (dC, dI) ttCl [(cA, .int), (cE, .int)] U ∧ va_D (fun _ => True) [(qx, .inr (2, [.ref qf, .ref qp, .int pk, .int pl, .int ul, .int pw, .int hi, .int ta])), (qp, .inr (1, [.ref qf])), (qf, .inr (0, [.ref qb, .ref qe, .int od, .int ot, .int tm])), (qb, .inl (cA, 32, .inl b)), (qe, .inl (cE, 2, .inl g))])) (va_Qi (fun (r : Int32) (_ : Unit) => r = tt_ac b) (fun (_ : Unit) (t : State) => at_X dC dI cA cE (va_A [(qx, .inr (2, [.ref qf, .ref qp, .int pk, .int pl, .int ul, .int pw, .int hi, .int ta])), (qp, .inr (1, [.ref qf])), (qf, .inr (0, [.ref qb, .ref qe, .int od, .int ot, .int tm])), (qb, .inl (cA, 32, .inl b)), (qe, .inl (cE, 2, .inl g))] sz) qx qp qf qb qe pk pl ul (pw, hi, ta, b, g, od, ot, tm) t) (va_A [(qx, .inr (2, [.ref qf, .ref qp, .int pk, .int pl, .int ul, .int pw, .int hi, .int ta])), (qp, .inr (1, [.ref qf])), (qf, .inr (0, [.ref qb, .ref qe, .int od, .int ot, .int tm])), (qb, .inl (cA, 32, .inl b)), (qe, .inl (cE, 2, .inl g))] sz)) 0 0 (va_A [(qx, .inr (2, [.ref qf, .ref qp, .int pk, .int pl, .int ul, .int pw, .int hi, .int ta])), (qp, .inr (1, [.ref qf])), (qf, .inr (0, [.ref qb, .ref qe, .int od, .int ot, .int tm])), (qb, .inl (cA, 32, .inl b)), (qe, .inl (cE, 2, .inl g))] sz) := by
  refine Met.ofW (cc := cX2_page) (maxL := 1) (ret := (some .int)) (by decide) rfl ?_
  intro p e s m args below meth c s₁ B hml hv
  obtain ⟨rfl, hsz, hP, hK, hD0⟩ := hv
  have hx := B.exec
  have hb := B.bytes
  have hr := B.returns
  have hts := atoms_spec (ws := wsX2_page) B.pre
  have hown : s.vm.findClass RX2 = some m.cls := findClass_of_methodNamed B.named
  have hlocks := B.notSynchronized
  subst hsz
  have hD := hD0.self (sz := s.heap.size)
  generalize hAe : va_A [(qx, .inr (2, [.ref qf, .ref qp, .int pk, .int pl, .int ul, .int pw, .int hi, .int ta])), (qp, .inr (1, [.ref qf])), (qf, .inr (0, [.ref qb, .ref qe, .int od, .int ot, .int tm])), (qb, .inl (cA, 32, .inl b)), (qe, .inl (cE, 2, .inl g))] s.heap.size = A at hD ⊢
  have hA : ∀ q : Nat, s.heap.size ≤ q → A q := fun q h => by rw [← hAe]; exact Or.inr h
  have hS : va_S A s.heap s.heap [] := va_S.rf
  have hP : va_P (dC, dI) ttCl [(qx, .inr (2, [.ref qf, .ref qp, .int pk, .int pl, .int ul, .int pw, .int hi, .int ta])), (qp, .inr (1, [.ref qf])), (qf, .inr (0, [.ref qb, .ref qe, .int od, .int ot, .int tm])), (qb, .inl (cA, 32, .inl b)), (qe, .inl (cE, 2, .inl g))] s.heap := hP
  have hl := lv_entry ([.ref qx]) (n := 1) (Nat.le_of_ble_eq_true rfl)
  rw [lg_entry_eq]
  generalize (lg_sl ([.ref qx]) ++ List.replicate (1 - (lg_sl ([.ref qx])).length) Slot.unset).toArray = ls at hl ⊢
  have hl : lv_has ls 1 [(0, .ref qx)] := hl
  refine lv_aload_n hx hb dX2_page_0 rfl (lv_at hl 0 rfl) ?_
  refine va_get (D := (dC, dI)) (ci := 2) (v := .ref qp) (C := RX2) (T := TX2) (N := 8) hx hb hts (by decide +kernel) hown hK hP 0 rfl rfl 1 (by decide) (hts (.fieldLink RX2 22 "TornTryCounter" "pages" "LTornTryCounter$Pages;") (by decide +kernel)) (fun _ h9 => h9) rfl dX2_page_1 ?_
  have hPc := hP.sub (ws' := [(qp, .inr (1, [.ref qf])), (qf, .inr (0, [.ref qb, .ref qe, .int od, .int ot, .int tm])), (qb, .inl (cA, 32, .inl b)), (qe, .inl (cE, 2, .inl g))]) [1, 2, 3, 4] rfl
  have hDc := hD.sub (ws' := [(qp, .inr (1, [.ref qf])), (qf, .inr (0, [.ref qb, .ref qe, .int od, .int ot, .int tm])), (qb, .inl (cA, 32, .inl b)), (qe, .inl (cE, 2, .inl g))]) [1, 2, 3, 4] (by decide) rfl
  have hKc := hK.sub (tys' := [(cA, .int), (cE, .int)]) [0, 1] rfl
  have hFc := va_free (wc := [(qp, .inr (1, [.ref qf])), (qf, .inr (0, [.ref qb, .ref qe, .int od, .int ot, .int tm])), (qb, .inl (cA, 32, .inl b)), (qe, .inl (cE, 2, .inl g))]) hD hS hA [1, 2, 3, 4] rfl
  refine va_calli (va_runV (As := []) (rest := []) ⟨hx, hb, hml, hown, hts⟩ (c_P_active l dC dI cA cE qp qf qb qe s.heap.size b g od ot tm) (cwV 0 hts gX2_page_X1_active rfl rfl rfl (by decide +kernel) ⟨Nat.le_of_ble_eq_true rfl, Nat.le_of_ble_eq_true rfl⟩) ⟨fun a U g mk q => by obtain ⟨q0, q1, qP, qK, qD⟩ := q; exact ⟨q0, q1, qP, va_K.moved (u := U) (U := U.calling g mk a) (Vm.Alike.refl U.vm) qK, qD⟩, va_recv hKc hPc (ci := 1) (q0 := 0) rfl rfl, fun U hU hW => ⟨rfl, by rw [hU], by rw [hU]; exact hPc, va_K.moved hW.alike hKc, hDc.weaken (fun _ _ _ _ => trivial)⟩⟩ rfl rfl hl.1 rfl (lv_room (Nat.le_of_ble_eq_true rfl)) dX2_page_4 ⟨(Nat.zero_le _), (Nat.zero_le _)⟩) hS (fun q _ h => hFc q h) hFc (fun r_1 u t H locs ht hvm hw hB hz1 hk1 hS => ?_)
  have hw : tt_ac b = r_1 := hw.symm
  subst hw
  obtain ⟨hP1, hK1, hD1⟩ := hB
  rw [ht] at hP1
  obtain ⟨hP, hD⟩ := va_join (wr := [(qx, .inr (2, [.ref qf, .ref qp, .int pk, .int pl, .int ul, .int pw, .int hi, .int ta]))]) (w1 := [(qp, .inr (1, [.ref qf])), (qf, .inr (0, [.ref qb, .ref qe, .int od, .int ot, .int tm])), (qb, .inl (cA, 32, .inl b)), (qe, .inl (cE, 2, .inl g))]) hP hD [1, 2, 3, 4] [0] rfl rfl (by decide) (by decide) hk1 hFc hP1 hD1
  have hP : va_P (dC, dI) ttCl [(qx, .inr (2, [.ref qf, .ref qp, .int pk, .int pl, .int ul, .int pw, .int hi, .int ta])), (qp, .inr (1, [.ref qf])), (qf, .inr (0, [.ref qb, .ref qe, .int od, .int ot, .int tm])), (qb, .inl (cA, 32, .inl b)), (qe, .inl (cE, 2, .inl g))] H := hP
  have hD : va_D A [(qx, .inr (2, [.ref qf, .ref qp, .int pk, .int pl, .int ul, .int pw, .int hi, .int ta])), (qp, .inr (1, [.ref qf])), (qf, .inr (0, [.ref qb, .ref qe, .int od, .int ot, .int tm])), (qb, .inl (cA, 32, .inl b)), (qe, .inl (cE, 2, .inl g))] := hD
  have hP9 := hP.sub (ws' := [(qx, .inr (2, [.ref qf, .ref qp, .int pk, .int pl, .int ul, .int pw, .int hi, .int ta])), (qp, .inr (1, [.ref qf])), (qf, .inr (0, [.ref qb, .ref qe, .int od, .int ot, .int tm])), (qb, .inl (cA, 32, .inl b)), (qe, .inl (cE, 2, .inl g))]) [0, 1, 2, 3, 4] rfl
  have hD9 := hD.sub (ws' := [(qx, .inr (2, [.ref qf, .ref qp, .int pk, .int pl, .int ul, .int pw, .int hi, .int ta])), (qp, .inr (1, [.ref qf])), (qf, .inr (0, [.ref qb, .ref qe, .int od, .int ot, .int tm])), (qb, .inl (cA, 32, .inl b)), (qe, .inl (cE, 2, .inl g))]) [0, 1, 2, 3, 4] (by decide) rfl
  have hK9 := hK.sub (tys' := [(cA, .int), (cE, .int)]) [0, 1] rfl
  exact W.iret (v := tt_ac b) hx hb hr (fun t ht hW => ⟨⟨tt_ac b, (), rfl, rfl, by rw [ht]; exact hP9, va_K.moved hW.alike hK9, hD9⟩, hS.F ht⟩) hS.2.2 dX2_page_7
set_option maxHeartbeats 4000000 in
set_option maxRecDepth 100000 in
theorem c_X_generation (l : Launch) (dC : Nat → ClassId) (dI : Nat → Nat → Nat) (cA cE : ClassId) (qx qp qf qb qe : Nat) (sz : Nat) (b g : Nat → Int32) (pk pl ul pw hi ta od ot tm : Int32) : Met l yX2_generation wsX2_generation ({ frames := 4, cells := 0, slots := 0, locals := 84 }) (va_Pc [.ref qx] (fun U => U.heap.size = sz ∧ va_P (dC, dI) ttCl [(qx, .inr (2, [.ref qf, .ref qp, .int pk, .int pl, .int ul, .int pw, .int hi, .int ta])), (qp, .inr (1, [.ref qf])), (qf, .inr (0, [.ref qb, .ref qe, .int od, .int ot, .int tm])), (qb, .inl (cA, 32, .inl b)), (qe, .inl (cE, 2, .inl g))] U.heap ∧ va_K (dC, dI) ttCl [(cA, .int), (cE, .int)] U ∧ va_D (fun _ => True) [(qx, .inr (2, [.ref qf, .ref qp, .int pk, .int pl, .int ul, .int pw, .int hi, .int ta])), (qp, .inr (1, [.ref qf])), (qf, .inr (0, [.ref qb, .ref qe, .int od, .int ot, .int tm])), (qb, .inl (cA, 32, .inl b)), (qe, .inl (cE, 2, .inl g))])) (va_Qi (fun (r : Int32) (_ : Unit) => r = tt_rd b (tt_ac b) 1) (fun (_ : Unit) (t : State) => at_X dC dI cA cE (va_A [(qx, .inr (2, [.ref qf, .ref qp, .int pk, .int pl, .int ul, .int pw, .int hi, .int ta])), (qp, .inr (1, [.ref qf])), (qf, .inr (0, [.ref qb, .ref qe, .int od, .int ot, .int tm])), (qb, .inl (cA, 32, .inl b)), (qe, .inl (cE, 2, .inl g))] sz) qx qp qf qb qe pk pl ul (pw, hi, ta, b, g, od, ot, tm) t) (va_A [(qx, .inr (2, [.ref qf, .ref qp, .int pk, .int pl, .int ul, .int pw, .int hi, .int ta])), (qp, .inr (1, [.ref qf])), (qf, .inr (0, [.ref qb, .ref qe, .int od, .int ot, .int tm])), (qb, .inl (cA, 32, .inl b)), (qe, .inl (cE, 2, .inl g))] sz)) 0 0 (va_A [(qx, .inr (2, [.ref qf, .ref qp, .int pk, .int pl, .int ul, .int pw, .int hi, .int ta])), (qp, .inr (1, [.ref qf])), (qf, .inr (0, [.ref qb, .ref qe, .int od, .int ot, .int tm])), (qb, .inl (cA, 32, .inl b)), (qe, .inl (cE, 2, .inl g))] sz) := by
  refine Met.ofW (cc := cX2_generation) (maxL := 1) (ret := (some .int)) (by decide) rfl ?_
  intro p e s m args below meth c s₁ B hml hv
  obtain ⟨rfl, hsz, hP, hK, hD0⟩ := hv
  have hx := B.exec
  have hb := B.bytes
  have hr := B.returns
  have hts := atoms_spec (ws := wsX2_generation) B.pre
  have hown : s.vm.findClass RX2 = some m.cls := findClass_of_methodNamed B.named
  have hlocks := B.notSynchronized
  subst hsz
  have hD := hD0.self (sz := s.heap.size)
  generalize hAe : va_A [(qx, .inr (2, [.ref qf, .ref qp, .int pk, .int pl, .int ul, .int pw, .int hi, .int ta])), (qp, .inr (1, [.ref qf])), (qf, .inr (0, [.ref qb, .ref qe, .int od, .int ot, .int tm])), (qb, .inl (cA, 32, .inl b)), (qe, .inl (cE, 2, .inl g))] s.heap.size = A at hD ⊢
  have hA : ∀ q : Nat, s.heap.size ≤ q → A q := fun q h => by rw [← hAe]; exact Or.inr h
  have hS : va_S A s.heap s.heap [] := va_S.rf
  have hP : va_P (dC, dI) ttCl [(qx, .inr (2, [.ref qf, .ref qp, .int pk, .int pl, .int ul, .int pw, .int hi, .int ta])), (qp, .inr (1, [.ref qf])), (qf, .inr (0, [.ref qb, .ref qe, .int od, .int ot, .int tm])), (qb, .inl (cA, 32, .inl b)), (qe, .inl (cE, 2, .inl g))] s.heap := hP
  have hl := lv_entry ([.ref qx]) (n := 1) (Nat.le_of_ble_eq_true rfl)
  rw [lg_entry_eq]
  generalize (lg_sl ([.ref qx]) ++ List.replicate (1 - (lg_sl ([.ref qx])).length) Slot.unset).toArray = ls at hl ⊢
  have hl : lv_has ls 1 [(0, .ref qx)] := hl
  refine lv_aload_n hx hb dX2_generation_0 rfl (lv_at hl 0 rfl) ?_
  refine va_get (D := (dC, dI)) (ci := 2) (v := .ref qp) (C := RX2) (T := TX2) (N := 8) hx hb hts (by decide +kernel) hown hK hP 0 rfl rfl 1 (by decide) (hts (.fieldLink RX2 22 "TornTryCounter" "pages" "LTornTryCounter$Pages;") (by decide +kernel)) (fun _ h9 => h9) rfl dX2_generation_1 ?_
  have hPc := hP.sub (ws' := [(qp, .inr (1, [.ref qf])), (qf, .inr (0, [.ref qb, .ref qe, .int od, .int ot, .int tm])), (qb, .inl (cA, 32, .inl b)), (qe, .inl (cE, 2, .inl g))]) [1, 2, 3, 4] rfl
  have hDc := hD.sub (ws' := [(qp, .inr (1, [.ref qf])), (qf, .inr (0, [.ref qb, .ref qe, .int od, .int ot, .int tm])), (qb, .inl (cA, 32, .inl b)), (qe, .inl (cE, 2, .inl g))]) [1, 2, 3, 4] (by decide) rfl
  have hKc := hK.sub (tys' := [(cA, .int), (cE, .int)]) [0, 1] rfl
  have hFc := va_free (wc := [(qp, .inr (1, [.ref qf])), (qf, .inr (0, [.ref qb, .ref qe, .int od, .int ot, .int tm])), (qb, .inl (cA, 32, .inl b)), (qe, .inl (cE, 2, .inl g))]) hD hS hA [1, 2, 3, 4] rfl
  refine va_calli (va_runV (As := []) (rest := []) ⟨hx, hb, hml, hown, hts⟩ (c_P_activeGeneration l dC dI cA cE qp qf qb qe s.heap.size b g od ot tm) (cwV 0 hts gX2_generation_X1_activeGeneration rfl rfl rfl (by decide +kernel) ⟨Nat.le_of_ble_eq_true rfl, Nat.le_of_ble_eq_true rfl⟩) ⟨fun a U g mk q => by obtain ⟨q0, q1, qP, qK, qD⟩ := q; exact ⟨q0, q1, qP, va_K.moved (u := U) (U := U.calling g mk a) (Vm.Alike.refl U.vm) qK, qD⟩, va_recv hKc hPc (ci := 1) (q0 := 0) rfl rfl, fun U hU hW => ⟨rfl, by rw [hU], by rw [hU]; exact hPc, va_K.moved hW.alike hKc, hDc.weaken (fun _ _ _ _ => trivial)⟩⟩ rfl rfl hl.1 rfl (lv_room (Nat.le_of_ble_eq_true rfl)) dX2_generation_4 ⟨(Nat.zero_le _), (Nat.zero_le _)⟩) hS (fun q _ h => hFc q h) hFc (fun r_1 u t H locs ht hvm hw hB hz1 hk1 hS => ?_)
  have hw : tt_rd b (tt_ac b) 1 = r_1 := hw.symm
  subst hw
  obtain ⟨hP1, hK1, hD1⟩ := hB
  rw [ht] at hP1
  obtain ⟨hP, hD⟩ := va_join (wr := [(qx, .inr (2, [.ref qf, .ref qp, .int pk, .int pl, .int ul, .int pw, .int hi, .int ta]))]) (w1 := [(qp, .inr (1, [.ref qf])), (qf, .inr (0, [.ref qb, .ref qe, .int od, .int ot, .int tm])), (qb, .inl (cA, 32, .inl b)), (qe, .inl (cE, 2, .inl g))]) hP hD [1, 2, 3, 4] [0] rfl rfl (by decide) (by decide) hk1 hFc hP1 hD1
  have hP : va_P (dC, dI) ttCl [(qx, .inr (2, [.ref qf, .ref qp, .int pk, .int pl, .int ul, .int pw, .int hi, .int ta])), (qp, .inr (1, [.ref qf])), (qf, .inr (0, [.ref qb, .ref qe, .int od, .int ot, .int tm])), (qb, .inl (cA, 32, .inl b)), (qe, .inl (cE, 2, .inl g))] H := hP
  have hD : va_D A [(qx, .inr (2, [.ref qf, .ref qp, .int pk, .int pl, .int ul, .int pw, .int hi, .int ta])), (qp, .inr (1, [.ref qf])), (qf, .inr (0, [.ref qb, .ref qe, .int od, .int ot, .int tm])), (qb, .inl (cA, 32, .inl b)), (qe, .inl (cE, 2, .inl g))] := hD
  have hP9 := hP.sub (ws' := [(qx, .inr (2, [.ref qf, .ref qp, .int pk, .int pl, .int ul, .int pw, .int hi, .int ta])), (qp, .inr (1, [.ref qf])), (qf, .inr (0, [.ref qb, .ref qe, .int od, .int ot, .int tm])), (qb, .inl (cA, 32, .inl b)), (qe, .inl (cE, 2, .inl g))]) [0, 1, 2, 3, 4] rfl
  have hD9 := hD.sub (ws' := [(qx, .inr (2, [.ref qf, .ref qp, .int pk, .int pl, .int ul, .int pw, .int hi, .int ta])), (qp, .inr (1, [.ref qf])), (qf, .inr (0, [.ref qb, .ref qe, .int od, .int ot, .int tm])), (qb, .inl (cA, 32, .inl b)), (qe, .inl (cE, 2, .inl g))]) [0, 1, 2, 3, 4] (by decide) rfl
  have hK9 := hK.sub (tys' := [(cA, .int), (cE, .int)]) [0, 1] rfl
  exact W.iret (v := tt_rd b (tt_ac b) 1) hx hb hr (fun t ht hW => ⟨⟨tt_rd b (tt_ac b) 1, (), rfl, rfl, by rw [ht]; exact hP9, va_K.moved hW.alike hK9, hD9⟩, hS.F ht⟩) hS.2.2 dX2_generation_7
set_option maxHeartbeats 4000000 in
set_option maxRecDepth 100000 in
theorem c_X_free (l : Launch) (dC : Nat → ClassId) (dI : Nat → Nat → Nat) (cA cE : ClassId) (qx qp qf qb qe : Nat) (sz : Nat) (b g : Nat → Int32) (pk pl ul pw hi ta od ot tm : Int32) : Met l yX2_free wsX2_free ({ frames := 4, cells := 0, slots := 0, locals := 87 }) (va_Pc [.ref qx] (fun U => U.heap.size = sz ∧ va_P (dC, dI) ttCl [(qx, .inr (2, [.ref qf, .ref qp, .int pk, .int pl, .int ul, .int pw, .int hi, .int ta])), (qp, .inr (1, [.ref qf])), (qf, .inr (0, [.ref qb, .ref qe, .int od, .int ot, .int tm])), (qb, .inl (cA, 32, .inl b)), (qe, .inl (cE, 2, .inl g))] U.heap ∧ va_K (dC, dI) ttCl [(cA, .int), (cE, .int)] U ∧ va_D (fun _ => True) [(qx, .inr (2, [.ref qf, .ref qp, .int pk, .int pl, .int ul, .int pw, .int hi, .int ta])), (qp, .inr (1, [.ref qf])), (qf, .inr (0, [.ref qb, .ref qe, .int od, .int ot, .int tm])), (qb, .inl (cA, 32, .inl b)), (qe, .inl (cE, 2, .inl g))])) (va_Qi (fun (r : Int32) (_ : Unit) => r = tt_fe b) (fun (_ : Unit) (t : State) => at_X dC dI cA cE (va_A [(qx, .inr (2, [.ref qf, .ref qp, .int pk, .int pl, .int ul, .int pw, .int hi, .int ta])), (qp, .inr (1, [.ref qf])), (qf, .inr (0, [.ref qb, .ref qe, .int od, .int ot, .int tm])), (qb, .inl (cA, 32, .inl b)), (qe, .inl (cE, 2, .inl g))] sz) qx qp qf qb qe pk pl ul (pw, hi, ta, b, g, od, ot, tm) t) (va_A [(qx, .inr (2, [.ref qf, .ref qp, .int pk, .int pl, .int ul, .int pw, .int hi, .int ta])), (qp, .inr (1, [.ref qf])), (qf, .inr (0, [.ref qb, .ref qe, .int od, .int ot, .int tm])), (qb, .inl (cA, 32, .inl b)), (qe, .inl (cE, 2, .inl g))] sz)) 0 0 (va_A [(qx, .inr (2, [.ref qf, .ref qp, .int pk, .int pl, .int ul, .int pw, .int hi, .int ta])), (qp, .inr (1, [.ref qf])), (qf, .inr (0, [.ref qb, .ref qe, .int od, .int ot, .int tm])), (qb, .inl (cA, 32, .inl b)), (qe, .inl (cE, 2, .inl g))] sz) := by
  refine Met.ofW (cc := cX2_free) (maxL := 1) (ret := (some .int)) (by decide) rfl ?_
  intro p e s m args below meth c s₁ B hml hv
  obtain ⟨rfl, hsz, hP, hK, hD0⟩ := hv
  have hx := B.exec
  have hb := B.bytes
  have hr := B.returns
  have hts := atoms_spec (ws := wsX2_free) B.pre
  have hown : s.vm.findClass RX2 = some m.cls := findClass_of_methodNamed B.named
  have hlocks := B.notSynchronized
  subst hsz
  have hD := hD0.self (sz := s.heap.size)
  generalize hAe : va_A [(qx, .inr (2, [.ref qf, .ref qp, .int pk, .int pl, .int ul, .int pw, .int hi, .int ta])), (qp, .inr (1, [.ref qf])), (qf, .inr (0, [.ref qb, .ref qe, .int od, .int ot, .int tm])), (qb, .inl (cA, 32, .inl b)), (qe, .inl (cE, 2, .inl g))] s.heap.size = A at hD ⊢
  have hA : ∀ q : Nat, s.heap.size ≤ q → A q := fun q h => by rw [← hAe]; exact Or.inr h
  have hS : va_S A s.heap s.heap [] := va_S.rf
  have hP : va_P (dC, dI) ttCl [(qx, .inr (2, [.ref qf, .ref qp, .int pk, .int pl, .int ul, .int pw, .int hi, .int ta])), (qp, .inr (1, [.ref qf])), (qf, .inr (0, [.ref qb, .ref qe, .int od, .int ot, .int tm])), (qb, .inl (cA, 32, .inl b)), (qe, .inl (cE, 2, .inl g))] s.heap := hP
  have hl := lv_entry ([.ref qx]) (n := 1) (Nat.le_of_ble_eq_true rfl)
  rw [lg_entry_eq]
  generalize (lg_sl ([.ref qx]) ++ List.replicate (1 - (lg_sl ([.ref qx])).length) Slot.unset).toArray = ls at hl ⊢
  have hl : lv_has ls 1 [(0, .ref qx)] := hl
  refine lv_aload_n hx hb dX2_free_0 rfl (lv_at hl 0 rfl) ?_
  refine va_get (D := (dC, dI)) (ci := 2) (v := .ref qp) (C := RX2) (T := TX2) (N := 8) hx hb hts (by decide +kernel) hown hK hP 0 rfl rfl 1 (by decide) (hts (.fieldLink RX2 22 "TornTryCounter" "pages" "LTornTryCounter$Pages;") (by decide +kernel)) (fun _ h9 => h9) rfl dX2_free_1 ?_
  have hPc := hP.sub (ws' := [(qp, .inr (1, [.ref qf])), (qf, .inr (0, [.ref qb, .ref qe, .int od, .int ot, .int tm])), (qb, .inl (cA, 32, .inl b)), (qe, .inl (cE, 2, .inl g))]) [1, 2, 3, 4] rfl
  have hDc := hD.sub (ws' := [(qp, .inr (1, [.ref qf])), (qf, .inr (0, [.ref qb, .ref qe, .int od, .int ot, .int tm])), (qb, .inl (cA, 32, .inl b)), (qe, .inl (cE, 2, .inl g))]) [1, 2, 3, 4] (by decide) rfl
  have hKc := hK.sub (tys' := [(cA, .int), (cE, .int)]) [0, 1] rfl
  have hFc := va_free (wc := [(qp, .inr (1, [.ref qf])), (qf, .inr (0, [.ref qb, .ref qe, .int od, .int ot, .int tm])), (qb, .inl (cA, 32, .inl b)), (qe, .inl (cE, 2, .inl g))]) hD hS hA [1, 2, 3, 4] rfl
  refine va_calli (va_runV (As := []) (rest := []) ⟨hx, hb, hml, hown, hts⟩ (c_P_freeEntries l dC dI cA cE qp qf qb qe s.heap.size b g od ot tm) (cwV 0 hts gX2_free_X1_freeEntries rfl rfl rfl (by decide +kernel) ⟨Nat.le_of_ble_eq_true rfl, Nat.le_of_ble_eq_true rfl⟩) ⟨fun a U g mk q => by obtain ⟨q0, q1, qP, qK, qD⟩ := q; exact ⟨q0, q1, qP, va_K.moved (u := U) (U := U.calling g mk a) (Vm.Alike.refl U.vm) qK, qD⟩, va_recv hKc hPc (ci := 1) (q0 := 0) rfl rfl, fun U hU hW => ⟨rfl, by rw [hU], by rw [hU]; exact hPc, va_K.moved hW.alike hKc, hDc.weaken (fun _ _ _ _ => trivial)⟩⟩ rfl rfl hl.1 rfl (lv_room (Nat.le_of_ble_eq_true rfl)) dX2_free_4 ⟨(Nat.zero_le _), (Nat.zero_le _)⟩) hS (fun q _ h => hFc q h) hFc (fun r_1 u t H locs ht hvm hw hB hz1 hk1 hS => ?_)
  have hw : tt_fe b = r_1 := hw.symm
  subst hw
  obtain ⟨hP1, hK1, hD1⟩ := hB
  rw [ht] at hP1
  obtain ⟨hP, hD⟩ := va_join (wr := [(qx, .inr (2, [.ref qf, .ref qp, .int pk, .int pl, .int ul, .int pw, .int hi, .int ta]))]) (w1 := [(qp, .inr (1, [.ref qf])), (qf, .inr (0, [.ref qb, .ref qe, .int od, .int ot, .int tm])), (qb, .inl (cA, 32, .inl b)), (qe, .inl (cE, 2, .inl g))]) hP hD [1, 2, 3, 4] [0] rfl rfl (by decide) (by decide) hk1 hFc hP1 hD1
  have hP : va_P (dC, dI) ttCl [(qx, .inr (2, [.ref qf, .ref qp, .int pk, .int pl, .int ul, .int pw, .int hi, .int ta])), (qp, .inr (1, [.ref qf])), (qf, .inr (0, [.ref qb, .ref qe, .int od, .int ot, .int tm])), (qb, .inl (cA, 32, .inl b)), (qe, .inl (cE, 2, .inl g))] H := hP
  have hD : va_D A [(qx, .inr (2, [.ref qf, .ref qp, .int pk, .int pl, .int ul, .int pw, .int hi, .int ta])), (qp, .inr (1, [.ref qf])), (qf, .inr (0, [.ref qb, .ref qe, .int od, .int ot, .int tm])), (qb, .inl (cA, 32, .inl b)), (qe, .inl (cE, 2, .inl g))] := hD
  have hP9 := hP.sub (ws' := [(qx, .inr (2, [.ref qf, .ref qp, .int pk, .int pl, .int ul, .int pw, .int hi, .int ta])), (qp, .inr (1, [.ref qf])), (qf, .inr (0, [.ref qb, .ref qe, .int od, .int ot, .int tm])), (qb, .inl (cA, 32, .inl b)), (qe, .inl (cE, 2, .inl g))]) [0, 1, 2, 3, 4] rfl
  have hD9 := hD.sub (ws' := [(qx, .inr (2, [.ref qf, .ref qp, .int pk, .int pl, .int ul, .int pw, .int hi, .int ta])), (qp, .inr (1, [.ref qf])), (qf, .inr (0, [.ref qb, .ref qe, .int od, .int ot, .int tm])), (qb, .inl (cA, 32, .inl b)), (qe, .inl (cE, 2, .inl g))]) [0, 1, 2, 3, 4] (by decide) rfl
  have hK9 := hK.sub (tys' := [(cA, .int), (cE, .int)]) [0, 1] rfl
  exact W.iret (v := tt_fe b) hx hb hr (fun t ht hW => ⟨⟨tt_fe b, (), rfl, rfl, by rw [ht]; exact hP9, va_K.moved hW.alike hK9, hD9⟩, hS.F ht⟩) hS.2.2 dX2_free_7
set_option maxHeartbeats 4000000 in
set_option maxRecDepth 100000 in
theorem c_X_operations (l : Launch) (dC : Nat → ClassId) (dI : Nat → Nat → Nat) (cA cE : ClassId) (qx qp qf qb qe : Nat) (sz : Nat) (b g : Nat → Int32) (pk pl ul pw hi ta od ot tm : Int32) : Met l yX2_operations wsX2_operations ({ frames := 1, cells := 0, slots := 0, locals := 20 }) (va_Pc [.ref qx] (fun U => U.heap.size = sz ∧ va_P (dC, dI) ttCl [(qx, .inr (2, [.ref qf, .ref qp, .int pk, .int pl, .int ul, .int pw, .int hi, .int ta])), (qp, .inr (1, [.ref qf])), (qf, .inr (0, [.ref qb, .ref qe, .int od, .int ot, .int tm])), (qb, .inl (cA, 32, .inl b)), (qe, .inl (cE, 2, .inl g))] U.heap ∧ va_K (dC, dI) ttCl [(cA, .int), (cE, .int)] U ∧ va_D (fun _ => True) [(qx, .inr (2, [.ref qf, .ref qp, .int pk, .int pl, .int ul, .int pw, .int hi, .int ta])), (qp, .inr (1, [.ref qf])), (qf, .inr (0, [.ref qb, .ref qe, .int od, .int ot, .int tm])), (qb, .inl (cA, 32, .inl b)), (qe, .inl (cE, 2, .inl g))])) (va_Qi (fun (r : Int32) (_ : Unit) => r = od) (fun (_ : Unit) (t : State) => at_X dC dI cA cE (va_A [(qx, .inr (2, [.ref qf, .ref qp, .int pk, .int pl, .int ul, .int pw, .int hi, .int ta])), (qp, .inr (1, [.ref qf])), (qf, .inr (0, [.ref qb, .ref qe, .int od, .int ot, .int tm])), (qb, .inl (cA, 32, .inl b)), (qe, .inl (cE, 2, .inl g))] sz) qx qp qf qb qe pk pl ul (pw, hi, ta, b, g, od, ot, tm) t) (va_A [(qx, .inr (2, [.ref qf, .ref qp, .int pk, .int pl, .int ul, .int pw, .int hi, .int ta])), (qp, .inr (1, [.ref qf])), (qf, .inr (0, [.ref qb, .ref qe, .int od, .int ot, .int tm])), (qb, .inl (cA, 32, .inl b)), (qe, .inl (cE, 2, .inl g))] sz)) 0 0 (va_A [(qx, .inr (2, [.ref qf, .ref qp, .int pk, .int pl, .int ul, .int pw, .int hi, .int ta])), (qp, .inr (1, [.ref qf])), (qf, .inr (0, [.ref qb, .ref qe, .int od, .int ot, .int tm])), (qb, .inl (cA, 32, .inl b)), (qe, .inl (cE, 2, .inl g))] sz) := by
  refine Met.ofW (cc := cX2_operations) (maxL := 1) (ret := (some .int)) (by decide) rfl ?_
  intro p e s m args below meth c s₁ B hml hv
  obtain ⟨rfl, hsz, hP, hK, hD0⟩ := hv
  have hx := B.exec
  have hb := B.bytes
  have hr := B.returns
  have hts := atoms_spec (ws := wsX2_operations) B.pre
  have hown : s.vm.findClass RX2 = some m.cls := findClass_of_methodNamed B.named
  have hlocks := B.notSynchronized
  subst hsz
  have hD := hD0.self (sz := s.heap.size)
  generalize hAe : va_A [(qx, .inr (2, [.ref qf, .ref qp, .int pk, .int pl, .int ul, .int pw, .int hi, .int ta])), (qp, .inr (1, [.ref qf])), (qf, .inr (0, [.ref qb, .ref qe, .int od, .int ot, .int tm])), (qb, .inl (cA, 32, .inl b)), (qe, .inl (cE, 2, .inl g))] s.heap.size = A at hD ⊢
  have hA : ∀ q : Nat, s.heap.size ≤ q → A q := fun q h => by rw [← hAe]; exact Or.inr h
  have hS : va_S A s.heap s.heap [] := va_S.rf
  have hP : va_P (dC, dI) ttCl [(qx, .inr (2, [.ref qf, .ref qp, .int pk, .int pl, .int ul, .int pw, .int hi, .int ta])), (qp, .inr (1, [.ref qf])), (qf, .inr (0, [.ref qb, .ref qe, .int od, .int ot, .int tm])), (qb, .inl (cA, 32, .inl b)), (qe, .inl (cE, 2, .inl g))] s.heap := hP
  have hl := lv_entry ([.ref qx]) (n := 1) (Nat.le_of_ble_eq_true rfl)
  rw [lg_entry_eq]
  generalize (lg_sl ([.ref qx]) ++ List.replicate (1 - (lg_sl ([.ref qx])).length) Slot.unset).toArray = ls at hl ⊢
  have hl : lv_has ls 1 [(0, .ref qx)] := hl
  refine lv_aload_n hx hb dX2_operations_0 rfl (lv_at hl 0 rfl) ?_
  refine va_get (D := (dC, dI)) (ci := 2) (v := .ref qf) (C := RX2) (T := TX2) (N := 8) hx hb hts (by decide +kernel) hown hK hP 0 rfl rfl 0 (by decide) (hts (.fieldLink RX2 10 "TornTryCounter" "flash" "LTornTryCounter$Flash;") (by decide +kernel)) (fun _ h9 => h9) rfl dX2_operations_1 ?_
  have hPc := hP.sub (ws' := [(qf, .inr (0, [.ref qb, .ref qe, .int od, .int ot, .int tm])), (qb, .inl (cA, 32, .inl b)), (qe, .inl (cE, 2, .inl g))]) [2, 3, 4] rfl
  have hDc := hD.sub (ws' := [(qf, .inr (0, [.ref qb, .ref qe, .int od, .int ot, .int tm])), (qb, .inl (cA, 32, .inl b)), (qe, .inl (cE, 2, .inl g))]) [2, 3, 4] (by decide) rfl
  have hKc := hK.sub (tys' := [(cA, .int), (cE, .int)]) [0, 1] rfl
  have hFc := va_free (wc := [(qf, .inr (0, [.ref qb, .ref qe, .int od, .int ot, .int tm])), (qb, .inl (cA, 32, .inl b)), (qe, .inl (cE, 2, .inl g))]) hD hS hA [2, 3, 4] rfl
  refine va_calli (va_runV (As := []) (rest := []) ⟨hx, hb, hml, hown, hts⟩ (c_F_operationCount l dC dI cA cE qf qb qe s.heap.size b g od ot tm) (cwV 0 hts gX2_operations_X0_operationCount rfl rfl rfl (by decide +kernel) ⟨Nat.le_of_ble_eq_true rfl, Nat.le_of_ble_eq_true rfl⟩) ⟨fun a U g mk q => by obtain ⟨q0, q1, qP, qK, qD⟩ := q; exact ⟨q0, q1, qP, va_K.moved (u := U) (U := U.calling g mk a) (Vm.Alike.refl U.vm) qK, qD⟩, va_recv hKc hPc (ci := 0) (q0 := 0) rfl rfl, fun U hU hW => ⟨rfl, by rw [hU], by rw [hU]; exact hPc, va_K.moved hW.alike hKc, hDc.weaken (fun _ _ _ _ => trivial)⟩⟩ rfl rfl hl.1 rfl (lv_room (Nat.le_of_ble_eq_true rfl)) dX2_operations_4 ⟨(Nat.zero_le _), (Nat.zero_le _)⟩) hS (fun q _ h => hFc q h) hFc (fun r_1 u t H locs ht hvm hw hB hz1 hk1 hS => ?_)
  have hw : od = r_1 := hw.symm
  subst hw
  obtain ⟨hP1, hK1, hD1⟩ := hB
  rw [ht] at hP1
  obtain ⟨hP, hD⟩ := va_join (wr := [(qx, .inr (2, [.ref qf, .ref qp, .int pk, .int pl, .int ul, .int pw, .int hi, .int ta])), (qp, .inr (1, [.ref qf]))]) (w1 := [(qf, .inr (0, [.ref qb, .ref qe, .int od, .int ot, .int tm])), (qb, .inl (cA, 32, .inl b)), (qe, .inl (cE, 2, .inl g))]) hP hD [2, 3, 4] [0, 1] rfl rfl (by decide) (by decide) hk1 hFc hP1 hD1
  have hP : va_P (dC, dI) ttCl [(qx, .inr (2, [.ref qf, .ref qp, .int pk, .int pl, .int ul, .int pw, .int hi, .int ta])), (qp, .inr (1, [.ref qf])), (qf, .inr (0, [.ref qb, .ref qe, .int od, .int ot, .int tm])), (qb, .inl (cA, 32, .inl b)), (qe, .inl (cE, 2, .inl g))] H := hP
  have hD : va_D A [(qx, .inr (2, [.ref qf, .ref qp, .int pk, .int pl, .int ul, .int pw, .int hi, .int ta])), (qp, .inr (1, [.ref qf])), (qf, .inr (0, [.ref qb, .ref qe, .int od, .int ot, .int tm])), (qb, .inl (cA, 32, .inl b)), (qe, .inl (cE, 2, .inl g))] := hD
  have hP9 := hP.sub (ws' := [(qx, .inr (2, [.ref qf, .ref qp, .int pk, .int pl, .int ul, .int pw, .int hi, .int ta])), (qp, .inr (1, [.ref qf])), (qf, .inr (0, [.ref qb, .ref qe, .int od, .int ot, .int tm])), (qb, .inl (cA, 32, .inl b)), (qe, .inl (cE, 2, .inl g))]) [0, 1, 2, 3, 4] rfl
  have hD9 := hD.sub (ws' := [(qx, .inr (2, [.ref qf, .ref qp, .int pk, .int pl, .int ul, .int pw, .int hi, .int ta])), (qp, .inr (1, [.ref qf])), (qf, .inr (0, [.ref qb, .ref qe, .int od, .int ot, .int tm])), (qb, .inl (cA, 32, .inl b)), (qe, .inl (cE, 2, .inl g))]) [0, 1, 2, 3, 4] (by decide) rfl
  have hK9 := hK.sub (tys' := [(cA, .int), (cE, .int)]) [0, 1] rfl
  exact W.iret (v := od) hx hb hr (fun t ht hW => ⟨⟨od, (), rfl, rfl, by rw [ht]; exact hP9, va_K.moved hW.alike hK9, hD9⟩, hS.F ht⟩) hS.2.2 dX2_operations_7
set_option maxHeartbeats 4000000 in
set_option maxRecDepth 100000 in
theorem c_X_erased (l : Launch) (dC : Nat → ClassId) (dI : Nat → Nat → Nat) (cA cE : ClassId) (qx qp qf qb qe : Nat) (sz : Nat) (b g : Nat → Int32) (pk pl ul pw hi ta od ot tm : Int32) (pg : Int32) : Met l yX2_erased wsX2_erased ({ frames := 2, cells := 0, slots := 0, locals := 41 }) (va_Pc [.ref qx, .int pg] (fun U => U.heap.size = sz ∧ va_P (dC, dI) ttCl [(qx, .inr (2, [.ref qf, .ref qp, .int pk, .int pl, .int ul, .int pw, .int hi, .int ta])), (qp, .inr (1, [.ref qf])), (qf, .inr (0, [.ref qb, .ref qe, .int od, .int ot, .int tm])), (qb, .inl (cA, 32, .inl b)), (qe, .inl (cE, 2, .inl g))] U.heap ∧ va_K (dC, dI) ttCl [(cA, .int), (cE, .int)] U ∧ va_D (fun _ => True) [(qx, .inr (2, [.ref qf, .ref qp, .int pk, .int pl, .int ul, .int pw, .int hi, .int ta])), (qp, .inr (1, [.ref qf])), (qf, .inr (0, [.ref qb, .ref qe, .int od, .int ot, .int tm])), (qb, .inl (cA, 32, .inl b)), (qe, .inl (cE, 2, .inl g))])) (va_Qi (fun (r : Int32) (_ : Unit) => r = tt_ec g pg) (fun (_ : Unit) (t : State) => at_X dC dI cA cE (va_A [(qx, .inr (2, [.ref qf, .ref qp, .int pk, .int pl, .int ul, .int pw, .int hi, .int ta])), (qp, .inr (1, [.ref qf])), (qf, .inr (0, [.ref qb, .ref qe, .int od, .int ot, .int tm])), (qb, .inl (cA, 32, .inl b)), (qe, .inl (cE, 2, .inl g))] sz) qx qp qf qb qe pk pl ul (pw, hi, ta, b, g, od, ot, tm) t) (va_A [(qx, .inr (2, [.ref qf, .ref qp, .int pk, .int pl, .int ul, .int pw, .int hi, .int ta])), (qp, .inr (1, [.ref qf])), (qf, .inr (0, [.ref qb, .ref qe, .int od, .int ot, .int tm])), (qb, .inl (cA, 32, .inl b)), (qe, .inl (cE, 2, .inl g))] sz)) 0 0 (va_A [(qx, .inr (2, [.ref qf, .ref qp, .int pk, .int pl, .int ul, .int pw, .int hi, .int ta])), (qp, .inr (1, [.ref qf])), (qf, .inr (0, [.ref qb, .ref qe, .int od, .int ot, .int tm])), (qb, .inl (cA, 32, .inl b)), (qe, .inl (cE, 2, .inl g))] sz) := by
  refine Met.ofW (cc := cX2_erased) (maxL := 2) (ret := (some .int)) (by decide) rfl ?_
  intro p e s m args below meth c s₁ B hml hv
  obtain ⟨rfl, hsz, hP, hK, hD0⟩ := hv
  have hx := B.exec
  have hb := B.bytes
  have hr := B.returns
  have hts := atoms_spec (ws := wsX2_erased) B.pre
  have hown : s.vm.findClass RX2 = some m.cls := findClass_of_methodNamed B.named
  have hlocks := B.notSynchronized
  subst hsz
  have hD := hD0.self (sz := s.heap.size)
  generalize hAe : va_A [(qx, .inr (2, [.ref qf, .ref qp, .int pk, .int pl, .int ul, .int pw, .int hi, .int ta])), (qp, .inr (1, [.ref qf])), (qf, .inr (0, [.ref qb, .ref qe, .int od, .int ot, .int tm])), (qb, .inl (cA, 32, .inl b)), (qe, .inl (cE, 2, .inl g))] s.heap.size = A at hD ⊢
  have hA : ∀ q : Nat, s.heap.size ≤ q → A q := fun q h => by rw [← hAe]; exact Or.inr h
  have hS : va_S A s.heap s.heap [] := va_S.rf
  have hP : va_P (dC, dI) ttCl [(qx, .inr (2, [.ref qf, .ref qp, .int pk, .int pl, .int ul, .int pw, .int hi, .int ta])), (qp, .inr (1, [.ref qf])), (qf, .inr (0, [.ref qb, .ref qe, .int od, .int ot, .int tm])), (qb, .inl (cA, 32, .inl b)), (qe, .inl (cE, 2, .inl g))] s.heap := hP
  have hl := lv_entry ([.ref qx, .int pg]) (n := 2) (Nat.le_of_ble_eq_true rfl)
  rw [lg_entry_eq]
  generalize (lg_sl ([.ref qx, .int pg]) ++ List.replicate (2 - (lg_sl ([.ref qx, .int pg])).length) Slot.unset).toArray = ls at hl ⊢
  have hl : lv_has ls 2 [(0, .ref qx), (1, .int pg)] := hl
  refine lv_aload_n hx hb dX2_erased_0 rfl (lv_at hl 0 rfl) ?_
  refine va_get (D := (dC, dI)) (ci := 2) (v := .ref qf) (C := RX2) (T := TX2) (N := 8) hx hb hts (by decide +kernel) hown hK hP 0 rfl rfl 0 (by decide) (hts (.fieldLink RX2 10 "TornTryCounter" "flash" "LTornTryCounter$Flash;") (by decide +kernel)) (fun _ h9 => h9) rfl dX2_erased_1 ?_
  refine lv_iload_n hx hb dX2_erased_4 rfl (lv_at hl 1 rfl) ?_
  have hPc := hP.sub (ws' := [(qf, .inr (0, [.ref qb, .ref qe, .int od, .int ot, .int tm])), (qb, .inl (cA, 32, .inl b)), (qe, .inl (cE, 2, .inl g))]) [2, 3, 4] rfl
  have hDc := hD.sub (ws' := [(qf, .inr (0, [.ref qb, .ref qe, .int od, .int ot, .int tm])), (qb, .inl (cA, 32, .inl b)), (qe, .inl (cE, 2, .inl g))]) [2, 3, 4] (by decide) rfl
  have hKc := hK.sub (tys' := [(cA, .int), (cE, .int)]) [0, 1] rfl
  have hFc := va_free (wc := [(qf, .inr (0, [.ref qb, .ref qe, .int od, .int ot, .int tm])), (qb, .inl (cA, 32, .inl b)), (qe, .inl (cE, 2, .inl g))]) hD hS hA [2, 3, 4] rfl
  refine va_calli (va_runV (As := [.int pg]) (rest := []) ⟨hx, hb, hml, hown, hts⟩ (c_F_eraseCount l dC dI cA cE qf qb qe s.heap.size b g od ot tm pg) (cwV 1 hts gX2_erased_X0_eraseCount rfl rfl rfl (by decide +kernel) ⟨Nat.le_of_ble_eq_true rfl, Nat.le_of_ble_eq_true rfl⟩) ⟨fun a U g mk q => by obtain ⟨q0, q1, qP, qK, qD⟩ := q; exact ⟨q0, q1, qP, va_K.moved (u := U) (U := U.calling g mk a) (Vm.Alike.refl U.vm) qK, qD⟩, va_recv hKc hPc (ci := 0) (q0 := 0) rfl rfl, fun U hU hW => ⟨rfl, by rw [hU], by rw [hU]; exact hPc, va_K.moved hW.alike hKc, hDc.weaken (fun _ _ _ _ => trivial)⟩⟩ rfl rfl hl.1 rfl (lv_room (Nat.le_of_ble_eq_true rfl)) dX2_erased_5 ⟨(Nat.zero_le _), (Nat.zero_le _)⟩) hS (fun q _ h => hFc q h) hFc (fun r_1 u t H locs ht hvm hw hB hz1 hk1 hS => ?_)
  have hw : tt_ec g pg = r_1 := hw.symm
  subst hw
  obtain ⟨hP1, hK1, hD1⟩ := hB
  rw [ht] at hP1
  obtain ⟨hP, hD⟩ := va_join (wr := [(qx, .inr (2, [.ref qf, .ref qp, .int pk, .int pl, .int ul, .int pw, .int hi, .int ta])), (qp, .inr (1, [.ref qf]))]) (w1 := [(qf, .inr (0, [.ref qb, .ref qe, .int od, .int ot, .int tm])), (qb, .inl (cA, 32, .inl b)), (qe, .inl (cE, 2, .inl g))]) hP hD [2, 3, 4] [0, 1] rfl rfl (by decide) (by decide) hk1 hFc hP1 hD1
  have hP : va_P (dC, dI) ttCl [(qx, .inr (2, [.ref qf, .ref qp, .int pk, .int pl, .int ul, .int pw, .int hi, .int ta])), (qp, .inr (1, [.ref qf])), (qf, .inr (0, [.ref qb, .ref qe, .int od, .int ot, .int tm])), (qb, .inl (cA, 32, .inl b)), (qe, .inl (cE, 2, .inl g))] H := hP
  have hD : va_D A [(qx, .inr (2, [.ref qf, .ref qp, .int pk, .int pl, .int ul, .int pw, .int hi, .int ta])), (qp, .inr (1, [.ref qf])), (qf, .inr (0, [.ref qb, .ref qe, .int od, .int ot, .int tm])), (qb, .inl (cA, 32, .inl b)), (qe, .inl (cE, 2, .inl g))] := hD
  have hP9 := hP.sub (ws' := [(qx, .inr (2, [.ref qf, .ref qp, .int pk, .int pl, .int ul, .int pw, .int hi, .int ta])), (qp, .inr (1, [.ref qf])), (qf, .inr (0, [.ref qb, .ref qe, .int od, .int ot, .int tm])), (qb, .inl (cA, 32, .inl b)), (qe, .inl (cE, 2, .inl g))]) [0, 1, 2, 3, 4] rfl
  have hD9 := hD.sub (ws' := [(qx, .inr (2, [.ref qf, .ref qp, .int pk, .int pl, .int ul, .int pw, .int hi, .int ta])), (qp, .inr (1, [.ref qf])), (qf, .inr (0, [.ref qb, .ref qe, .int od, .int ot, .int tm])), (qb, .inl (cA, 32, .inl b)), (qe, .inl (cE, 2, .inl g))]) [0, 1, 2, 3, 4] (by decide) rfl
  have hK9 := hK.sub (tys' := [(cA, .int), (cE, .int)]) [0, 1] rfl
  exact W.iret (v := tt_ec g pg) hx hb hr (fun t ht hW => ⟨⟨tt_ec g pg, (), rfl, rfl, by rw [ht]; exact hP9, va_K.moved hW.alike hK9, hD9⟩, hS.F ht⟩) hS.2.2 dX2_erased_8
