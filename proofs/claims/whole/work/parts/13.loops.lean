set_option maxHeartbeats 4000000 in
set_option maxRecDepth 100000 in
theorem c_P_pinTriesUsed (l : Launch) (dC : Nat → ClassId) (dI : Nat → Nat → Nat) (cA cE : ClassId) (qp qf qb qe : Nat) (sz : Nat) (b g : Nat → Int32) (od ot tm : Int32) : Met l yX1_pinTriesUsed wsX1_pinTriesUsed ({ frames := 3, cells := 0, slots := 0, locals := 64 }) (va_Pc [.ref qp] (fun U => U.heap.size = sz ∧ va_P (dC, dI) ttCl [(qp, .inr (1, [.ref qf])), (qf, .inr (0, [.ref qb, .ref qe, .int od, .int ot, .int tm])), (qb, .inl (cA, 32, .inl b)), (qe, .inl (cE, 2, .inl g))] U.heap ∧ va_K (dC, dI) ttCl [(cA, .int), (cE, .int)] U ∧ va_D (fun _ => True) [(qp, .inr (1, [.ref qf])), (qf, .inr (0, [.ref qb, .ref qe, .int od, .int ot, .int tm])), (qb, .inl (cA, 32, .inl b)), (qe, .inl (cE, 2, .inl g))])) (va_Qi (fun (r : Int32) (_ : Unit) => r = tt_pu b) (fun (_ : Unit) (t : State) => at_P dC dI cA cE (va_A [(qp, .inr (1, [.ref qf])), (qf, .inr (0, [.ref qb, .ref qe, .int od, .int ot, .int tm])), (qb, .inl (cA, 32, .inl b)), (qe, .inl (cE, 2, .inl g))] sz) qp qf qb qe (b, g, od, ot, tm) t) (va_A [(qp, .inr (1, [.ref qf])), (qf, .inr (0, [.ref qb, .ref qe, .int od, .int ot, .int tm])), (qb, .inl (cA, 32, .inl b)), (qe, .inl (cE, 2, .inl g))] sz)) 0 0 (va_A [(qp, .inr (1, [.ref qf])), (qf, .inr (0, [.ref qb, .ref qe, .int od, .int ot, .int tm])), (qb, .inl (cA, 32, .inl b)), (qe, .inl (cE, 2, .inl g))] sz) := by
  refine Met.ofW (cc := cX1_pinTriesUsed) (maxL := 5) (ret := (some .int)) (by decide) rfl ?_
  intro p e s m args below meth c s₁ B hml hv
  obtain ⟨rfl, hsz, hP, hK, hD0⟩ := hv
  have hx := B.exec
  have hb := B.bytes
  have hr := B.returns
  have hts := atoms_spec (ws := wsX1_pinTriesUsed) B.pre
  have hown : s.vm.findClass RX1 = some m.cls := findClass_of_methodNamed B.named
  have hlocks := B.notSynchronized
  subst hsz
  have hD := hD0.self (sz := s.heap.size)
  generalize hAe : va_A [(qp, .inr (1, [.ref qf])), (qf, .inr (0, [.ref qb, .ref qe, .int od, .int ot, .int tm])), (qb, .inl (cA, 32, .inl b)), (qe, .inl (cE, 2, .inl g))] s.heap.size = A at hD ⊢
  have hA : ∀ q : Nat, s.heap.size ≤ q → A q := fun q h => by rw [← hAe]; exact Or.inr h
  have hS : va_S A s.heap s.heap [] := va_S.rf
  have hP : va_P (dC, dI) ttCl [(qp, .inr (1, [.ref qf])), (qf, .inr (0, [.ref qb, .ref qe, .int od, .int ot, .int tm])), (qb, .inl (cA, 32, .inl b)), (qe, .inl (cE, 2, .inl g))] s.heap := hP
  have hl := lv_entry ([.ref qp]) (n := 5) (Nat.le_of_ble_eq_true rfl)
  rw [lg_entry_eq]
  generalize (lg_sl ([.ref qp]) ++ List.replicate (5 - (lg_sl ([.ref qp])).length) Slot.unset).toArray = ls at hl ⊢
  have hl : lv_has ls 5 [(0, .ref qp)] := hl
  refine lv_aload_n hx hb dX1_pinTriesUsed_0 rfl (lv_at hl 0 rfl) ?_
  have hPc := hP.sub (ws' := [(qp, .inr (1, [.ref qf])), (qf, .inr (0, [.ref qb, .ref qe, .int od, .int ot, .int tm])), (qb, .inl (cA, 32, .inl b)), (qe, .inl (cE, 2, .inl g))]) [0, 1, 2, 3] rfl
  have hDc := hD.sub (ws' := [(qp, .inr (1, [.ref qf])), (qf, .inr (0, [.ref qb, .ref qe, .int od, .int ot, .int tm])), (qb, .inl (cA, 32, .inl b)), (qe, .inl (cE, 2, .inl g))]) [0, 1, 2, 3] (by decide) rfl
  have hKc := hK.sub (tys' := [(cA, .int), (cE, .int)]) [0, 1] rfl
  have hFc := va_free (wc := [(qp, .inr (1, [.ref qf])), (qf, .inr (0, [.ref qb, .ref qe, .int od, .int ot, .int tm])), (qb, .inl (cA, 32, .inl b)), (qe, .inl (cE, 2, .inl g))]) hD hS hA [0, 1, 2, 3] rfl
  refine va_calli (va_runV (As := []) (rest := []) ⟨hx, hb, hml, hown, hts⟩ (c_P_active l dC dI cA cE qp qf qb qe s.heap.size b g od ot tm) (cwV 0 hts gX1_pinTriesUsed_X1_active rfl rfl rfl (by decide +kernel) ⟨Nat.le_of_ble_eq_true rfl, Nat.le_of_ble_eq_true rfl⟩) ⟨fun a U g mk q => by obtain ⟨q0, q1, qP, qK, qD⟩ := q; exact ⟨q0, q1, qP, va_K.moved (u := U) (U := U.calling g mk a) (Vm.Alike.refl U.vm) qK, qD⟩, va_recv hKc hPc (ci := 1) (q0 := 0) rfl rfl, fun U hU hW => ⟨rfl, by rw [hU], by rw [hU]; exact hPc, va_K.moved hW.alike hKc, hDc.weaken (fun _ _ _ _ => trivial)⟩⟩ rfl rfl hl.1 rfl (lv_room (Nat.le_of_ble_eq_true rfl)) dX1_pinTriesUsed_1 ⟨(Nat.zero_le _), (Nat.zero_le _)⟩) hS (fun q _ h => hFc q h) hFc (fun r_1 u t H locs ht hvm hw hB hz1 hk1 hS => ?_)
  have hw : tt_ac b = r_1 := hw.symm
  subst hw
  obtain ⟨hP1, hK1, hD1⟩ := hB
  rw [ht] at hP1
  obtain ⟨hP, hD⟩ := va_join (wr := []) (w1 := [(qp, .inr (1, [.ref qf])), (qf, .inr (0, [.ref qb, .ref qe, .int od, .int ot, .int tm])), (qb, .inl (cA, 32, .inl b)), (qe, .inl (cE, 2, .inl g))]) hP hD [0, 1, 2, 3] [] rfl rfl (by decide) (by decide) hk1 hFc hP1 hD1
  have hP : va_P (dC, dI) ttCl [(qp, .inr (1, [.ref qf])), (qf, .inr (0, [.ref qb, .ref qe, .int od, .int ot, .int tm])), (qb, .inl (cA, 32, .inl b)), (qe, .inl (cE, 2, .inl g))] H := hP
  have hD : va_D A [(qp, .inr (1, [.ref qf])), (qf, .inr (0, [.ref qb, .ref qe, .int od, .int ot, .int tm])), (qb, .inl (cA, 32, .inl b)), (qe, .inl (cE, 2, .inl g))] := hD
  refine lv_istore_n (lv' := [(1, .int (tt_ac b)), (0, .ref qp)]) hx hb dX1_pinTriesUsed_4 rfl hl (by decide) rfl (fun ls hl => ?_)
  refine lv_aload_n hx hb dX1_pinTriesUsed_5 rfl (lv_at hl 1 rfl) ?_
  refine va_get (D := (dC, dI)) (ci := 1) (v := .ref qf) (C := RX1) (T := TX1) (N := 1) hx hb hts (by decide +kernel) hown hK hP 0 rfl rfl 0 (by decide) (hts (.fieldLink RX1 7 "TornTryCounter$Pages" "flash" "LTornTryCounter$Flash;") (by decide +kernel)) (fun _ h9 => h9) rfl dX1_pinTriesUsed_6 ?_
  refine lv_iload_n hx hb dX1_pinTriesUsed_9 rfl (lv_at hl 0 rfl) ?_
  refine lv_iconst (v := 4) hx hb dX1_pinTriesUsed_10 (by decide) ?_
  have hPc := hP.sub (ws' := [(qf, .inr (0, [.ref qb, .ref qe, .int od, .int ot, .int tm])), (qb, .inl (cA, 32, .inl b)), (qe, .inl (cE, 2, .inl g))]) [1, 2, 3] rfl
  have hDc := hD.sub (ws' := [(qf, .inr (0, [.ref qb, .ref qe, .int od, .int ot, .int tm])), (qb, .inl (cA, 32, .inl b)), (qe, .inl (cE, 2, .inl g))]) [1, 2, 3] (by decide) rfl
  have hKc := hK.sub (tys' := [(cA, .int), (cE, .int)]) [0, 1] rfl
  have hFc := va_free (wc := [(qf, .inr (0, [.ref qb, .ref qe, .int od, .int ot, .int tm])), (qb, .inl (cA, 32, .inl b)), (qe, .inl (cE, 2, .inl g))]) hD hS hA [1, 2, 3] rfl
  refine va_calli (va_runV (As := [.int (tt_ac b), .int 4]) (rest := []) ⟨hx, hb, hml, hown, hts⟩ (c_F_read l dC dI cA cE qf qb qe H.size b g od ot tm (tt_ac b) 4) (cwV 2 hts gX1_pinTriesUsed_X0_read rfl rfl rfl (by decide +kernel) ⟨Nat.le_of_ble_eq_true rfl, Nat.le_of_ble_eq_true rfl⟩) ⟨fun a U g mk q => by obtain ⟨q0, q1, qP, qK, qD⟩ := q; exact ⟨q0, q1, qP, va_K.moved (u := U) (U := U.calling g mk a) (Vm.Alike.refl U.vm) qK, qD⟩, va_recv hKc hPc (ci := 0) (q0 := 0) rfl rfl, fun U hU hW => ⟨rfl, by rw [hU], by rw [hU]; exact hPc, va_K.moved hW.alike hKc, hDc.weaken (fun _ _ _ _ => trivial)⟩⟩ rfl rfl hl.1 rfl (lv_room (Nat.le_of_ble_eq_true rfl)) dX1_pinTriesUsed_11 ⟨(Nat.zero_le _), (Nat.zero_le _)⟩) hS (fun q _ h => hFc q h) hFc (fun r_2 u t H locs ht hvm hw hB hz1 hk1 hS => ?_)
  have hw : tt_rd b (tt_ac b) 4 = r_2 := hw.symm
  subst hw
  obtain ⟨hP1, hK1, hD1⟩ := hB
  rw [ht] at hP1
  obtain ⟨hP, hD⟩ := va_join (wr := [(qp, .inr (1, [.ref qf]))]) (w1 := [(qf, .inr (0, [.ref qb, .ref qe, .int od, .int ot, .int tm])), (qb, .inl (cA, 32, .inl b)), (qe, .inl (cE, 2, .inl g))]) hP hD [1, 2, 3] [0] rfl rfl (by decide) (by decide) hk1 hFc hP1 hD1
  have hP : va_P (dC, dI) ttCl [(qp, .inr (1, [.ref qf])), (qf, .inr (0, [.ref qb, .ref qe, .int od, .int ot, .int tm])), (qb, .inl (cA, 32, .inl b)), (qe, .inl (cE, 2, .inl g))] H := hP
  have hD : va_D A [(qp, .inr (1, [.ref qf])), (qf, .inr (0, [.ref qb, .ref qe, .int od, .int ot, .int tm])), (qb, .inl (cA, 32, .inl b)), (qe, .inl (cE, 2, .inl g))] := hD
  refine lv_istore_n (lv' := [(2, .int (tt_rd b (tt_ac b) 4)), (1, .int (tt_ac b)), (0, .ref qp)]) hx hb dX1_pinTriesUsed_14 rfl hl (by decide) rfl (fun ls hl => ?_)
  refine lv_bipush (v := 6) hx hb dX1_pinTriesUsed_15 (by decide) ?_
  refine lv_istore_n (lv' := [(3, .int 6), (2, .int (tt_rd b (tt_ac b) 4)), (1, .int (tt_ac b)), (0, .ref qp)]) hx hb dX1_pinTriesUsed_17 rfl hl (by decide) rfl (fun ls hl => ?_)
  refine W.widen (k := 0) (n := 0) (by omega) (by omega) ?_
  refine tt_rec (pc := 18) (I := fun n H locs ls => ∃ i : Nat, i + n = 10 ∧ va_P (dC, dI) ttCl [(qp, .inr (1, [.ref qf])), (qf, .inr (0, [.ref qb, .ref qe, .int od, .int ot, .int tm])), (qb, .inl (cA, 32, .inl b)), (qe, .inl (cE, 2, .inl g))] H ∧ va_D A [(qp, .inr (1, [.ref qf])), (qf, .inr (0, [.ref qb, .ref qe, .int od, .int ot, .int tm])), (qb, .inl (cA, 32, .inl b)), (qe, .inl (cE, 2, .inl g))] ∧ va_S A s.heap H locs ∧ lv_has ls 5 [(0, .ref qp), (1, .int (tt_ac b)), (2, .int (tt_pf (tt_rd b (tt_ac b) 4) (tt_en b (tt_ac b)) i)), (3, .int (nI (6 + i)))]) ?_ 10 ⟨0, rfl, hP, hD, hS, lv_sub hl [3, 2, 1, 0] rfl⟩
  intro n H locs ls ih hI
  obtain ⟨i, hi, hP, hD, hS, hl⟩ := hI
  refine lv_iload_n hx hb dX1_pinTriesUsed_18 rfl (lv_at hl 3 rfl) ?_
  refine lv_bipush (v := 16) hx hb dX1_pinTriesUsed_19 (by decide) ?_
  refine lv_icmp_ge (tgt := 63) hx hb dX1_pinTriesUsed_21 (by decide) (fun c_3 => ?_) (fun c_3 => ?_)
  · have hie : i = 10 := (tt_c10 i (by omega)).1 c_3
    refine lv_iload_n hx hb dX1_pinTriesUsed_63 rfl (lv_at hl 2 rfl) ?_
    have hP9 := hP.sub (ws' := [(qp, .inr (1, [.ref qf])), (qf, .inr (0, [.ref qb, .ref qe, .int od, .int ot, .int tm])), (qb, .inl (cA, 32, .inl b)), (qe, .inl (cE, 2, .inl g))]) [0, 1, 2, 3] rfl
    have hD9 := hD.sub (ws' := [(qp, .inr (1, [.ref qf])), (qf, .inr (0, [.ref qb, .ref qe, .int od, .int ot, .int tm])), (qb, .inl (cA, 32, .inl b)), (qe, .inl (cE, 2, .inl g))]) [0, 1, 2, 3] (by decide) rfl
    have hK9 := hK.sub (tys' := [(cA, .int), (cE, .int)]) [0, 1] rfl
    exact W.iret (v := tt_pf (tt_rd b (tt_ac b) 4) (tt_en b (tt_ac b)) i) hx hb hr (fun t ht hW => ⟨⟨tt_pf (tt_rd b (tt_ac b) 4) (tt_en b (tt_ac b)) i, (), rfl, (by first | (simp only [tt_pu, c_3, hie, reduceIte, eq_self]; done) | (simp [tt_pu, c_3, hie]; done)), by rw [ht]; exact hP9, va_K.moved hW.alike hK9, hD9⟩, hS.F ht⟩) hS.2.2 dX1_pinTriesUsed_64
  · have hlt : i < 10 := (tt_c10 i (by omega)).2 c_3
    refine lv_aload_n hx hb dX1_pinTriesUsed_24 rfl (lv_at hl 0 rfl) ?_
    refine va_get (D := (dC, dI)) (ci := 1) (v := .ref qf) (C := RX1) (T := TX1) (N := 1) hx hb hts (by decide +kernel) hown hK hP 0 rfl rfl 0 (by decide) (hts (.fieldLink RX1 7 "TornTryCounter$Pages" "flash" "LTornTryCounter$Flash;") (by decide +kernel)) (fun _ h9 => h9) rfl dX1_pinTriesUsed_25 ?_
    refine lv_iload_n hx hb dX1_pinTriesUsed_28 rfl (lv_at hl 1 rfl) ?_
    refine lv_iload_n hx hb dX1_pinTriesUsed_29 rfl (lv_at hl 3 rfl) ?_
    have hPc := hP.sub (ws' := [(qf, .inr (0, [.ref qb, .ref qe, .int od, .int ot, .int tm])), (qb, .inl (cA, 32, .inl b)), (qe, .inl (cE, 2, .inl g))]) [1, 2, 3] rfl
    have hDc := hD.sub (ws' := [(qf, .inr (0, [.ref qb, .ref qe, .int od, .int ot, .int tm])), (qb, .inl (cA, 32, .inl b)), (qe, .inl (cE, 2, .inl g))]) [1, 2, 3] (by decide) rfl
    have hKc := hK.sub (tys' := [(cA, .int), (cE, .int)]) [0, 1] rfl
    have hFc := va_free (wc := [(qf, .inr (0, [.ref qb, .ref qe, .int od, .int ot, .int tm])), (qb, .inl (cA, 32, .inl b)), (qe, .inl (cE, 2, .inl g))]) hD hS hA [1, 2, 3] rfl
    refine va_calli (va_runV (As := [.int (tt_ac b), .int (nI (6 + i))]) (rest := []) ⟨hx, hb, hml, hown, hts⟩ (c_F_read l dC dI cA cE qf qb qe H.size b g od ot tm (tt_ac b) (nI (6 + i))) (cwV 2 hts gX1_pinTriesUsed_X0_read rfl rfl rfl (by decide +kernel) ⟨Nat.le_of_ble_eq_true rfl, Nat.le_of_ble_eq_true rfl⟩) ⟨fun a U g mk q => by obtain ⟨q0, q1, qP, qK, qD⟩ := q; exact ⟨q0, q1, qP, va_K.moved (u := U) (U := U.calling g mk a) (Vm.Alike.refl U.vm) qK, qD⟩, va_recv hKc hPc (ci := 0) (q0 := 0) rfl rfl, fun U hU hW => ⟨rfl, by rw [hU], by rw [hU]; exact hPc, va_K.moved hW.alike hKc, hDc.weaken (fun _ _ _ _ => trivial)⟩⟩ rfl rfl hl.1 rfl (lv_room (Nat.le_of_ble_eq_true rfl)) dX1_pinTriesUsed_30 ⟨(Nat.zero_le _), (Nat.zero_le _)⟩) hS (fun q _ h => hFc q h) hFc (fun r_4 u t H locs ht hvm hw hB hz1 hk1 hS => ?_)
    have hw : tt_rd b (tt_ac b) (nI (6 + i)) = r_4 := hw.symm
    subst hw
    obtain ⟨hP1, hK1, hD1⟩ := hB
    rw [ht] at hP1
    obtain ⟨hP, hD⟩ := va_join (wr := [(qp, .inr (1, [.ref qf]))]) (w1 := [(qf, .inr (0, [.ref qb, .ref qe, .int od, .int ot, .int tm])), (qb, .inl (cA, 32, .inl b)), (qe, .inl (cE, 2, .inl g))]) hP hD [1, 2, 3] [0] rfl rfl (by decide) (by decide) hk1 hFc hP1 hD1
    have hP : va_P (dC, dI) ttCl [(qp, .inr (1, [.ref qf])), (qf, .inr (0, [.ref qb, .ref qe, .int od, .int ot, .int tm])), (qb, .inl (cA, 32, .inl b)), (qe, .inl (cE, 2, .inl g))] H := hP
    have hD : va_D A [(qp, .inr (1, [.ref qf])), (qf, .inr (0, [.ref qb, .ref qe, .int od, .int ot, .int tm])), (qb, .inl (cA, 32, .inl b)), (qe, .inl (cE, 2, .inl g))] := hD
    refine lv_istore (lv' := [(4, .int (tt_rd b (tt_ac b) (nI (6 + i)))), (0, .ref qp), (1, .int (tt_ac b)), (2, .int (tt_pf (tt_rd b (tt_ac b) 4) (tt_en b (tt_ac b)) i)), (3, .int (nI (6 + i)))]) hx hb dX1_pinTriesUsed_33 hl (by decide) rfl (fun ls hl => ?_)
    refine lv_iload hx hb dX1_pinTriesUsed_35 (lv_at hl 0 rfl) ?_
    refine lv_iconst (v := 1) hx hb dX1_pinTriesUsed_37 (by decide) ?_
    refine lv_iand hx hb dX1_pinTriesUsed_38 ?_
    refine lv_if_ne (tgt := 57) hx hb dX1_pinTriesUsed_39 (by decide) (fun c_5 => ?_) (fun c_5 => ?_)
    · refine lv_iinc (v := (nI (6 + i)) + 1) (lv' := [(3, .int ((nI (6 + i)) + 1)), (4, .int (tt_rd b (tt_ac b) (nI (6 + i)))), (0, .ref qp), (1, .int (tt_ac b)), (2, .int (tt_pf (tt_rd b (tt_ac b) 4) (tt_en b (tt_ac b)) i))]) hx hb dX1_pinTriesUsed_57 hl (k := 4) rfl rfl (by decide) rfl (fun ls hl => ?_)
      refine lv_goto (tgt := 18) hx hb dX1_pinTriesUsed_60 (by decide) ?_
      refine ih (n - 1) (by omega) _ _ _ ⟨i + 1, by omega, ?_, ?_, hS, ?_⟩
      · exact hP.sub [0, 1, 2, 3] rfl
      · exact hD.sub [0, 1, 2, 3] (by decide) rfl
      · rw [show tt_pf (tt_rd b (tt_ac b) 4) (tt_en b (tt_ac b)) (i + 1) = tt_pf (tt_rd b (tt_ac b) 4) (tt_en b (tt_ac b)) i from (by simp only [tt_pf, tt_ps, tt_en, c_3, c_5, reduceIte]), show nI (6 + (i + 1)) = (nI (6 + i)) + 1 from (nI_1 (6 + i)).symm]; exact lv_sub hl [2, 3, 4, 0] rfl
    · refine lv_iload hx hb dX1_pinTriesUsed_42 (lv_at hl 0 rfl) ?_
      refine lv_iconst (v := 2) hx hb dX1_pinTriesUsed_44 (by decide) ?_
      refine lv_iand hx hb dX1_pinTriesUsed_45 ?_
      refine lv_if_ne (tgt := 53) hx hb dX1_pinTriesUsed_46 (by decide) (fun c_6 => ?_) (fun c_6 => ?_)
      · refine lv_iload_n hx hb dX1_pinTriesUsed_53 rfl (lv_at hl 3 rfl) ?_
        refine lv_iconst (v := 1) hx hb dX1_pinTriesUsed_54 (by decide) ?_
        refine lv_iadd hx hb dX1_pinTriesUsed_55 ?_
        refine lv_istore_n (lv' := [(2, .int ((tt_pf (tt_rd b (tt_ac b) 4) (tt_en b (tt_ac b)) i) + 1)), (4, .int (tt_rd b (tt_ac b) (nI (6 + i)))), (0, .ref qp), (1, .int (tt_ac b)), (3, .int (nI (6 + i)))]) hx hb dX1_pinTriesUsed_56 rfl hl (by decide) rfl (fun ls hl => ?_)
        refine lv_iinc (v := (nI (6 + i)) + 1) (lv' := [(3, .int ((nI (6 + i)) + 1)), (2, .int ((tt_pf (tt_rd b (tt_ac b) 4) (tt_en b (tt_ac b)) i) + 1)), (4, .int (tt_rd b (tt_ac b) (nI (6 + i)))), (0, .ref qp), (1, .int (tt_ac b))]) hx hb dX1_pinTriesUsed_57 hl (k := 4) rfl rfl (by decide) rfl (fun ls hl => ?_)
        refine lv_goto (tgt := 18) hx hb dX1_pinTriesUsed_60 (by decide) ?_
        refine ih (n - 1) (by omega) _ _ _ ⟨i + 1, by omega, ?_, ?_, hS, ?_⟩
        · exact hP.sub [0, 1, 2, 3] rfl
        · exact hD.sub [0, 1, 2, 3] (by decide) rfl
        · rw [show tt_pf (tt_rd b (tt_ac b) 4) (tt_en b (tt_ac b)) (i + 1) = (tt_pf (tt_rd b (tt_ac b) 4) (tt_en b (tt_ac b)) i) + 1 from (by simp only [tt_pf, tt_ps, tt_en, c_3, c_5, c_6, reduceIte]), show nI (6 + (i + 1)) = (nI (6 + i)) + 1 from (nI_1 (6 + i)).symm]; exact lv_sub hl [3, 4, 1, 0] rfl
      · refine lv_iconst (v := 0) hx hb dX1_pinTriesUsed_49 (by decide) ?_
        refine lv_goto (tgt := 56) hx hb dX1_pinTriesUsed_50 (by decide) ?_
        refine lv_istore_n (lv' := [(2, .int 0), (4, .int (tt_rd b (tt_ac b) (nI (6 + i)))), (0, .ref qp), (1, .int (tt_ac b)), (3, .int (nI (6 + i)))]) hx hb dX1_pinTriesUsed_56 rfl hl (by decide) rfl (fun ls hl => ?_)
        refine lv_iinc (v := (nI (6 + i)) + 1) (lv' := [(3, .int ((nI (6 + i)) + 1)), (2, .int 0), (4, .int (tt_rd b (tt_ac b) (nI (6 + i)))), (0, .ref qp), (1, .int (tt_ac b))]) hx hb dX1_pinTriesUsed_57 hl (k := 4) rfl rfl (by decide) rfl (fun ls hl => ?_)
        refine lv_goto (tgt := 18) hx hb dX1_pinTriesUsed_60 (by decide) ?_
        refine ih (n - 1) (by omega) _ _ _ ⟨i + 1, by omega, ?_, ?_, hS, ?_⟩
        · exact hP.sub [0, 1, 2, 3] rfl
        · exact hD.sub [0, 1, 2, 3] (by decide) rfl
        · rw [show tt_pf (tt_rd b (tt_ac b) 4) (tt_en b (tt_ac b)) (i + 1) = 0 from (by simp only [tt_pf, tt_ps, tt_en, c_3, c_5, c_6, reduceIte]), show nI (6 + (i + 1)) = (nI (6 + i)) + 1 from (nI_1 (6 + i)).symm]; exact lv_sub hl [3, 4, 1, 0] rfl
set_option maxHeartbeats 4000000 in
set_option maxRecDepth 100000 in
theorem c_P_pukTriesUsed (l : Launch) (dC : Nat → ClassId) (dI : Nat → Nat → Nat) (cA cE : ClassId) (qp qf qb qe : Nat) (sz : Nat) (b g : Nat → Int32) (od ot tm : Int32) : Met l yX1_pukTriesUsed wsX1_pukTriesUsed ({ frames := 3, cells := 0, slots := 0, locals := 64 }) (va_Pc [.ref qp] (fun U => U.heap.size = sz ∧ va_P (dC, dI) ttCl [(qp, .inr (1, [.ref qf])), (qf, .inr (0, [.ref qb, .ref qe, .int od, .int ot, .int tm])), (qb, .inl (cA, 32, .inl b)), (qe, .inl (cE, 2, .inl g))] U.heap ∧ va_K (dC, dI) ttCl [(cA, .int), (cE, .int)] U ∧ va_D (fun _ => True) [(qp, .inr (1, [.ref qf])), (qf, .inr (0, [.ref qb, .ref qe, .int od, .int ot, .int tm])), (qb, .inl (cA, 32, .inl b)), (qe, .inl (cE, 2, .inl g))])) (va_Qi (fun (r : Int32) (_ : Unit) => r = tt_uu b) (fun (_ : Unit) (t : State) => at_P dC dI cA cE (va_A [(qp, .inr (1, [.ref qf])), (qf, .inr (0, [.ref qb, .ref qe, .int od, .int ot, .int tm])), (qb, .inl (cA, 32, .inl b)), (qe, .inl (cE, 2, .inl g))] sz) qp qf qb qe (b, g, od, ot, tm) t) (va_A [(qp, .inr (1, [.ref qf])), (qf, .inr (0, [.ref qb, .ref qe, .int od, .int ot, .int tm])), (qb, .inl (cA, 32, .inl b)), (qe, .inl (cE, 2, .inl g))] sz)) 0 0 (va_A [(qp, .inr (1, [.ref qf])), (qf, .inr (0, [.ref qb, .ref qe, .int od, .int ot, .int tm])), (qb, .inl (cA, 32, .inl b)), (qe, .inl (cE, 2, .inl g))] sz) := by
  refine Met.ofW (cc := cX1_pukTriesUsed) (maxL := 4) (ret := (some .int)) (by decide) rfl ?_
  intro p e s m args below meth c s₁ B hml hv
  obtain ⟨rfl, hsz, hP, hK, hD0⟩ := hv
  have hx := B.exec
  have hb := B.bytes
  have hr := B.returns
  have hts := atoms_spec (ws := wsX1_pukTriesUsed) B.pre
  have hown : s.vm.findClass RX1 = some m.cls := findClass_of_methodNamed B.named
  have hlocks := B.notSynchronized
  subst hsz
  have hD := hD0.self (sz := s.heap.size)
  generalize hAe : va_A [(qp, .inr (1, [.ref qf])), (qf, .inr (0, [.ref qb, .ref qe, .int od, .int ot, .int tm])), (qb, .inl (cA, 32, .inl b)), (qe, .inl (cE, 2, .inl g))] s.heap.size = A at hD ⊢
  have hA : ∀ q : Nat, s.heap.size ≤ q → A q := fun q h => by rw [← hAe]; exact Or.inr h
  have hS : va_S A s.heap s.heap [] := va_S.rf
  have hP : va_P (dC, dI) ttCl [(qp, .inr (1, [.ref qf])), (qf, .inr (0, [.ref qb, .ref qe, .int od, .int ot, .int tm])), (qb, .inl (cA, 32, .inl b)), (qe, .inl (cE, 2, .inl g))] s.heap := hP
  have hl := lv_entry ([.ref qp]) (n := 4) (Nat.le_of_ble_eq_true rfl)
  rw [lg_entry_eq]
  generalize (lg_sl ([.ref qp]) ++ List.replicate (4 - (lg_sl ([.ref qp])).length) Slot.unset).toArray = ls at hl ⊢
  have hl : lv_has ls 4 [(0, .ref qp)] := hl
  refine lv_aload_n hx hb dX1_pukTriesUsed_0 rfl (lv_at hl 0 rfl) ?_
  have hPc := hP.sub (ws' := [(qp, .inr (1, [.ref qf])), (qf, .inr (0, [.ref qb, .ref qe, .int od, .int ot, .int tm])), (qb, .inl (cA, 32, .inl b)), (qe, .inl (cE, 2, .inl g))]) [0, 1, 2, 3] rfl
  have hDc := hD.sub (ws' := [(qp, .inr (1, [.ref qf])), (qf, .inr (0, [.ref qb, .ref qe, .int od, .int ot, .int tm])), (qb, .inl (cA, 32, .inl b)), (qe, .inl (cE, 2, .inl g))]) [0, 1, 2, 3] (by decide) rfl
  have hKc := hK.sub (tys' := [(cA, .int), (cE, .int)]) [0, 1] rfl
  have hFc := va_free (wc := [(qp, .inr (1, [.ref qf])), (qf, .inr (0, [.ref qb, .ref qe, .int od, .int ot, .int tm])), (qb, .inl (cA, 32, .inl b)), (qe, .inl (cE, 2, .inl g))]) hD hS hA [0, 1, 2, 3] rfl
  refine va_calli (va_runV (As := []) (rest := []) ⟨hx, hb, hml, hown, hts⟩ (c_P_active l dC dI cA cE qp qf qb qe s.heap.size b g od ot tm) (cwV 0 hts gX1_pukTriesUsed_X1_active rfl rfl rfl (by decide +kernel) ⟨Nat.le_of_ble_eq_true rfl, Nat.le_of_ble_eq_true rfl⟩) ⟨fun a U g mk q => by obtain ⟨q0, q1, qP, qK, qD⟩ := q; exact ⟨q0, q1, qP, va_K.moved (u := U) (U := U.calling g mk a) (Vm.Alike.refl U.vm) qK, qD⟩, va_recv hKc hPc (ci := 1) (q0 := 0) rfl rfl, fun U hU hW => ⟨rfl, by rw [hU], by rw [hU]; exact hPc, va_K.moved hW.alike hKc, hDc.weaken (fun _ _ _ _ => trivial)⟩⟩ rfl rfl hl.1 rfl (lv_room (Nat.le_of_ble_eq_true rfl)) dX1_pukTriesUsed_1 ⟨(Nat.zero_le _), (Nat.zero_le _)⟩) hS (fun q _ h => hFc q h) hFc (fun r_1 u t H locs ht hvm hw hB hz1 hk1 hS => ?_)
  have hw : tt_ac b = r_1 := hw.symm
  subst hw
  obtain ⟨hP1, hK1, hD1⟩ := hB
  rw [ht] at hP1
  obtain ⟨hP, hD⟩ := va_join (wr := []) (w1 := [(qp, .inr (1, [.ref qf])), (qf, .inr (0, [.ref qb, .ref qe, .int od, .int ot, .int tm])), (qb, .inl (cA, 32, .inl b)), (qe, .inl (cE, 2, .inl g))]) hP hD [0, 1, 2, 3] [] rfl rfl (by decide) (by decide) hk1 hFc hP1 hD1
  have hP : va_P (dC, dI) ttCl [(qp, .inr (1, [.ref qf])), (qf, .inr (0, [.ref qb, .ref qe, .int od, .int ot, .int tm])), (qb, .inl (cA, 32, .inl b)), (qe, .inl (cE, 2, .inl g))] H := hP
  have hD : va_D A [(qp, .inr (1, [.ref qf])), (qf, .inr (0, [.ref qb, .ref qe, .int od, .int ot, .int tm])), (qb, .inl (cA, 32, .inl b)), (qe, .inl (cE, 2, .inl g))] := hD
  refine lv_istore_n (lv' := [(1, .int (tt_ac b)), (0, .ref qp)]) hx hb dX1_pukTriesUsed_4 rfl hl (by decide) rfl (fun ls hl => ?_)
  refine lv_aload_n hx hb dX1_pukTriesUsed_5 rfl (lv_at hl 1 rfl) ?_
  refine va_get (D := (dC, dI)) (ci := 1) (v := .ref qf) (C := RX1) (T := TX1) (N := 1) hx hb hts (by decide +kernel) hown hK hP 0 rfl rfl 0 (by decide) (hts (.fieldLink RX1 7 "TornTryCounter$Pages" "flash" "LTornTryCounter$Flash;") (by decide +kernel)) (fun _ h9 => h9) rfl dX1_pukTriesUsed_6 ?_
  refine lv_iload_n hx hb dX1_pukTriesUsed_9 rfl (lv_at hl 0 rfl) ?_
  refine lv_iconst (v := 5) hx hb dX1_pukTriesUsed_10 (by decide) ?_
  have hPc := hP.sub (ws' := [(qf, .inr (0, [.ref qb, .ref qe, .int od, .int ot, .int tm])), (qb, .inl (cA, 32, .inl b)), (qe, .inl (cE, 2, .inl g))]) [1, 2, 3] rfl
  have hDc := hD.sub (ws' := [(qf, .inr (0, [.ref qb, .ref qe, .int od, .int ot, .int tm])), (qb, .inl (cA, 32, .inl b)), (qe, .inl (cE, 2, .inl g))]) [1, 2, 3] (by decide) rfl
  have hKc := hK.sub (tys' := [(cA, .int), (cE, .int)]) [0, 1] rfl
  have hFc := va_free (wc := [(qf, .inr (0, [.ref qb, .ref qe, .int od, .int ot, .int tm])), (qb, .inl (cA, 32, .inl b)), (qe, .inl (cE, 2, .inl g))]) hD hS hA [1, 2, 3] rfl
  refine va_calli (va_runV (As := [.int (tt_ac b), .int 5]) (rest := []) ⟨hx, hb, hml, hown, hts⟩ (c_F_read l dC dI cA cE qf qb qe H.size b g od ot tm (tt_ac b) 5) (cwV 2 hts gX1_pukTriesUsed_X0_read rfl rfl rfl (by decide +kernel) ⟨Nat.le_of_ble_eq_true rfl, Nat.le_of_ble_eq_true rfl⟩) ⟨fun a U g mk q => by obtain ⟨q0, q1, qP, qK, qD⟩ := q; exact ⟨q0, q1, qP, va_K.moved (u := U) (U := U.calling g mk a) (Vm.Alike.refl U.vm) qK, qD⟩, va_recv hKc hPc (ci := 0) (q0 := 0) rfl rfl, fun U hU hW => ⟨rfl, by rw [hU], by rw [hU]; exact hPc, va_K.moved hW.alike hKc, hDc.weaken (fun _ _ _ _ => trivial)⟩⟩ rfl rfl hl.1 rfl (lv_room (Nat.le_of_ble_eq_true rfl)) dX1_pukTriesUsed_11 ⟨(Nat.zero_le _), (Nat.zero_le _)⟩) hS (fun q _ h => hFc q h) hFc (fun r_2 u t H locs ht hvm hw hB hz1 hk1 hS => ?_)
  have hw : tt_rd b (tt_ac b) 5 = r_2 := hw.symm
  subst hw
  obtain ⟨hP1, hK1, hD1⟩ := hB
  rw [ht] at hP1
  obtain ⟨hP, hD⟩ := va_join (wr := [(qp, .inr (1, [.ref qf]))]) (w1 := [(qf, .inr (0, [.ref qb, .ref qe, .int od, .int ot, .int tm])), (qb, .inl (cA, 32, .inl b)), (qe, .inl (cE, 2, .inl g))]) hP hD [1, 2, 3] [0] rfl rfl (by decide) (by decide) hk1 hFc hP1 hD1
  have hP : va_P (dC, dI) ttCl [(qp, .inr (1, [.ref qf])), (qf, .inr (0, [.ref qb, .ref qe, .int od, .int ot, .int tm])), (qb, .inl (cA, 32, .inl b)), (qe, .inl (cE, 2, .inl g))] H := hP
  have hD : va_D A [(qp, .inr (1, [.ref qf])), (qf, .inr (0, [.ref qb, .ref qe, .int od, .int ot, .int tm])), (qb, .inl (cA, 32, .inl b)), (qe, .inl (cE, 2, .inl g))] := hD
  refine lv_istore_n (lv' := [(2, .int (tt_rd b (tt_ac b) 5)), (1, .int (tt_ac b)), (0, .ref qp)]) hx hb dX1_pukTriesUsed_14 rfl hl (by decide) rfl (fun ls hl => ?_)
  refine lv_bipush (v := 6) hx hb dX1_pukTriesUsed_15 (by decide) ?_
  refine lv_istore_n (lv' := [(3, .int 6), (2, .int (tt_rd b (tt_ac b) 5)), (1, .int (tt_ac b)), (0, .ref qp)]) hx hb dX1_pukTriesUsed_17 rfl hl (by decide) rfl (fun ls hl => ?_)
  refine W.widen (k := 0) (n := 0) (by omega) (by omega) ?_
  refine tt_rec (pc := 18) (I := fun n H locs ls => ∃ i : Nat, i + n = 10 ∧ va_P (dC, dI) ttCl [(qp, .inr (1, [.ref qf])), (qf, .inr (0, [.ref qb, .ref qe, .int od, .int ot, .int tm])), (qb, .inl (cA, 32, .inl b)), (qe, .inl (cE, 2, .inl g))] H ∧ va_D A [(qp, .inr (1, [.ref qf])), (qf, .inr (0, [.ref qb, .ref qe, .int od, .int ot, .int tm])), (qb, .inl (cA, 32, .inl b)), (qe, .inl (cE, 2, .inl g))] ∧ va_S A s.heap H locs ∧ lv_has ls 4 [(0, .ref qp), (1, .int (tt_ac b)), (2, .int (tt_uf (tt_rd b (tt_ac b) 5) (tt_en b (tt_ac b)) i)), (3, .int (nI (6 + i)))]) ?_ 10 ⟨0, rfl, hP, hD, hS, lv_sub hl [3, 2, 1, 0] rfl⟩
  intro n H locs ls ih hI
  obtain ⟨i, hi, hP, hD, hS, hl⟩ := hI
  refine lv_iload_n hx hb dX1_pukTriesUsed_18 rfl (lv_at hl 3 rfl) ?_
  refine lv_bipush (v := 16) hx hb dX1_pukTriesUsed_19 (by decide) ?_
  refine lv_icmp_ge (tgt := 48) hx hb dX1_pukTriesUsed_21 (by decide) (fun c_3 => ?_) (fun c_3 => ?_)
  · have hie : i = 10 := (tt_c10 i (by omega)).1 c_3
    refine lv_iload_n hx hb dX1_pukTriesUsed_48 rfl (lv_at hl 2 rfl) ?_
    have hP9 := hP.sub (ws' := [(qp, .inr (1, [.ref qf])), (qf, .inr (0, [.ref qb, .ref qe, .int od, .int ot, .int tm])), (qb, .inl (cA, 32, .inl b)), (qe, .inl (cE, 2, .inl g))]) [0, 1, 2, 3] rfl
    have hD9 := hD.sub (ws' := [(qp, .inr (1, [.ref qf])), (qf, .inr (0, [.ref qb, .ref qe, .int od, .int ot, .int tm])), (qb, .inl (cA, 32, .inl b)), (qe, .inl (cE, 2, .inl g))]) [0, 1, 2, 3] (by decide) rfl
    have hK9 := hK.sub (tys' := [(cA, .int), (cE, .int)]) [0, 1] rfl
    exact W.iret (v := tt_uf (tt_rd b (tt_ac b) 5) (tt_en b (tt_ac b)) i) hx hb hr (fun t ht hW => ⟨⟨tt_uf (tt_rd b (tt_ac b) 5) (tt_en b (tt_ac b)) i, (), rfl, (by first | (simp only [tt_uu, c_3, hie, reduceIte, eq_self]; done) | (simp [tt_uu, c_3, hie]; done)), by rw [ht]; exact hP9, va_K.moved hW.alike hK9, hD9⟩, hS.F ht⟩) hS.2.2 dX1_pukTriesUsed_49
  · have hlt : i < 10 := (tt_c10 i (by omega)).2 c_3
    refine lv_aload_n hx hb dX1_pukTriesUsed_24 rfl (lv_at hl 0 rfl) ?_
    refine va_get (D := (dC, dI)) (ci := 1) (v := .ref qf) (C := RX1) (T := TX1) (N := 1) hx hb hts (by decide +kernel) hown hK hP 0 rfl rfl 0 (by decide) (hts (.fieldLink RX1 7 "TornTryCounter$Pages" "flash" "LTornTryCounter$Flash;") (by decide +kernel)) (fun _ h9 => h9) rfl dX1_pukTriesUsed_25 ?_
    refine lv_iload_n hx hb dX1_pukTriesUsed_28 rfl (lv_at hl 1 rfl) ?_
    refine lv_iload_n hx hb dX1_pukTriesUsed_29 rfl (lv_at hl 3 rfl) ?_
    have hPc := hP.sub (ws' := [(qf, .inr (0, [.ref qb, .ref qe, .int od, .int ot, .int tm])), (qb, .inl (cA, 32, .inl b)), (qe, .inl (cE, 2, .inl g))]) [1, 2, 3] rfl
    have hDc := hD.sub (ws' := [(qf, .inr (0, [.ref qb, .ref qe, .int od, .int ot, .int tm])), (qb, .inl (cA, 32, .inl b)), (qe, .inl (cE, 2, .inl g))]) [1, 2, 3] (by decide) rfl
    have hKc := hK.sub (tys' := [(cA, .int), (cE, .int)]) [0, 1] rfl
    have hFc := va_free (wc := [(qf, .inr (0, [.ref qb, .ref qe, .int od, .int ot, .int tm])), (qb, .inl (cA, 32, .inl b)), (qe, .inl (cE, 2, .inl g))]) hD hS hA [1, 2, 3] rfl
    refine va_calli (va_runV (As := [.int (tt_ac b), .int (nI (6 + i))]) (rest := []) ⟨hx, hb, hml, hown, hts⟩ (c_F_read l dC dI cA cE qf qb qe H.size b g od ot tm (tt_ac b) (nI (6 + i))) (cwV 2 hts gX1_pukTriesUsed_X0_read rfl rfl rfl (by decide +kernel) ⟨Nat.le_of_ble_eq_true rfl, Nat.le_of_ble_eq_true rfl⟩) ⟨fun a U g mk q => by obtain ⟨q0, q1, qP, qK, qD⟩ := q; exact ⟨q0, q1, qP, va_K.moved (u := U) (U := U.calling g mk a) (Vm.Alike.refl U.vm) qK, qD⟩, va_recv hKc hPc (ci := 0) (q0 := 0) rfl rfl, fun U hU hW => ⟨rfl, by rw [hU], by rw [hU]; exact hPc, va_K.moved hW.alike hKc, hDc.weaken (fun _ _ _ _ => trivial)⟩⟩ rfl rfl hl.1 rfl (lv_room (Nat.le_of_ble_eq_true rfl)) dX1_pukTriesUsed_30 ⟨(Nat.zero_le _), (Nat.zero_le _)⟩) hS (fun q _ h => hFc q h) hFc (fun r_4 u t H locs ht hvm hw hB hz1 hk1 hS => ?_)
    have hw : tt_rd b (tt_ac b) (nI (6 + i)) = r_4 := hw.symm
    subst hw
    obtain ⟨hP1, hK1, hD1⟩ := hB
    rw [ht] at hP1
    obtain ⟨hP, hD⟩ := va_join (wr := [(qp, .inr (1, [.ref qf]))]) (w1 := [(qf, .inr (0, [.ref qb, .ref qe, .int od, .int ot, .int tm])), (qb, .inl (cA, 32, .inl b)), (qe, .inl (cE, 2, .inl g))]) hP hD [1, 2, 3] [0] rfl rfl (by decide) (by decide) hk1 hFc hP1 hD1
    have hP : va_P (dC, dI) ttCl [(qp, .inr (1, [.ref qf])), (qf, .inr (0, [.ref qb, .ref qe, .int od, .int ot, .int tm])), (qb, .inl (cA, 32, .inl b)), (qe, .inl (cE, 2, .inl g))] H := hP
    have hD : va_D A [(qp, .inr (1, [.ref qf])), (qf, .inr (0, [.ref qb, .ref qe, .int od, .int ot, .int tm])), (qb, .inl (cA, 32, .inl b)), (qe, .inl (cE, 2, .inl g))] := hD
    refine lv_bipush (v := 16) hx hb dX1_pukTriesUsed_33 (by decide) ?_
    refine lv_iand hx hb dX1_pukTriesUsed_35 ?_
    refine lv_if_ne (tgt := 42) hx hb dX1_pukTriesUsed_36 (by decide) (fun c_5 => ?_) (fun c_5 => ?_)
    · refine lv_iinc (v := (nI (6 + i)) + 1) (lv' := [(3, .int ((nI (6 + i)) + 1)), (0, .ref qp), (1, .int (tt_ac b)), (2, .int (tt_uf (tt_rd b (tt_ac b) 5) (tt_en b (tt_ac b)) i))]) hx hb dX1_pukTriesUsed_42 hl (k := 3) rfl rfl (by decide) rfl (fun ls hl => ?_)
      refine lv_goto (tgt := 18) hx hb dX1_pukTriesUsed_45 (by decide) ?_
      refine ih (n - 1) (by omega) _ _ _ ⟨i + 1, by omega, ?_, ?_, hS, ?_⟩
      · exact hP.sub [0, 1, 2, 3] rfl
      · exact hD.sub [0, 1, 2, 3] (by decide) rfl
      · rw [show tt_uf (tt_rd b (tt_ac b) 5) (tt_en b (tt_ac b)) (i + 1) = tt_uf (tt_rd b (tt_ac b) 5) (tt_en b (tt_ac b)) i from (by simp only [tt_uf, tt_us, tt_en, c_3, c_5, reduceIte]), show nI (6 + (i + 1)) = (nI (6 + i)) + 1 from (nI_1 (6 + i)).symm]; exact lv_sub hl [1, 2, 3, 0] rfl
    · refine lv_iinc (v := (tt_uf (tt_rd b (tt_ac b) 5) (tt_en b (tt_ac b)) i) + 1) (lv' := [(2, .int ((tt_uf (tt_rd b (tt_ac b) 5) (tt_en b (tt_ac b)) i) + 1)), (0, .ref qp), (1, .int (tt_ac b)), (3, .int (nI (6 + i)))]) hx hb dX1_pukTriesUsed_39 hl (k := 2) rfl rfl (by decide) rfl (fun ls hl => ?_)
      refine lv_iinc (v := (nI (6 + i)) + 1) (lv' := [(3, .int ((nI (6 + i)) + 1)), (2, .int ((tt_uf (tt_rd b (tt_ac b) 5) (tt_en b (tt_ac b)) i) + 1)), (0, .ref qp), (1, .int (tt_ac b))]) hx hb dX1_pukTriesUsed_42 hl (k := 3) rfl rfl (by decide) rfl (fun ls hl => ?_)
      refine lv_goto (tgt := 18) hx hb dX1_pukTriesUsed_45 (by decide) ?_
      refine ih (n - 1) (by omega) _ _ _ ⟨i + 1, by omega, ?_, ?_, hS, ?_⟩
      · exact hP.sub [0, 1, 2, 3] rfl
      · exact hD.sub [0, 1, 2, 3] (by decide) rfl
      · rw [show tt_uf (tt_rd b (tt_ac b) 5) (tt_en b (tt_ac b)) (i + 1) = (tt_uf (tt_rd b (tt_ac b) 5) (tt_en b (tt_ac b)) i) + 1 from (by simp only [tt_uf, tt_us, tt_en, c_3, c_5, reduceIte]), show nI (6 + (i + 1)) = (nI (6 + i)) + 1 from (nI_1 (6 + i)).symm]; exact lv_sub hl [2, 3, 1, 0] rfl
set_option maxHeartbeats 4000000 in
set_option maxRecDepth 100000 in
theorem c_P_freeEntries (l : Launch) (dC : Nat → ClassId) (dI : Nat → Nat → Nat) (cA cE : ClassId) (qp qf qb qe : Nat) (sz : Nat) (b g : Nat → Int32) (od ot tm : Int32) : Met l yX1_freeEntries wsX1_freeEntries ({ frames := 3, cells := 0, slots := 0, locals := 64 }) (va_Pc [.ref qp] (fun U => U.heap.size = sz ∧ va_P (dC, dI) ttCl [(qp, .inr (1, [.ref qf])), (qf, .inr (0, [.ref qb, .ref qe, .int od, .int ot, .int tm])), (qb, .inl (cA, 32, .inl b)), (qe, .inl (cE, 2, .inl g))] U.heap ∧ va_K (dC, dI) ttCl [(cA, .int), (cE, .int)] U ∧ va_D (fun _ => True) [(qp, .inr (1, [.ref qf])), (qf, .inr (0, [.ref qb, .ref qe, .int od, .int ot, .int tm])), (qb, .inl (cA, 32, .inl b)), (qe, .inl (cE, 2, .inl g))])) (va_Qi (fun (r : Int32) (_ : Unit) => r = tt_fe b) (fun (_ : Unit) (t : State) => at_P dC dI cA cE (va_A [(qp, .inr (1, [.ref qf])), (qf, .inr (0, [.ref qb, .ref qe, .int od, .int ot, .int tm])), (qb, .inl (cA, 32, .inl b)), (qe, .inl (cE, 2, .inl g))] sz) qp qf qb qe (b, g, od, ot, tm) t) (va_A [(qp, .inr (1, [.ref qf])), (qf, .inr (0, [.ref qb, .ref qe, .int od, .int ot, .int tm])), (qb, .inl (cA, 32, .inl b)), (qe, .inl (cE, 2, .inl g))] sz)) 0 0 (va_A [(qp, .inr (1, [.ref qf])), (qf, .inr (0, [.ref qb, .ref qe, .int od, .int ot, .int tm])), (qb, .inl (cA, 32, .inl b)), (qe, .inl (cE, 2, .inl g))] sz) := by
  refine Met.ofW (cc := cX1_freeEntries) (maxL := 4) (ret := (some .int)) (by decide) rfl ?_
  intro p e s m args below meth c s₁ B hml hv
  obtain ⟨rfl, hsz, hP, hK, hD0⟩ := hv
  have hx := B.exec
  have hb := B.bytes
  have hr := B.returns
  have hts := atoms_spec (ws := wsX1_freeEntries) B.pre
  have hown : s.vm.findClass RX1 = some m.cls := findClass_of_methodNamed B.named
  have hlocks := B.notSynchronized
  subst hsz
  have hD := hD0.self (sz := s.heap.size)
  generalize hAe : va_A [(qp, .inr (1, [.ref qf])), (qf, .inr (0, [.ref qb, .ref qe, .int od, .int ot, .int tm])), (qb, .inl (cA, 32, .inl b)), (qe, .inl (cE, 2, .inl g))] s.heap.size = A at hD ⊢
  have hA : ∀ q : Nat, s.heap.size ≤ q → A q := fun q h => by rw [← hAe]; exact Or.inr h
  have hS : va_S A s.heap s.heap [] := va_S.rf
  have hP : va_P (dC, dI) ttCl [(qp, .inr (1, [.ref qf])), (qf, .inr (0, [.ref qb, .ref qe, .int od, .int ot, .int tm])), (qb, .inl (cA, 32, .inl b)), (qe, .inl (cE, 2, .inl g))] s.heap := hP
  have hl := lv_entry ([.ref qp]) (n := 4) (Nat.le_of_ble_eq_true rfl)
  rw [lg_entry_eq]
  generalize (lg_sl ([.ref qp]) ++ List.replicate (4 - (lg_sl ([.ref qp])).length) Slot.unset).toArray = ls at hl ⊢
  have hl : lv_has ls 4 [(0, .ref qp)] := hl
  refine lv_aload_n hx hb dX1_freeEntries_0 rfl (lv_at hl 0 rfl) ?_
  have hPc := hP.sub (ws' := [(qp, .inr (1, [.ref qf])), (qf, .inr (0, [.ref qb, .ref qe, .int od, .int ot, .int tm])), (qb, .inl (cA, 32, .inl b)), (qe, .inl (cE, 2, .inl g))]) [0, 1, 2, 3] rfl
  have hDc := hD.sub (ws' := [(qp, .inr (1, [.ref qf])), (qf, .inr (0, [.ref qb, .ref qe, .int od, .int ot, .int tm])), (qb, .inl (cA, 32, .inl b)), (qe, .inl (cE, 2, .inl g))]) [0, 1, 2, 3] (by decide) rfl
  have hKc := hK.sub (tys' := [(cA, .int), (cE, .int)]) [0, 1] rfl
  have hFc := va_free (wc := [(qp, .inr (1, [.ref qf])), (qf, .inr (0, [.ref qb, .ref qe, .int od, .int ot, .int tm])), (qb, .inl (cA, 32, .inl b)), (qe, .inl (cE, 2, .inl g))]) hD hS hA [0, 1, 2, 3] rfl
  refine va_calli (va_runV (As := []) (rest := []) ⟨hx, hb, hml, hown, hts⟩ (c_P_active l dC dI cA cE qp qf qb qe s.heap.size b g od ot tm) (cwV 0 hts gX1_freeEntries_X1_active rfl rfl rfl (by decide +kernel) ⟨Nat.le_of_ble_eq_true rfl, Nat.le_of_ble_eq_true rfl⟩) ⟨fun a U g mk q => by obtain ⟨q0, q1, qP, qK, qD⟩ := q; exact ⟨q0, q1, qP, va_K.moved (u := U) (U := U.calling g mk a) (Vm.Alike.refl U.vm) qK, qD⟩, va_recv hKc hPc (ci := 1) (q0 := 0) rfl rfl, fun U hU hW => ⟨rfl, by rw [hU], by rw [hU]; exact hPc, va_K.moved hW.alike hKc, hDc.weaken (fun _ _ _ _ => trivial)⟩⟩ rfl rfl hl.1 rfl (lv_room (Nat.le_of_ble_eq_true rfl)) dX1_freeEntries_1 ⟨(Nat.zero_le _), (Nat.zero_le _)⟩) hS (fun q _ h => hFc q h) hFc (fun r_1 u t H locs ht hvm hw hB hz1 hk1 hS => ?_)
  have hw : tt_ac b = r_1 := hw.symm
  subst hw
  obtain ⟨hP1, hK1, hD1⟩ := hB
  rw [ht] at hP1
  obtain ⟨hP, hD⟩ := va_join (wr := []) (w1 := [(qp, .inr (1, [.ref qf])), (qf, .inr (0, [.ref qb, .ref qe, .int od, .int ot, .int tm])), (qb, .inl (cA, 32, .inl b)), (qe, .inl (cE, 2, .inl g))]) hP hD [0, 1, 2, 3] [] rfl rfl (by decide) (by decide) hk1 hFc hP1 hD1
  have hP : va_P (dC, dI) ttCl [(qp, .inr (1, [.ref qf])), (qf, .inr (0, [.ref qb, .ref qe, .int od, .int ot, .int tm])), (qb, .inl (cA, 32, .inl b)), (qe, .inl (cE, 2, .inl g))] H := hP
  have hD : va_D A [(qp, .inr (1, [.ref qf])), (qf, .inr (0, [.ref qb, .ref qe, .int od, .int ot, .int tm])), (qb, .inl (cA, 32, .inl b)), (qe, .inl (cE, 2, .inl g))] := hD
  refine lv_istore_n (lv' := [(1, .int (tt_ac b)), (0, .ref qp)]) hx hb dX1_freeEntries_4 rfl hl (by decide) rfl (fun ls hl => ?_)
  refine lv_iconst (v := 0) hx hb dX1_freeEntries_5 (by decide) ?_
  refine lv_istore_n (lv' := [(2, .int 0), (1, .int (tt_ac b)), (0, .ref qp)]) hx hb dX1_freeEntries_6 rfl hl (by decide) rfl (fun ls hl => ?_)
  refine lv_bipush (v := 6) hx hb dX1_freeEntries_7 (by decide) ?_
  refine lv_istore_n (lv' := [(3, .int 6), (2, .int 0), (1, .int (tt_ac b)), (0, .ref qp)]) hx hb dX1_freeEntries_9 rfl hl (by decide) rfl (fun ls hl => ?_)
  refine W.widen (k := 0) (n := 0) (by omega) (by omega) ?_
  refine tt_rec (pc := 10) (I := fun n H locs ls => ∃ i : Nat, i + n = 10 ∧ va_P (dC, dI) ttCl [(qp, .inr (1, [.ref qf])), (qf, .inr (0, [.ref qb, .ref qe, .int od, .int ot, .int tm])), (qb, .inl (cA, 32, .inl b)), (qe, .inl (cE, 2, .inl g))] H ∧ va_D A [(qp, .inr (1, [.ref qf])), (qf, .inr (0, [.ref qb, .ref qe, .int od, .int ot, .int tm])), (qb, .inl (cA, 32, .inl b)), (qe, .inl (cE, 2, .inl g))] ∧ va_S A s.heap H locs ∧ lv_has ls 4 [(0, .ref qp), (1, .int (tt_ac b)), (2, .int (tt_ff 0 (tt_en b (tt_ac b)) i)), (3, .int (nI (6 + i)))]) ?_ 10 ⟨0, rfl, hP, hD, hS, lv_sub hl [3, 2, 1, 0] rfl⟩
  intro n H locs ls ih hI
  obtain ⟨i, hi, hP, hD, hS, hl⟩ := hI
  refine lv_iload_n hx hb dX1_freeEntries_10 rfl (lv_at hl 3 rfl) ?_
  refine lv_bipush (v := 16) hx hb dX1_freeEntries_11 (by decide) ?_
  refine lv_icmp_ge (tgt := 40) hx hb dX1_freeEntries_13 (by decide) (fun c_2 => ?_) (fun c_2 => ?_)
  · have hie : i = 10 := (tt_c10 i (by omega)).1 c_2
    refine lv_iload_n hx hb dX1_freeEntries_40 rfl (lv_at hl 2 rfl) ?_
    have hP9 := hP.sub (ws' := [(qp, .inr (1, [.ref qf])), (qf, .inr (0, [.ref qb, .ref qe, .int od, .int ot, .int tm])), (qb, .inl (cA, 32, .inl b)), (qe, .inl (cE, 2, .inl g))]) [0, 1, 2, 3] rfl
    have hD9 := hD.sub (ws' := [(qp, .inr (1, [.ref qf])), (qf, .inr (0, [.ref qb, .ref qe, .int od, .int ot, .int tm])), (qb, .inl (cA, 32, .inl b)), (qe, .inl (cE, 2, .inl g))]) [0, 1, 2, 3] (by decide) rfl
    have hK9 := hK.sub (tys' := [(cA, .int), (cE, .int)]) [0, 1] rfl
    exact W.iret (v := tt_ff 0 (tt_en b (tt_ac b)) i) hx hb hr (fun t ht hW => ⟨⟨tt_ff 0 (tt_en b (tt_ac b)) i, (), rfl, (by first | (simp only [tt_fe, c_2, hie, reduceIte, eq_self]; done) | (simp [tt_fe, c_2, hie]; done)), by rw [ht]; exact hP9, va_K.moved hW.alike hK9, hD9⟩, hS.F ht⟩) hS.2.2 dX1_freeEntries_41
  · have hlt : i < 10 := (tt_c10 i (by omega)).2 c_2
    refine lv_aload_n hx hb dX1_freeEntries_16 rfl (lv_at hl 0 rfl) ?_
    refine va_get (D := (dC, dI)) (ci := 1) (v := .ref qf) (C := RX1) (T := TX1) (N := 1) hx hb hts (by decide +kernel) hown hK hP 0 rfl rfl 0 (by decide) (hts (.fieldLink RX1 7 "TornTryCounter$Pages" "flash" "LTornTryCounter$Flash;") (by decide +kernel)) (fun _ h9 => h9) rfl dX1_freeEntries_17 ?_
    refine lv_iload_n hx hb dX1_freeEntries_20 rfl (lv_at hl 1 rfl) ?_
    refine lv_iload_n hx hb dX1_freeEntries_21 rfl (lv_at hl 3 rfl) ?_
    have hPc := hP.sub (ws' := [(qf, .inr (0, [.ref qb, .ref qe, .int od, .int ot, .int tm])), (qb, .inl (cA, 32, .inl b)), (qe, .inl (cE, 2, .inl g))]) [1, 2, 3] rfl
    have hDc := hD.sub (ws' := [(qf, .inr (0, [.ref qb, .ref qe, .int od, .int ot, .int tm])), (qb, .inl (cA, 32, .inl b)), (qe, .inl (cE, 2, .inl g))]) [1, 2, 3] (by decide) rfl
    have hKc := hK.sub (tys' := [(cA, .int), (cE, .int)]) [0, 1] rfl
    have hFc := va_free (wc := [(qf, .inr (0, [.ref qb, .ref qe, .int od, .int ot, .int tm])), (qb, .inl (cA, 32, .inl b)), (qe, .inl (cE, 2, .inl g))]) hD hS hA [1, 2, 3] rfl
    refine va_calli (va_runV (As := [.int (tt_ac b), .int (nI (6 + i))]) (rest := []) ⟨hx, hb, hml, hown, hts⟩ (c_F_read l dC dI cA cE qf qb qe H.size b g od ot tm (tt_ac b) (nI (6 + i))) (cwV 2 hts gX1_freeEntries_X0_read rfl rfl rfl (by decide +kernel) ⟨Nat.le_of_ble_eq_true rfl, Nat.le_of_ble_eq_true rfl⟩) ⟨fun a U g mk q => by obtain ⟨q0, q1, qP, qK, qD⟩ := q; exact ⟨q0, q1, qP, va_K.moved (u := U) (U := U.calling g mk a) (Vm.Alike.refl U.vm) qK, qD⟩, va_recv hKc hPc (ci := 0) (q0 := 0) rfl rfl, fun U hU hW => ⟨rfl, by rw [hU], by rw [hU]; exact hPc, va_K.moved hW.alike hKc, hDc.weaken (fun _ _ _ _ => trivial)⟩⟩ rfl rfl hl.1 rfl (lv_room (Nat.le_of_ble_eq_true rfl)) dX1_freeEntries_22 ⟨(Nat.zero_le _), (Nat.zero_le _)⟩) hS (fun q _ h => hFc q h) hFc (fun r_3 u t H locs ht hvm hw hB hz1 hk1 hS => ?_)
    have hw : tt_rd b (tt_ac b) (nI (6 + i)) = r_3 := hw.symm
    subst hw
    obtain ⟨hP1, hK1, hD1⟩ := hB
    rw [ht] at hP1
    obtain ⟨hP, hD⟩ := va_join (wr := [(qp, .inr (1, [.ref qf]))]) (w1 := [(qf, .inr (0, [.ref qb, .ref qe, .int od, .int ot, .int tm])), (qb, .inl (cA, 32, .inl b)), (qe, .inl (cE, 2, .inl g))]) hP hD [1, 2, 3] [0] rfl rfl (by decide) (by decide) hk1 hFc hP1 hD1
    have hP : va_P (dC, dI) ttCl [(qp, .inr (1, [.ref qf])), (qf, .inr (0, [.ref qb, .ref qe, .int od, .int ot, .int tm])), (qb, .inl (cA, 32, .inl b)), (qe, .inl (cE, 2, .inl g))] H := hP
    have hD : va_D A [(qp, .inr (1, [.ref qf])), (qf, .inr (0, [.ref qb, .ref qe, .int od, .int ot, .int tm])), (qb, .inl (cA, 32, .inl b)), (qe, .inl (cE, 2, .inl g))] := hD
    refine lv_sipush (v := 255) hx hb dX1_freeEntries_25 (by decide) ?_
    refine lv_icmp_ne (tgt := 34) hx hb dX1_freeEntries_28 (by decide) (fun c_4 => ?_) (fun c_4 => ?_)
    · refine lv_iinc (v := (nI (6 + i)) + 1) (lv' := [(3, .int ((nI (6 + i)) + 1)), (0, .ref qp), (1, .int (tt_ac b)), (2, .int (tt_ff 0 (tt_en b (tt_ac b)) i))]) hx hb dX1_freeEntries_34 hl (k := 3) rfl rfl (by decide) rfl (fun ls hl => ?_)
      refine lv_goto (tgt := 10) hx hb dX1_freeEntries_37 (by decide) ?_
      refine ih (n - 1) (by omega) _ _ _ ⟨i + 1, by omega, ?_, ?_, hS, ?_⟩
      · exact hP.sub [0, 1, 2, 3] rfl
      · exact hD.sub [0, 1, 2, 3] (by decide) rfl
      · rw [show tt_ff 0 (tt_en b (tt_ac b)) (i + 1) = tt_ff 0 (tt_en b (tt_ac b)) i from (by simp only [tt_ff, tt_fs, tt_en, c_2, c_4, reduceIte]), show nI (6 + (i + 1)) = (nI (6 + i)) + 1 from (nI_1 (6 + i)).symm]; exact lv_sub hl [1, 2, 3, 0] rfl
    · refine lv_iinc (v := (tt_ff 0 (tt_en b (tt_ac b)) i) + 1) (lv' := [(2, .int ((tt_ff 0 (tt_en b (tt_ac b)) i) + 1)), (0, .ref qp), (1, .int (tt_ac b)), (3, .int (nI (6 + i)))]) hx hb dX1_freeEntries_31 hl (k := 2) rfl rfl (by decide) rfl (fun ls hl => ?_)
      refine lv_iinc (v := (nI (6 + i)) + 1) (lv' := [(3, .int ((nI (6 + i)) + 1)), (2, .int ((tt_ff 0 (tt_en b (tt_ac b)) i) + 1)), (0, .ref qp), (1, .int (tt_ac b))]) hx hb dX1_freeEntries_34 hl (k := 3) rfl rfl (by decide) rfl (fun ls hl => ?_)
      refine lv_goto (tgt := 10) hx hb dX1_freeEntries_37 (by decide) ?_
      refine ih (n - 1) (by omega) _ _ _ ⟨i + 1, by omega, ?_, ?_, hS, ?_⟩
      · exact hP.sub [0, 1, 2, 3] rfl
      · exact hD.sub [0, 1, 2, 3] (by decide) rfl
      · rw [show tt_ff 0 (tt_en b (tt_ac b)) (i + 1) = (tt_ff 0 (tt_en b (tt_ac b)) i) + 1 from (by simp only [tt_ff, tt_fs, tt_en, c_2, c_4, reduceIte]), show nI (6 + (i + 1)) = (nI (6 + i)) + 1 from (nI_1 (6 + i)).symm]; exact lv_sub hl [2, 3, 1, 0] rfl
set_option maxHeartbeats 4000000 in
set_option maxRecDepth 100000 in
theorem c_P_firstFreeEntry (l : Launch) (dC : Nat → ClassId) (dI : Nat → Nat → Nat) (cA cE : ClassId) (qp qf qb qe : Nat) (sz : Nat) (b g : Nat → Int32) (od ot tm : Int32) : Met l yX1_firstFreeEntry wsX1_firstFreeEntry ({ frames := 3, cells := 0, slots := 0, locals := 64 }) (va_Pc [.ref qp] (fun U => U.heap.size = sz ∧ va_P (dC, dI) ttCl [(qp, .inr (1, [.ref qf])), (qf, .inr (0, [.ref qb, .ref qe, .int od, .int ot, .int tm])), (qb, .inl (cA, 32, .inl b)), (qe, .inl (cE, 2, .inl g))] U.heap ∧ va_K (dC, dI) ttCl [(cA, .int), (cE, .int)] U ∧ va_D (fun _ => True) [(qp, .inr (1, [.ref qf])), (qf, .inr (0, [.ref qb, .ref qe, .int od, .int ot, .int tm])), (qb, .inl (cA, 32, .inl b)), (qe, .inl (cE, 2, .inl g))])) (va_Qi (fun (r : Int32) (_ : Unit) => r = tt_fst b) (fun (_ : Unit) (t : State) => at_P dC dI cA cE (va_A [(qp, .inr (1, [.ref qf])), (qf, .inr (0, [.ref qb, .ref qe, .int od, .int ot, .int tm])), (qb, .inl (cA, 32, .inl b)), (qe, .inl (cE, 2, .inl g))] sz) qp qf qb qe (b, g, od, ot, tm) t) (va_A [(qp, .inr (1, [.ref qf])), (qf, .inr (0, [.ref qb, .ref qe, .int od, .int ot, .int tm])), (qb, .inl (cA, 32, .inl b)), (qe, .inl (cE, 2, .inl g))] sz)) 0 0 (va_A [(qp, .inr (1, [.ref qf])), (qf, .inr (0, [.ref qb, .ref qe, .int od, .int ot, .int tm])), (qb, .inl (cA, 32, .inl b)), (qe, .inl (cE, 2, .inl g))] sz) := by
  refine Met.ofW (cc := cX1_firstFreeEntry) (maxL := 3) (ret := (some .int)) (by decide) rfl ?_
  intro p e s m args below meth c s₁ B hml hv
  obtain ⟨rfl, hsz, hP, hK, hD0⟩ := hv
  have hx := B.exec
  have hb := B.bytes
  have hr := B.returns
  have hts := atoms_spec (ws := wsX1_firstFreeEntry) B.pre
  have hown : s.vm.findClass RX1 = some m.cls := findClass_of_methodNamed B.named
  have hlocks := B.notSynchronized
  subst hsz
  have hD := hD0.self (sz := s.heap.size)
  generalize hAe : va_A [(qp, .inr (1, [.ref qf])), (qf, .inr (0, [.ref qb, .ref qe, .int od, .int ot, .int tm])), (qb, .inl (cA, 32, .inl b)), (qe, .inl (cE, 2, .inl g))] s.heap.size = A at hD ⊢
  have hA : ∀ q : Nat, s.heap.size ≤ q → A q := fun q h => by rw [← hAe]; exact Or.inr h
  have hS : va_S A s.heap s.heap [] := va_S.rf
  have hP : va_P (dC, dI) ttCl [(qp, .inr (1, [.ref qf])), (qf, .inr (0, [.ref qb, .ref qe, .int od, .int ot, .int tm])), (qb, .inl (cA, 32, .inl b)), (qe, .inl (cE, 2, .inl g))] s.heap := hP
  have hl := lv_entry ([.ref qp]) (n := 3) (Nat.le_of_ble_eq_true rfl)
  rw [lg_entry_eq]
  generalize (lg_sl ([.ref qp]) ++ List.replicate (3 - (lg_sl ([.ref qp])).length) Slot.unset).toArray = ls at hl ⊢
  have hl : lv_has ls 3 [(0, .ref qp)] := hl
  refine lv_aload_n hx hb dX1_firstFreeEntry_0 rfl (lv_at hl 0 rfl) ?_
  have hPc := hP.sub (ws' := [(qp, .inr (1, [.ref qf])), (qf, .inr (0, [.ref qb, .ref qe, .int od, .int ot, .int tm])), (qb, .inl (cA, 32, .inl b)), (qe, .inl (cE, 2, .inl g))]) [0, 1, 2, 3] rfl
  have hDc := hD.sub (ws' := [(qp, .inr (1, [.ref qf])), (qf, .inr (0, [.ref qb, .ref qe, .int od, .int ot, .int tm])), (qb, .inl (cA, 32, .inl b)), (qe, .inl (cE, 2, .inl g))]) [0, 1, 2, 3] (by decide) rfl
  have hKc := hK.sub (tys' := [(cA, .int), (cE, .int)]) [0, 1] rfl
  have hFc := va_free (wc := [(qp, .inr (1, [.ref qf])), (qf, .inr (0, [.ref qb, .ref qe, .int od, .int ot, .int tm])), (qb, .inl (cA, 32, .inl b)), (qe, .inl (cE, 2, .inl g))]) hD hS hA [0, 1, 2, 3] rfl
  refine va_calli (va_runV (As := []) (rest := []) ⟨hx, hb, hml, hown, hts⟩ (c_P_active l dC dI cA cE qp qf qb qe s.heap.size b g od ot tm) (cwV 0 hts gX1_firstFreeEntry_X1_active rfl rfl rfl (by decide +kernel) ⟨Nat.le_of_ble_eq_true rfl, Nat.le_of_ble_eq_true rfl⟩) ⟨fun a U g mk q => by obtain ⟨q0, q1, qP, qK, qD⟩ := q; exact ⟨q0, q1, qP, va_K.moved (u := U) (U := U.calling g mk a) (Vm.Alike.refl U.vm) qK, qD⟩, va_recv hKc hPc (ci := 1) (q0 := 0) rfl rfl, fun U hU hW => ⟨rfl, by rw [hU], by rw [hU]; exact hPc, va_K.moved hW.alike hKc, hDc.weaken (fun _ _ _ _ => trivial)⟩⟩ rfl rfl hl.1 rfl (lv_room (Nat.le_of_ble_eq_true rfl)) dX1_firstFreeEntry_1 ⟨(Nat.zero_le _), (Nat.zero_le _)⟩) hS (fun q _ h => hFc q h) hFc (fun r_1 u t H locs ht hvm hw hB hz1 hk1 hS => ?_)
  have hw : tt_ac b = r_1 := hw.symm
  subst hw
  obtain ⟨hP1, hK1, hD1⟩ := hB
  rw [ht] at hP1
  obtain ⟨hP, hD⟩ := va_join (wr := []) (w1 := [(qp, .inr (1, [.ref qf])), (qf, .inr (0, [.ref qb, .ref qe, .int od, .int ot, .int tm])), (qb, .inl (cA, 32, .inl b)), (qe, .inl (cE, 2, .inl g))]) hP hD [0, 1, 2, 3] [] rfl rfl (by decide) (by decide) hk1 hFc hP1 hD1
  have hP : va_P (dC, dI) ttCl [(qp, .inr (1, [.ref qf])), (qf, .inr (0, [.ref qb, .ref qe, .int od, .int ot, .int tm])), (qb, .inl (cA, 32, .inl b)), (qe, .inl (cE, 2, .inl g))] H := hP
  have hD : va_D A [(qp, .inr (1, [.ref qf])), (qf, .inr (0, [.ref qb, .ref qe, .int od, .int ot, .int tm])), (qb, .inl (cA, 32, .inl b)), (qe, .inl (cE, 2, .inl g))] := hD
  refine lv_istore_n (lv' := [(1, .int (tt_ac b)), (0, .ref qp)]) hx hb dX1_firstFreeEntry_4 rfl hl (by decide) rfl (fun ls hl => ?_)
  refine lv_bipush (v := 6) hx hb dX1_firstFreeEntry_5 (by decide) ?_
  refine lv_istore_n (lv' := [(2, .int 6), (1, .int (tt_ac b)), (0, .ref qp)]) hx hb dX1_firstFreeEntry_7 rfl hl (by decide) rfl (fun ls hl => ?_)
  refine W.widen (k := 0) (n := 0) (by omega) (by omega) ?_
  refine tt_rec (pc := 8) (I := fun n H locs ls => ∃ i : Nat, i + n = 10 ∧ tt_1f (tt_en b (tt_ac b)) n i = tt_fst b ∧ va_P (dC, dI) ttCl [(qp, .inr (1, [.ref qf])), (qf, .inr (0, [.ref qb, .ref qe, .int od, .int ot, .int tm])), (qb, .inl (cA, 32, .inl b)), (qe, .inl (cE, 2, .inl g))] H ∧ va_D A [(qp, .inr (1, [.ref qf])), (qf, .inr (0, [.ref qb, .ref qe, .int od, .int ot, .int tm])), (qb, .inl (cA, 32, .inl b)), (qe, .inl (cE, 2, .inl g))] ∧ va_S A s.heap H locs ∧ lv_has ls 3 [(0, .ref qp), (1, .int (tt_ac b)), (2, .int (nI (6 + i)))]) ?_ 10 ⟨0, rfl, rfl, hP, hD, hS, lv_sub hl [2, 1, 0] rfl⟩
  intro n H locs ls ih hI
  obtain ⟨i, hi, hff, hP, hD, hS, hl⟩ := hI
  refine lv_iload_n hx hb dX1_firstFreeEntry_8 rfl (lv_at hl 2 rfl) ?_
  refine lv_bipush (v := 16) hx hb dX1_firstFreeEntry_9 (by decide) ?_
  refine lv_icmp_ge (tgt := 37) hx hb dX1_firstFreeEntry_11 (by decide) (fun c_2 => ?_) (fun c_2 => ?_)
  · have hie : i = 10 := (tt_c10 i (by omega)).1 c_2
    obtain rfl : n = 0 := by omega
    have hff : -1 = tt_fst b := hff
    refine lv_iconst (v := (-1)) hx hb dX1_firstFreeEntry_37 (by decide) ?_
    have hP9 := hP.sub (ws' := [(qp, .inr (1, [.ref qf])), (qf, .inr (0, [.ref qb, .ref qe, .int od, .int ot, .int tm])), (qb, .inl (cA, 32, .inl b)), (qe, .inl (cE, 2, .inl g))]) [0, 1, 2, 3] rfl
    have hD9 := hD.sub (ws' := [(qp, .inr (1, [.ref qf])), (qf, .inr (0, [.ref qb, .ref qe, .int od, .int ot, .int tm])), (qb, .inl (cA, 32, .inl b)), (qe, .inl (cE, 2, .inl g))]) [0, 1, 2, 3] (by decide) rfl
    have hK9 := hK.sub (tys' := [(cA, .int), (cE, .int)]) [0, 1] rfl
    exact W.iret (v := (-1)) hx hb hr (fun t ht hW => ⟨⟨(-1), (), rfl, hff, by rw [ht]; exact hP9, va_K.moved hW.alike hK9, hD9⟩, hS.F ht⟩) hS.2.2 dX1_firstFreeEntry_38
  · have hlt : i < 10 := (tt_c10 i (by omega)).2 c_2
    obtain ⟨n, rfl⟩ : ∃ k, n = k + 1 := ⟨n - 1, by omega⟩
    have hff : (if tt_rd b (tt_ac b) (nI (6 + i)) = 255 then nI (6 + i) else tt_1f (tt_en b (tt_ac b)) n (i + 1)) = tt_fst b := hff
    refine lv_aload_n hx hb dX1_firstFreeEntry_14 rfl (lv_at hl 0 rfl) ?_
    refine va_get (D := (dC, dI)) (ci := 1) (v := .ref qf) (C := RX1) (T := TX1) (N := 1) hx hb hts (by decide +kernel) hown hK hP 0 rfl rfl 0 (by decide) (hts (.fieldLink RX1 7 "TornTryCounter$Pages" "flash" "LTornTryCounter$Flash;") (by decide +kernel)) (fun _ h9 => h9) rfl dX1_firstFreeEntry_15 ?_
    refine lv_iload_n hx hb dX1_firstFreeEntry_18 rfl (lv_at hl 1 rfl) ?_
    refine lv_iload_n hx hb dX1_firstFreeEntry_19 rfl (lv_at hl 2 rfl) ?_
    have hPc := hP.sub (ws' := [(qf, .inr (0, [.ref qb, .ref qe, .int od, .int ot, .int tm])), (qb, .inl (cA, 32, .inl b)), (qe, .inl (cE, 2, .inl g))]) [1, 2, 3] rfl
    have hDc := hD.sub (ws' := [(qf, .inr (0, [.ref qb, .ref qe, .int od, .int ot, .int tm])), (qb, .inl (cA, 32, .inl b)), (qe, .inl (cE, 2, .inl g))]) [1, 2, 3] (by decide) rfl
    have hKc := hK.sub (tys' := [(cA, .int), (cE, .int)]) [0, 1] rfl
    have hFc := va_free (wc := [(qf, .inr (0, [.ref qb, .ref qe, .int od, .int ot, .int tm])), (qb, .inl (cA, 32, .inl b)), (qe, .inl (cE, 2, .inl g))]) hD hS hA [1, 2, 3] rfl
    refine va_calli (va_runV (As := [.int (tt_ac b), .int (nI (6 + i))]) (rest := []) ⟨hx, hb, hml, hown, hts⟩ (c_F_read l dC dI cA cE qf qb qe H.size b g od ot tm (tt_ac b) (nI (6 + i))) (cwV 2 hts gX1_firstFreeEntry_X0_read rfl rfl rfl (by decide +kernel) ⟨Nat.le_of_ble_eq_true rfl, Nat.le_of_ble_eq_true rfl⟩) ⟨fun a U g mk q => by obtain ⟨q0, q1, qP, qK, qD⟩ := q; exact ⟨q0, q1, qP, va_K.moved (u := U) (U := U.calling g mk a) (Vm.Alike.refl U.vm) qK, qD⟩, va_recv hKc hPc (ci := 0) (q0 := 0) rfl rfl, fun U hU hW => ⟨rfl, by rw [hU], by rw [hU]; exact hPc, va_K.moved hW.alike hKc, hDc.weaken (fun _ _ _ _ => trivial)⟩⟩ rfl rfl hl.1 rfl (lv_room (Nat.le_of_ble_eq_true rfl)) dX1_firstFreeEntry_20 ⟨(Nat.zero_le _), (Nat.zero_le _)⟩) hS (fun q _ h => hFc q h) hFc (fun r_3 u t H locs ht hvm hw hB hz1 hk1 hS => ?_)
    have hw : tt_rd b (tt_ac b) (nI (6 + i)) = r_3 := hw.symm
    subst hw
    obtain ⟨hP1, hK1, hD1⟩ := hB
    rw [ht] at hP1
    obtain ⟨hP, hD⟩ := va_join (wr := [(qp, .inr (1, [.ref qf]))]) (w1 := [(qf, .inr (0, [.ref qb, .ref qe, .int od, .int ot, .int tm])), (qb, .inl (cA, 32, .inl b)), (qe, .inl (cE, 2, .inl g))]) hP hD [1, 2, 3] [0] rfl rfl (by decide) (by decide) hk1 hFc hP1 hD1
    have hP : va_P (dC, dI) ttCl [(qp, .inr (1, [.ref qf])), (qf, .inr (0, [.ref qb, .ref qe, .int od, .int ot, .int tm])), (qb, .inl (cA, 32, .inl b)), (qe, .inl (cE, 2, .inl g))] H := hP
    have hD : va_D A [(qp, .inr (1, [.ref qf])), (qf, .inr (0, [.ref qb, .ref qe, .int od, .int ot, .int tm])), (qb, .inl (cA, 32, .inl b)), (qe, .inl (cE, 2, .inl g))] := hD
    refine lv_sipush (v := 255) hx hb dX1_firstFreeEntry_23 (by decide) ?_
    refine lv_icmp_ne (tgt := 31) hx hb dX1_firstFreeEntry_26 (by decide) (fun c_4 => ?_) (fun c_4 => ?_)
    · refine lv_iinc (v := (nI (6 + i)) + 1) (lv' := [(2, .int ((nI (6 + i)) + 1)), (0, .ref qp), (1, .int (tt_ac b))]) hx hb dX1_firstFreeEntry_31 hl (k := 2) rfl rfl (by decide) rfl (fun ls hl => ?_)
      refine lv_goto (tgt := 8) hx hb dX1_firstFreeEntry_34 (by decide) ?_
      rw [if_neg c_4] at hff
      refine ih n (by omega) _ _ _ ⟨i + 1, by omega, hff, ?_, ?_, hS, ?_⟩
      · exact hP.sub [0, 1, 2, 3] rfl
      · exact hD.sub [0, 1, 2, 3] (by decide) rfl
      · rw [show nI (6 + (i + 1)) = nI (6 + i) + 1 from (nI_1 (6 + i)).symm]; exact lv_sub hl [1, 2, 0] rfl
    · refine lv_iload_n hx hb dX1_firstFreeEntry_29 rfl (lv_at hl 2 rfl) ?_
      have hP9 := hP.sub (ws' := [(qp, .inr (1, [.ref qf])), (qf, .inr (0, [.ref qb, .ref qe, .int od, .int ot, .int tm])), (qb, .inl (cA, 32, .inl b)), (qe, .inl (cE, 2, .inl g))]) [0, 1, 2, 3] rfl
      have hD9 := hD.sub (ws' := [(qp, .inr (1, [.ref qf])), (qf, .inr (0, [.ref qb, .ref qe, .int od, .int ot, .int tm])), (qb, .inl (cA, 32, .inl b)), (qe, .inl (cE, 2, .inl g))]) [0, 1, 2, 3] (by decide) rfl
      have hK9 := hK.sub (tys' := [(cA, .int), (cE, .int)]) [0, 1] rfl
      exact W.iret (v := nI (6 + i)) hx hb hr (fun t ht hW => ⟨⟨nI (6 + i), (), rfl, (by rw [if_pos c_4] at hff; exact hff), by rw [ht]; exact hP9, va_K.moved hW.alike hK9, hD9⟩, hS.F ht⟩) hS.2.2 dX1_firstFreeEntry_30
