set_option maxHeartbeats 4000000 in
set_option maxRecDepth 100000 in
theorem c_P_isGood (l : Launch) (dC : Nat → ClassId) (dI : Nat → Nat → Nat) (cA cE : ClassId) (qp qf qb qe : Nat) (sz : Nat) (b g : Nat → Int32) (od ot tm : Int32) (pg : Int32) : Met l yX1_isGood wsX1_isGood ({ frames := 1, cells := 0, slots := 0, locals := 23 }) (va_Pc [.ref qp, .int pg] (fun U => U.heap.size = sz ∧ va_P (dC, dI) ttCl [(qp, .inr (1, [.ref qf])), (qf, .inr (0, [.ref qb, .ref qe, .int od, .int ot, .int tm])), (qb, .inl (cA, 32, .inl b)), (qe, .inl (cE, 2, .inl g))] U.heap ∧ va_K (dC, dI) ttCl [(cA, .int), (cE, .int)] U ∧ va_D (fun _ => True) [(qp, .inr (1, [.ref qf])), (qf, .inr (0, [.ref qb, .ref qe, .int od, .int ot, .int tm])), (qb, .inl (cA, 32, .inl b)), (qe, .inl (cE, 2, .inl g))])) (va_Qi (fun (r : Int32) (_ : Unit) => r = tt_gd b pg) (fun (_ : Unit) (t : State) => at_P dC dI cA cE (va_A [(qp, .inr (1, [.ref qf])), (qf, .inr (0, [.ref qb, .ref qe, .int od, .int ot, .int tm])), (qb, .inl (cA, 32, .inl b)), (qe, .inl (cE, 2, .inl g))] sz) qp qf qb qe (b, g, od, ot, tm) t) (va_A [(qp, .inr (1, [.ref qf])), (qf, .inr (0, [.ref qb, .ref qe, .int od, .int ot, .int tm])), (qb, .inl (cA, 32, .inl b)), (qe, .inl (cE, 2, .inl g))] sz)) 0 0 (va_A [(qp, .inr (1, [.ref qf])), (qf, .inr (0, [.ref qb, .ref qe, .int od, .int ot, .int tm])), (qb, .inl (cA, 32, .inl b)), (qe, .inl (cE, 2, .inl g))] sz) := by
  refine Met.ofW (cc := cX1_isGood) (maxL := 2) (ret := (some .boolean)) (by decide) rfl ?_
  intro p e s m args below meth c s₁ B hml hv
  obtain ⟨rfl, hsz, hP, hK, hD0⟩ := hv
  have hx := B.exec
  have hb := B.bytes
  have hr := B.returns
  have hts := atoms_spec (ws := wsX1_isGood) B.pre
  have hown : s.vm.findClass RX1 = some m.cls := findClass_of_methodNamed B.named
  have hlocks := B.notSynchronized
  subst hsz
  have hD := hD0.self (sz := s.heap.size)
  generalize hAe : va_A [(qp, .inr (1, [.ref qf])), (qf, .inr (0, [.ref qb, .ref qe, .int od, .int ot, .int tm])), (qb, .inl (cA, 32, .inl b)), (qe, .inl (cE, 2, .inl g))] s.heap.size = A at hD ⊢
  have hA : ∀ q : Nat, s.heap.size ≤ q → A q := fun q h => by rw [← hAe]; exact Or.inr h
  have hS : va_S A s.heap s.heap [] := va_S.rf
  have hP : va_P (dC, dI) ttCl [(qp, .inr (1, [.ref qf])), (qf, .inr (0, [.ref qb, .ref qe, .int od, .int ot, .int tm])), (qb, .inl (cA, 32, .inl b)), (qe, .inl (cE, 2, .inl g))] s.heap := hP
  have hl := lv_entry ([.ref qp, .int pg]) (n := 2) (Nat.le_of_ble_eq_true rfl)
  rw [lg_entry_eq]
  generalize (lg_sl ([.ref qp, .int pg]) ++ List.replicate (2 - (lg_sl ([.ref qp, .int pg])).length) Slot.unset).toArray = ls at hl ⊢
  have hl : lv_has ls 2 [(0, .ref qp), (1, .int pg)] := hl
  refine lv_aload_n hx hb dX1_isGood_0 rfl (lv_at hl 0 rfl) ?_
  refine va_get (D := (dC, dI)) (ci := 1) (v := .ref qf) (C := RX1) (T := TX1) (N := 1) hx hb hts (by decide +kernel) hown hK hP 0 rfl rfl 0 (by decide) (hts (.fieldLink RX1 7 "TornTryCounter$Pages" "flash" "LTornTryCounter$Flash;") (by decide +kernel)) (fun _ h9 => h9) rfl dX1_isGood_1 ?_
  refine lv_iload_n hx hb dX1_isGood_4 rfl (lv_at hl 1 rfl) ?_
  refine lv_iconst (v := 0) hx hb dX1_isGood_5 (by decide) ?_
  have hPc := hP.sub (ws' := [(qf, .inr (0, [.ref qb, .ref qe, .int od, .int ot, .int tm])), (qb, .inl (cA, 32, .inl b)), (qe, .inl (cE, 2, .inl g))]) [1, 2, 3] rfl
  have hDc := hD.sub (ws' := [(qf, .inr (0, [.ref qb, .ref qe, .int od, .int ot, .int tm])), (qb, .inl (cA, 32, .inl b)), (qe, .inl (cE, 2, .inl g))]) [1, 2, 3] (by decide) rfl
  have hKc := hK.sub (tys' := [(cA, .int), (cE, .int)]) [0, 1] rfl
  have hFc := va_free (wc := [(qf, .inr (0, [.ref qb, .ref qe, .int od, .int ot, .int tm])), (qb, .inl (cA, 32, .inl b)), (qe, .inl (cE, 2, .inl g))]) hD hS hA [1, 2, 3] rfl
  refine va_calli (va_runV (As := [.int pg, .int 0]) (rest := []) ⟨hx, hb, hml, hown, hts⟩ (c_F_read l dC dI cA cE qf qb qe s.heap.size b g od ot tm pg 0) (cwV 2 hts gX1_isGood_X0_read rfl rfl rfl (by decide +kernel) ⟨Nat.le_of_ble_eq_true rfl, Nat.le_of_ble_eq_true rfl⟩) ⟨fun a U g mk q => by obtain ⟨q0, q1, qP, qK, qD⟩ := q; exact ⟨q0, q1, qP, va_K.moved (u := U) (U := U.calling g mk a) (Vm.Alike.refl U.vm) qK, qD⟩, va_recv hKc hPc (ci := 0) (q0 := 0) rfl rfl, fun U hU hW => ⟨rfl, by rw [hU], by rw [hU]; exact hPc, va_K.moved hW.alike hKc, hDc.weaken (fun _ _ _ _ => trivial)⟩⟩ rfl rfl hl.1 rfl (lv_room (Nat.le_of_ble_eq_true rfl)) dX1_isGood_6 ⟨(Nat.zero_le _), (Nat.zero_le _)⟩) hS (fun q _ h => hFc q h) hFc (fun r_1 u t H locs ht hvm hw hB hz1 hk1 hS => ?_)
  have hw : tt_rd b pg 0 = r_1 := hw.symm
  subst hw
  obtain ⟨hP1, hK1, hD1⟩ := hB
  rw [ht] at hP1
  obtain ⟨hP, hD⟩ := va_join (wr := [(qp, .inr (1, [.ref qf]))]) (w1 := [(qf, .inr (0, [.ref qb, .ref qe, .int od, .int ot, .int tm])), (qb, .inl (cA, 32, .inl b)), (qe, .inl (cE, 2, .inl g))]) hP hD [1, 2, 3] [0] rfl rfl (by decide) (by decide) hk1 hFc hP1 hD1
  have hP : va_P (dC, dI) ttCl [(qp, .inr (1, [.ref qf])), (qf, .inr (0, [.ref qb, .ref qe, .int od, .int ot, .int tm])), (qb, .inl (cA, 32, .inl b)), (qe, .inl (cE, 2, .inl g))] H := hP
  have hD : va_D A [(qp, .inr (1, [.ref qf])), (qf, .inr (0, [.ref qb, .ref qe, .int od, .int ot, .int tm])), (qb, .inl (cA, 32, .inl b)), (qe, .inl (cE, 2, .inl g))] := hD
  refine lv_bipush (v := 90) hx hb dX1_isGood_9 (by decide) ?_
  refine lv_icmp_ne (tgt := 18) hx hb dX1_isGood_11 (by decide) (fun c_2 => ?_) (fun c_2 => ?_)
  · refine lv_iconst (v := 0) hx hb dX1_isGood_18 (by decide) ?_
    have hP9 := hP.sub (ws' := [(qp, .inr (1, [.ref qf])), (qf, .inr (0, [.ref qb, .ref qe, .int od, .int ot, .int tm])), (qb, .inl (cA, 32, .inl b)), (qe, .inl (cE, 2, .inl g))]) [0, 1, 2, 3] rfl
    have hD9 := hD.sub (ws' := [(qp, .inr (1, [.ref qf])), (qf, .inr (0, [.ref qb, .ref qe, .int od, .int ot, .int tm])), (qb, .inl (cA, 32, .inl b)), (qe, .inl (cE, 2, .inl g))]) [0, 1, 2, 3] (by decide) rfl
    have hK9 := hK.sub (tys' := [(cA, .int), (cE, .int)]) [0, 1] rfl
    exact W.zret (v := 0) hx hb hr (by first | rfl | decide) (fun t ht hW => ⟨⟨0, (), rfl, (by first | (simp only [tt_gd, c_2, reduceIte, eq_self]; done) | (simp [tt_gd, c_2]; done)), by rw [ht]; exact hP9, va_K.moved hW.alike hK9, hD9⟩, hS.F ht⟩) hS.2.2 dX1_isGood_19
  · refine lv_iconst (v := 1) hx hb dX1_isGood_14 (by decide) ?_
    refine lv_goto (tgt := 19) hx hb dX1_isGood_15 (by decide) ?_
    have hP9 := hP.sub (ws' := [(qp, .inr (1, [.ref qf])), (qf, .inr (0, [.ref qb, .ref qe, .int od, .int ot, .int tm])), (qb, .inl (cA, 32, .inl b)), (qe, .inl (cE, 2, .inl g))]) [0, 1, 2, 3] rfl
    have hD9 := hD.sub (ws' := [(qp, .inr (1, [.ref qf])), (qf, .inr (0, [.ref qb, .ref qe, .int od, .int ot, .int tm])), (qb, .inl (cA, 32, .inl b)), (qe, .inl (cE, 2, .inl g))]) [0, 1, 2, 3] (by decide) rfl
    have hK9 := hK.sub (tys' := [(cA, .int), (cE, .int)]) [0, 1] rfl
    exact W.zret (v := 1) hx hb hr (by first | rfl | decide) (fun t ht hW => ⟨⟨1, (), rfl, (by first | (simp only [tt_gd, c_2, reduceIte, eq_self]; done) | (simp [tt_gd, c_2]; done)), by rw [ht]; exact hP9, va_K.moved hW.alike hK9, hD9⟩, hS.F ht⟩) hS.2.2 dX1_isGood_19
set_option maxHeartbeats 4000000 in
set_option maxRecDepth 100000 in
theorem c_P_generationAfter (l : Launch) (dC : Nat → ClassId) (dI : Nat → Nat → Nat) (cA cE : ClassId) (qp qf qb qe : Nat) (sz : Nat) (b g : Nat → Int32) (od ot tm : Int32) (pg : Int32) : Met l yX1_generationAfter wsX1_generationAfter ({ frames := 1, cells := 0, slots := 0, locals := 23 }) (va_Pc [.ref qp, .int pg] (fun U => U.heap.size = sz ∧ va_P (dC, dI) ttCl [(qp, .inr (1, [.ref qf])), (qf, .inr (0, [.ref qb, .ref qe, .int od, .int ot, .int tm])), (qb, .inl (cA, 32, .inl b)), (qe, .inl (cE, 2, .inl g))] U.heap ∧ va_K (dC, dI) ttCl [(cA, .int), (cE, .int)] U ∧ va_D (fun _ => True) [(qp, .inr (1, [.ref qf])), (qf, .inr (0, [.ref qb, .ref qe, .int od, .int ot, .int tm])), (qb, .inl (cA, 32, .inl b)), (qe, .inl (cE, 2, .inl g))])) (va_Qi (fun (r : Int32) (_ : Unit) => r = tt_ga b pg) (fun (_ : Unit) (t : State) => at_P dC dI cA cE (va_A [(qp, .inr (1, [.ref qf])), (qf, .inr (0, [.ref qb, .ref qe, .int od, .int ot, .int tm])), (qb, .inl (cA, 32, .inl b)), (qe, .inl (cE, 2, .inl g))] sz) qp qf qb qe (b, g, od, ot, tm) t) (va_A [(qp, .inr (1, [.ref qf])), (qf, .inr (0, [.ref qb, .ref qe, .int od, .int ot, .int tm])), (qb, .inl (cA, 32, .inl b)), (qe, .inl (cE, 2, .inl g))] sz)) 0 0 (va_A [(qp, .inr (1, [.ref qf])), (qf, .inr (0, [.ref qb, .ref qe, .int od, .int ot, .int tm])), (qb, .inl (cA, 32, .inl b)), (qe, .inl (cE, 2, .inl g))] sz) := by
  refine Met.ofW (cc := cX1_generationAfter) (maxL := 2) (ret := (some .int)) (by decide) rfl ?_
  intro p e s m args below meth c s₁ B hml hv
  obtain ⟨rfl, hsz, hP, hK, hD0⟩ := hv
  have hx := B.exec
  have hb := B.bytes
  have hr := B.returns
  have hts := atoms_spec (ws := wsX1_generationAfter) B.pre
  have hown : s.vm.findClass RX1 = some m.cls := findClass_of_methodNamed B.named
  have hlocks := B.notSynchronized
  subst hsz
  have hD := hD0.self (sz := s.heap.size)
  generalize hAe : va_A [(qp, .inr (1, [.ref qf])), (qf, .inr (0, [.ref qb, .ref qe, .int od, .int ot, .int tm])), (qb, .inl (cA, 32, .inl b)), (qe, .inl (cE, 2, .inl g))] s.heap.size = A at hD ⊢
  have hA : ∀ q : Nat, s.heap.size ≤ q → A q := fun q h => by rw [← hAe]; exact Or.inr h
  have hS : va_S A s.heap s.heap [] := va_S.rf
  have hP : va_P (dC, dI) ttCl [(qp, .inr (1, [.ref qf])), (qf, .inr (0, [.ref qb, .ref qe, .int od, .int ot, .int tm])), (qb, .inl (cA, 32, .inl b)), (qe, .inl (cE, 2, .inl g))] s.heap := hP
  have hl := lv_entry ([.ref qp, .int pg]) (n := 2) (Nat.le_of_ble_eq_true rfl)
  rw [lg_entry_eq]
  generalize (lg_sl ([.ref qp, .int pg]) ++ List.replicate (2 - (lg_sl ([.ref qp, .int pg])).length) Slot.unset).toArray = ls at hl ⊢
  have hl : lv_has ls 2 [(0, .ref qp), (1, .int pg)] := hl
  refine lv_aload_n hx hb dX1_generationAfter_0 rfl (lv_at hl 0 rfl) ?_
  refine va_get (D := (dC, dI)) (ci := 1) (v := .ref qf) (C := RX1) (T := TX1) (N := 1) hx hb hts (by decide +kernel) hown hK hP 0 rfl rfl 0 (by decide) (hts (.fieldLink RX1 7 "TornTryCounter$Pages" "flash" "LTornTryCounter$Flash;") (by decide +kernel)) (fun _ h9 => h9) rfl dX1_generationAfter_1 ?_
  refine lv_iload_n hx hb dX1_generationAfter_4 rfl (lv_at hl 1 rfl) ?_
  refine lv_iconst (v := 1) hx hb dX1_generationAfter_5 (by decide) ?_
  have hPc := hP.sub (ws' := [(qf, .inr (0, [.ref qb, .ref qe, .int od, .int ot, .int tm])), (qb, .inl (cA, 32, .inl b)), (qe, .inl (cE, 2, .inl g))]) [1, 2, 3] rfl
  have hDc := hD.sub (ws' := [(qf, .inr (0, [.ref qb, .ref qe, .int od, .int ot, .int tm])), (qb, .inl (cA, 32, .inl b)), (qe, .inl (cE, 2, .inl g))]) [1, 2, 3] (by decide) rfl
  have hKc := hK.sub (tys' := [(cA, .int), (cE, .int)]) [0, 1] rfl
  have hFc := va_free (wc := [(qf, .inr (0, [.ref qb, .ref qe, .int od, .int ot, .int tm])), (qb, .inl (cA, 32, .inl b)), (qe, .inl (cE, 2, .inl g))]) hD hS hA [1, 2, 3] rfl
  refine va_calli (va_runV (As := [.int pg, .int 1]) (rest := []) ⟨hx, hb, hml, hown, hts⟩ (c_F_read l dC dI cA cE qf qb qe s.heap.size b g od ot tm pg 1) (cwV 2 hts gX1_generationAfter_X0_read rfl rfl rfl (by decide +kernel) ⟨Nat.le_of_ble_eq_true rfl, Nat.le_of_ble_eq_true rfl⟩) ⟨fun a U g mk q => by obtain ⟨q0, q1, qP, qK, qD⟩ := q; exact ⟨q0, q1, qP, va_K.moved (u := U) (U := U.calling g mk a) (Vm.Alike.refl U.vm) qK, qD⟩, va_recv hKc hPc (ci := 0) (q0 := 0) rfl rfl, fun U hU hW => ⟨rfl, by rw [hU], by rw [hU]; exact hPc, va_K.moved hW.alike hKc, hDc.weaken (fun _ _ _ _ => trivial)⟩⟩ rfl rfl hl.1 rfl (lv_room (Nat.le_of_ble_eq_true rfl)) dX1_generationAfter_6 ⟨(Nat.zero_le _), (Nat.zero_le _)⟩) hS (fun q _ h => hFc q h) hFc (fun r_1 u t H locs ht hvm hw hB hz1 hk1 hS => ?_)
  have hw : tt_rd b pg 1 = r_1 := hw.symm
  subst hw
  obtain ⟨hP1, hK1, hD1⟩ := hB
  rw [ht] at hP1
  obtain ⟨hP, hD⟩ := va_join (wr := [(qp, .inr (1, [.ref qf]))]) (w1 := [(qf, .inr (0, [.ref qb, .ref qe, .int od, .int ot, .int tm])), (qb, .inl (cA, 32, .inl b)), (qe, .inl (cE, 2, .inl g))]) hP hD [1, 2, 3] [0] rfl rfl (by decide) (by decide) hk1 hFc hP1 hD1
  have hP : va_P (dC, dI) ttCl [(qp, .inr (1, [.ref qf])), (qf, .inr (0, [.ref qb, .ref qe, .int od, .int ot, .int tm])), (qb, .inl (cA, 32, .inl b)), (qe, .inl (cE, 2, .inl g))] H := hP
  have hD : va_D A [(qp, .inr (1, [.ref qf])), (qf, .inr (0, [.ref qb, .ref qe, .int od, .int ot, .int tm])), (qb, .inl (cA, 32, .inl b)), (qe, .inl (cE, 2, .inl g))] := hD
  refine lv_iconst (v := 1) hx hb dX1_generationAfter_9 (by decide) ?_
  refine lv_iadd hx hb dX1_generationAfter_10 ?_
  refine lv_sipush (v := 255) hx hb dX1_generationAfter_11 (by decide) ?_
  refine lv_iand hx hb dX1_generationAfter_14 ?_
  have hP9 := hP.sub (ws' := [(qp, .inr (1, [.ref qf])), (qf, .inr (0, [.ref qb, .ref qe, .int od, .int ot, .int tm])), (qb, .inl (cA, 32, .inl b)), (qe, .inl (cE, 2, .inl g))]) [0, 1, 2, 3] rfl
  have hD9 := hD.sub (ws' := [(qp, .inr (1, [.ref qf])), (qf, .inr (0, [.ref qb, .ref qe, .int od, .int ot, .int tm])), (qb, .inl (cA, 32, .inl b)), (qe, .inl (cE, 2, .inl g))]) [0, 1, 2, 3] (by decide) rfl
  have hK9 := hK.sub (tys' := [(cA, .int), (cE, .int)]) [0, 1] rfl
  exact W.iret (v := ((tt_rd b pg 1) + 1) &&& 255) hx hb hr (fun t ht hW => ⟨⟨((tt_rd b pg 1) + 1) &&& 255, (), rfl, (by first | (simp only [tt_ga, reduceIte, eq_self]; done) | (simp [tt_ga]; done)), by rw [ht]; exact hP9, va_K.moved hW.alike hK9, hD9⟩, hS.F ht⟩) hS.2.2 dX1_generationAfter_15
set_option maxHeartbeats 4000000 in
set_option maxRecDepth 100000 in
theorem c_P_active (l : Launch) (dC : Nat → ClassId) (dI : Nat → Nat → Nat) (cA cE : ClassId) (qp qf qb qe : Nat) (sz : Nat) (b g : Nat → Int32) (od ot tm : Int32) : Met l yX1_active wsX1_active ({ frames := 2, cells := 0, slots := 0, locals := 44 }) (va_Pc [.ref qp] (fun U => U.heap.size = sz ∧ va_P (dC, dI) ttCl [(qp, .inr (1, [.ref qf])), (qf, .inr (0, [.ref qb, .ref qe, .int od, .int ot, .int tm])), (qb, .inl (cA, 32, .inl b)), (qe, .inl (cE, 2, .inl g))] U.heap ∧ va_K (dC, dI) ttCl [(cA, .int), (cE, .int)] U ∧ va_D (fun _ => True) [(qp, .inr (1, [.ref qf])), (qf, .inr (0, [.ref qb, .ref qe, .int od, .int ot, .int tm])), (qb, .inl (cA, 32, .inl b)), (qe, .inl (cE, 2, .inl g))])) (va_Qi (fun (r : Int32) (_ : Unit) => r = tt_ac b) (fun (_ : Unit) (t : State) => at_P dC dI cA cE (va_A [(qp, .inr (1, [.ref qf])), (qf, .inr (0, [.ref qb, .ref qe, .int od, .int ot, .int tm])), (qb, .inl (cA, 32, .inl b)), (qe, .inl (cE, 2, .inl g))] sz) qp qf qb qe (b, g, od, ot, tm) t) (va_A [(qp, .inr (1, [.ref qf])), (qf, .inr (0, [.ref qb, .ref qe, .int od, .int ot, .int tm])), (qb, .inl (cA, 32, .inl b)), (qe, .inl (cE, 2, .inl g))] sz)) 0 0 (va_A [(qp, .inr (1, [.ref qf])), (qf, .inr (0, [.ref qb, .ref qe, .int od, .int ot, .int tm])), (qb, .inl (cA, 32, .inl b)), (qe, .inl (cE, 2, .inl g))] sz) := by
  refine Met.ofW (cc := cX1_active) (maxL := 1) (ret := (some .int)) (by decide) rfl ?_
  intro p e s m args below meth c s₁ B hml hv
  obtain ⟨rfl, hsz, hP, hK, hD0⟩ := hv
  have hx := B.exec
  have hb := B.bytes
  have hr := B.returns
  have hts := atoms_spec (ws := wsX1_active) B.pre
  have hown : s.vm.findClass RX1 = some m.cls := findClass_of_methodNamed B.named
  have hlocks := B.notSynchronized
  subst hsz
  have hD := hD0.self (sz := s.heap.size)
  generalize hAe : va_A [(qp, .inr (1, [.ref qf])), (qf, .inr (0, [.ref qb, .ref qe, .int od, .int ot, .int tm])), (qb, .inl (cA, 32, .inl b)), (qe, .inl (cE, 2, .inl g))] s.heap.size = A at hD ⊢
  have hA : ∀ q : Nat, s.heap.size ≤ q → A q := fun q h => by rw [← hAe]; exact Or.inr h
  have hS : va_S A s.heap s.heap [] := va_S.rf
  have hP : va_P (dC, dI) ttCl [(qp, .inr (1, [.ref qf])), (qf, .inr (0, [.ref qb, .ref qe, .int od, .int ot, .int tm])), (qb, .inl (cA, 32, .inl b)), (qe, .inl (cE, 2, .inl g))] s.heap := hP
  have hl := lv_entry ([.ref qp]) (n := 1) (Nat.le_of_ble_eq_true rfl)
  rw [lg_entry_eq]
  generalize (lg_sl ([.ref qp]) ++ List.replicate (1 - (lg_sl ([.ref qp])).length) Slot.unset).toArray = ls at hl ⊢
  have hl : lv_has ls 1 [(0, .ref qp)] := hl
  refine lv_aload_n hx hb dX1_active_0 rfl (lv_at hl 0 rfl) ?_
  refine lv_iconst (v := 1) hx hb dX1_active_1 (by decide) ?_
  have hPc := hP.sub (ws' := [(qp, .inr (1, [.ref qf])), (qf, .inr (0, [.ref qb, .ref qe, .int od, .int ot, .int tm])), (qb, .inl (cA, 32, .inl b)), (qe, .inl (cE, 2, .inl g))]) [0, 1, 2, 3] rfl
  have hDc := hD.sub (ws' := [(qp, .inr (1, [.ref qf])), (qf, .inr (0, [.ref qb, .ref qe, .int od, .int ot, .int tm])), (qb, .inl (cA, 32, .inl b)), (qe, .inl (cE, 2, .inl g))]) [0, 1, 2, 3] (by decide) rfl
  have hKc := hK.sub (tys' := [(cA, .int), (cE, .int)]) [0, 1] rfl
  have hFc := va_free (wc := [(qp, .inr (1, [.ref qf])), (qf, .inr (0, [.ref qb, .ref qe, .int od, .int ot, .int tm])), (qb, .inl (cA, 32, .inl b)), (qe, .inl (cE, 2, .inl g))]) hD hS hA [0, 1, 2, 3] rfl
  refine va_calli (va_runV (As := [.int 1]) (rest := []) ⟨hx, hb, hml, hown, hts⟩ (c_P_isGood l dC dI cA cE qp qf qb qe s.heap.size b g od ot tm 1) (cwV 1 hts gX1_active_X1_isGood rfl rfl rfl (by decide +kernel) ⟨Nat.le_of_ble_eq_true rfl, Nat.le_of_ble_eq_true rfl⟩) ⟨fun a U g mk q => by obtain ⟨q0, q1, qP, qK, qD⟩ := q; exact ⟨q0, q1, qP, va_K.moved (u := U) (U := U.calling g mk a) (Vm.Alike.refl U.vm) qK, qD⟩, va_recv hKc hPc (ci := 1) (q0 := 0) rfl rfl, fun U hU hW => ⟨rfl, by rw [hU], by rw [hU]; exact hPc, va_K.moved hW.alike hKc, hDc.weaken (fun _ _ _ _ => trivial)⟩⟩ rfl rfl hl.1 rfl (lv_room (Nat.le_of_ble_eq_true rfl)) dX1_active_2 ⟨(Nat.zero_le _), (Nat.zero_le _)⟩) hS (fun q _ h => hFc q h) hFc (fun r_1 u t H locs ht hvm hw hB hz1 hk1 hS => ?_)
  have hw : tt_gd b 1 = r_1 := hw.symm
  subst hw
  obtain ⟨hP1, hK1, hD1⟩ := hB
  rw [ht] at hP1
  obtain ⟨hP, hD⟩ := va_join (wr := []) (w1 := [(qp, .inr (1, [.ref qf])), (qf, .inr (0, [.ref qb, .ref qe, .int od, .int ot, .int tm])), (qb, .inl (cA, 32, .inl b)), (qe, .inl (cE, 2, .inl g))]) hP hD [0, 1, 2, 3] [] rfl rfl (by decide) (by decide) hk1 hFc hP1 hD1
  have hP : va_P (dC, dI) ttCl [(qp, .inr (1, [.ref qf])), (qf, .inr (0, [.ref qb, .ref qe, .int od, .int ot, .int tm])), (qb, .inl (cA, 32, .inl b)), (qe, .inl (cE, 2, .inl g))] H := hP
  have hD : va_D A [(qp, .inr (1, [.ref qf])), (qf, .inr (0, [.ref qb, .ref qe, .int od, .int ot, .int tm])), (qb, .inl (cA, 32, .inl b)), (qe, .inl (cE, 2, .inl g))] := hD
  refine lv_if_ne (tgt := 10) hx hb dX1_active_5 (by decide) (fun c_2 => ?_) (fun c_2 => ?_)
  · refine lv_aload_n hx hb dX1_active_10 rfl (lv_at hl 0 rfl) ?_
    refine lv_iconst (v := 0) hx hb dX1_active_11 (by decide) ?_
    have hPc := hP.sub (ws' := [(qp, .inr (1, [.ref qf])), (qf, .inr (0, [.ref qb, .ref qe, .int od, .int ot, .int tm])), (qb, .inl (cA, 32, .inl b)), (qe, .inl (cE, 2, .inl g))]) [0, 1, 2, 3] rfl
    have hDc := hD.sub (ws' := [(qp, .inr (1, [.ref qf])), (qf, .inr (0, [.ref qb, .ref qe, .int od, .int ot, .int tm])), (qb, .inl (cA, 32, .inl b)), (qe, .inl (cE, 2, .inl g))]) [0, 1, 2, 3] (by decide) rfl
    have hKc := hK.sub (tys' := [(cA, .int), (cE, .int)]) [0, 1] rfl
    have hFc := va_free (wc := [(qp, .inr (1, [.ref qf])), (qf, .inr (0, [.ref qb, .ref qe, .int od, .int ot, .int tm])), (qb, .inl (cA, 32, .inl b)), (qe, .inl (cE, 2, .inl g))]) hD hS hA [0, 1, 2, 3] rfl
    refine va_calli (va_runV (As := [.int 0]) (rest := []) ⟨hx, hb, hml, hown, hts⟩ (c_P_isGood l dC dI cA cE qp qf qb qe H.size b g od ot tm 0) (cwV 1 hts gX1_active_X1_isGood rfl rfl rfl (by decide +kernel) ⟨Nat.le_of_ble_eq_true rfl, Nat.le_of_ble_eq_true rfl⟩) ⟨fun a U g mk q => by obtain ⟨q0, q1, qP, qK, qD⟩ := q; exact ⟨q0, q1, qP, va_K.moved (u := U) (U := U.calling g mk a) (Vm.Alike.refl U.vm) qK, qD⟩, va_recv hKc hPc (ci := 1) (q0 := 0) rfl rfl, fun U hU hW => ⟨rfl, by rw [hU], by rw [hU]; exact hPc, va_K.moved hW.alike hKc, hDc.weaken (fun _ _ _ _ => trivial)⟩⟩ rfl rfl hl.1 rfl (lv_room (Nat.le_of_ble_eq_true rfl)) dX1_active_12 ⟨(Nat.zero_le _), (Nat.zero_le _)⟩) hS (fun q _ h => hFc q h) hFc (fun r_3 u t H locs ht hvm hw hB hz1 hk1 hS => ?_)
    have hw : tt_gd b 0 = r_3 := hw.symm
    subst hw
    obtain ⟨hP1, hK1, hD1⟩ := hB
    rw [ht] at hP1
    obtain ⟨hP, hD⟩ := va_join (wr := []) (w1 := [(qp, .inr (1, [.ref qf])), (qf, .inr (0, [.ref qb, .ref qe, .int od, .int ot, .int tm])), (qb, .inl (cA, 32, .inl b)), (qe, .inl (cE, 2, .inl g))]) hP hD [0, 1, 2, 3] [] rfl rfl (by decide) (by decide) hk1 hFc hP1 hD1
    have hP : va_P (dC, dI) ttCl [(qp, .inr (1, [.ref qf])), (qf, .inr (0, [.ref qb, .ref qe, .int od, .int ot, .int tm])), (qb, .inl (cA, 32, .inl b)), (qe, .inl (cE, 2, .inl g))] H := hP
    have hD : va_D A [(qp, .inr (1, [.ref qf])), (qf, .inr (0, [.ref qb, .ref qe, .int od, .int ot, .int tm])), (qb, .inl (cA, 32, .inl b)), (qe, .inl (cE, 2, .inl g))] := hD
    refine lv_if_ne (tgt := 20) hx hb dX1_active_15 (by decide) (fun c_4 => ?_) (fun c_4 => ?_)
    · refine lv_aload_n hx hb dX1_active_20 rfl (lv_at hl 0 rfl) ?_
      refine va_get (D := (dC, dI)) (ci := 1) (v := .ref qf) (C := RX1) (T := TX1) (N := 1) hx hb hts (by decide +kernel) hown hK hP 0 rfl rfl 0 (by decide) (hts (.fieldLink RX1 7 "TornTryCounter$Pages" "flash" "LTornTryCounter$Flash;") (by decide +kernel)) (fun _ h9 => h9) rfl dX1_active_21 ?_
      refine lv_iconst (v := 1) hx hb dX1_active_24 (by decide) ?_
      refine lv_iconst (v := 1) hx hb dX1_active_25 (by decide) ?_
      have hPc := hP.sub (ws' := [(qf, .inr (0, [.ref qb, .ref qe, .int od, .int ot, .int tm])), (qb, .inl (cA, 32, .inl b)), (qe, .inl (cE, 2, .inl g))]) [1, 2, 3] rfl
      have hDc := hD.sub (ws' := [(qf, .inr (0, [.ref qb, .ref qe, .int od, .int ot, .int tm])), (qb, .inl (cA, 32, .inl b)), (qe, .inl (cE, 2, .inl g))]) [1, 2, 3] (by decide) rfl
      have hKc := hK.sub (tys' := [(cA, .int), (cE, .int)]) [0, 1] rfl
      have hFc := va_free (wc := [(qf, .inr (0, [.ref qb, .ref qe, .int od, .int ot, .int tm])), (qb, .inl (cA, 32, .inl b)), (qe, .inl (cE, 2, .inl g))]) hD hS hA [1, 2, 3] rfl
      refine va_calli (va_runV (As := [.int 1, .int 1]) (rest := []) ⟨hx, hb, hml, hown, hts⟩ (c_F_read l dC dI cA cE qf qb qe H.size b g od ot tm 1 1) (cwV 2 hts gX1_active_X0_read rfl rfl rfl (by decide +kernel) ⟨Nat.le_of_ble_eq_true rfl, Nat.le_of_ble_eq_true rfl⟩) ⟨fun a U g mk q => by obtain ⟨q0, q1, qP, qK, qD⟩ := q; exact ⟨q0, q1, qP, va_K.moved (u := U) (U := U.calling g mk a) (Vm.Alike.refl U.vm) qK, qD⟩, va_recv hKc hPc (ci := 0) (q0 := 0) rfl rfl, fun U hU hW => ⟨rfl, by rw [hU], by rw [hU]; exact hPc, va_K.moved hW.alike hKc, hDc.weaken (fun _ _ _ _ => trivial)⟩⟩ rfl rfl hl.1 rfl (lv_room (Nat.le_of_ble_eq_true rfl)) dX1_active_26 ⟨(Nat.zero_le _), (Nat.zero_le _)⟩) hS (fun q _ h => hFc q h) hFc (fun r_5 u t H locs ht hvm hw hB hz1 hk1 hS => ?_)
      have hw : tt_rd b 1 1 = r_5 := hw.symm
      subst hw
      obtain ⟨hP1, hK1, hD1⟩ := hB
      rw [ht] at hP1
      obtain ⟨hP, hD⟩ := va_join (wr := [(qp, .inr (1, [.ref qf]))]) (w1 := [(qf, .inr (0, [.ref qb, .ref qe, .int od, .int ot, .int tm])), (qb, .inl (cA, 32, .inl b)), (qe, .inl (cE, 2, .inl g))]) hP hD [1, 2, 3] [0] rfl rfl (by decide) (by decide) hk1 hFc hP1 hD1
      have hP : va_P (dC, dI) ttCl [(qp, .inr (1, [.ref qf])), (qf, .inr (0, [.ref qb, .ref qe, .int od, .int ot, .int tm])), (qb, .inl (cA, 32, .inl b)), (qe, .inl (cE, 2, .inl g))] H := hP
      have hD : va_D A [(qp, .inr (1, [.ref qf])), (qf, .inr (0, [.ref qb, .ref qe, .int od, .int ot, .int tm])), (qb, .inl (cA, 32, .inl b)), (qe, .inl (cE, 2, .inl g))] := hD
      refine lv_aload_n hx hb dX1_active_29 rfl (lv_at hl 0 rfl) ?_
      refine lv_iconst (v := 0) hx hb dX1_active_30 (by decide) ?_
      have hPc := hP.sub (ws' := [(qp, .inr (1, [.ref qf])), (qf, .inr (0, [.ref qb, .ref qe, .int od, .int ot, .int tm])), (qb, .inl (cA, 32, .inl b)), (qe, .inl (cE, 2, .inl g))]) [0, 1, 2, 3] rfl
      have hDc := hD.sub (ws' := [(qp, .inr (1, [.ref qf])), (qf, .inr (0, [.ref qb, .ref qe, .int od, .int ot, .int tm])), (qb, .inl (cA, 32, .inl b)), (qe, .inl (cE, 2, .inl g))]) [0, 1, 2, 3] (by decide) rfl
      have hKc := hK.sub (tys' := [(cA, .int), (cE, .int)]) [0, 1] rfl
      have hFc := va_free (wc := [(qp, .inr (1, [.ref qf])), (qf, .inr (0, [.ref qb, .ref qe, .int od, .int ot, .int tm])), (qb, .inl (cA, 32, .inl b)), (qe, .inl (cE, 2, .inl g))]) hD hS hA [0, 1, 2, 3] rfl
      refine va_calli (va_runV (As := [.int 0]) (rest := [.int (tt_rd b 1 1)]) ⟨hx, hb, hml, hown, hts⟩ (c_P_generationAfter l dC dI cA cE qp qf qb qe H.size b g od ot tm 0) (cwV 1 hts gX1_active_X1_generationAfter rfl rfl rfl (by decide +kernel) ⟨Nat.le_of_ble_eq_true rfl, Nat.le_of_ble_eq_true rfl⟩) ⟨fun a U g mk q => by obtain ⟨q0, q1, qP, qK, qD⟩ := q; exact ⟨q0, q1, qP, va_K.moved (u := U) (U := U.calling g mk a) (Vm.Alike.refl U.vm) qK, qD⟩, va_recv hKc hPc (ci := 1) (q0 := 0) rfl rfl, fun U hU hW => ⟨rfl, by rw [hU], by rw [hU]; exact hPc, va_K.moved hW.alike hKc, hDc.weaken (fun _ _ _ _ => trivial)⟩⟩ rfl rfl hl.1 rfl (lv_room (Nat.le_of_ble_eq_true rfl)) dX1_active_31 ⟨(Nat.zero_le _), (Nat.zero_le _)⟩) hS (fun q _ h => hFc q h) hFc (fun r_6 u t H locs ht hvm hw hB hz1 hk1 hS => ?_)
      have hw : tt_ga b 0 = r_6 := hw.symm
      subst hw
      obtain ⟨hP1, hK1, hD1⟩ := hB
      rw [ht] at hP1
      obtain ⟨hP, hD⟩ := va_join (wr := []) (w1 := [(qp, .inr (1, [.ref qf])), (qf, .inr (0, [.ref qb, .ref qe, .int od, .int ot, .int tm])), (qb, .inl (cA, 32, .inl b)), (qe, .inl (cE, 2, .inl g))]) hP hD [0, 1, 2, 3] [] rfl rfl (by decide) (by decide) hk1 hFc hP1 hD1
      have hP : va_P (dC, dI) ttCl [(qp, .inr (1, [.ref qf])), (qf, .inr (0, [.ref qb, .ref qe, .int od, .int ot, .int tm])), (qb, .inl (cA, 32, .inl b)), (qe, .inl (cE, 2, .inl g))] H := hP
      have hD : va_D A [(qp, .inr (1, [.ref qf])), (qf, .inr (0, [.ref qb, .ref qe, .int od, .int ot, .int tm])), (qb, .inl (cA, 32, .inl b)), (qe, .inl (cE, 2, .inl g))] := hD
      refine lv_icmp_ne (tgt := 41) hx hb dX1_active_34 (by decide) (fun c_7 => ?_) (fun c_7 => ?_)
      · refine lv_iconst (v := 0) hx hb dX1_active_41 (by decide) ?_
        have hP9 := hP.sub (ws' := [(qp, .inr (1, [.ref qf])), (qf, .inr (0, [.ref qb, .ref qe, .int od, .int ot, .int tm])), (qb, .inl (cA, 32, .inl b)), (qe, .inl (cE, 2, .inl g))]) [0, 1, 2, 3] rfl
        have hD9 := hD.sub (ws' := [(qp, .inr (1, [.ref qf])), (qf, .inr (0, [.ref qb, .ref qe, .int od, .int ot, .int tm])), (qb, .inl (cA, 32, .inl b)), (qe, .inl (cE, 2, .inl g))]) [0, 1, 2, 3] (by decide) rfl
        have hK9 := hK.sub (tys' := [(cA, .int), (cE, .int)]) [0, 1] rfl
        exact W.iret (v := 0) hx hb hr (fun t ht hW => ⟨⟨0, (), rfl, (by first | (simp only [tt_ac, c_2, c_4, c_7, reduceIte, eq_self]; done) | (simp [tt_ac, c_2, c_4, c_7]; done)), by rw [ht]; exact hP9, va_K.moved hW.alike hK9, hD9⟩, hS.F ht⟩) hS.2.2 dX1_active_42
      · refine lv_iconst (v := 1) hx hb dX1_active_37 (by decide) ?_
        refine lv_goto (tgt := 42) hx hb dX1_active_38 (by decide) ?_
        have hP9 := hP.sub (ws' := [(qp, .inr (1, [.ref qf])), (qf, .inr (0, [.ref qb, .ref qe, .int od, .int ot, .int tm])), (qb, .inl (cA, 32, .inl b)), (qe, .inl (cE, 2, .inl g))]) [0, 1, 2, 3] rfl
        have hD9 := hD.sub (ws' := [(qp, .inr (1, [.ref qf])), (qf, .inr (0, [.ref qb, .ref qe, .int od, .int ot, .int tm])), (qb, .inl (cA, 32, .inl b)), (qe, .inl (cE, 2, .inl g))]) [0, 1, 2, 3] (by decide) rfl
        have hK9 := hK.sub (tys' := [(cA, .int), (cE, .int)]) [0, 1] rfl
        exact W.iret (v := 1) hx hb hr (fun t ht hW => ⟨⟨1, (), rfl, (by first | (simp only [tt_ac, c_2, c_4, c_7, reduceIte, eq_self]; done) | (simp [tt_ac, c_2, c_4, c_7]; done)), by rw [ht]; exact hP9, va_K.moved hW.alike hK9, hD9⟩, hS.F ht⟩) hS.2.2 dX1_active_42
    · refine lv_iconst (v := 1) hx hb dX1_active_18 (by decide) ?_
      have hP9 := hP.sub (ws' := [(qp, .inr (1, [.ref qf])), (qf, .inr (0, [.ref qb, .ref qe, .int od, .int ot, .int tm])), (qb, .inl (cA, 32, .inl b)), (qe, .inl (cE, 2, .inl g))]) [0, 1, 2, 3] rfl
      have hD9 := hD.sub (ws' := [(qp, .inr (1, [.ref qf])), (qf, .inr (0, [.ref qb, .ref qe, .int od, .int ot, .int tm])), (qb, .inl (cA, 32, .inl b)), (qe, .inl (cE, 2, .inl g))]) [0, 1, 2, 3] (by decide) rfl
      have hK9 := hK.sub (tys' := [(cA, .int), (cE, .int)]) [0, 1] rfl
      exact W.iret (v := 1) hx hb hr (fun t ht hW => ⟨⟨1, (), rfl, (by first | (simp only [tt_ac, c_2, c_4, reduceIte, eq_self]; done) | (simp [tt_ac, c_2, c_4]; done)), by rw [ht]; exact hP9, va_K.moved hW.alike hK9, hD9⟩, hS.F ht⟩) hS.2.2 dX1_active_19
  · refine lv_iconst (v := 0) hx hb dX1_active_8 (by decide) ?_
    have hP9 := hP.sub (ws' := [(qp, .inr (1, [.ref qf])), (qf, .inr (0, [.ref qb, .ref qe, .int od, .int ot, .int tm])), (qb, .inl (cA, 32, .inl b)), (qe, .inl (cE, 2, .inl g))]) [0, 1, 2, 3] rfl
    have hD9 := hD.sub (ws' := [(qp, .inr (1, [.ref qf])), (qf, .inr (0, [.ref qb, .ref qe, .int od, .int ot, .int tm])), (qb, .inl (cA, 32, .inl b)), (qe, .inl (cE, 2, .inl g))]) [0, 1, 2, 3] (by decide) rfl
    have hK9 := hK.sub (tys' := [(cA, .int), (cE, .int)]) [0, 1] rfl
    exact W.iret (v := 0) hx hb hr (fun t ht hW => ⟨⟨0, (), rfl, (by first | (simp only [tt_ac, c_2, reduceIte, eq_self]; done) | (simp [tt_ac, c_2]; done)), by rw [ht]; exact hP9, va_K.moved hW.alike hK9, hD9⟩, hS.F ht⟩) hS.2.2 dX1_active_9
set_option maxHeartbeats 4000000 in
set_option maxRecDepth 100000 in
theorem c_P_activeGeneration (l : Launch) (dC : Nat → ClassId) (dI : Nat → Nat → Nat) (cA cE : ClassId) (qp qf qb qe : Nat) (sz : Nat) (b g : Nat → Int32) (od ot tm : Int32) : Met l yX1_activeGeneration wsX1_activeGeneration ({ frames := 3, cells := 0, slots := 0, locals := 64 }) (va_Pc [.ref qp] (fun U => U.heap.size = sz ∧ va_P (dC, dI) ttCl [(qp, .inr (1, [.ref qf])), (qf, .inr (0, [.ref qb, .ref qe, .int od, .int ot, .int tm])), (qb, .inl (cA, 32, .inl b)), (qe, .inl (cE, 2, .inl g))] U.heap ∧ va_K (dC, dI) ttCl [(cA, .int), (cE, .int)] U ∧ va_D (fun _ => True) [(qp, .inr (1, [.ref qf])), (qf, .inr (0, [.ref qb, .ref qe, .int od, .int ot, .int tm])), (qb, .inl (cA, 32, .inl b)), (qe, .inl (cE, 2, .inl g))])) (va_Qi (fun (r : Int32) (_ : Unit) => r = tt_rd b (tt_ac b) 1) (fun (_ : Unit) (t : State) => at_P dC dI cA cE (va_A [(qp, .inr (1, [.ref qf])), (qf, .inr (0, [.ref qb, .ref qe, .int od, .int ot, .int tm])), (qb, .inl (cA, 32, .inl b)), (qe, .inl (cE, 2, .inl g))] sz) qp qf qb qe (b, g, od, ot, tm) t) (va_A [(qp, .inr (1, [.ref qf])), (qf, .inr (0, [.ref qb, .ref qe, .int od, .int ot, .int tm])), (qb, .inl (cA, 32, .inl b)), (qe, .inl (cE, 2, .inl g))] sz)) 0 0 (va_A [(qp, .inr (1, [.ref qf])), (qf, .inr (0, [.ref qb, .ref qe, .int od, .int ot, .int tm])), (qb, .inl (cA, 32, .inl b)), (qe, .inl (cE, 2, .inl g))] sz) := by
  refine Met.ofW (cc := cX1_activeGeneration) (maxL := 1) (ret := (some .int)) (by decide) rfl ?_
  intro p e s m args below meth c s₁ B hml hv
  obtain ⟨rfl, hsz, hP, hK, hD0⟩ := hv
  have hx := B.exec
  have hb := B.bytes
  have hr := B.returns
  have hts := atoms_spec (ws := wsX1_activeGeneration) B.pre
  have hown : s.vm.findClass RX1 = some m.cls := findClass_of_methodNamed B.named
  have hlocks := B.notSynchronized
  subst hsz
  have hD := hD0.self (sz := s.heap.size)
  generalize hAe : va_A [(qp, .inr (1, [.ref qf])), (qf, .inr (0, [.ref qb, .ref qe, .int od, .int ot, .int tm])), (qb, .inl (cA, 32, .inl b)), (qe, .inl (cE, 2, .inl g))] s.heap.size = A at hD ⊢
  have hA : ∀ q : Nat, s.heap.size ≤ q → A q := fun q h => by rw [← hAe]; exact Or.inr h
  have hS : va_S A s.heap s.heap [] := va_S.rf
  have hP : va_P (dC, dI) ttCl [(qp, .inr (1, [.ref qf])), (qf, .inr (0, [.ref qb, .ref qe, .int od, .int ot, .int tm])), (qb, .inl (cA, 32, .inl b)), (qe, .inl (cE, 2, .inl g))] s.heap := hP
  have hl := lv_entry ([.ref qp]) (n := 1) (Nat.le_of_ble_eq_true rfl)
  rw [lg_entry_eq]
  generalize (lg_sl ([.ref qp]) ++ List.replicate (1 - (lg_sl ([.ref qp])).length) Slot.unset).toArray = ls at hl ⊢
  have hl : lv_has ls 1 [(0, .ref qp)] := hl
  refine lv_aload_n hx hb dX1_activeGeneration_0 rfl (lv_at hl 0 rfl) ?_
  refine va_get (D := (dC, dI)) (ci := 1) (v := .ref qf) (C := RX1) (T := TX1) (N := 1) hx hb hts (by decide +kernel) hown hK hP 0 rfl rfl 0 (by decide) (hts (.fieldLink RX1 7 "TornTryCounter$Pages" "flash" "LTornTryCounter$Flash;") (by decide +kernel)) (fun _ h9 => h9) rfl dX1_activeGeneration_1 ?_
  refine lv_aload_n hx hb dX1_activeGeneration_4 rfl (lv_at hl 0 rfl) ?_
  have hPc := hP.sub (ws' := [(qp, .inr (1, [.ref qf])), (qf, .inr (0, [.ref qb, .ref qe, .int od, .int ot, .int tm])), (qb, .inl (cA, 32, .inl b)), (qe, .inl (cE, 2, .inl g))]) [0, 1, 2, 3] rfl
  have hDc := hD.sub (ws' := [(qp, .inr (1, [.ref qf])), (qf, .inr (0, [.ref qb, .ref qe, .int od, .int ot, .int tm])), (qb, .inl (cA, 32, .inl b)), (qe, .inl (cE, 2, .inl g))]) [0, 1, 2, 3] (by decide) rfl
  have hKc := hK.sub (tys' := [(cA, .int), (cE, .int)]) [0, 1] rfl
  have hFc := va_free (wc := [(qp, .inr (1, [.ref qf])), (qf, .inr (0, [.ref qb, .ref qe, .int od, .int ot, .int tm])), (qb, .inl (cA, 32, .inl b)), (qe, .inl (cE, 2, .inl g))]) hD hS hA [0, 1, 2, 3] rfl
  refine va_calli (va_runV (As := []) (rest := [.ref qf]) ⟨hx, hb, hml, hown, hts⟩ (c_P_active l dC dI cA cE qp qf qb qe s.heap.size b g od ot tm) (cwV 0 hts gX1_activeGeneration_X1_active rfl rfl rfl (by decide +kernel) ⟨Nat.le_of_ble_eq_true rfl, Nat.le_of_ble_eq_true rfl⟩) ⟨fun a U g mk q => by obtain ⟨q0, q1, qP, qK, qD⟩ := q; exact ⟨q0, q1, qP, va_K.moved (u := U) (U := U.calling g mk a) (Vm.Alike.refl U.vm) qK, qD⟩, va_recv hKc hPc (ci := 1) (q0 := 0) rfl rfl, fun U hU hW => ⟨rfl, by rw [hU], by rw [hU]; exact hPc, va_K.moved hW.alike hKc, hDc.weaken (fun _ _ _ _ => trivial)⟩⟩ rfl rfl hl.1 rfl (lv_room (Nat.le_of_ble_eq_true rfl)) dX1_activeGeneration_5 ⟨(Nat.zero_le _), (Nat.zero_le _)⟩) hS (fun q _ h => hFc q h) hFc (fun r_1 u t H locs ht hvm hw hB hz1 hk1 hS => ?_)
  have hw : tt_ac b = r_1 := hw.symm
  subst hw
  obtain ⟨hP1, hK1, hD1⟩ := hB
  rw [ht] at hP1
  obtain ⟨hP, hD⟩ := va_join (wr := []) (w1 := [(qp, .inr (1, [.ref qf])), (qf, .inr (0, [.ref qb, .ref qe, .int od, .int ot, .int tm])), (qb, .inl (cA, 32, .inl b)), (qe, .inl (cE, 2, .inl g))]) hP hD [0, 1, 2, 3] [] rfl rfl (by decide) (by decide) hk1 hFc hP1 hD1
  have hP : va_P (dC, dI) ttCl [(qp, .inr (1, [.ref qf])), (qf, .inr (0, [.ref qb, .ref qe, .int od, .int ot, .int tm])), (qb, .inl (cA, 32, .inl b)), (qe, .inl (cE, 2, .inl g))] H := hP
  have hD : va_D A [(qp, .inr (1, [.ref qf])), (qf, .inr (0, [.ref qb, .ref qe, .int od, .int ot, .int tm])), (qb, .inl (cA, 32, .inl b)), (qe, .inl (cE, 2, .inl g))] := hD
  refine lv_iconst (v := 1) hx hb dX1_activeGeneration_8 (by decide) ?_
  have hPc := hP.sub (ws' := [(qf, .inr (0, [.ref qb, .ref qe, .int od, .int ot, .int tm])), (qb, .inl (cA, 32, .inl b)), (qe, .inl (cE, 2, .inl g))]) [1, 2, 3] rfl
  have hDc := hD.sub (ws' := [(qf, .inr (0, [.ref qb, .ref qe, .int od, .int ot, .int tm])), (qb, .inl (cA, 32, .inl b)), (qe, .inl (cE, 2, .inl g))]) [1, 2, 3] (by decide) rfl
  have hKc := hK.sub (tys' := [(cA, .int), (cE, .int)]) [0, 1] rfl
  have hFc := va_free (wc := [(qf, .inr (0, [.ref qb, .ref qe, .int od, .int ot, .int tm])), (qb, .inl (cA, 32, .inl b)), (qe, .inl (cE, 2, .inl g))]) hD hS hA [1, 2, 3] rfl
  refine va_calli (va_runV (As := [.int (tt_ac b), .int 1]) (rest := []) ⟨hx, hb, hml, hown, hts⟩ (c_F_read l dC dI cA cE qf qb qe H.size b g od ot tm (tt_ac b) 1) (cwV 2 hts gX1_activeGeneration_X0_read rfl rfl rfl (by decide +kernel) ⟨Nat.le_of_ble_eq_true rfl, Nat.le_of_ble_eq_true rfl⟩) ⟨fun a U g mk q => by obtain ⟨q0, q1, qP, qK, qD⟩ := q; exact ⟨q0, q1, qP, va_K.moved (u := U) (U := U.calling g mk a) (Vm.Alike.refl U.vm) qK, qD⟩, va_recv hKc hPc (ci := 0) (q0 := 0) rfl rfl, fun U hU hW => ⟨rfl, by rw [hU], by rw [hU]; exact hPc, va_K.moved hW.alike hKc, hDc.weaken (fun _ _ _ _ => trivial)⟩⟩ rfl rfl hl.1 rfl (lv_room (Nat.le_of_ble_eq_true rfl)) dX1_activeGeneration_9 ⟨(Nat.zero_le _), (Nat.zero_le _)⟩) hS (fun q _ h => hFc q h) hFc (fun r_2 u t H locs ht hvm hw hB hz1 hk1 hS => ?_)
  have hw : tt_rd b (tt_ac b) 1 = r_2 := hw.symm
  subst hw
  obtain ⟨hP1, hK1, hD1⟩ := hB
  rw [ht] at hP1
  obtain ⟨hP, hD⟩ := va_join (wr := [(qp, .inr (1, [.ref qf]))]) (w1 := [(qf, .inr (0, [.ref qb, .ref qe, .int od, .int ot, .int tm])), (qb, .inl (cA, 32, .inl b)), (qe, .inl (cE, 2, .inl g))]) hP hD [1, 2, 3] [0] rfl rfl (by decide) (by decide) hk1 hFc hP1 hD1
  have hP : va_P (dC, dI) ttCl [(qp, .inr (1, [.ref qf])), (qf, .inr (0, [.ref qb, .ref qe, .int od, .int ot, .int tm])), (qb, .inl (cA, 32, .inl b)), (qe, .inl (cE, 2, .inl g))] H := hP
  have hD : va_D A [(qp, .inr (1, [.ref qf])), (qf, .inr (0, [.ref qb, .ref qe, .int od, .int ot, .int tm])), (qb, .inl (cA, 32, .inl b)), (qe, .inl (cE, 2, .inl g))] := hD
  have hP9 := hP.sub (ws' := [(qp, .inr (1, [.ref qf])), (qf, .inr (0, [.ref qb, .ref qe, .int od, .int ot, .int tm])), (qb, .inl (cA, 32, .inl b)), (qe, .inl (cE, 2, .inl g))]) [0, 1, 2, 3] rfl
  have hD9 := hD.sub (ws' := [(qp, .inr (1, [.ref qf])), (qf, .inr (0, [.ref qb, .ref qe, .int od, .int ot, .int tm])), (qb, .inl (cA, 32, .inl b)), (qe, .inl (cE, 2, .inl g))]) [0, 1, 2, 3] (by decide) rfl
  have hK9 := hK.sub (tys' := [(cA, .int), (cE, .int)]) [0, 1] rfl
  exact W.iret (v := tt_rd b (tt_ac b) 1) hx hb hr (fun t ht hW => ⟨⟨tt_rd b (tt_ac b) 1, (), rfl, rfl, by rw [ht]; exact hP9, va_K.moved hW.alike hK9, hD9⟩, hS.F ht⟩) hS.2.2 dX1_activeGeneration_12
set_option maxHeartbeats 4000000 in
set_option maxRecDepth 100000 in
theorem c_P_pin (l : Launch) (dC : Nat → ClassId) (dI : Nat → Nat → Nat) (cA cE : ClassId) (qp qf qb qe : Nat) (sz : Nat) (b g : Nat → Int32) (od ot tm : Int32) : Met l yX1_pin wsX1_pin ({ frames := 3, cells := 0, slots := 0, locals := 64 }) (va_Pc [.ref qp] (fun U => U.heap.size = sz ∧ va_P (dC, dI) ttCl [(qp, .inr (1, [.ref qf])), (qf, .inr (0, [.ref qb, .ref qe, .int od, .int ot, .int tm])), (qb, .inl (cA, 32, .inl b)), (qe, .inl (cE, 2, .inl g))] U.heap ∧ va_K (dC, dI) ttCl [(cA, .int), (cE, .int)] U ∧ va_D (fun _ => True) [(qp, .inr (1, [.ref qf])), (qf, .inr (0, [.ref qb, .ref qe, .int od, .int ot, .int tm])), (qb, .inl (cA, 32, .inl b)), (qe, .inl (cE, 2, .inl g))])) (va_Qi (fun (r : Int32) (_ : Unit) => r = tt_pin b) (fun (_ : Unit) (t : State) => at_P dC dI cA cE (va_A [(qp, .inr (1, [.ref qf])), (qf, .inr (0, [.ref qb, .ref qe, .int od, .int ot, .int tm])), (qb, .inl (cA, 32, .inl b)), (qe, .inl (cE, 2, .inl g))] sz) qp qf qb qe (b, g, od, ot, tm) t) (va_A [(qp, .inr (1, [.ref qf])), (qf, .inr (0, [.ref qb, .ref qe, .int od, .int ot, .int tm])), (qb, .inl (cA, 32, .inl b)), (qe, .inl (cE, 2, .inl g))] sz)) 0 0 (va_A [(qp, .inr (1, [.ref qf])), (qf, .inr (0, [.ref qb, .ref qe, .int od, .int ot, .int tm])), (qb, .inl (cA, 32, .inl b)), (qe, .inl (cE, 2, .inl g))] sz) := by
  refine Met.ofW (cc := cX1_pin) (maxL := 2) (ret := (some .int)) (by decide) rfl ?_
  intro p e s m args below meth c s₁ B hml hv
  obtain ⟨rfl, hsz, hP, hK, hD0⟩ := hv
  have hx := B.exec
  have hb := B.bytes
  have hr := B.returns
  have hts := atoms_spec (ws := wsX1_pin) B.pre
  have hown : s.vm.findClass RX1 = some m.cls := findClass_of_methodNamed B.named
  have hlocks := B.notSynchronized
  subst hsz
  have hD := hD0.self (sz := s.heap.size)
  generalize hAe : va_A [(qp, .inr (1, [.ref qf])), (qf, .inr (0, [.ref qb, .ref qe, .int od, .int ot, .int tm])), (qb, .inl (cA, 32, .inl b)), (qe, .inl (cE, 2, .inl g))] s.heap.size = A at hD ⊢
  have hA : ∀ q : Nat, s.heap.size ≤ q → A q := fun q h => by rw [← hAe]; exact Or.inr h
  have hS : va_S A s.heap s.heap [] := va_S.rf
  have hP : va_P (dC, dI) ttCl [(qp, .inr (1, [.ref qf])), (qf, .inr (0, [.ref qb, .ref qe, .int od, .int ot, .int tm])), (qb, .inl (cA, 32, .inl b)), (qe, .inl (cE, 2, .inl g))] s.heap := hP
  have hl := lv_entry ([.ref qp]) (n := 2) (Nat.le_of_ble_eq_true rfl)
  rw [lg_entry_eq]
  generalize (lg_sl ([.ref qp]) ++ List.replicate (2 - (lg_sl ([.ref qp])).length) Slot.unset).toArray = ls at hl ⊢
  have hl : lv_has ls 2 [(0, .ref qp)] := hl
  refine lv_aload_n hx hb dX1_pin_0 rfl (lv_at hl 0 rfl) ?_
  have hPc := hP.sub (ws' := [(qp, .inr (1, [.ref qf])), (qf, .inr (0, [.ref qb, .ref qe, .int od, .int ot, .int tm])), (qb, .inl (cA, 32, .inl b)), (qe, .inl (cE, 2, .inl g))]) [0, 1, 2, 3] rfl
  have hDc := hD.sub (ws' := [(qp, .inr (1, [.ref qf])), (qf, .inr (0, [.ref qb, .ref qe, .int od, .int ot, .int tm])), (qb, .inl (cA, 32, .inl b)), (qe, .inl (cE, 2, .inl g))]) [0, 1, 2, 3] (by decide) rfl
  have hKc := hK.sub (tys' := [(cA, .int), (cE, .int)]) [0, 1] rfl
  have hFc := va_free (wc := [(qp, .inr (1, [.ref qf])), (qf, .inr (0, [.ref qb, .ref qe, .int od, .int ot, .int tm])), (qb, .inl (cA, 32, .inl b)), (qe, .inl (cE, 2, .inl g))]) hD hS hA [0, 1, 2, 3] rfl
  refine va_calli (va_runV (As := []) (rest := []) ⟨hx, hb, hml, hown, hts⟩ (c_P_active l dC dI cA cE qp qf qb qe s.heap.size b g od ot tm) (cwV 0 hts gX1_pin_X1_active rfl rfl rfl (by decide +kernel) ⟨Nat.le_of_ble_eq_true rfl, Nat.le_of_ble_eq_true rfl⟩) ⟨fun a U g mk q => by obtain ⟨q0, q1, qP, qK, qD⟩ := q; exact ⟨q0, q1, qP, va_K.moved (u := U) (U := U.calling g mk a) (Vm.Alike.refl U.vm) qK, qD⟩, va_recv hKc hPc (ci := 1) (q0 := 0) rfl rfl, fun U hU hW => ⟨rfl, by rw [hU], by rw [hU]; exact hPc, va_K.moved hW.alike hKc, hDc.weaken (fun _ _ _ _ => trivial)⟩⟩ rfl rfl hl.1 rfl (lv_room (Nat.le_of_ble_eq_true rfl)) dX1_pin_1 ⟨(Nat.zero_le _), (Nat.zero_le _)⟩) hS (fun q _ h => hFc q h) hFc (fun r_1 u t H locs ht hvm hw hB hz1 hk1 hS => ?_)
  have hw : tt_ac b = r_1 := hw.symm
  subst hw
  obtain ⟨hP1, hK1, hD1⟩ := hB
  rw [ht] at hP1
  obtain ⟨hP, hD⟩ := va_join (wr := []) (w1 := [(qp, .inr (1, [.ref qf])), (qf, .inr (0, [.ref qb, .ref qe, .int od, .int ot, .int tm])), (qb, .inl (cA, 32, .inl b)), (qe, .inl (cE, 2, .inl g))]) hP hD [0, 1, 2, 3] [] rfl rfl (by decide) (by decide) hk1 hFc hP1 hD1
  have hP : va_P (dC, dI) ttCl [(qp, .inr (1, [.ref qf])), (qf, .inr (0, [.ref qb, .ref qe, .int od, .int ot, .int tm])), (qb, .inl (cA, 32, .inl b)), (qe, .inl (cE, 2, .inl g))] H := hP
  have hD : va_D A [(qp, .inr (1, [.ref qf])), (qf, .inr (0, [.ref qb, .ref qe, .int od, .int ot, .int tm])), (qb, .inl (cA, 32, .inl b)), (qe, .inl (cE, 2, .inl g))] := hD
  refine lv_istore_n (lv' := [(1, .int (tt_ac b)), (0, .ref qp)]) hx hb dX1_pin_4 rfl hl (by decide) rfl (fun ls hl => ?_)
  refine lv_aload_n hx hb dX1_pin_5 rfl (lv_at hl 1 rfl) ?_
  refine va_get (D := (dC, dI)) (ci := 1) (v := .ref qf) (C := RX1) (T := TX1) (N := 1) hx hb hts (by decide +kernel) hown hK hP 0 rfl rfl 0 (by decide) (hts (.fieldLink RX1 7 "TornTryCounter$Pages" "flash" "LTornTryCounter$Flash;") (by decide +kernel)) (fun _ h9 => h9) rfl dX1_pin_6 ?_
  refine lv_iload_n hx hb dX1_pin_9 rfl (lv_at hl 0 rfl) ?_
  refine lv_iconst (v := 2) hx hb dX1_pin_10 (by decide) ?_
  have hPc := hP.sub (ws' := [(qf, .inr (0, [.ref qb, .ref qe, .int od, .int ot, .int tm])), (qb, .inl (cA, 32, .inl b)), (qe, .inl (cE, 2, .inl g))]) [1, 2, 3] rfl
  have hDc := hD.sub (ws' := [(qf, .inr (0, [.ref qb, .ref qe, .int od, .int ot, .int tm])), (qb, .inl (cA, 32, .inl b)), (qe, .inl (cE, 2, .inl g))]) [1, 2, 3] (by decide) rfl
  have hKc := hK.sub (tys' := [(cA, .int), (cE, .int)]) [0, 1] rfl
  have hFc := va_free (wc := [(qf, .inr (0, [.ref qb, .ref qe, .int od, .int ot, .int tm])), (qb, .inl (cA, 32, .inl b)), (qe, .inl (cE, 2, .inl g))]) hD hS hA [1, 2, 3] rfl
  refine va_calli (va_runV (As := [.int (tt_ac b), .int 2]) (rest := []) ⟨hx, hb, hml, hown, hts⟩ (c_F_read l dC dI cA cE qf qb qe H.size b g od ot tm (tt_ac b) 2) (cwV 2 hts gX1_pin_X0_read rfl rfl rfl (by decide +kernel) ⟨Nat.le_of_ble_eq_true rfl, Nat.le_of_ble_eq_true rfl⟩) ⟨fun a U g mk q => by obtain ⟨q0, q1, qP, qK, qD⟩ := q; exact ⟨q0, q1, qP, va_K.moved (u := U) (U := U.calling g mk a) (Vm.Alike.refl U.vm) qK, qD⟩, va_recv hKc hPc (ci := 0) (q0 := 0) rfl rfl, fun U hU hW => ⟨rfl, by rw [hU], by rw [hU]; exact hPc, va_K.moved hW.alike hKc, hDc.weaken (fun _ _ _ _ => trivial)⟩⟩ rfl rfl hl.1 rfl (lv_room (Nat.le_of_ble_eq_true rfl)) dX1_pin_11 ⟨(Nat.zero_le _), (Nat.zero_le _)⟩) hS (fun q _ h => hFc q h) hFc (fun r_2 u t H locs ht hvm hw hB hz1 hk1 hS => ?_)
  have hw : tt_rd b (tt_ac b) 2 = r_2 := hw.symm
  subst hw
  obtain ⟨hP1, hK1, hD1⟩ := hB
  rw [ht] at hP1
  obtain ⟨hP, hD⟩ := va_join (wr := [(qp, .inr (1, [.ref qf]))]) (w1 := [(qf, .inr (0, [.ref qb, .ref qe, .int od, .int ot, .int tm])), (qb, .inl (cA, 32, .inl b)), (qe, .inl (cE, 2, .inl g))]) hP hD [1, 2, 3] [0] rfl rfl (by decide) (by decide) hk1 hFc hP1 hD1
  have hP : va_P (dC, dI) ttCl [(qp, .inr (1, [.ref qf])), (qf, .inr (0, [.ref qb, .ref qe, .int od, .int ot, .int tm])), (qb, .inl (cA, 32, .inl b)), (qe, .inl (cE, 2, .inl g))] H := hP
  have hD : va_D A [(qp, .inr (1, [.ref qf])), (qf, .inr (0, [.ref qb, .ref qe, .int od, .int ot, .int tm])), (qb, .inl (cA, 32, .inl b)), (qe, .inl (cE, 2, .inl g))] := hD
  refine lv_bipush (v := 8) hx hb dX1_pin_14 (by decide) ?_
  refine lv_ishl hx hb dX1_pin_16 ?_
  refine lv_aload_n hx hb dX1_pin_17 rfl (lv_at hl 1 rfl) ?_
  refine va_get (D := (dC, dI)) (ci := 1) (v := .ref qf) (C := RX1) (T := TX1) (N := 1) hx hb hts (by decide +kernel) hown hK hP 0 rfl rfl 0 (by decide) (hts (.fieldLink RX1 7 "TornTryCounter$Pages" "flash" "LTornTryCounter$Flash;") (by decide +kernel)) (fun _ h9 => h9) rfl dX1_pin_18 ?_
  refine lv_iload_n hx hb dX1_pin_21 rfl (lv_at hl 0 rfl) ?_
  refine lv_iconst (v := 3) hx hb dX1_pin_22 (by decide) ?_
  have hPc := hP.sub (ws' := [(qf, .inr (0, [.ref qb, .ref qe, .int od, .int ot, .int tm])), (qb, .inl (cA, 32, .inl b)), (qe, .inl (cE, 2, .inl g))]) [1, 2, 3] rfl
  have hDc := hD.sub (ws' := [(qf, .inr (0, [.ref qb, .ref qe, .int od, .int ot, .int tm])), (qb, .inl (cA, 32, .inl b)), (qe, .inl (cE, 2, .inl g))]) [1, 2, 3] (by decide) rfl
  have hKc := hK.sub (tys' := [(cA, .int), (cE, .int)]) [0, 1] rfl
  have hFc := va_free (wc := [(qf, .inr (0, [.ref qb, .ref qe, .int od, .int ot, .int tm])), (qb, .inl (cA, 32, .inl b)), (qe, .inl (cE, 2, .inl g))]) hD hS hA [1, 2, 3] rfl
  refine va_calli (va_runV (As := [.int (tt_ac b), .int 3]) (rest := [.int ((tt_rd b (tt_ac b) 2) <<< ((8 : Int32) &&& 31))]) ⟨hx, hb, hml, hown, hts⟩ (c_F_read l dC dI cA cE qf qb qe H.size b g od ot tm (tt_ac b) 3) (cwV 2 hts gX1_pin_X0_read rfl rfl rfl (by decide +kernel) ⟨Nat.le_of_ble_eq_true rfl, Nat.le_of_ble_eq_true rfl⟩) ⟨fun a U g mk q => by obtain ⟨q0, q1, qP, qK, qD⟩ := q; exact ⟨q0, q1, qP, va_K.moved (u := U) (U := U.calling g mk a) (Vm.Alike.refl U.vm) qK, qD⟩, va_recv hKc hPc (ci := 0) (q0 := 0) rfl rfl, fun U hU hW => ⟨rfl, by rw [hU], by rw [hU]; exact hPc, va_K.moved hW.alike hKc, hDc.weaken (fun _ _ _ _ => trivial)⟩⟩ rfl rfl hl.1 rfl (lv_room (Nat.le_of_ble_eq_true rfl)) dX1_pin_23 ⟨(Nat.zero_le _), (Nat.zero_le _)⟩) hS (fun q _ h => hFc q h) hFc (fun r_3 u t H locs ht hvm hw hB hz1 hk1 hS => ?_)
  have hw : tt_rd b (tt_ac b) 3 = r_3 := hw.symm
  subst hw
  obtain ⟨hP1, hK1, hD1⟩ := hB
  rw [ht] at hP1
  obtain ⟨hP, hD⟩ := va_join (wr := [(qp, .inr (1, [.ref qf]))]) (w1 := [(qf, .inr (0, [.ref qb, .ref qe, .int od, .int ot, .int tm])), (qb, .inl (cA, 32, .inl b)), (qe, .inl (cE, 2, .inl g))]) hP hD [1, 2, 3] [0] rfl rfl (by decide) (by decide) hk1 hFc hP1 hD1
  have hP : va_P (dC, dI) ttCl [(qp, .inr (1, [.ref qf])), (qf, .inr (0, [.ref qb, .ref qe, .int od, .int ot, .int tm])), (qb, .inl (cA, 32, .inl b)), (qe, .inl (cE, 2, .inl g))] H := hP
  have hD : va_D A [(qp, .inr (1, [.ref qf])), (qf, .inr (0, [.ref qb, .ref qe, .int od, .int ot, .int tm])), (qb, .inl (cA, 32, .inl b)), (qe, .inl (cE, 2, .inl g))] := hD
  refine lv_ior hx hb dX1_pin_26 ?_
  have hP9 := hP.sub (ws' := [(qp, .inr (1, [.ref qf])), (qf, .inr (0, [.ref qb, .ref qe, .int od, .int ot, .int tm])), (qb, .inl (cA, 32, .inl b)), (qe, .inl (cE, 2, .inl g))]) [0, 1, 2, 3] rfl
  have hD9 := hD.sub (ws' := [(qp, .inr (1, [.ref qf])), (qf, .inr (0, [.ref qb, .ref qe, .int od, .int ot, .int tm])), (qb, .inl (cA, 32, .inl b)), (qe, .inl (cE, 2, .inl g))]) [0, 1, 2, 3] (by decide) rfl
  have hK9 := hK.sub (tys' := [(cA, .int), (cE, .int)]) [0, 1] rfl
  exact W.iret (v := ((tt_rd b (tt_ac b) 2) <<< ((8 : Int32) &&& 31)) ||| (tt_rd b (tt_ac b) 3)) hx hb hr (fun t ht hW => ⟨⟨((tt_rd b (tt_ac b) 2) <<< ((8 : Int32) &&& 31)) ||| (tt_rd b (tt_ac b) 3), (), rfl, (by first | (simp only [tt_pin, reduceIte, eq_self]; done) | (simp [tt_pin]; done)), by rw [ht]; exact hP9, va_K.moved hW.alike hK9, hD9⟩, hS.F ht⟩) hS.2.2 dX1_pin_27
set_option maxHeartbeats 4000000 in
set_option maxRecDepth 100000 in
theorem c_P_remark (l : Launch) (dC : Nat → ClassId) (dI : Nat → Nat → Nat) (cA cE : ClassId) (qp qf qb qe : Nat) (sz : Nat) (b g : Nat → Int32) (od ot tm : Int32) (a v : Int32) : Met l yX1_remark wsX1_remark ({ frames := 3, cells := 0, slots := 0, locals := 64 }) (va_Pc [.ref qp, .int a, .int v] (fun U => U.heap.size = sz ∧ va_P (dC, dI) ttCl [(qp, .inr (1, [.ref qf])), (qf, .inr (0, [.ref qb, .ref qe, .int od, .int ot, .int tm])), (qb, .inl (cA, 32, .inl b)), (qe, .inl (cE, 2, .inl g))] U.heap ∧ va_K (dC, dI) ttCl [(cA, .int), (cE, .int)] U ∧ va_D (fun _ => True) [(qp, .inr (1, [.ref qf])), (qf, .inr (0, [.ref qb, .ref qe, .int od, .int ot, .int tm])), (qb, .inl (cA, 32, .inl b)), (qe, .inl (cE, 2, .inl g))])) (va_Qi (fun (r : Int32) (u : tt_F) => tt_prog (b, g, od, ot, tm) (tt_ac b) a v = (r, u)) (fun (u : tt_F) (t : State) => at_P dC dI cA cE (va_A [(qp, .inr (1, [.ref qf])), (qf, .inr (0, [.ref qb, .ref qe, .int od, .int ot, .int tm])), (qb, .inl (cA, 32, .inl b)), (qe, .inl (cE, 2, .inl g))] sz) qp qf qb qe u t) (va_A [(qp, .inr (1, [.ref qf])), (qf, .inr (0, [.ref qb, .ref qe, .int od, .int ot, .int tm])), (qb, .inl (cA, 32, .inl b)), (qe, .inl (cE, 2, .inl g))] sz)) 0 0 (va_A [(qp, .inr (1, [.ref qf])), (qf, .inr (0, [.ref qb, .ref qe, .int od, .int ot, .int tm])), (qb, .inl (cA, 32, .inl b)), (qe, .inl (cE, 2, .inl g))] sz) := by
  refine Met.ofW (cc := cX1_remark) (maxL := 3) (ret := (some .boolean)) (by decide) rfl ?_
  intro p e s m args below meth c s₁ B hml hv
  obtain ⟨rfl, hsz, hP, hK, hD0⟩ := hv
  have hx := B.exec
  have hb := B.bytes
  have hr := B.returns
  have hts := atoms_spec (ws := wsX1_remark) B.pre
  have hown : s.vm.findClass RX1 = some m.cls := findClass_of_methodNamed B.named
  have hlocks := B.notSynchronized
  subst hsz
  have hD := hD0.self (sz := s.heap.size)
  generalize hAe : va_A [(qp, .inr (1, [.ref qf])), (qf, .inr (0, [.ref qb, .ref qe, .int od, .int ot, .int tm])), (qb, .inl (cA, 32, .inl b)), (qe, .inl (cE, 2, .inl g))] s.heap.size = A at hD ⊢
  have hA : ∀ q : Nat, s.heap.size ≤ q → A q := fun q h => by rw [← hAe]; exact Or.inr h
  have hS : va_S A s.heap s.heap [] := va_S.rf
  have hP : va_P (dC, dI) ttCl [(qp, .inr (1, [.ref qf])), (qf, .inr (0, [.ref qb, .ref qe, .int od, .int ot, .int tm])), (qb, .inl (cA, 32, .inl b)), (qe, .inl (cE, 2, .inl g))] s.heap := hP
  have hl := lv_entry ([.ref qp, .int a, .int v]) (n := 3) (Nat.le_of_ble_eq_true rfl)
  rw [lg_entry_eq]
  generalize (lg_sl ([.ref qp, .int a, .int v]) ++ List.replicate (3 - (lg_sl ([.ref qp, .int a, .int v])).length) Slot.unset).toArray = ls at hl ⊢
  have hl : lv_has ls 3 [(0, .ref qp), (1, .int a), (2, .int v)] := hl
  refine lv_aload_n hx hb dX1_remark_0 rfl (lv_at hl 0 rfl) ?_
  refine va_get (D := (dC, dI)) (ci := 1) (v := .ref qf) (C := RX1) (T := TX1) (N := 1) hx hb hts (by decide +kernel) hown hK hP 0 rfl rfl 0 (by decide) (hts (.fieldLink RX1 7 "TornTryCounter$Pages" "flash" "LTornTryCounter$Flash;") (by decide +kernel)) (fun _ h9 => h9) rfl dX1_remark_1 ?_
  refine lv_aload_n hx hb dX1_remark_4 rfl (lv_at hl 0 rfl) ?_
  have hPc := hP.sub (ws' := [(qp, .inr (1, [.ref qf])), (qf, .inr (0, [.ref qb, .ref qe, .int od, .int ot, .int tm])), (qb, .inl (cA, 32, .inl b)), (qe, .inl (cE, 2, .inl g))]) [0, 1, 2, 3] rfl
  have hDc := hD.sub (ws' := [(qp, .inr (1, [.ref qf])), (qf, .inr (0, [.ref qb, .ref qe, .int od, .int ot, .int tm])), (qb, .inl (cA, 32, .inl b)), (qe, .inl (cE, 2, .inl g))]) [0, 1, 2, 3] (by decide) rfl
  have hKc := hK.sub (tys' := [(cA, .int), (cE, .int)]) [0, 1] rfl
  have hFc := va_free (wc := [(qp, .inr (1, [.ref qf])), (qf, .inr (0, [.ref qb, .ref qe, .int od, .int ot, .int tm])), (qb, .inl (cA, 32, .inl b)), (qe, .inl (cE, 2, .inl g))]) hD hS hA [0, 1, 2, 3] rfl
  refine va_calli (va_runV (As := []) (rest := [.ref qf]) ⟨hx, hb, hml, hown, hts⟩ (c_P_active l dC dI cA cE qp qf qb qe s.heap.size b g od ot tm) (cwV 0 hts gX1_remark_X1_active rfl rfl rfl (by decide +kernel) ⟨Nat.le_of_ble_eq_true rfl, Nat.le_of_ble_eq_true rfl⟩) ⟨fun a U g mk q => by obtain ⟨q0, q1, qP, qK, qD⟩ := q; exact ⟨q0, q1, qP, va_K.moved (u := U) (U := U.calling g mk a) (Vm.Alike.refl U.vm) qK, qD⟩, va_recv hKc hPc (ci := 1) (q0 := 0) rfl rfl, fun U hU hW => ⟨rfl, by rw [hU], by rw [hU]; exact hPc, va_K.moved hW.alike hKc, hDc.weaken (fun _ _ _ _ => trivial)⟩⟩ rfl rfl hl.1 rfl (lv_room (Nat.le_of_ble_eq_true rfl)) dX1_remark_5 ⟨(Nat.zero_le _), (Nat.zero_le _)⟩) hS (fun q _ h => hFc q h) hFc (fun r_1 u t H locs ht hvm hw hB hz1 hk1 hS => ?_)
  have hw : tt_ac b = r_1 := hw.symm
  subst hw
  obtain ⟨hP1, hK1, hD1⟩ := hB
  rw [ht] at hP1
  obtain ⟨hP, hD⟩ := va_join (wr := []) (w1 := [(qp, .inr (1, [.ref qf])), (qf, .inr (0, [.ref qb, .ref qe, .int od, .int ot, .int tm])), (qb, .inl (cA, 32, .inl b)), (qe, .inl (cE, 2, .inl g))]) hP hD [0, 1, 2, 3] [] rfl rfl (by decide) (by decide) hk1 hFc hP1 hD1
  have hP : va_P (dC, dI) ttCl [(qp, .inr (1, [.ref qf])), (qf, .inr (0, [.ref qb, .ref qe, .int od, .int ot, .int tm])), (qb, .inl (cA, 32, .inl b)), (qe, .inl (cE, 2, .inl g))] H := hP
  have hD : va_D A [(qp, .inr (1, [.ref qf])), (qf, .inr (0, [.ref qb, .ref qe, .int od, .int ot, .int tm])), (qb, .inl (cA, 32, .inl b)), (qe, .inl (cE, 2, .inl g))] := hD
  refine lv_iload_n hx hb dX1_remark_8 rfl (lv_at hl 1 rfl) ?_
  refine lv_iload_n hx hb dX1_remark_9 rfl (lv_at hl 2 rfl) ?_
  have hPc := hP.sub (ws' := [(qf, .inr (0, [.ref qb, .ref qe, .int od, .int ot, .int tm])), (qb, .inl (cA, 32, .inl b)), (qe, .inl (cE, 2, .inl g))]) [1, 2, 3] rfl
  have hDc := hD.sub (ws' := [(qf, .inr (0, [.ref qb, .ref qe, .int od, .int ot, .int tm])), (qb, .inl (cA, 32, .inl b)), (qe, .inl (cE, 2, .inl g))]) [1, 2, 3] (by decide) rfl
  have hKc := hK.sub (tys' := [(cA, .int), (cE, .int)]) [0, 1] rfl
  have hFc := va_free (wc := [(qf, .inr (0, [.ref qb, .ref qe, .int od, .int ot, .int tm])), (qb, .inl (cA, 32, .inl b)), (qe, .inl (cE, 2, .inl g))]) hD hS hA [1, 2, 3] rfl
  refine va_calli (va_runV (As := [.int (tt_ac b), .int a, .int v]) (rest := []) ⟨hx, hb, hml, hown, hts⟩ (c_F_program l dC dI cA cE qf qb qe H.size b g od ot tm (tt_ac b) a v) (cwV 3 hts gX1_remark_X0_program rfl rfl rfl (by decide +kernel) ⟨Nat.le_of_ble_eq_true rfl, Nat.le_of_ble_eq_true rfl⟩) ⟨fun a U g mk q => by obtain ⟨q0, q1, qP, qK, qD⟩ := q; exact ⟨q0, q1, qP, va_K.moved (u := U) (U := U.calling g mk a) (Vm.Alike.refl U.vm) qK, qD⟩, va_recv hKc hPc (ci := 0) (q0 := 0) rfl rfl, fun U hU hW => ⟨rfl, by rw [hU], by rw [hU]; exact hPc, va_K.moved hW.alike hKc, hDc.weaken (fun _ _ _ _ => trivial)⟩⟩ rfl rfl hl.1 rfl (lv_room (Nat.le_of_ble_eq_true rfl)) dX1_remark_10 ⟨(Nat.zero_le _), (Nat.zero_le _)⟩) hS (fun q _ h => hFc q h) hFc (fun r_2 u t H locs ht hvm hw hB hz1 hk1 hS => ?_)
  obtain ⟨b_2, g_2, od_2, ot_2, tm_2⟩ := u
  obtain ⟨hP1, hK1, hD1⟩ := hB
  have e_2 : tt_prog (b, g, od, ot, tm) (tt_ac b) a v = (r_2, (b_2, g_2, od_2, ot_2, tm_2)) := hw
  rw [ht] at hP1
  obtain ⟨hP, hD⟩ := va_join (wr := [(qp, .inr (1, [.ref qf]))]) (w1 := [(qf, .inr (0, [.ref qb, .ref qe, .int od_2, .int ot_2, .int tm_2])), (qb, .inl (cA, 32, .inl b_2)), (qe, .inl (cE, 2, .inl g_2))]) hP hD [1, 2, 3] [0] rfl rfl (by decide) (by decide) hk1 hFc hP1 hD1
  have hP : va_P (dC, dI) ttCl [(qp, .inr (1, [.ref qf])), (qf, .inr (0, [.ref qb, .ref qe, .int od_2, .int ot_2, .int tm_2])), (qb, .inl (cA, 32, .inl b_2)), (qe, .inl (cE, 2, .inl g_2))] H := hP
  have hD : va_D A [(qp, .inr (1, [.ref qf])), (qf, .inr (0, [.ref qb, .ref qe, .int od_2, .int ot_2, .int tm_2])), (qb, .inl (cA, 32, .inl b_2)), (qe, .inl (cE, 2, .inl g_2))] := hD
  have hP9 := hP.sub (ws' := [(qp, .inr (1, [.ref qf])), (qf, .inr (0, [.ref qb, .ref qe, .int od_2, .int ot_2, .int tm_2])), (qb, .inl (cA, 32, .inl b_2)), (qe, .inl (cE, 2, .inl g_2))]) [0, 1, 2, 3] rfl
  have hD9 := hD.sub (ws' := [(qp, .inr (1, [.ref qf])), (qf, .inr (0, [.ref qb, .ref qe, .int od_2, .int ot_2, .int tm_2])), (qb, .inl (cA, 32, .inl b_2)), (qe, .inl (cE, 2, .inl g_2))]) [0, 1, 2, 3] (by decide) rfl
  have hK9 := hK.sub (tys' := [(cA, .int), (cE, .int)]) [0, 1] rfl
  exact W.zret (v := r_2) hx hb hr (tt_prog_z e_2) (fun t ht hW => ⟨⟨r_2, (b_2, g_2, od_2, ot_2, tm_2), rfl, (by first | (simp only [e_2, reduceIte, eq_self]; done) | (simp [e_2]; done)), by rw [ht]; exact hP9, va_K.moved hW.alike hK9, hD9⟩, hS.F ht⟩) hS.2.2 dX1_remark_13
