set_option maxHeartbeats 4000000 in
set_option maxRecDepth 100000 in
theorem c_X_limitOr (l : Launch) (dC : Nat → ClassId) (dI : Nat → Nat → Nat) (sz : Nat) (x d : Int32) : Met l yX2_limitOr wsX2_limitOr ({ frames := 0, cells := 0, slots := 0, locals := 0 }) (va_Pc [.int x, .int d] (fun U => U.heap.size = sz ∧ va_P (dC, dI) ttCl [] U.heap ∧ va_K (dC, dI) ttCl [] U ∧ va_D (fun _ => True) [])) (va_Qi (fun (r : Int32) (_ : Unit) => r = tt_lim x d) (fun (_ : Unit) (t : State) => va_P (dC, dI) ttCl [] t.heap ∧ va_K (dC, dI) ttCl [] t ∧ va_D (va_A [] sz) []) (va_A [] sz)) 0 0 (va_A [] sz) := by
  refine Met.ofW (cc := cX2_limitOr) (maxL := 2) (ret := (some .int)) (by decide) rfl ?_
  intro p e s m args below meth c s₁ B hml hv
  obtain ⟨rfl, hsz, hP, hK, hD0⟩ := hv
  have hx := B.exec
  have hb := B.bytes
  have hr := B.returns
  have hts := atoms_spec (ws := wsX2_limitOr) B.pre
  have hown : s.vm.findClass RX2 = some m.cls := findClass_of_methodNamed B.named
  have hlocks := B.notSynchronized
  subst hsz
  have hD := hD0.self (sz := s.heap.size)
  generalize hAe : va_A [] s.heap.size = A at hD ⊢
  have hA : ∀ q : Nat, s.heap.size ≤ q → A q := fun q h => by rw [← hAe]; exact Or.inr h
  have hS : va_S A s.heap s.heap [] := va_S.rf
  have hP : va_P (dC, dI) ttCl [] s.heap := hP
  have hl := lv_entry ([.int x, .int d]) (n := 2) (Nat.le_of_ble_eq_true rfl)
  rw [lg_entry_eq]
  generalize (lg_sl ([.int x, .int d]) ++ List.replicate (2 - (lg_sl ([.int x, .int d])).length) Slot.unset).toArray = ls at hl ⊢
  have hl : lv_has ls 2 [(0, .int x), (1, .int d)] := hl
  refine lv_iload_n hx hb dX2_limitOr_0 rfl (lv_at hl 0 rfl) ?_
  refine lv_iconst (v := 1) hx hb dX2_limitOr_1 (by decide) ?_
  refine lv_icmp_lt (tgt := 15) hx hb dX2_limitOr_2 (by decide) (fun c_1 => ?_) (fun c_1 => ?_)
  · refine lv_iload_n hx hb dX2_limitOr_15 rfl (lv_at hl 1 rfl) ?_
    have hP9 := hP.sub (ws' := []) [] rfl
    have hD9 := hD.sub (ws' := []) [] (by decide) rfl
    have hK9 := hK.sub (tys' := []) [] rfl
    exact W.iret (v := d) hx hb hr (fun t ht hW => ⟨⟨d, (), rfl, (by first | (simp only [tt_lim, c_1, reduceIte, eq_self]; done) | (simp [tt_lim, c_1]; done)), by rw [ht]; exact hP9, va_K.moved hW.alike hK9, hD9⟩, hS.F ht⟩) hS.2.2 dX2_limitOr_16
  · refine lv_iload_n hx hb dX2_limitOr_5 rfl (lv_at hl 0 rfl) ?_
    refine lv_bipush (v := 7) hx hb dX2_limitOr_6 (by decide) ?_
    refine lv_icmp_gt (tgt := 15) hx hb dX2_limitOr_8 (by decide) (fun c_2 => ?_) (fun c_2 => ?_)
    · refine lv_iload_n hx hb dX2_limitOr_15 rfl (lv_at hl 1 rfl) ?_
      have hP9 := hP.sub (ws' := []) [] rfl
      have hD9 := hD.sub (ws' := []) [] (by decide) rfl
      have hK9 := hK.sub (tys' := []) [] rfl
      exact W.iret (v := d) hx hb hr (fun t ht hW => ⟨⟨d, (), rfl, (by first | (simp only [tt_lim, c_1, c_2, reduceIte, eq_self]; done) | (simp [tt_lim, c_1, c_2]; done)), by rw [ht]; exact hP9, va_K.moved hW.alike hK9, hD9⟩, hS.F ht⟩) hS.2.2 dX2_limitOr_16
    · refine lv_iload_n hx hb dX2_limitOr_11 rfl (lv_at hl 0 rfl) ?_
      refine lv_goto (tgt := 16) hx hb dX2_limitOr_12 (by decide) ?_
      have hP9 := hP.sub (ws' := []) [] rfl
      have hD9 := hD.sub (ws' := []) [] (by decide) rfl
      have hK9 := hK.sub (tys' := []) [] rfl
      exact W.iret (v := x) hx hb hr (fun t ht hW => ⟨⟨x, (), rfl, (by first | (simp only [tt_lim, c_1, c_2, reduceIte, eq_self]; done) | (simp [tt_lim, c_1, c_2]; done)), by rw [ht]; exact hP9, va_K.moved hW.alike hK9, hD9⟩, hS.F ht⟩) hS.2.2 dX2_limitOr_16
set_option maxHeartbeats 4000000 in
set_option maxRecDepth 100000 in
theorem c_X_losePower (l : Launch) (dC : Nat → ClassId) (dI : Nat → Nat → Nat) (cA cE : ClassId) (qx qp qf qb qe : Nat) (sz : Nat) (b g : Nat → Int32) (pk pl ul pw hi ta od ot tm : Int32) : Met l yX2_losePower wsX2_losePower ({ frames := 0, cells := 0, slots := 0, locals := 0 }) (va_Pc [.ref qx] (fun U => U.heap.size = sz ∧ va_P (dC, dI) ttCl [(qx, .inr (2, [.ref qf, .ref qp, .int pk, .int pl, .int ul, .int pw, .int hi, .int ta])), (qp, .inr (1, [.ref qf])), (qf, .inr (0, [.ref qb, .ref qe, .int od, .int ot, .int tm])), (qb, .inl (cA, 32, .inl b)), (qe, .inl (cE, 2, .inl g))] U.heap ∧ va_K (dC, dI) ttCl [(cA, .int), (cE, .int)] U ∧ va_D (fun _ => True) [(qx, .inr (2, [.ref qf, .ref qp, .int pk, .int pl, .int ul, .int pw, .int hi, .int ta])), (qp, .inr (1, [.ref qf])), (qf, .inr (0, [.ref qb, .ref qe, .int od, .int ot, .int tm])), (qb, .inl (cA, 32, .inl b)), (qe, .inl (cE, 2, .inl g))])) (va_Qi (fun (r : Int32) (_ : Unit) => r = (-3)) (fun (_ : Unit) (t : State) => at_X dC dI cA cE (va_A [(qx, .inr (2, [.ref qf, .ref qp, .int pk, .int pl, .int ul, .int pw, .int hi, .int ta])), (qp, .inr (1, [.ref qf])), (qf, .inr (0, [.ref qb, .ref qe, .int od, .int ot, .int tm])), (qb, .inl (cA, 32, .inl b)), (qe, .inl (cE, 2, .inl g))] sz) qx qp qf qb qe pk pl ul (0, 0, ta, b, g, od, ot, tm) t) (va_A [(qx, .inr (2, [.ref qf, .ref qp, .int pk, .int pl, .int ul, .int pw, .int hi, .int ta])), (qp, .inr (1, [.ref qf])), (qf, .inr (0, [.ref qb, .ref qe, .int od, .int ot, .int tm])), (qb, .inl (cA, 32, .inl b)), (qe, .inl (cE, 2, .inl g))] sz)) 0 0 (va_A [(qx, .inr (2, [.ref qf, .ref qp, .int pk, .int pl, .int ul, .int pw, .int hi, .int ta])), (qp, .inr (1, [.ref qf])), (qf, .inr (0, [.ref qb, .ref qe, .int od, .int ot, .int tm])), (qb, .inl (cA, 32, .inl b)), (qe, .inl (cE, 2, .inl g))] sz) := by
  refine Met.ofW (cc := cX2_losePower) (maxL := 1) (ret := (some .int)) (by decide) rfl ?_
  intro p e s m args below meth c s₁ B hml hv
  obtain ⟨rfl, hsz, hP, hK, hD0⟩ := hv
  have hx := B.exec
  have hb := B.bytes
  have hr := B.returns
  have hts := atoms_spec (ws := wsX2_losePower) B.pre
  have hown : s.vm.findClass RX2 = some m.cls := findClass_of_methodNamed B.named
  have hlocks := B.notSynchronized
  subst hsz
  have hD := hD0.self (sz := s.heap.size)
  generalize hAe : va_A [(qx, .inr (2, [.ref qf, .ref qp, .int pk, .int pl, .int ul, .int pw, .int hi, .int ta])), (qp, .inr (1, [.ref qf])), (qf, .inr (0, [.ref qb, .ref qe, .int od, .int ot, .int tm])), (qb, .inl (cA, 32, .inl b)), (qe, .inl (cE, 2, .inl g))] s.heap.size = A at hD ⊢
  have hA : ∀ q : Nat, s.heap.size ≤ q → A q := fun q h => by rw [← hAe]; exact Or.inr h
  have hS : va_S A s.heap s.heap [] := va_S.rf
  have hP : va_P (dC, dI) ttCl [(qx, .inr (2, [.ref qf, .ref qp, .int pk, .int pl, .int ul, .int pw, .int hi, .int ta])), (qp, .inr (1, [.ref qf])), (qf, .inr (0, [.ref qb, .ref qe, .int od, .int ot, .int tm])), (qb, .inl (cA, 32, .inl b)), (qe, .inl (cE, 2, .inl g))] s.heap := hP
  have hl := lv_entry ([.ref qx]) (n := 1) (Nat.le_of_ble_eq_true rfl)
  rw [lg_entry_eq]
  generalize (lg_sl ([.ref qx]) ++ List.replicate (1 - (lg_sl ([.ref qx])).length) Slot.unset).toArray = ls at hl ⊢
  have hl : lv_has ls 1 [(0, .ref qx)] := hl
  refine lv_aload_n hx hb dX2_losePower_0 rfl (lv_at hl 0 rfl) ?_
  refine lv_iconst (v := 0) hx hb dX2_losePower_1 (by decide) ?_
  refine va_put (D := (dC, dI)) (ci := 2) (v := .int 0) (ty := .boolean) (C := RX2) (T := TX2) (N := 8) hx hb hts (by decide +kernel) tyX2 tyX2_ok nmX2 hown hK hP hD hS 0 rfl rfl 5 (by decide) (hts (.fieldLink RX2 40 "TornTryCounter" "powered" "Z") (by decide +kernel)) (fun _ h9 => h9) rfl (by decide +kernel) rfl rfl (Nat.le_of_ble_eq_true rfl) dX2_losePower_2 (fun H locs hP hD hS => ?_)
  have hP : va_P (dC, dI) ttCl [(qx, .inr (2, [.ref qf, .ref qp, .int pk, .int pl, .int ul, .int 0, .int hi, .int ta])), (qp, .inr (1, [.ref qf])), (qf, .inr (0, [.ref qb, .ref qe, .int od, .int ot, .int tm])), (qb, .inl (cA, 32, .inl b)), (qe, .inl (cE, 2, .inl g))] H := hP
  have hD : va_D A [(qx, .inr (2, [.ref qf, .ref qp, .int pk, .int pl, .int ul, .int 0, .int hi, .int ta])), (qp, .inr (1, [.ref qf])), (qf, .inr (0, [.ref qb, .ref qe, .int od, .int ot, .int tm])), (qb, .inl (cA, 32, .inl b)), (qe, .inl (cE, 2, .inl g))] := hD
  refine lv_aload_n hx hb dX2_losePower_5 rfl (lv_at hl 0 rfl) ?_
  refine lv_iconst (v := 0) hx hb dX2_losePower_6 (by decide) ?_
  refine va_put (D := (dC, dI)) (ci := 2) (v := .int 0) (ty := .boolean) (C := RX2) (T := TX2) (N := 8) hx hb hts (by decide +kernel) tyX2 tyX2_ok nmX2 hown hK hP hD hS 0 rfl rfl 6 (by decide) (hts (.fieldLink RX2 44 "TornTryCounter" "holderIn" "Z") (by decide +kernel)) (fun _ h9 => h9) rfl (by decide +kernel) rfl rfl (Nat.le_of_ble_eq_true rfl) dX2_losePower_7 (fun H locs hP hD hS => ?_)
  have hP : va_P (dC, dI) ttCl [(qx, .inr (2, [.ref qf, .ref qp, .int pk, .int pl, .int ul, .int 0, .int 0, .int ta])), (qp, .inr (1, [.ref qf])), (qf, .inr (0, [.ref qb, .ref qe, .int od, .int ot, .int tm])), (qb, .inl (cA, 32, .inl b)), (qe, .inl (cE, 2, .inl g))] H := hP
  have hD : va_D A [(qx, .inr (2, [.ref qf, .ref qp, .int pk, .int pl, .int ul, .int 0, .int 0, .int ta])), (qp, .inr (1, [.ref qf])), (qf, .inr (0, [.ref qb, .ref qe, .int od, .int ot, .int tm])), (qb, .inl (cA, 32, .inl b)), (qe, .inl (cE, 2, .inl g))] := hD
  refine lv_bipush (v := (-3)) hx hb dX2_losePower_10 (by decide) ?_
  have hP9 := hP.sub (ws' := [(qx, .inr (2, [.ref qf, .ref qp, .int pk, .int pl, .int ul, .int 0, .int 0, .int ta])), (qp, .inr (1, [.ref qf])), (qf, .inr (0, [.ref qb, .ref qe, .int od, .int ot, .int tm])), (qb, .inl (cA, 32, .inl b)), (qe, .inl (cE, 2, .inl g))]) [0, 1, 2, 3, 4] rfl
  have hD9 := hD.sub (ws' := [(qx, .inr (2, [.ref qf, .ref qp, .int pk, .int pl, .int ul, .int 0, .int 0, .int ta])), (qp, .inr (1, [.ref qf])), (qf, .inr (0, [.ref qb, .ref qe, .int od, .int ot, .int tm])), (qb, .inl (cA, 32, .inl b)), (qe, .inl (cE, 2, .inl g))]) [0, 1, 2, 3, 4] (by decide) rfl
  have hK9 := hK.sub (tys' := [(cA, .int), (cE, .int)]) [0, 1] rfl
  exact W.iret (v := (-3)) hx hb hr (fun t ht hW => ⟨⟨(-3), (), rfl, rfl, by rw [ht]; exact hP9, va_K.moved hW.alike hK9, hD9⟩, hS.F ht⟩) hS.2.2 dX2_losePower_12
set_option maxHeartbeats 4000000 in
set_option maxRecDepth 100000 in
theorem c_X_tryNumber (l : Launch) (dC : Nat → ClassId) (dI : Nat → Nat → Nat) (cA cE : ClassId) (qx qp qf qb qe : Nat) (sz : Nat) (b g : Nat → Int32) (pk pl ul pw hi ta od ot tm : Int32) (n : Int32) : Met l yX2_tryNumber wsX2_tryNumber ({ frames := 5, cells := 0, slots := 0, locals := 111 }) (va_Pc [.ref qx, .int n] (fun U => U.heap.size = sz ∧ va_P (dC, dI) ttCl [(qx, .inr (2, [.ref qf, .ref qp, .int pk, .int pl, .int ul, .int pw, .int hi, .int ta])), (qp, .inr (1, [.ref qf])), (qf, .inr (0, [.ref qb, .ref qe, .int od, .int ot, .int tm])), (qb, .inl (cA, 32, .inl b)), (qe, .inl (cE, 2, .inl g))] U.heap ∧ va_K (dC, dI) ttCl [(cA, .int), (cE, .int)] U ∧ va_D (fun _ => True) [(qx, .inr (2, [.ref qf, .ref qp, .int pk, .int pl, .int ul, .int pw, .int hi, .int ta])), (qp, .inr (1, [.ref qf])), (qf, .inr (0, [.ref qb, .ref qe, .int od, .int ot, .int tm])), (qb, .inl (cA, 32, .inl b)), (qe, .inl (cE, 2, .inl g))])) (va_Qi (fun (r : Int32) (u : tt_X) => tt_try pl (pw, hi, ta, b, g, od, ot, tm) n = (r, u)) (fun (u : tt_X) (t : State) => at_X dC dI cA cE (va_A [(qx, .inr (2, [.ref qf, .ref qp, .int pk, .int pl, .int ul, .int pw, .int hi, .int ta])), (qp, .inr (1, [.ref qf])), (qf, .inr (0, [.ref qb, .ref qe, .int od, .int ot, .int tm])), (qb, .inl (cA, 32, .inl b)), (qe, .inl (cE, 2, .inl g))] sz) qx qp qf qb qe pk pl ul u t) (va_A [(qx, .inr (2, [.ref qf, .ref qp, .int pk, .int pl, .int ul, .int pw, .int hi, .int ta])), (qp, .inr (1, [.ref qf])), (qf, .inr (0, [.ref qb, .ref qe, .int od, .int ot, .int tm])), (qb, .inl (cA, 32, .inl b)), (qe, .inl (cE, 2, .inl g))] sz)) 0 0 (va_A [(qx, .inr (2, [.ref qf, .ref qp, .int pk, .int pl, .int ul, .int pw, .int hi, .int ta])), (qp, .inr (1, [.ref qf])), (qf, .inr (0, [.ref qb, .ref qe, .int od, .int ot, .int tm])), (qb, .inl (cA, 32, .inl b)), (qe, .inl (cE, 2, .inl g))] sz) := by
  refine Met.ofW (cc := cX2_tryNumber) (maxL := 3) (ret := (some .int)) (by decide) rfl ?_
  intro p e s m args below meth c s₁ B hml hv
  obtain ⟨rfl, hsz, hP, hK, hD0⟩ := hv
  have hx := B.exec
  have hb := B.bytes
  have hr := B.returns
  have hts := atoms_spec (ws := wsX2_tryNumber) B.pre
  have hown : s.vm.findClass RX2 = some m.cls := findClass_of_methodNamed B.named
  have hlocks := B.notSynchronized
  subst hsz
  have hD := hD0.self (sz := s.heap.size)
  generalize hAe : va_A [(qx, .inr (2, [.ref qf, .ref qp, .int pk, .int pl, .int ul, .int pw, .int hi, .int ta])), (qp, .inr (1, [.ref qf])), (qf, .inr (0, [.ref qb, .ref qe, .int od, .int ot, .int tm])), (qb, .inl (cA, 32, .inl b)), (qe, .inl (cE, 2, .inl g))] s.heap.size = A at hD ⊢
  have hA : ∀ q : Nat, s.heap.size ≤ q → A q := fun q h => by rw [← hAe]; exact Or.inr h
  have hS : va_S A s.heap s.heap [] := va_S.rf
  have hP : va_P (dC, dI) ttCl [(qx, .inr (2, [.ref qf, .ref qp, .int pk, .int pl, .int ul, .int pw, .int hi, .int ta])), (qp, .inr (1, [.ref qf])), (qf, .inr (0, [.ref qb, .ref qe, .int od, .int ot, .int tm])), (qb, .inl (cA, 32, .inl b)), (qe, .inl (cE, 2, .inl g))] s.heap := hP
  have hl := lv_entry ([.ref qx, .int n]) (n := 3) (Nat.le_of_ble_eq_true rfl)
  rw [lg_entry_eq]
  generalize (lg_sl ([.ref qx, .int n]) ++ List.replicate (3 - (lg_sl ([.ref qx, .int n])).length) Slot.unset).toArray = ls at hl ⊢
  have hl : lv_has ls 3 [(0, .ref qx), (1, .int n)] := hl
  refine lv_aload_n hx hb dX2_tryNumber_0 rfl (lv_at hl 0 rfl) ?_
  refine va_get (D := (dC, dI)) (ci := 2) (v := .int pw) (C := RX2) (T := TX2) (N := 8) hx hb hts (by decide +kernel) hown hK hP 0 rfl rfl 5 (by decide) (hts (.fieldLink RX2 40 "TornTryCounter" "powered" "Z") (by decide +kernel)) (fun _ h9 => h9) rfl dX2_tryNumber_1 ?_
  refine lv_if_ne (tgt := 9) hx hb dX2_tryNumber_4 (by decide) (fun c_1 => ?_) (fun c_1 => ?_)
  · refine lv_aload_n hx hb dX2_tryNumber_9 rfl (lv_at hl 0 rfl) ?_
    refine va_get (D := (dC, dI)) (ci := 2) (v := .ref qp) (C := RX2) (T := TX2) (N := 8) hx hb hts (by decide +kernel) hown hK hP 0 rfl rfl 1 (by decide) (hts (.fieldLink RX2 22 "TornTryCounter" "pages" "LTornTryCounter$Pages;") (by decide +kernel)) (fun _ h9 => h9) rfl dX2_tryNumber_10 ?_
    have hPc := hP.sub (ws' := [(qp, .inr (1, [.ref qf])), (qf, .inr (0, [.ref qb, .ref qe, .int od, .int ot, .int tm])), (qb, .inl (cA, 32, .inl b)), (qe, .inl (cE, 2, .inl g))]) [1, 2, 3, 4] rfl
    have hDc := hD.sub (ws' := [(qp, .inr (1, [.ref qf])), (qf, .inr (0, [.ref qb, .ref qe, .int od, .int ot, .int tm])), (qb, .inl (cA, 32, .inl b)), (qe, .inl (cE, 2, .inl g))]) [1, 2, 3, 4] (by decide) rfl
    have hKc := hK.sub (tys' := [(cA, .int), (cE, .int)]) [0, 1] rfl
    have hFc := va_free (wc := [(qp, .inr (1, [.ref qf])), (qf, .inr (0, [.ref qb, .ref qe, .int od, .int ot, .int tm])), (qb, .inl (cA, 32, .inl b)), (qe, .inl (cE, 2, .inl g))]) hD hS hA [1, 2, 3, 4] rfl
    refine va_calli (va_runV (As := []) (rest := []) ⟨hx, hb, hml, hown, hts⟩ (c_P_pinTriesUsed l dC dI cA cE qp qf qb qe s.heap.size b g od ot tm) (cwV 0 hts gX2_tryNumber_X1_pinTriesUsed rfl rfl rfl (by decide +kernel) ⟨Nat.le_of_ble_eq_true rfl, Nat.le_of_ble_eq_true rfl⟩) ⟨fun a U g mk q => by obtain ⟨q0, q1, qP, qK, qD⟩ := q; exact ⟨q0, q1, qP, va_K.moved (u := U) (U := U.calling g mk a) (Vm.Alike.refl U.vm) qK, qD⟩, va_recv hKc hPc (ci := 1) (q0 := 0) rfl rfl, fun U hU hW => ⟨rfl, by rw [hU], by rw [hU]; exact hPc, va_K.moved hW.alike hKc, hDc.weaken (fun _ _ _ _ => trivial)⟩⟩ rfl rfl hl.1 rfl (lv_room (Nat.le_of_ble_eq_true rfl)) dX2_tryNumber_13 ⟨(Nat.zero_le _), (Nat.zero_le _)⟩) hS (fun q _ h => hFc q h) hFc (fun r_2 u t H locs ht hvm hw hB hz1 hk1 hS => ?_)
    have hw : tt_pu b = r_2 := hw.symm
    subst hw
    obtain ⟨hP1, hK1, hD1⟩ := hB
    rw [ht] at hP1
    obtain ⟨hP, hD⟩ := va_join (wr := [(qx, .inr (2, [.ref qf, .ref qp, .int pk, .int pl, .int ul, .int pw, .int hi, .int ta]))]) (w1 := [(qp, .inr (1, [.ref qf])), (qf, .inr (0, [.ref qb, .ref qe, .int od, .int ot, .int tm])), (qb, .inl (cA, 32, .inl b)), (qe, .inl (cE, 2, .inl g))]) hP hD [1, 2, 3, 4] [0] rfl rfl (by decide) (by decide) hk1 hFc hP1 hD1
    have hP : va_P (dC, dI) ttCl [(qx, .inr (2, [.ref qf, .ref qp, .int pk, .int pl, .int ul, .int pw, .int hi, .int ta])), (qp, .inr (1, [.ref qf])), (qf, .inr (0, [.ref qb, .ref qe, .int od, .int ot, .int tm])), (qb, .inl (cA, 32, .inl b)), (qe, .inl (cE, 2, .inl g))] H := hP
    have hD : va_D A [(qx, .inr (2, [.ref qf, .ref qp, .int pk, .int pl, .int ul, .int pw, .int hi, .int ta])), (qp, .inr (1, [.ref qf])), (qf, .inr (0, [.ref qb, .ref qe, .int od, .int ot, .int tm])), (qb, .inl (cA, 32, .inl b)), (qe, .inl (cE, 2, .inl g))] := hD
    refine lv_aload_n hx hb dX2_tryNumber_16 rfl (lv_at hl 0 rfl) ?_
    refine va_get (D := (dC, dI)) (ci := 2) (v := .int pl) (C := RX2) (T := TX2) (N := 8) hx hb hts (by decide +kernel) hown hK hP 0 rfl rfl 3 (by decide) (hts (.fieldLink RX2 34 "TornTryCounter" "pinLimit" "I") (by decide +kernel)) (fun _ h9 => h9) rfl dX2_tryNumber_17 ?_
    refine lv_icmp_lt (tgt := 26) hx hb dX2_tryNumber_20 (by decide) (fun c_3 => ?_) (fun c_3 => ?_)
    · refine lv_aload_n hx hb dX2_tryNumber_26 rfl (lv_at hl 0 rfl) ?_
      refine lv_iconst (v := 0) hx hb dX2_tryNumber_27 (by decide) ?_
      refine va_put (D := (dC, dI)) (ci := 2) (v := .int 0) (ty := .boolean) (C := RX2) (T := TX2) (N := 8) hx hb hts (by decide +kernel) tyX2 tyX2_ok nmX2 hown hK hP hD hS 0 rfl rfl 6 (by decide) (hts (.fieldLink RX2 44 "TornTryCounter" "holderIn" "Z") (by decide +kernel)) (fun _ h9 => h9) rfl (by decide +kernel) rfl rfl (Nat.le_of_ble_eq_true rfl) dX2_tryNumber_28 (fun H locs hP hD hS => ?_)
      have hP : va_P (dC, dI) ttCl [(qx, .inr (2, [.ref qf, .ref qp, .int pk, .int pl, .int ul, .int pw, .int 0, .int ta])), (qp, .inr (1, [.ref qf])), (qf, .inr (0, [.ref qb, .ref qe, .int od, .int ot, .int tm])), (qb, .inl (cA, 32, .inl b)), (qe, .inl (cE, 2, .inl g))] H := hP
      have hD : va_D A [(qx, .inr (2, [.ref qf, .ref qp, .int pk, .int pl, .int ul, .int pw, .int 0, .int ta])), (qp, .inr (1, [.ref qf])), (qf, .inr (0, [.ref qb, .ref qe, .int od, .int ot, .int tm])), (qb, .inl (cA, 32, .inl b)), (qe, .inl (cE, 2, .inl g))] := hD
      refine lv_aload_n hx hb dX2_tryNumber_31 rfl (lv_at hl 0 rfl) ?_
      refine va_get (D := (dC, dI)) (ci := 2) (v := .ref qp) (C := RX2) (T := TX2) (N := 8) hx hb hts (by decide +kernel) hown hK hP 0 rfl rfl 1 (by decide) (hts (.fieldLink RX2 22 "TornTryCounter" "pages" "LTornTryCounter$Pages;") (by decide +kernel)) (fun _ h9 => h9) rfl dX2_tryNumber_32 ?_
      refine lv_sipush (v := 254) hx hb dX2_tryNumber_35 (by decide) ?_
      have hPc := hP.sub (ws' := [(qp, .inr (1, [.ref qf])), (qf, .inr (0, [.ref qb, .ref qe, .int od, .int ot, .int tm])), (qb, .inl (cA, 32, .inl b)), (qe, .inl (cE, 2, .inl g))]) [1, 2, 3, 4] rfl
      have hDc := hD.sub (ws' := [(qp, .inr (1, [.ref qf])), (qf, .inr (0, [.ref qb, .ref qe, .int od, .int ot, .int tm])), (qb, .inl (cA, 32, .inl b)), (qe, .inl (cE, 2, .inl g))]) [1, 2, 3, 4] (by decide) rfl
      have hKc := hK.sub (tys' := [(cA, .int), (cE, .int)]) [0, 1] rfl
      have hFc := va_free (wc := [(qp, .inr (1, [.ref qf])), (qf, .inr (0, [.ref qb, .ref qe, .int od, .int ot, .int tm])), (qb, .inl (cA, 32, .inl b)), (qe, .inl (cE, 2, .inl g))]) hD hS hA [1, 2, 3, 4] rfl
      refine va_calli (va_runV (As := [.int 254]) (rest := []) ⟨hx, hb, hml, hown, hts⟩ (c_P_mark l dC dI cA cE qp qf qb qe H.size b g od ot tm 254) (cwV 1 hts gX2_tryNumber_X1_mark rfl rfl rfl (by decide +kernel) ⟨Nat.le_of_ble_eq_true rfl, Nat.le_of_ble_eq_true rfl⟩) ⟨fun a U g mk q => by obtain ⟨q0, q1, qP, qK, qD⟩ := q; exact ⟨q0, q1, qP, va_K.moved (u := U) (U := U.calling g mk a) (Vm.Alike.refl U.vm) qK, qD⟩, va_recv hKc hPc (ci := 1) (q0 := 0) rfl rfl, fun U hU hW => ⟨rfl, by rw [hU], by rw [hU]; exact hPc, va_K.moved hW.alike hKc, hDc.weaken (fun _ _ _ _ => trivial)⟩⟩ rfl rfl hl.1 rfl (lv_room (Nat.le_of_ble_eq_true rfl)) dX2_tryNumber_38 ⟨(Nat.zero_le _), (Nat.zero_le _)⟩) hS (fun q _ h => hFc q h) hFc (fun r_4 u t H locs ht hvm hw hB hz1 hk1 hS => ?_)
      obtain ⟨b_4, g_4, od_4, ot_4, tm_4⟩ := u
      obtain ⟨hP1, hK1, hD1⟩ := hB
      have e_4 : tt_mark (b, g, od, ot, tm) 254 = (r_4, (b_4, g_4, od_4, ot_4, tm_4)) := hw
      rw [ht] at hP1
      obtain ⟨hP, hD⟩ := va_join (wr := [(qx, .inr (2, [.ref qf, .ref qp, .int pk, .int pl, .int ul, .int pw, .int 0, .int ta]))]) (w1 := [(qp, .inr (1, [.ref qf])), (qf, .inr (0, [.ref qb, .ref qe, .int od_4, .int ot_4, .int tm_4])), (qb, .inl (cA, 32, .inl b_4)), (qe, .inl (cE, 2, .inl g_4))]) hP hD [1, 2, 3, 4] [0] rfl rfl (by decide) (by decide) hk1 hFc hP1 hD1
      have hP : va_P (dC, dI) ttCl [(qx, .inr (2, [.ref qf, .ref qp, .int pk, .int pl, .int ul, .int pw, .int 0, .int ta])), (qp, .inr (1, [.ref qf])), (qf, .inr (0, [.ref qb, .ref qe, .int od_4, .int ot_4, .int tm_4])), (qb, .inl (cA, 32, .inl b_4)), (qe, .inl (cE, 2, .inl g_4))] H := hP
      have hD : va_D A [(qx, .inr (2, [.ref qf, .ref qp, .int pk, .int pl, .int ul, .int pw, .int 0, .int ta])), (qp, .inr (1, [.ref qf])), (qf, .inr (0, [.ref qb, .ref qe, .int od_4, .int ot_4, .int tm_4])), (qb, .inl (cA, 32, .inl b_4)), (qe, .inl (cE, 2, .inl g_4))] := hD
      refine lv_istore_n (lv' := [(2, .int r_4), (0, .ref qx), (1, .int n)]) hx hb dX2_tryNumber_41 rfl hl (by decide) rfl (fun ls hl => ?_)
      refine lv_iload_n hx hb dX2_tryNumber_42 rfl (lv_at hl 0 rfl) ?_
      refine lv_iconst (v := (-1)) hx hb dX2_tryNumber_43 (by decide) ?_
      refine lv_icmp_ne (tgt := 52) hx hb dX2_tryNumber_44 (by decide) (fun c_5 => ?_) (fun c_5 => ?_)
      · refine lv_iload_n hx hb dX2_tryNumber_52 rfl (lv_at hl 2 rfl) ?_
        refine lv_aload_n hx hb dX2_tryNumber_53 rfl (lv_at hl 1 rfl) ?_
        refine va_get (D := (dC, dI)) (ci := 2) (v := .ref qp) (C := RX2) (T := TX2) (N := 8) hx hb hts (by decide +kernel) hown hK hP 0 rfl rfl 1 (by decide) (hts (.fieldLink RX2 22 "TornTryCounter" "pages" "LTornTryCounter$Pages;") (by decide +kernel)) (fun _ h9 => h9) rfl dX2_tryNumber_54 ?_
        have hPc := hP.sub (ws' := [(qp, .inr (1, [.ref qf])), (qf, .inr (0, [.ref qb, .ref qe, .int od_4, .int ot_4, .int tm_4])), (qb, .inl (cA, 32, .inl b_4)), (qe, .inl (cE, 2, .inl g_4))]) [1, 2, 3, 4] rfl
        have hDc := hD.sub (ws' := [(qp, .inr (1, [.ref qf])), (qf, .inr (0, [.ref qb, .ref qe, .int od_4, .int ot_4, .int tm_4])), (qb, .inl (cA, 32, .inl b_4)), (qe, .inl (cE, 2, .inl g_4))]) [1, 2, 3, 4] (by decide) rfl
        have hKc := hK.sub (tys' := [(cA, .int), (cE, .int)]) [0, 1] rfl
        have hFc := va_free (wc := [(qp, .inr (1, [.ref qf])), (qf, .inr (0, [.ref qb, .ref qe, .int od_4, .int ot_4, .int tm_4])), (qb, .inl (cA, 32, .inl b_4)), (qe, .inl (cE, 2, .inl g_4))]) hD hS hA [1, 2, 3, 4] rfl
        refine va_calli (va_runV (As := []) (rest := [.int n]) ⟨hx, hb, hml, hown, hts⟩ (c_P_pin l dC dI cA cE qp qf qb qe H.size b_4 g_4 od_4 ot_4 tm_4) (cwV 0 hts gX2_tryNumber_X1_pin rfl rfl rfl (by decide +kernel) ⟨Nat.le_of_ble_eq_true rfl, Nat.le_of_ble_eq_true rfl⟩) ⟨fun a U g mk q => by obtain ⟨q0, q1, qP, qK, qD⟩ := q; exact ⟨q0, q1, qP, va_K.moved (u := U) (U := U.calling g mk a) (Vm.Alike.refl U.vm) qK, qD⟩, va_recv hKc hPc (ci := 1) (q0 := 0) rfl rfl, fun U hU hW => ⟨rfl, by rw [hU], by rw [hU]; exact hPc, va_K.moved hW.alike hKc, hDc.weaken (fun _ _ _ _ => trivial)⟩⟩ rfl rfl hl.1 rfl (lv_room (Nat.le_of_ble_eq_true rfl)) dX2_tryNumber_57 ⟨(Nat.zero_le _), (Nat.zero_le _)⟩) hS (fun q _ h => hFc q h) hFc (fun r_6 u t H locs ht hvm hw hB hz1 hk1 hS => ?_)
        have hw : tt_pin b_4 = r_6 := hw.symm
        subst hw
        obtain ⟨hP1, hK1, hD1⟩ := hB
        rw [ht] at hP1
        obtain ⟨hP, hD⟩ := va_join (wr := [(qx, .inr (2, [.ref qf, .ref qp, .int pk, .int pl, .int ul, .int pw, .int 0, .int ta]))]) (w1 := [(qp, .inr (1, [.ref qf])), (qf, .inr (0, [.ref qb, .ref qe, .int od_4, .int ot_4, .int tm_4])), (qb, .inl (cA, 32, .inl b_4)), (qe, .inl (cE, 2, .inl g_4))]) hP hD [1, 2, 3, 4] [0] rfl rfl (by decide) (by decide) hk1 hFc hP1 hD1
        have hP : va_P (dC, dI) ttCl [(qx, .inr (2, [.ref qf, .ref qp, .int pk, .int pl, .int ul, .int pw, .int 0, .int ta])), (qp, .inr (1, [.ref qf])), (qf, .inr (0, [.ref qb, .ref qe, .int od_4, .int ot_4, .int tm_4])), (qb, .inl (cA, 32, .inl b_4)), (qe, .inl (cE, 2, .inl g_4))] H := hP
        have hD : va_D A [(qx, .inr (2, [.ref qf, .ref qp, .int pk, .int pl, .int ul, .int pw, .int 0, .int ta])), (qp, .inr (1, [.ref qf])), (qf, .inr (0, [.ref qb, .ref qe, .int od_4, .int ot_4, .int tm_4])), (qb, .inl (cA, 32, .inl b_4)), (qe, .inl (cE, 2, .inl g_4))] := hD
        refine lv_icmp_eq (tgt := 65) hx hb dX2_tryNumber_60 (by decide) (fun c_7 => ?_) (fun c_7 => ?_)
        · refine lv_aload_n hx hb dX2_tryNumber_65 rfl (lv_at hl 1 rfl) ?_
          refine va_get (D := (dC, dI)) (ci := 2) (v := .ref qp) (C := RX2) (T := TX2) (N := 8) hx hb hts (by decide +kernel) hown hK hP 0 rfl rfl 1 (by decide) (hts (.fieldLink RX2 22 "TornTryCounter" "pages" "LTornTryCounter$Pages;") (by decide +kernel)) (fun _ h9 => h9) rfl dX2_tryNumber_66 ?_
          refine lv_iload_n hx hb dX2_tryNumber_69 rfl (lv_at hl 0 rfl) ?_
          refine lv_sipush (v := 253) hx hb dX2_tryNumber_70 (by decide) ?_
          have hPc := hP.sub (ws' := [(qp, .inr (1, [.ref qf])), (qf, .inr (0, [.ref qb, .ref qe, .int od_4, .int ot_4, .int tm_4])), (qb, .inl (cA, 32, .inl b_4)), (qe, .inl (cE, 2, .inl g_4))]) [1, 2, 3, 4] rfl
          have hDc := hD.sub (ws' := [(qp, .inr (1, [.ref qf])), (qf, .inr (0, [.ref qb, .ref qe, .int od_4, .int ot_4, .int tm_4])), (qb, .inl (cA, 32, .inl b_4)), (qe, .inl (cE, 2, .inl g_4))]) [1, 2, 3, 4] (by decide) rfl
          have hKc := hK.sub (tys' := [(cA, .int), (cE, .int)]) [0, 1] rfl
          have hFc := va_free (wc := [(qp, .inr (1, [.ref qf])), (qf, .inr (0, [.ref qb, .ref qe, .int od_4, .int ot_4, .int tm_4])), (qb, .inl (cA, 32, .inl b_4)), (qe, .inl (cE, 2, .inl g_4))]) hD hS hA [1, 2, 3, 4] rfl
          refine va_calli (va_runV (As := [.int r_4, .int 253]) (rest := []) ⟨hx, hb, hml, hown, hts⟩ (c_P_remark l dC dI cA cE qp qf qb qe H.size b_4 g_4 od_4 ot_4 tm_4 r_4 253) (cwV 2 hts gX2_tryNumber_X1_remark rfl rfl rfl (by decide +kernel) ⟨Nat.le_of_ble_eq_true rfl, Nat.le_of_ble_eq_true rfl⟩) ⟨fun a U g mk q => by obtain ⟨q0, q1, qP, qK, qD⟩ := q; exact ⟨q0, q1, qP, va_K.moved (u := U) (U := U.calling g mk a) (Vm.Alike.refl U.vm) qK, qD⟩, va_recv hKc hPc (ci := 1) (q0 := 0) rfl rfl, fun U hU hW => ⟨rfl, by rw [hU], by rw [hU]; exact hPc, va_K.moved hW.alike hKc, hDc.weaken (fun _ _ _ _ => trivial)⟩⟩ rfl rfl hl.1 rfl (lv_room (Nat.le_of_ble_eq_true rfl)) dX2_tryNumber_73 ⟨(Nat.zero_le _), (Nat.zero_le _)⟩) hS (fun q _ h => hFc q h) hFc (fun r_8 u t H locs ht hvm hw hB hz1 hk1 hS => ?_)
          obtain ⟨b_8, g_8, od_8, ot_8, tm_8⟩ := u
          obtain ⟨hP1, hK1, hD1⟩ := hB
          have e_8 : tt_prog (b_4, g_4, od_4, ot_4, tm_4) (tt_ac b_4) r_4 253 = (r_8, (b_8, g_8, od_8, ot_8, tm_8)) := hw
          rw [ht] at hP1
          obtain ⟨hP, hD⟩ := va_join (wr := [(qx, .inr (2, [.ref qf, .ref qp, .int pk, .int pl, .int ul, .int pw, .int 0, .int ta]))]) (w1 := [(qp, .inr (1, [.ref qf])), (qf, .inr (0, [.ref qb, .ref qe, .int od_8, .int ot_8, .int tm_8])), (qb, .inl (cA, 32, .inl b_8)), (qe, .inl (cE, 2, .inl g_8))]) hP hD [1, 2, 3, 4] [0] rfl rfl (by decide) (by decide) hk1 hFc hP1 hD1
          have hP : va_P (dC, dI) ttCl [(qx, .inr (2, [.ref qf, .ref qp, .int pk, .int pl, .int ul, .int pw, .int 0, .int ta])), (qp, .inr (1, [.ref qf])), (qf, .inr (0, [.ref qb, .ref qe, .int od_8, .int ot_8, .int tm_8])), (qb, .inl (cA, 32, .inl b_8)), (qe, .inl (cE, 2, .inl g_8))] H := hP
          have hD : va_D A [(qx, .inr (2, [.ref qf, .ref qp, .int pk, .int pl, .int ul, .int pw, .int 0, .int ta])), (qp, .inr (1, [.ref qf])), (qf, .inr (0, [.ref qb, .ref qe, .int od_8, .int ot_8, .int tm_8])), (qb, .inl (cA, 32, .inl b_8)), (qe, .inl (cE, 2, .inl g_8))] := hD
          refine lv_if_eq (tgt := 83) hx hb dX2_tryNumber_76 (by decide) (fun c_9 => ?_) (fun c_9 => ?_)
          · refine lv_aload_n hx hb dX2_tryNumber_83 rfl (lv_at hl 1 rfl) ?_
            have hPc := hP.sub (ws' := [(qx, .inr (2, [.ref qf, .ref qp, .int pk, .int pl, .int ul, .int pw, .int 0, .int ta])), (qp, .inr (1, [.ref qf])), (qf, .inr (0, [.ref qb, .ref qe, .int od_8, .int ot_8, .int tm_8])), (qb, .inl (cA, 32, .inl b_8)), (qe, .inl (cE, 2, .inl g_8))]) [0, 1, 2, 3, 4] rfl
            have hDc := hD.sub (ws' := [(qx, .inr (2, [.ref qf, .ref qp, .int pk, .int pl, .int ul, .int pw, .int 0, .int ta])), (qp, .inr (1, [.ref qf])), (qf, .inr (0, [.ref qb, .ref qe, .int od_8, .int ot_8, .int tm_8])), (qb, .inl (cA, 32, .inl b_8)), (qe, .inl (cE, 2, .inl g_8))]) [0, 1, 2, 3, 4] (by decide) rfl
            have hKc := hK.sub (tys' := [(cA, .int), (cE, .int)]) [0, 1] rfl
            have hFc := va_free (wc := [(qx, .inr (2, [.ref qf, .ref qp, .int pk, .int pl, .int ul, .int pw, .int 0, .int ta])), (qp, .inr (1, [.ref qf])), (qf, .inr (0, [.ref qb, .ref qe, .int od_8, .int ot_8, .int tm_8])), (qb, .inl (cA, 32, .inl b_8)), (qe, .inl (cE, 2, .inl g_8))]) hD hS hA [0, 1, 2, 3, 4] rfl
            refine va_calli (va_runV (As := []) (rest := []) ⟨hx, hb, hml, hown, hts⟩ (c_X_losePower l dC dI cA cE qx qp qf qb qe H.size b_8 g_8 pk pl ul pw 0 ta od_8 ot_8 tm_8) (cwV 0 hts gX2_tryNumber_X2_losePower rfl rfl rfl (by decide +kernel) ⟨Nat.le_of_ble_eq_true rfl, Nat.le_of_ble_eq_true rfl⟩) ⟨fun a U g mk q => by obtain ⟨q0, q1, qP, qK, qD⟩ := q; exact ⟨q0, q1, qP, va_K.moved (u := U) (U := U.calling g mk a) (Vm.Alike.refl U.vm) qK, qD⟩, va_recv hKc hPc (ci := 2) (q0 := 0) rfl rfl, fun U hU hW => ⟨rfl, by rw [hU], by rw [hU]; exact hPc, va_K.moved hW.alike hKc, hDc.weaken (fun _ _ _ _ => trivial)⟩⟩ rfl rfl hl.1 rfl (lv_room (Nat.le_of_ble_eq_true rfl)) dX2_tryNumber_84 ⟨(Nat.zero_le _), (Nat.zero_le _)⟩) hS (fun q _ h => hFc q h) hFc (fun r_10 u t H locs ht hvm hw hB hz1 hk1 hS => ?_)
            have hw : (-3) = r_10 := hw.symm
            subst hw
            obtain ⟨hP1, hK1, hD1⟩ := hB
            rw [ht] at hP1
            obtain ⟨hP, hD⟩ := va_join (wr := []) (w1 := [(qx, .inr (2, [.ref qf, .ref qp, .int pk, .int pl, .int ul, .int 0, .int 0, .int ta])), (qp, .inr (1, [.ref qf])), (qf, .inr (0, [.ref qb, .ref qe, .int od_8, .int ot_8, .int tm_8])), (qb, .inl (cA, 32, .inl b_8)), (qe, .inl (cE, 2, .inl g_8))]) hP hD [0, 1, 2, 3, 4] [] rfl rfl (by decide) (by decide) hk1 hFc hP1 hD1
            have hP : va_P (dC, dI) ttCl [(qx, .inr (2, [.ref qf, .ref qp, .int pk, .int pl, .int ul, .int 0, .int 0, .int ta])), (qp, .inr (1, [.ref qf])), (qf, .inr (0, [.ref qb, .ref qe, .int od_8, .int ot_8, .int tm_8])), (qb, .inl (cA, 32, .inl b_8)), (qe, .inl (cE, 2, .inl g_8))] H := hP
            have hD : va_D A [(qx, .inr (2, [.ref qf, .ref qp, .int pk, .int pl, .int ul, .int 0, .int 0, .int ta])), (qp, .inr (1, [.ref qf])), (qf, .inr (0, [.ref qb, .ref qe, .int od_8, .int ot_8, .int tm_8])), (qb, .inl (cA, 32, .inl b_8)), (qe, .inl (cE, 2, .inl g_8))] := hD
            have hP9 := hP.sub (ws' := [(qx, .inr (2, [.ref qf, .ref qp, .int pk, .int pl, .int ul, .int 0, .int 0, .int ta])), (qp, .inr (1, [.ref qf])), (qf, .inr (0, [.ref qb, .ref qe, .int od_8, .int ot_8, .int tm_8])), (qb, .inl (cA, 32, .inl b_8)), (qe, .inl (cE, 2, .inl g_8))]) [0, 1, 2, 3, 4] rfl
            have hD9 := hD.sub (ws' := [(qx, .inr (2, [.ref qf, .ref qp, .int pk, .int pl, .int ul, .int 0, .int 0, .int ta])), (qp, .inr (1, [.ref qf])), (qf, .inr (0, [.ref qb, .ref qe, .int od_8, .int ot_8, .int tm_8])), (qb, .inl (cA, 32, .inl b_8)), (qe, .inl (cE, 2, .inl g_8))]) [0, 1, 2, 3, 4] (by decide) rfl
            have hK9 := hK.sub (tys' := [(cA, .int), (cE, .int)]) [0, 1] rfl
            exact W.iret (v := (-3)) hx hb hr (fun t ht hW => ⟨⟨(-3), (0, 0, ta, b_8, g_8, od_8, ot_8, tm_8), rfl, (by first | (simp only [tt_try, c_1, c_3, e_4, c_5, c_7, e_8, c_9, reduceIte, eq_self]; done) | (simp [tt_try, c_1, c_3, e_4, c_5, c_7, e_8, c_9]; done)), by rw [ht]; exact hP9, va_K.moved hW.alike hK9, hD9⟩, hS.F ht⟩) hS.2.2 dX2_tryNumber_87
          · refine lv_iconst (v := 1) hx hb dX2_tryNumber_79 (by decide) ?_
            refine lv_goto (tgt := 87) hx hb dX2_tryNumber_80 (by decide) ?_
            have hP9 := hP.sub (ws' := [(qx, .inr (2, [.ref qf, .ref qp, .int pk, .int pl, .int ul, .int pw, .int 0, .int ta])), (qp, .inr (1, [.ref qf])), (qf, .inr (0, [.ref qb, .ref qe, .int od_8, .int ot_8, .int tm_8])), (qb, .inl (cA, 32, .inl b_8)), (qe, .inl (cE, 2, .inl g_8))]) [0, 1, 2, 3, 4] rfl
            have hD9 := hD.sub (ws' := [(qx, .inr (2, [.ref qf, .ref qp, .int pk, .int pl, .int ul, .int pw, .int 0, .int ta])), (qp, .inr (1, [.ref qf])), (qf, .inr (0, [.ref qb, .ref qe, .int od_8, .int ot_8, .int tm_8])), (qb, .inl (cA, 32, .inl b_8)), (qe, .inl (cE, 2, .inl g_8))]) [0, 1, 2, 3, 4] (by decide) rfl
            have hK9 := hK.sub (tys' := [(cA, .int), (cE, .int)]) [0, 1] rfl
            exact W.iret (v := 1) hx hb hr (fun t ht hW => ⟨⟨1, (pw, 0, ta, b_8, g_8, od_8, ot_8, tm_8), rfl, (by first | (simp only [tt_try, c_1, c_3, e_4, c_5, c_7, e_8, c_9, reduceIte, eq_self]; done) | (simp [tt_try, c_1, c_3, e_4, c_5, c_7, e_8, c_9]; done)), by rw [ht]; exact hP9, va_K.moved hW.alike hK9, hD9⟩, hS.F ht⟩) hS.2.2 dX2_tryNumber_87
        · refine lv_iconst (v := 0) hx hb dX2_tryNumber_63 (by decide) ?_
          have hP9 := hP.sub (ws' := [(qx, .inr (2, [.ref qf, .ref qp, .int pk, .int pl, .int ul, .int pw, .int 0, .int ta])), (qp, .inr (1, [.ref qf])), (qf, .inr (0, [.ref qb, .ref qe, .int od_4, .int ot_4, .int tm_4])), (qb, .inl (cA, 32, .inl b_4)), (qe, .inl (cE, 2, .inl g_4))]) [0, 1, 2, 3, 4] rfl
          have hD9 := hD.sub (ws' := [(qx, .inr (2, [.ref qf, .ref qp, .int pk, .int pl, .int ul, .int pw, .int 0, .int ta])), (qp, .inr (1, [.ref qf])), (qf, .inr (0, [.ref qb, .ref qe, .int od_4, .int ot_4, .int tm_4])), (qb, .inl (cA, 32, .inl b_4)), (qe, .inl (cE, 2, .inl g_4))]) [0, 1, 2, 3, 4] (by decide) rfl
          have hK9 := hK.sub (tys' := [(cA, .int), (cE, .int)]) [0, 1] rfl
          exact W.iret (v := 0) hx hb hr (fun t ht hW => ⟨⟨0, (pw, 0, ta, b_4, g_4, od_4, ot_4, tm_4), rfl, (by first | (simp only [tt_try, c_1, c_3, e_4, c_5, c_7, reduceIte, eq_self]; done) | (simp [tt_try, c_1, c_3, e_4, c_5, c_7]; done)), by rw [ht]; exact hP9, va_K.moved hW.alike hK9, hD9⟩, hS.F ht⟩) hS.2.2 dX2_tryNumber_64
      · refine lv_aload_n hx hb dX2_tryNumber_47 rfl (lv_at hl 1 rfl) ?_
        have hPc := hP.sub (ws' := [(qx, .inr (2, [.ref qf, .ref qp, .int pk, .int pl, .int ul, .int pw, .int 0, .int ta])), (qp, .inr (1, [.ref qf])), (qf, .inr (0, [.ref qb, .ref qe, .int od_4, .int ot_4, .int tm_4])), (qb, .inl (cA, 32, .inl b_4)), (qe, .inl (cE, 2, .inl g_4))]) [0, 1, 2, 3, 4] rfl
        have hDc := hD.sub (ws' := [(qx, .inr (2, [.ref qf, .ref qp, .int pk, .int pl, .int ul, .int pw, .int 0, .int ta])), (qp, .inr (1, [.ref qf])), (qf, .inr (0, [.ref qb, .ref qe, .int od_4, .int ot_4, .int tm_4])), (qb, .inl (cA, 32, .inl b_4)), (qe, .inl (cE, 2, .inl g_4))]) [0, 1, 2, 3, 4] (by decide) rfl
        have hKc := hK.sub (tys' := [(cA, .int), (cE, .int)]) [0, 1] rfl
        have hFc := va_free (wc := [(qx, .inr (2, [.ref qf, .ref qp, .int pk, .int pl, .int ul, .int pw, .int 0, .int ta])), (qp, .inr (1, [.ref qf])), (qf, .inr (0, [.ref qb, .ref qe, .int od_4, .int ot_4, .int tm_4])), (qb, .inl (cA, 32, .inl b_4)), (qe, .inl (cE, 2, .inl g_4))]) hD hS hA [0, 1, 2, 3, 4] rfl
        refine va_calli (va_runV (As := []) (rest := []) ⟨hx, hb, hml, hown, hts⟩ (c_X_losePower l dC dI cA cE qx qp qf qb qe H.size b_4 g_4 pk pl ul pw 0 ta od_4 ot_4 tm_4) (cwV 0 hts gX2_tryNumber_X2_losePower rfl rfl rfl (by decide +kernel) ⟨Nat.le_of_ble_eq_true rfl, Nat.le_of_ble_eq_true rfl⟩) ⟨fun a U g mk q => by obtain ⟨q0, q1, qP, qK, qD⟩ := q; exact ⟨q0, q1, qP, va_K.moved (u := U) (U := U.calling g mk a) (Vm.Alike.refl U.vm) qK, qD⟩, va_recv hKc hPc (ci := 2) (q0 := 0) rfl rfl, fun U hU hW => ⟨rfl, by rw [hU], by rw [hU]; exact hPc, va_K.moved hW.alike hKc, hDc.weaken (fun _ _ _ _ => trivial)⟩⟩ rfl rfl hl.1 rfl (lv_room (Nat.le_of_ble_eq_true rfl)) dX2_tryNumber_48 ⟨(Nat.zero_le _), (Nat.zero_le _)⟩) hS (fun q _ h => hFc q h) hFc (fun r_11 u t H locs ht hvm hw hB hz1 hk1 hS => ?_)
        have hw : (-3) = r_11 := hw.symm
        subst hw
        obtain ⟨hP1, hK1, hD1⟩ := hB
        rw [ht] at hP1
        obtain ⟨hP, hD⟩ := va_join (wr := []) (w1 := [(qx, .inr (2, [.ref qf, .ref qp, .int pk, .int pl, .int ul, .int 0, .int 0, .int ta])), (qp, .inr (1, [.ref qf])), (qf, .inr (0, [.ref qb, .ref qe, .int od_4, .int ot_4, .int tm_4])), (qb, .inl (cA, 32, .inl b_4)), (qe, .inl (cE, 2, .inl g_4))]) hP hD [0, 1, 2, 3, 4] [] rfl rfl (by decide) (by decide) hk1 hFc hP1 hD1
        have hP : va_P (dC, dI) ttCl [(qx, .inr (2, [.ref qf, .ref qp, .int pk, .int pl, .int ul, .int 0, .int 0, .int ta])), (qp, .inr (1, [.ref qf])), (qf, .inr (0, [.ref qb, .ref qe, .int od_4, .int ot_4, .int tm_4])), (qb, .inl (cA, 32, .inl b_4)), (qe, .inl (cE, 2, .inl g_4))] H := hP
        have hD : va_D A [(qx, .inr (2, [.ref qf, .ref qp, .int pk, .int pl, .int ul, .int 0, .int 0, .int ta])), (qp, .inr (1, [.ref qf])), (qf, .inr (0, [.ref qb, .ref qe, .int od_4, .int ot_4, .int tm_4])), (qb, .inl (cA, 32, .inl b_4)), (qe, .inl (cE, 2, .inl g_4))] := hD
        have hP9 := hP.sub (ws' := [(qx, .inr (2, [.ref qf, .ref qp, .int pk, .int pl, .int ul, .int 0, .int 0, .int ta])), (qp, .inr (1, [.ref qf])), (qf, .inr (0, [.ref qb, .ref qe, .int od_4, .int ot_4, .int tm_4])), (qb, .inl (cA, 32, .inl b_4)), (qe, .inl (cE, 2, .inl g_4))]) [0, 1, 2, 3, 4] rfl
        have hD9 := hD.sub (ws' := [(qx, .inr (2, [.ref qf, .ref qp, .int pk, .int pl, .int ul, .int 0, .int 0, .int ta])), (qp, .inr (1, [.ref qf])), (qf, .inr (0, [.ref qb, .ref qe, .int od_4, .int ot_4, .int tm_4])), (qb, .inl (cA, 32, .inl b_4)), (qe, .inl (cE, 2, .inl g_4))]) [0, 1, 2, 3, 4] (by decide) rfl
        have hK9 := hK.sub (tys' := [(cA, .int), (cE, .int)]) [0, 1] rfl
        exact W.iret (v := (-3)) hx hb hr (fun t ht hW => ⟨⟨(-3), (0, 0, ta, b_4, g_4, od_4, ot_4, tm_4), rfl, (by first | (simp only [tt_try, c_1, c_3, e_4, c_5, reduceIte, eq_self]; done) | (simp [tt_try, c_1, c_3, e_4, c_5]; done)), by rw [ht]; exact hP9, va_K.moved hW.alike hK9, hD9⟩, hS.F ht⟩) hS.2.2 dX2_tryNumber_51
    · refine lv_bipush (v := (-2)) hx hb dX2_tryNumber_23 (by decide) ?_
      have hP9 := hP.sub (ws' := [(qx, .inr (2, [.ref qf, .ref qp, .int pk, .int pl, .int ul, .int pw, .int hi, .int ta])), (qp, .inr (1, [.ref qf])), (qf, .inr (0, [.ref qb, .ref qe, .int od, .int ot, .int tm])), (qb, .inl (cA, 32, .inl b)), (qe, .inl (cE, 2, .inl g))]) [0, 1, 2, 3, 4] rfl
      have hD9 := hD.sub (ws' := [(qx, .inr (2, [.ref qf, .ref qp, .int pk, .int pl, .int ul, .int pw, .int hi, .int ta])), (qp, .inr (1, [.ref qf])), (qf, .inr (0, [.ref qb, .ref qe, .int od, .int ot, .int tm])), (qb, .inl (cA, 32, .inl b)), (qe, .inl (cE, 2, .inl g))]) [0, 1, 2, 3, 4] (by decide) rfl
      have hK9 := hK.sub (tys' := [(cA, .int), (cE, .int)]) [0, 1] rfl
      exact W.iret (v := (-2)) hx hb hr (fun t ht hW => ⟨⟨(-2), (pw, hi, ta, b, g, od, ot, tm), rfl, (by first | (simp only [tt_try, c_1, c_3, reduceIte, eq_self]; done) | (simp [tt_try, c_1, c_3]; done)), by rw [ht]; exact hP9, va_K.moved hW.alike hK9, hD9⟩, hS.F ht⟩) hS.2.2 dX2_tryNumber_25
  · refine lv_iconst (v := (-1)) hx hb dX2_tryNumber_7 (by decide) ?_
    have hP9 := hP.sub (ws' := [(qx, .inr (2, [.ref qf, .ref qp, .int pk, .int pl, .int ul, .int pw, .int hi, .int ta])), (qp, .inr (1, [.ref qf])), (qf, .inr (0, [.ref qb, .ref qe, .int od, .int ot, .int tm])), (qb, .inl (cA, 32, .inl b)), (qe, .inl (cE, 2, .inl g))]) [0, 1, 2, 3, 4] rfl
    have hD9 := hD.sub (ws' := [(qx, .inr (2, [.ref qf, .ref qp, .int pk, .int pl, .int ul, .int pw, .int hi, .int ta])), (qp, .inr (1, [.ref qf])), (qf, .inr (0, [.ref qb, .ref qe, .int od, .int ot, .int tm])), (qb, .inl (cA, 32, .inl b)), (qe, .inl (cE, 2, .inl g))]) [0, 1, 2, 3, 4] (by decide) rfl
    have hK9 := hK.sub (tys' := [(cA, .int), (cE, .int)]) [0, 1] rfl
    exact W.iret (v := (-1)) hx hb hr (fun t ht hW => ⟨⟨(-1), (pw, hi, ta, b, g, od, ot, tm), rfl, (by first | (simp only [tt_try, c_1, reduceIte, eq_self]; done) | (simp [tt_try, c_1]; done)), by rw [ht]; exact hP9, va_K.moved hW.alike hK9, hD9⟩, hS.F ht⟩) hS.2.2 dX2_tryNumber_8
set_option maxHeartbeats 4000000 in
set_option maxRecDepth 100000 in
theorem c_X_verify (l : Launch) (dC : Nat → ClassId) (dI : Nat → Nat → Nat) (cA cE : ClassId) (qx qp qf qb qe : Nat) (sz : Nat) (b g : Nat → Int32) (pk pl ul pw hi ta od ot tm : Int32) (n : Int32) : Met l yX2_verify wsX2_verify ({ frames := 6, cells := 0, slots := 0, locals := 133 }) (va_Pc [.ref qx, .int n] (fun U => U.heap.size = sz ∧ va_P (dC, dI) ttCl [(qx, .inr (2, [.ref qf, .ref qp, .int pk, .int pl, .int ul, .int pw, .int hi, .int ta])), (qp, .inr (1, [.ref qf])), (qf, .inr (0, [.ref qb, .ref qe, .int od, .int ot, .int tm])), (qb, .inl (cA, 32, .inl b)), (qe, .inl (cE, 2, .inl g))] U.heap ∧ va_K (dC, dI) ttCl [(cA, .int), (cE, .int)] U ∧ va_D (fun _ => True) [(qx, .inr (2, [.ref qf, .ref qp, .int pk, .int pl, .int ul, .int pw, .int hi, .int ta])), (qp, .inr (1, [.ref qf])), (qf, .inr (0, [.ref qb, .ref qe, .int od, .int ot, .int tm])), (qb, .inl (cA, 32, .inl b)), (qe, .inl (cE, 2, .inl g))])) (va_Qi (fun (r : Int32) (u : tt_X) => tt_verify pl (pw, hi, ta, b, g, od, ot, tm) n = (r, u)) (fun (u : tt_X) (t : State) => at_X dC dI cA cE (va_A [(qx, .inr (2, [.ref qf, .ref qp, .int pk, .int pl, .int ul, .int pw, .int hi, .int ta])), (qp, .inr (1, [.ref qf])), (qf, .inr (0, [.ref qb, .ref qe, .int od, .int ot, .int tm])), (qb, .inl (cA, 32, .inl b)), (qe, .inl (cE, 2, .inl g))] sz) qx qp qf qb qe pk pl ul u t) (va_A [(qx, .inr (2, [.ref qf, .ref qp, .int pk, .int pl, .int ul, .int pw, .int hi, .int ta])), (qp, .inr (1, [.ref qf])), (qf, .inr (0, [.ref qb, .ref qe, .int od, .int ot, .int tm])), (qb, .inl (cA, 32, .inl b)), (qe, .inl (cE, 2, .inl g))] sz)) 0 0 (va_A [(qx, .inr (2, [.ref qf, .ref qp, .int pk, .int pl, .int ul, .int pw, .int hi, .int ta])), (qp, .inr (1, [.ref qf])), (qf, .inr (0, [.ref qb, .ref qe, .int od, .int ot, .int tm])), (qb, .inl (cA, 32, .inl b)), (qe, .inl (cE, 2, .inl g))] sz) := by
  refine Met.ofW (cc := cX2_verify) (maxL := 3) (ret := (some .int)) (by decide) rfl ?_
  intro p e s m args below meth c s₁ B hml hv
  obtain ⟨rfl, hsz, hP, hK, hD0⟩ := hv
  have hx := B.exec
  have hb := B.bytes
  have hr := B.returns
  have hts := atoms_spec (ws := wsX2_verify) B.pre
  have hown : s.vm.findClass RX2 = some m.cls := findClass_of_methodNamed B.named
  have hlocks := B.notSynchronized
  subst hsz
  have hD := hD0.self (sz := s.heap.size)
  generalize hAe : va_A [(qx, .inr (2, [.ref qf, .ref qp, .int pk, .int pl, .int ul, .int pw, .int hi, .int ta])), (qp, .inr (1, [.ref qf])), (qf, .inr (0, [.ref qb, .ref qe, .int od, .int ot, .int tm])), (qb, .inl (cA, 32, .inl b)), (qe, .inl (cE, 2, .inl g))] s.heap.size = A at hD ⊢
  have hA : ∀ q : Nat, s.heap.size ≤ q → A q := fun q h => by rw [← hAe]; exact Or.inr h
  have hS : va_S A s.heap s.heap [] := va_S.rf
  have hP : va_P (dC, dI) ttCl [(qx, .inr (2, [.ref qf, .ref qp, .int pk, .int pl, .int ul, .int pw, .int hi, .int ta])), (qp, .inr (1, [.ref qf])), (qf, .inr (0, [.ref qb, .ref qe, .int od, .int ot, .int tm])), (qb, .inl (cA, 32, .inl b)), (qe, .inl (cE, 2, .inl g))] s.heap := hP
  have hl := lv_entry ([.ref qx, .int n]) (n := 3) (Nat.le_of_ble_eq_true rfl)
  rw [lg_entry_eq]
  generalize (lg_sl ([.ref qx, .int n]) ++ List.replicate (3 - (lg_sl ([.ref qx, .int n])).length) Slot.unset).toArray = ls at hl ⊢
  have hl : lv_has ls 3 [(0, .ref qx), (1, .int n)] := hl
  refine lv_aload_n hx hb dX2_verify_0 rfl (lv_at hl 0 rfl) ?_
  refine lv_iload_n hx hb dX2_verify_1 rfl (lv_at hl 1 rfl) ?_
  refine lv_ldc (v := 65535) hx hb hown (hts (.constant RX2 18 65535) (by decide +kernel)) dX2_verify_2 ?_
  refine lv_iand hx hb dX2_verify_4 ?_
  have hPc := hP.sub (ws' := [(qx, .inr (2, [.ref qf, .ref qp, .int pk, .int pl, .int ul, .int pw, .int hi, .int ta])), (qp, .inr (1, [.ref qf])), (qf, .inr (0, [.ref qb, .ref qe, .int od, .int ot, .int tm])), (qb, .inl (cA, 32, .inl b)), (qe, .inl (cE, 2, .inl g))]) [0, 1, 2, 3, 4] rfl
  have hDc := hD.sub (ws' := [(qx, .inr (2, [.ref qf, .ref qp, .int pk, .int pl, .int ul, .int pw, .int hi, .int ta])), (qp, .inr (1, [.ref qf])), (qf, .inr (0, [.ref qb, .ref qe, .int od, .int ot, .int tm])), (qb, .inl (cA, 32, .inl b)), (qe, .inl (cE, 2, .inl g))]) [0, 1, 2, 3, 4] (by decide) rfl
  have hKc := hK.sub (tys' := [(cA, .int), (cE, .int)]) [0, 1] rfl
  have hFc := va_free (wc := [(qx, .inr (2, [.ref qf, .ref qp, .int pk, .int pl, .int ul, .int pw, .int hi, .int ta])), (qp, .inr (1, [.ref qf])), (qf, .inr (0, [.ref qb, .ref qe, .int od, .int ot, .int tm])), (qb, .inl (cA, 32, .inl b)), (qe, .inl (cE, 2, .inl g))]) hD hS hA [0, 1, 2, 3, 4] rfl
  refine va_calli (va_runV (As := [.int (n &&& 65535)]) (rest := []) ⟨hx, hb, hml, hown, hts⟩ (c_X_tryNumber l dC dI cA cE qx qp qf qb qe s.heap.size b g pk pl ul pw hi ta od ot tm (n &&& 65535)) (cwV 1 hts gX2_verify_X2_tryNumber rfl rfl rfl (by decide +kernel) ⟨Nat.le_of_ble_eq_true rfl, Nat.le_of_ble_eq_true rfl⟩) ⟨fun a U g mk q => by obtain ⟨q0, q1, qP, qK, qD⟩ := q; exact ⟨q0, q1, qP, va_K.moved (u := U) (U := U.calling g mk a) (Vm.Alike.refl U.vm) qK, qD⟩, va_recv hKc hPc (ci := 2) (q0 := 0) rfl rfl, fun U hU hW => ⟨rfl, by rw [hU], by rw [hU]; exact hPc, va_K.moved hW.alike hKc, hDc.weaken (fun _ _ _ _ => trivial)⟩⟩ rfl rfl hl.1 rfl (lv_room (Nat.le_of_ble_eq_true rfl)) dX2_verify_5 ⟨(Nat.zero_le _), (Nat.zero_le _)⟩) hS (fun q _ h => hFc q h) hFc (fun r_1 u t H locs ht hvm hw hB hz1 hk1 hS => ?_)
  obtain ⟨pw_1, hi_1, ta_1, b_1, g_1, od_1, ot_1, tm_1⟩ := u
  obtain ⟨hP1, hK1, hD1⟩ := hB
  have e_1 : tt_try pl (pw, hi, ta, b, g, od, ot, tm) (n &&& 65535) = (r_1, (pw_1, hi_1, ta_1, b_1, g_1, od_1, ot_1, tm_1)) := hw
  rw [ht] at hP1
  obtain ⟨hP, hD⟩ := va_join (wr := []) (w1 := [(qx, .inr (2, [.ref qf, .ref qp, .int pk, .int pl, .int ul, .int pw_1, .int hi_1, .int ta_1])), (qp, .inr (1, [.ref qf])), (qf, .inr (0, [.ref qb, .ref qe, .int od_1, .int ot_1, .int tm_1])), (qb, .inl (cA, 32, .inl b_1)), (qe, .inl (cE, 2, .inl g_1))]) hP hD [0, 1, 2, 3, 4] [] rfl rfl (by decide) (by decide) hk1 hFc hP1 hD1
  have hP : va_P (dC, dI) ttCl [(qx, .inr (2, [.ref qf, .ref qp, .int pk, .int pl, .int ul, .int pw_1, .int hi_1, .int ta_1])), (qp, .inr (1, [.ref qf])), (qf, .inr (0, [.ref qb, .ref qe, .int od_1, .int ot_1, .int tm_1])), (qb, .inl (cA, 32, .inl b_1)), (qe, .inl (cE, 2, .inl g_1))] H := hP
  have hD : va_D A [(qx, .inr (2, [.ref qf, .ref qp, .int pk, .int pl, .int ul, .int pw_1, .int hi_1, .int ta_1])), (qp, .inr (1, [.ref qf])), (qf, .inr (0, [.ref qb, .ref qe, .int od_1, .int ot_1, .int tm_1])), (qb, .inl (cA, 32, .inl b_1)), (qe, .inl (cE, 2, .inl g_1))] := hD
  refine lv_istore_n (lv' := [(2, .int r_1), (0, .ref qx), (1, .int n)]) hx hb dX2_verify_8 rfl hl (by decide) rfl (fun ls hl => ?_)
  refine lv_iload_n hx hb dX2_verify_9 rfl (lv_at hl 0 rfl) ?_
  refine lv_iconst (v := 1) hx hb dX2_verify_10 (by decide) ?_
  refine lv_icmp_ne (tgt := 19) hx hb dX2_verify_11 (by decide) (fun c_2 => ?_) (fun c_2 => ?_)
  · refine lv_iload_n hx hb dX2_verify_19 rfl (lv_at hl 0 rfl) ?_
    have hP9 := hP.sub (ws' := [(qx, .inr (2, [.ref qf, .ref qp, .int pk, .int pl, .int ul, .int pw_1, .int hi_1, .int ta_1])), (qp, .inr (1, [.ref qf])), (qf, .inr (0, [.ref qb, .ref qe, .int od_1, .int ot_1, .int tm_1])), (qb, .inl (cA, 32, .inl b_1)), (qe, .inl (cE, 2, .inl g_1))]) [0, 1, 2, 3, 4] rfl
    have hD9 := hD.sub (ws' := [(qx, .inr (2, [.ref qf, .ref qp, .int pk, .int pl, .int ul, .int pw_1, .int hi_1, .int ta_1])), (qp, .inr (1, [.ref qf])), (qf, .inr (0, [.ref qb, .ref qe, .int od_1, .int ot_1, .int tm_1])), (qb, .inl (cA, 32, .inl b_1)), (qe, .inl (cE, 2, .inl g_1))]) [0, 1, 2, 3, 4] (by decide) rfl
    have hK9 := hK.sub (tys' := [(cA, .int), (cE, .int)]) [0, 1] rfl
    exact W.iret (v := r_1) hx hb hr (fun t ht hW => ⟨⟨r_1, (pw_1, hi_1, ta_1, b_1, g_1, od_1, ot_1, tm_1), rfl, (by first | (simp only [tt_verify, e_1, c_2, reduceIte, eq_self]; done) | (simp [tt_verify, e_1, c_2]; done)), by rw [ht]; exact hP9, va_K.moved hW.alike hK9, hD9⟩, hS.F ht⟩) hS.2.2 dX2_verify_20
  · refine lv_aload_n hx hb dX2_verify_14 rfl (lv_at hl 1 rfl) ?_
    refine lv_iconst (v := 1) hx hb dX2_verify_15 (by decide) ?_
    refine va_put (D := (dC, dI)) (ci := 2) (v := .int 1) (ty := .boolean) (C := RX2) (T := TX2) (N := 8) hx hb hts (by decide +kernel) tyX2 tyX2_ok nmX2 hown hK hP hD hS 0 rfl rfl 6 (by decide) (hts (.fieldLink RX2 44 "TornTryCounter" "holderIn" "Z") (by decide +kernel)) (fun _ h9 => h9) rfl (by decide +kernel) rfl rfl (Nat.le_of_ble_eq_true rfl) dX2_verify_16 (fun H locs hP hD hS => ?_)
    have hP : va_P (dC, dI) ttCl [(qx, .inr (2, [.ref qf, .ref qp, .int pk, .int pl, .int ul, .int pw_1, .int 1, .int ta_1])), (qp, .inr (1, [.ref qf])), (qf, .inr (0, [.ref qb, .ref qe, .int od_1, .int ot_1, .int tm_1])), (qb, .inl (cA, 32, .inl b_1)), (qe, .inl (cE, 2, .inl g_1))] H := hP
    have hD : va_D A [(qx, .inr (2, [.ref qf, .ref qp, .int pk, .int pl, .int ul, .int pw_1, .int 1, .int ta_1])), (qp, .inr (1, [.ref qf])), (qf, .inr (0, [.ref qb, .ref qe, .int od_1, .int ot_1, .int tm_1])), (qb, .inl (cA, 32, .inl b_1)), (qe, .inl (cE, 2, .inl g_1))] := hD
    refine lv_iload_n hx hb dX2_verify_19 rfl (lv_at hl 0 rfl) ?_
    have hP9 := hP.sub (ws' := [(qx, .inr (2, [.ref qf, .ref qp, .int pk, .int pl, .int ul, .int pw_1, .int 1, .int ta_1])), (qp, .inr (1, [.ref qf])), (qf, .inr (0, [.ref qb, .ref qe, .int od_1, .int ot_1, .int tm_1])), (qb, .inl (cA, 32, .inl b_1)), (qe, .inl (cE, 2, .inl g_1))]) [0, 1, 2, 3, 4] rfl
    have hD9 := hD.sub (ws' := [(qx, .inr (2, [.ref qf, .ref qp, .int pk, .int pl, .int ul, .int pw_1, .int 1, .int ta_1])), (qp, .inr (1, [.ref qf])), (qf, .inr (0, [.ref qb, .ref qe, .int od_1, .int ot_1, .int tm_1])), (qb, .inl (cA, 32, .inl b_1)), (qe, .inl (cE, 2, .inl g_1))]) [0, 1, 2, 3, 4] (by decide) rfl
    have hK9 := hK.sub (tys' := [(cA, .int), (cE, .int)]) [0, 1] rfl
    exact W.iret (v := r_1) hx hb hr (fun t ht hW => ⟨⟨r_1, (pw_1, 1, ta_1, b_1, g_1, od_1, ot_1, tm_1), rfl, (by first | (simp only [tt_verify, e_1, c_2, reduceIte, eq_self]; done) | (simp [tt_verify, e_1, c_2]; done)), by rw [ht]; exact hP9, va_K.moved hW.alike hK9, hD9⟩, hS.F ht⟩) hS.2.2 dX2_verify_20
set_option maxHeartbeats 4000000 in
set_option maxRecDepth 100000 in
theorem c_X_change (l : Launch) (dC : Nat → ClassId) (dI : Nat → Nat → Nat) (cA cE : ClassId) (qx qp qf qb qe : Nat) (sz : Nat) (b g : Nat → Int32) (pk pl ul pw hi ta od ot tm : Int32) (n x : Int32) : Met l yX2_change wsX2_change ({ frames := 6, cells := 0, slots := 0, locals := 133 }) (va_Pc [.ref qx, .int n, .int x] (fun U => U.heap.size = sz ∧ va_P (dC, dI) ttCl [(qx, .inr (2, [.ref qf, .ref qp, .int pk, .int pl, .int ul, .int pw, .int hi, .int ta])), (qp, .inr (1, [.ref qf])), (qf, .inr (0, [.ref qb, .ref qe, .int od, .int ot, .int tm])), (qb, .inl (cA, 32, .inl b)), (qe, .inl (cE, 2, .inl g))] U.heap ∧ va_K (dC, dI) ttCl [(cA, .int), (cE, .int)] U ∧ va_D (fun _ => True) [(qx, .inr (2, [.ref qf, .ref qp, .int pk, .int pl, .int ul, .int pw, .int hi, .int ta])), (qp, .inr (1, [.ref qf])), (qf, .inr (0, [.ref qb, .ref qe, .int od, .int ot, .int tm])), (qb, .inl (cA, 32, .inl b)), (qe, .inl (cE, 2, .inl g))])) (va_Qi (fun (r : Int32) (u : tt_X) => tt_change pl (pw, hi, ta, b, g, od, ot, tm) n x = (r, u)) (fun (u : tt_X) (t : State) => at_X dC dI cA cE (va_A [(qx, .inr (2, [.ref qf, .ref qp, .int pk, .int pl, .int ul, .int pw, .int hi, .int ta])), (qp, .inr (1, [.ref qf])), (qf, .inr (0, [.ref qb, .ref qe, .int od, .int ot, .int tm])), (qb, .inl (cA, 32, .inl b)), (qe, .inl (cE, 2, .inl g))] sz) qx qp qf qb qe pk pl ul u t) (va_A [(qx, .inr (2, [.ref qf, .ref qp, .int pk, .int pl, .int ul, .int pw, .int hi, .int ta])), (qp, .inr (1, [.ref qf])), (qf, .inr (0, [.ref qb, .ref qe, .int od, .int ot, .int tm])), (qb, .inl (cA, 32, .inl b)), (qe, .inl (cE, 2, .inl g))] sz)) 0 0 (va_A [(qx, .inr (2, [.ref qf, .ref qp, .int pk, .int pl, .int ul, .int pw, .int hi, .int ta])), (qp, .inr (1, [.ref qf])), (qf, .inr (0, [.ref qb, .ref qe, .int od, .int ot, .int tm])), (qb, .inl (cA, 32, .inl b)), (qe, .inl (cE, 2, .inl g))] sz) := by
  refine Met.ofW (cc := cX2_change) (maxL := 4) (ret := (some .int)) (by decide) rfl ?_
  intro p e s m args below meth c s₁ B hml hv
  obtain ⟨rfl, hsz, hP, hK, hD0⟩ := hv
  have hx := B.exec
  have hb := B.bytes
  have hr := B.returns
  have hts := atoms_spec (ws := wsX2_change) B.pre
  have hown : s.vm.findClass RX2 = some m.cls := findClass_of_methodNamed B.named
  have hlocks := B.notSynchronized
  subst hsz
  have hD := hD0.self (sz := s.heap.size)
  generalize hAe : va_A [(qx, .inr (2, [.ref qf, .ref qp, .int pk, .int pl, .int ul, .int pw, .int hi, .int ta])), (qp, .inr (1, [.ref qf])), (qf, .inr (0, [.ref qb, .ref qe, .int od, .int ot, .int tm])), (qb, .inl (cA, 32, .inl b)), (qe, .inl (cE, 2, .inl g))] s.heap.size = A at hD ⊢
  have hA : ∀ q : Nat, s.heap.size ≤ q → A q := fun q h => by rw [← hAe]; exact Or.inr h
  have hS : va_S A s.heap s.heap [] := va_S.rf
  have hP : va_P (dC, dI) ttCl [(qx, .inr (2, [.ref qf, .ref qp, .int pk, .int pl, .int ul, .int pw, .int hi, .int ta])), (qp, .inr (1, [.ref qf])), (qf, .inr (0, [.ref qb, .ref qe, .int od, .int ot, .int tm])), (qb, .inl (cA, 32, .inl b)), (qe, .inl (cE, 2, .inl g))] s.heap := hP
  have hl := lv_entry ([.ref qx, .int n, .int x]) (n := 4) (Nat.le_of_ble_eq_true rfl)
  rw [lg_entry_eq]
  generalize (lg_sl ([.ref qx, .int n, .int x]) ++ List.replicate (4 - (lg_sl ([.ref qx, .int n, .int x])).length) Slot.unset).toArray = ls at hl ⊢
  have hl : lv_has ls 4 [(0, .ref qx), (1, .int n), (2, .int x)] := hl
  refine lv_aload_n hx hb dX2_change_0 rfl (lv_at hl 0 rfl) ?_
  refine lv_iload_n hx hb dX2_change_1 rfl (lv_at hl 1 rfl) ?_
  refine lv_ldc (v := 65535) hx hb hown (hts (.constant RX2 18 65535) (by decide +kernel)) dX2_change_2 ?_
  refine lv_iand hx hb dX2_change_4 ?_
  have hPc := hP.sub (ws' := [(qx, .inr (2, [.ref qf, .ref qp, .int pk, .int pl, .int ul, .int pw, .int hi, .int ta])), (qp, .inr (1, [.ref qf])), (qf, .inr (0, [.ref qb, .ref qe, .int od, .int ot, .int tm])), (qb, .inl (cA, 32, .inl b)), (qe, .inl (cE, 2, .inl g))]) [0, 1, 2, 3, 4] rfl
  have hDc := hD.sub (ws' := [(qx, .inr (2, [.ref qf, .ref qp, .int pk, .int pl, .int ul, .int pw, .int hi, .int ta])), (qp, .inr (1, [.ref qf])), (qf, .inr (0, [.ref qb, .ref qe, .int od, .int ot, .int tm])), (qb, .inl (cA, 32, .inl b)), (qe, .inl (cE, 2, .inl g))]) [0, 1, 2, 3, 4] (by decide) rfl
  have hKc := hK.sub (tys' := [(cA, .int), (cE, .int)]) [0, 1] rfl
  have hFc := va_free (wc := [(qx, .inr (2, [.ref qf, .ref qp, .int pk, .int pl, .int ul, .int pw, .int hi, .int ta])), (qp, .inr (1, [.ref qf])), (qf, .inr (0, [.ref qb, .ref qe, .int od, .int ot, .int tm])), (qb, .inl (cA, 32, .inl b)), (qe, .inl (cE, 2, .inl g))]) hD hS hA [0, 1, 2, 3, 4] rfl
  refine va_calli (va_runV (As := [.int (n &&& 65535)]) (rest := []) ⟨hx, hb, hml, hown, hts⟩ (c_X_tryNumber l dC dI cA cE qx qp qf qb qe s.heap.size b g pk pl ul pw hi ta od ot tm (n &&& 65535)) (cwV 1 hts gX2_change_X2_tryNumber rfl rfl rfl (by decide +kernel) ⟨Nat.le_of_ble_eq_true rfl, Nat.le_of_ble_eq_true rfl⟩) ⟨fun a U g mk q => by obtain ⟨q0, q1, qP, qK, qD⟩ := q; exact ⟨q0, q1, qP, va_K.moved (u := U) (U := U.calling g mk a) (Vm.Alike.refl U.vm) qK, qD⟩, va_recv hKc hPc (ci := 2) (q0 := 0) rfl rfl, fun U hU hW => ⟨rfl, by rw [hU], by rw [hU]; exact hPc, va_K.moved hW.alike hKc, hDc.weaken (fun _ _ _ _ => trivial)⟩⟩ rfl rfl hl.1 rfl (lv_room (Nat.le_of_ble_eq_true rfl)) dX2_change_5 ⟨(Nat.zero_le _), (Nat.zero_le _)⟩) hS (fun q _ h => hFc q h) hFc (fun r_1 u t H locs ht hvm hw hB hz1 hk1 hS => ?_)
  obtain ⟨pw_1, hi_1, ta_1, b_1, g_1, od_1, ot_1, tm_1⟩ := u
  obtain ⟨hP1, hK1, hD1⟩ := hB
  have e_1 : tt_try pl (pw, hi, ta, b, g, od, ot, tm) (n &&& 65535) = (r_1, (pw_1, hi_1, ta_1, b_1, g_1, od_1, ot_1, tm_1)) := hw
  rw [ht] at hP1
  obtain ⟨hP, hD⟩ := va_join (wr := []) (w1 := [(qx, .inr (2, [.ref qf, .ref qp, .int pk, .int pl, .int ul, .int pw_1, .int hi_1, .int ta_1])), (qp, .inr (1, [.ref qf])), (qf, .inr (0, [.ref qb, .ref qe, .int od_1, .int ot_1, .int tm_1])), (qb, .inl (cA, 32, .inl b_1)), (qe, .inl (cE, 2, .inl g_1))]) hP hD [0, 1, 2, 3, 4] [] rfl rfl (by decide) (by decide) hk1 hFc hP1 hD1
  have hP : va_P (dC, dI) ttCl [(qx, .inr (2, [.ref qf, .ref qp, .int pk, .int pl, .int ul, .int pw_1, .int hi_1, .int ta_1])), (qp, .inr (1, [.ref qf])), (qf, .inr (0, [.ref qb, .ref qe, .int od_1, .int ot_1, .int tm_1])), (qb, .inl (cA, 32, .inl b_1)), (qe, .inl (cE, 2, .inl g_1))] H := hP
  have hD : va_D A [(qx, .inr (2, [.ref qf, .ref qp, .int pk, .int pl, .int ul, .int pw_1, .int hi_1, .int ta_1])), (qp, .inr (1, [.ref qf])), (qf, .inr (0, [.ref qb, .ref qe, .int od_1, .int ot_1, .int tm_1])), (qb, .inl (cA, 32, .inl b_1)), (qe, .inl (cE, 2, .inl g_1))] := hD
  refine lv_istore_n (lv' := [(3, .int r_1), (0, .ref qx), (1, .int n), (2, .int x)]) hx hb dX2_change_8 rfl hl (by decide) rfl (fun ls hl => ?_)
  refine lv_iload_n hx hb dX2_change_9 rfl (lv_at hl 0 rfl) ?_
  refine lv_iconst (v := 1) hx hb dX2_change_10 (by decide) ?_
  refine lv_icmp_eq (tgt := 16) hx hb dX2_change_11 (by decide) (fun c_2 => ?_) (fun c_2 => ?_)
  · refine lv_aload_n hx hb dX2_change_16 rfl (lv_at hl 1 rfl) ?_
    refine va_get (D := (dC, dI)) (ci := 2) (v := .ref qp) (C := RX2) (T := TX2) (N := 8) hx hb hts (by decide +kernel) hown hK hP 0 rfl rfl 1 (by decide) (hts (.fieldLink RX2 22 "TornTryCounter" "pages" "LTornTryCounter$Pages;") (by decide +kernel)) (fun _ h9 => h9) rfl dX2_change_17 ?_
    refine lv_iload_n hx hb dX2_change_20 rfl (lv_at hl 3 rfl) ?_
    refine lv_ldc (v := 65535) hx hb hown (hts (.constant RX2 18 65535) (by decide +kernel)) dX2_change_21 ?_
    refine lv_iand hx hb dX2_change_23 ?_
    refine lv_iconst (v := 0) hx hb dX2_change_24 (by decide) ?_
    refine lv_aload_n hx hb dX2_change_25 rfl (lv_at hl 1 rfl) ?_
    refine va_get (D := (dC, dI)) (ci := 2) (v := .ref qp) (C := RX2) (T := TX2) (N := 8) hx hb hts (by decide +kernel) hown hK hP 0 rfl rfl 1 (by decide) (hts (.fieldLink RX2 22 "TornTryCounter" "pages" "LTornTryCounter$Pages;") (by decide +kernel)) (fun _ h9 => h9) rfl dX2_change_26 ?_
    have hPc := hP.sub (ws' := [(qp, .inr (1, [.ref qf])), (qf, .inr (0, [.ref qb, .ref qe, .int od_1, .int ot_1, .int tm_1])), (qb, .inl (cA, 32, .inl b_1)), (qe, .inl (cE, 2, .inl g_1))]) [1, 2, 3, 4] rfl
    have hDc := hD.sub (ws' := [(qp, .inr (1, [.ref qf])), (qf, .inr (0, [.ref qb, .ref qe, .int od_1, .int ot_1, .int tm_1])), (qb, .inl (cA, 32, .inl b_1)), (qe, .inl (cE, 2, .inl g_1))]) [1, 2, 3, 4] (by decide) rfl
    have hKc := hK.sub (tys' := [(cA, .int), (cE, .int)]) [0, 1] rfl
    have hFc := va_free (wc := [(qp, .inr (1, [.ref qf])), (qf, .inr (0, [.ref qb, .ref qe, .int od_1, .int ot_1, .int tm_1])), (qb, .inl (cA, 32, .inl b_1)), (qe, .inl (cE, 2, .inl g_1))]) hD hS hA [1, 2, 3, 4] rfl
    refine va_calli (va_runV (As := []) (rest := [.int 0, .int (x &&& 65535), .ref qp]) ⟨hx, hb, hml, hown, hts⟩ (c_P_pukTriesUsed l dC dI cA cE qp qf qb qe H.size b_1 g_1 od_1 ot_1 tm_1) (cwV 0 hts gX2_change_X1_pukTriesUsed rfl rfl rfl (by decide +kernel) ⟨Nat.le_of_ble_eq_true rfl, Nat.le_of_ble_eq_true rfl⟩) ⟨fun a U g mk q => by obtain ⟨q0, q1, qP, qK, qD⟩ := q; exact ⟨q0, q1, qP, va_K.moved (u := U) (U := U.calling g mk a) (Vm.Alike.refl U.vm) qK, qD⟩, va_recv hKc hPc (ci := 1) (q0 := 0) rfl rfl, fun U hU hW => ⟨rfl, by rw [hU], by rw [hU]; exact hPc, va_K.moved hW.alike hKc, hDc.weaken (fun _ _ _ _ => trivial)⟩⟩ rfl rfl hl.1 rfl (lv_room (Nat.le_of_ble_eq_true rfl)) dX2_change_29 ⟨(Nat.zero_le _), (Nat.zero_le _)⟩) hS (fun q _ h => hFc q h) hFc (fun r_3 u t H locs ht hvm hw hB hz1 hk1 hS => ?_)
    have hw : tt_uu b_1 = r_3 := hw.symm
    subst hw
    obtain ⟨hP1, hK1, hD1⟩ := hB
    rw [ht] at hP1
    obtain ⟨hP, hD⟩ := va_join (wr := [(qx, .inr (2, [.ref qf, .ref qp, .int pk, .int pl, .int ul, .int pw_1, .int hi_1, .int ta_1]))]) (w1 := [(qp, .inr (1, [.ref qf])), (qf, .inr (0, [.ref qb, .ref qe, .int od_1, .int ot_1, .int tm_1])), (qb, .inl (cA, 32, .inl b_1)), (qe, .inl (cE, 2, .inl g_1))]) hP hD [1, 2, 3, 4] [0] rfl rfl (by decide) (by decide) hk1 hFc hP1 hD1
    have hP : va_P (dC, dI) ttCl [(qx, .inr (2, [.ref qf, .ref qp, .int pk, .int pl, .int ul, .int pw_1, .int hi_1, .int ta_1])), (qp, .inr (1, [.ref qf])), (qf, .inr (0, [.ref qb, .ref qe, .int od_1, .int ot_1, .int tm_1])), (qb, .inl (cA, 32, .inl b_1)), (qe, .inl (cE, 2, .inl g_1))] H := hP
    have hD : va_D A [(qx, .inr (2, [.ref qf, .ref qp, .int pk, .int pl, .int ul, .int pw_1, .int hi_1, .int ta_1])), (qp, .inr (1, [.ref qf])), (qf, .inr (0, [.ref qb, .ref qe, .int od_1, .int ot_1, .int tm_1])), (qb, .inl (cA, 32, .inl b_1)), (qe, .inl (cE, 2, .inl g_1))] := hD
    have hPc := hP.sub (ws' := [(qp, .inr (1, [.ref qf])), (qf, .inr (0, [.ref qb, .ref qe, .int od_1, .int ot_1, .int tm_1])), (qb, .inl (cA, 32, .inl b_1)), (qe, .inl (cE, 2, .inl g_1))]) [1, 2, 3, 4] rfl
    have hDc := hD.sub (ws' := [(qp, .inr (1, [.ref qf])), (qf, .inr (0, [.ref qb, .ref qe, .int od_1, .int ot_1, .int tm_1])), (qb, .inl (cA, 32, .inl b_1)), (qe, .inl (cE, 2, .inl g_1))]) [1, 2, 3, 4] (by decide) rfl
    have hKc := hK.sub (tys' := [(cA, .int), (cE, .int)]) [0, 1] rfl
    have hFc := va_free (wc := [(qp, .inr (1, [.ref qf])), (qf, .inr (0, [.ref qb, .ref qe, .int od_1, .int ot_1, .int tm_1])), (qb, .inl (cA, 32, .inl b_1)), (qe, .inl (cE, 2, .inl g_1))]) hD hS hA [1, 2, 3, 4] rfl
    refine va_calli (va_runV (As := [.int (x &&& 65535), .int 0, .int (tt_uu b_1)]) (rest := []) ⟨hx, hb, hml, hown, hts⟩ (c_P_turn l dC dI cA cE qp qf qb qe H.size b_1 g_1 od_1 ot_1 tm_1 (x &&& 65535) 0 (tt_uu b_1)) (cwV 3 hts gX2_change_X1_turn rfl rfl rfl (by decide +kernel) ⟨Nat.le_of_ble_eq_true rfl, Nat.le_of_ble_eq_true rfl⟩) ⟨fun a U g mk q => by obtain ⟨q0, q1, qP, qK, qD⟩ := q; exact ⟨q0, q1, qP, va_K.moved (u := U) (U := U.calling g mk a) (Vm.Alike.refl U.vm) qK, qD⟩, va_recv hKc hPc (ci := 1) (q0 := 0) rfl rfl, fun U hU hW => ⟨rfl, by rw [hU], by rw [hU]; exact hPc, va_K.moved hW.alike hKc, hDc.weaken (fun _ _ _ _ => trivial)⟩⟩ rfl rfl hl.1 rfl (lv_room (Nat.le_of_ble_eq_true rfl)) dX2_change_32 ⟨(Nat.zero_le _), (Nat.zero_le _)⟩) hS (fun q _ h => hFc q h) hFc (fun r_4 u t H locs ht hvm hw hB hz1 hk1 hS => ?_)
    obtain ⟨b_4, g_4, od_4, ot_4, tm_4⟩ := u
    obtain ⟨hP1, hK1, hD1⟩ := hB
    have e_4 : tt_turn (b_1, g_1, od_1, ot_1, tm_1) (x &&& 65535) 0 (tt_uu b_1) = (r_4, (b_4, g_4, od_4, ot_4, tm_4)) := hw
    rw [ht] at hP1
    obtain ⟨hP, hD⟩ := va_join (wr := [(qx, .inr (2, [.ref qf, .ref qp, .int pk, .int pl, .int ul, .int pw_1, .int hi_1, .int ta_1]))]) (w1 := [(qp, .inr (1, [.ref qf])), (qf, .inr (0, [.ref qb, .ref qe, .int od_4, .int ot_4, .int tm_4])), (qb, .inl (cA, 32, .inl b_4)), (qe, .inl (cE, 2, .inl g_4))]) hP hD [1, 2, 3, 4] [0] rfl rfl (by decide) (by decide) hk1 hFc hP1 hD1
    have hP : va_P (dC, dI) ttCl [(qx, .inr (2, [.ref qf, .ref qp, .int pk, .int pl, .int ul, .int pw_1, .int hi_1, .int ta_1])), (qp, .inr (1, [.ref qf])), (qf, .inr (0, [.ref qb, .ref qe, .int od_4, .int ot_4, .int tm_4])), (qb, .inl (cA, 32, .inl b_4)), (qe, .inl (cE, 2, .inl g_4))] H := hP
    have hD : va_D A [(qx, .inr (2, [.ref qf, .ref qp, .int pk, .int pl, .int ul, .int pw_1, .int hi_1, .int ta_1])), (qp, .inr (1, [.ref qf])), (qf, .inr (0, [.ref qb, .ref qe, .int od_4, .int ot_4, .int tm_4])), (qb, .inl (cA, 32, .inl b_4)), (qe, .inl (cE, 2, .inl g_4))] := hD
    refine lv_if_ne (tgt := 43) hx hb dX2_change_35 (by decide) (fun c_5 => ?_) (fun c_5 => ?_)
    · refine lv_aload_n hx hb dX2_change_43 rfl (lv_at hl 1 rfl) ?_
      refine lv_iconst (v := 1) hx hb dX2_change_44 (by decide) ?_
      refine va_put (D := (dC, dI)) (ci := 2) (v := .int 1) (ty := .boolean) (C := RX2) (T := TX2) (N := 8) hx hb hts (by decide +kernel) tyX2 tyX2_ok nmX2 hown hK hP hD hS 0 rfl rfl 6 (by decide) (hts (.fieldLink RX2 44 "TornTryCounter" "holderIn" "Z") (by decide +kernel)) (fun _ h9 => h9) rfl (by decide +kernel) rfl rfl (Nat.le_of_ble_eq_true rfl) dX2_change_45 (fun H locs hP hD hS => ?_)
      have hP : va_P (dC, dI) ttCl [(qx, .inr (2, [.ref qf, .ref qp, .int pk, .int pl, .int ul, .int pw_1, .int 1, .int ta_1])), (qp, .inr (1, [.ref qf])), (qf, .inr (0, [.ref qb, .ref qe, .int od_4, .int ot_4, .int tm_4])), (qb, .inl (cA, 32, .inl b_4)), (qe, .inl (cE, 2, .inl g_4))] H := hP
      have hD : va_D A [(qx, .inr (2, [.ref qf, .ref qp, .int pk, .int pl, .int ul, .int pw_1, .int 1, .int ta_1])), (qp, .inr (1, [.ref qf])), (qf, .inr (0, [.ref qb, .ref qe, .int od_4, .int ot_4, .int tm_4])), (qb, .inl (cA, 32, .inl b_4)), (qe, .inl (cE, 2, .inl g_4))] := hD
      refine lv_iconst (v := 1) hx hb dX2_change_48 (by decide) ?_
      have hP9 := hP.sub (ws' := [(qx, .inr (2, [.ref qf, .ref qp, .int pk, .int pl, .int ul, .int pw_1, .int 1, .int ta_1])), (qp, .inr (1, [.ref qf])), (qf, .inr (0, [.ref qb, .ref qe, .int od_4, .int ot_4, .int tm_4])), (qb, .inl (cA, 32, .inl b_4)), (qe, .inl (cE, 2, .inl g_4))]) [0, 1, 2, 3, 4] rfl
      have hD9 := hD.sub (ws' := [(qx, .inr (2, [.ref qf, .ref qp, .int pk, .int pl, .int ul, .int pw_1, .int 1, .int ta_1])), (qp, .inr (1, [.ref qf])), (qf, .inr (0, [.ref qb, .ref qe, .int od_4, .int ot_4, .int tm_4])), (qb, .inl (cA, 32, .inl b_4)), (qe, .inl (cE, 2, .inl g_4))]) [0, 1, 2, 3, 4] (by decide) rfl
      have hK9 := hK.sub (tys' := [(cA, .int), (cE, .int)]) [0, 1] rfl
      exact W.iret (v := 1) hx hb hr (fun t ht hW => ⟨⟨1, (pw_1, 1, ta_1, b_4, g_4, od_4, ot_4, tm_4), rfl, (by first | (simp only [tt_change, e_1, c_2, e_4, c_5, reduceIte, eq_self]; done) | (simp [tt_change, e_1, c_2, e_4, c_5]; done)), by rw [ht]; exact hP9, va_K.moved hW.alike hK9, hD9⟩, hS.F ht⟩) hS.2.2 dX2_change_49
    · refine lv_aload_n hx hb dX2_change_38 rfl (lv_at hl 1 rfl) ?_
      have hPc := hP.sub (ws' := [(qx, .inr (2, [.ref qf, .ref qp, .int pk, .int pl, .int ul, .int pw_1, .int hi_1, .int ta_1])), (qp, .inr (1, [.ref qf])), (qf, .inr (0, [.ref qb, .ref qe, .int od_4, .int ot_4, .int tm_4])), (qb, .inl (cA, 32, .inl b_4)), (qe, .inl (cE, 2, .inl g_4))]) [0, 1, 2, 3, 4] rfl
      have hDc := hD.sub (ws' := [(qx, .inr (2, [.ref qf, .ref qp, .int pk, .int pl, .int ul, .int pw_1, .int hi_1, .int ta_1])), (qp, .inr (1, [.ref qf])), (qf, .inr (0, [.ref qb, .ref qe, .int od_4, .int ot_4, .int tm_4])), (qb, .inl (cA, 32, .inl b_4)), (qe, .inl (cE, 2, .inl g_4))]) [0, 1, 2, 3, 4] (by decide) rfl
      have hKc := hK.sub (tys' := [(cA, .int), (cE, .int)]) [0, 1] rfl
      have hFc := va_free (wc := [(qx, .inr (2, [.ref qf, .ref qp, .int pk, .int pl, .int ul, .int pw_1, .int hi_1, .int ta_1])), (qp, .inr (1, [.ref qf])), (qf, .inr (0, [.ref qb, .ref qe, .int od_4, .int ot_4, .int tm_4])), (qb, .inl (cA, 32, .inl b_4)), (qe, .inl (cE, 2, .inl g_4))]) hD hS hA [0, 1, 2, 3, 4] rfl
      refine va_calli (va_runV (As := []) (rest := []) ⟨hx, hb, hml, hown, hts⟩ (c_X_losePower l dC dI cA cE qx qp qf qb qe H.size b_4 g_4 pk pl ul pw_1 hi_1 ta_1 od_4 ot_4 tm_4) (cwV 0 hts gX2_change_X2_losePower rfl rfl rfl (by decide +kernel) ⟨Nat.le_of_ble_eq_true rfl, Nat.le_of_ble_eq_true rfl⟩) ⟨fun a U g mk q => by obtain ⟨q0, q1, qP, qK, qD⟩ := q; exact ⟨q0, q1, qP, va_K.moved (u := U) (U := U.calling g mk a) (Vm.Alike.refl U.vm) qK, qD⟩, va_recv hKc hPc (ci := 2) (q0 := 0) rfl rfl, fun U hU hW => ⟨rfl, by rw [hU], by rw [hU]; exact hPc, va_K.moved hW.alike hKc, hDc.weaken (fun _ _ _ _ => trivial)⟩⟩ rfl rfl hl.1 rfl (lv_room (Nat.le_of_ble_eq_true rfl)) dX2_change_39 ⟨(Nat.zero_le _), (Nat.zero_le _)⟩) hS (fun q _ h => hFc q h) hFc (fun r_6 u t H locs ht hvm hw hB hz1 hk1 hS => ?_)
      have hw : (-3) = r_6 := hw.symm
      subst hw
      obtain ⟨hP1, hK1, hD1⟩ := hB
      rw [ht] at hP1
      obtain ⟨hP, hD⟩ := va_join (wr := []) (w1 := [(qx, .inr (2, [.ref qf, .ref qp, .int pk, .int pl, .int ul, .int 0, .int 0, .int ta_1])), (qp, .inr (1, [.ref qf])), (qf, .inr (0, [.ref qb, .ref qe, .int od_4, .int ot_4, .int tm_4])), (qb, .inl (cA, 32, .inl b_4)), (qe, .inl (cE, 2, .inl g_4))]) hP hD [0, 1, 2, 3, 4] [] rfl rfl (by decide) (by decide) hk1 hFc hP1 hD1
      have hP : va_P (dC, dI) ttCl [(qx, .inr (2, [.ref qf, .ref qp, .int pk, .int pl, .int ul, .int 0, .int 0, .int ta_1])), (qp, .inr (1, [.ref qf])), (qf, .inr (0, [.ref qb, .ref qe, .int od_4, .int ot_4, .int tm_4])), (qb, .inl (cA, 32, .inl b_4)), (qe, .inl (cE, 2, .inl g_4))] H := hP
      have hD : va_D A [(qx, .inr (2, [.ref qf, .ref qp, .int pk, .int pl, .int ul, .int 0, .int 0, .int ta_1])), (qp, .inr (1, [.ref qf])), (qf, .inr (0, [.ref qb, .ref qe, .int od_4, .int ot_4, .int tm_4])), (qb, .inl (cA, 32, .inl b_4)), (qe, .inl (cE, 2, .inl g_4))] := hD
      have hP9 := hP.sub (ws' := [(qx, .inr (2, [.ref qf, .ref qp, .int pk, .int pl, .int ul, .int 0, .int 0, .int ta_1])), (qp, .inr (1, [.ref qf])), (qf, .inr (0, [.ref qb, .ref qe, .int od_4, .int ot_4, .int tm_4])), (qb, .inl (cA, 32, .inl b_4)), (qe, .inl (cE, 2, .inl g_4))]) [0, 1, 2, 3, 4] rfl
      have hD9 := hD.sub (ws' := [(qx, .inr (2, [.ref qf, .ref qp, .int pk, .int pl, .int ul, .int 0, .int 0, .int ta_1])), (qp, .inr (1, [.ref qf])), (qf, .inr (0, [.ref qb, .ref qe, .int od_4, .int ot_4, .int tm_4])), (qb, .inl (cA, 32, .inl b_4)), (qe, .inl (cE, 2, .inl g_4))]) [0, 1, 2, 3, 4] (by decide) rfl
      have hK9 := hK.sub (tys' := [(cA, .int), (cE, .int)]) [0, 1] rfl
      exact W.iret (v := (-3)) hx hb hr (fun t ht hW => ⟨⟨(-3), (0, 0, ta_1, b_4, g_4, od_4, ot_4, tm_4), rfl, (by first | (simp only [tt_change, e_1, c_2, e_4, c_5, reduceIte, eq_self]; done) | (simp [tt_change, e_1, c_2, e_4, c_5]; done)), by rw [ht]; exact hP9, va_K.moved hW.alike hK9, hD9⟩, hS.F ht⟩) hS.2.2 dX2_change_42
  · refine lv_iload_n hx hb dX2_change_14 rfl (lv_at hl 0 rfl) ?_
    have hP9 := hP.sub (ws' := [(qx, .inr (2, [.ref qf, .ref qp, .int pk, .int pl, .int ul, .int pw_1, .int hi_1, .int ta_1])), (qp, .inr (1, [.ref qf])), (qf, .inr (0, [.ref qb, .ref qe, .int od_1, .int ot_1, .int tm_1])), (qb, .inl (cA, 32, .inl b_1)), (qe, .inl (cE, 2, .inl g_1))]) [0, 1, 2, 3, 4] rfl
    have hD9 := hD.sub (ws' := [(qx, .inr (2, [.ref qf, .ref qp, .int pk, .int pl, .int ul, .int pw_1, .int hi_1, .int ta_1])), (qp, .inr (1, [.ref qf])), (qf, .inr (0, [.ref qb, .ref qe, .int od_1, .int ot_1, .int tm_1])), (qb, .inl (cA, 32, .inl b_1)), (qe, .inl (cE, 2, .inl g_1))]) [0, 1, 2, 3, 4] (by decide) rfl
    have hK9 := hK.sub (tys' := [(cA, .int), (cE, .int)]) [0, 1] rfl
    exact W.iret (v := r_1) hx hb hr (fun t ht hW => ⟨⟨r_1, (pw_1, hi_1, ta_1, b_1, g_1, od_1, ot_1, tm_1), rfl, (by first | (simp only [tt_change, e_1, c_2, reduceIte, eq_self]; done) | (simp [tt_change, e_1, c_2]; done)), by rw [ht]; exact hP9, va_K.moved hW.alike hK9, hD9⟩, hS.F ht⟩) hS.2.2 dX2_change_15
set_option maxHeartbeats 4000000 in
set_option maxRecDepth 100000 in
theorem c_X_unblock (l : Launch) (dC : Nat → ClassId) (dI : Nat → Nat → Nat) (cA cE : ClassId) (qx qp qf qb qe : Nat) (sz : Nat) (b g : Nat → Int32) (pk pl ul pw hi ta od ot tm : Int32) (n x : Int32) : Met l yX2_unblock wsX2_unblock ({ frames := 5, cells := 0, slots := 0, locals := 111 }) (va_Pc [.ref qx, .int n, .int x] (fun U => U.heap.size = sz ∧ va_P (dC, dI) ttCl [(qx, .inr (2, [.ref qf, .ref qp, .int pk, .int pl, .int ul, .int pw, .int hi, .int ta])), (qp, .inr (1, [.ref qf])), (qf, .inr (0, [.ref qb, .ref qe, .int od, .int ot, .int tm])), (qb, .inl (cA, 32, .inl b)), (qe, .inl (cE, 2, .inl g))] U.heap ∧ va_K (dC, dI) ttCl [(cA, .int), (cE, .int)] U ∧ va_D (fun _ => True) [(qx, .inr (2, [.ref qf, .ref qp, .int pk, .int pl, .int ul, .int pw, .int hi, .int ta])), (qp, .inr (1, [.ref qf])), (qf, .inr (0, [.ref qb, .ref qe, .int od, .int ot, .int tm])), (qb, .inl (cA, 32, .inl b)), (qe, .inl (cE, 2, .inl g))])) (va_Qi (fun (r : Int32) (u : tt_X) => tt_unblock pk ul (pw, hi, ta, b, g, od, ot, tm) n x = (r, u)) (fun (u : tt_X) (t : State) => at_X dC dI cA cE (va_A [(qx, .inr (2, [.ref qf, .ref qp, .int pk, .int pl, .int ul, .int pw, .int hi, .int ta])), (qp, .inr (1, [.ref qf])), (qf, .inr (0, [.ref qb, .ref qe, .int od, .int ot, .int tm])), (qb, .inl (cA, 32, .inl b)), (qe, .inl (cE, 2, .inl g))] sz) qx qp qf qb qe pk pl ul u t) (va_A [(qx, .inr (2, [.ref qf, .ref qp, .int pk, .int pl, .int ul, .int pw, .int hi, .int ta])), (qp, .inr (1, [.ref qf])), (qf, .inr (0, [.ref qb, .ref qe, .int od, .int ot, .int tm])), (qb, .inl (cA, 32, .inl b)), (qe, .inl (cE, 2, .inl g))] sz)) 0 0 (va_A [(qx, .inr (2, [.ref qf, .ref qp, .int pk, .int pl, .int ul, .int pw, .int hi, .int ta])), (qp, .inr (1, [.ref qf])), (qf, .inr (0, [.ref qb, .ref qe, .int od, .int ot, .int tm])), (qb, .inl (cA, 32, .inl b)), (qe, .inl (cE, 2, .inl g))] sz) := by
  refine Met.ofW (cc := cX2_unblock) (maxL := 3) (ret := (some .int)) (by decide) rfl ?_
  intro p e s m args below meth c s₁ B hml hv
  obtain ⟨rfl, hsz, hP, hK, hD0⟩ := hv
  have hx := B.exec
  have hb := B.bytes
  have hr := B.returns
  have hts := atoms_spec (ws := wsX2_unblock) B.pre
  have hown : s.vm.findClass RX2 = some m.cls := findClass_of_methodNamed B.named
  have hlocks := B.notSynchronized
  subst hsz
  have hD := hD0.self (sz := s.heap.size)
  generalize hAe : va_A [(qx, .inr (2, [.ref qf, .ref qp, .int pk, .int pl, .int ul, .int pw, .int hi, .int ta])), (qp, .inr (1, [.ref qf])), (qf, .inr (0, [.ref qb, .ref qe, .int od, .int ot, .int tm])), (qb, .inl (cA, 32, .inl b)), (qe, .inl (cE, 2, .inl g))] s.heap.size = A at hD ⊢
  have hA : ∀ q : Nat, s.heap.size ≤ q → A q := fun q h => by rw [← hAe]; exact Or.inr h
  have hS : va_S A s.heap s.heap [] := va_S.rf
  have hP : va_P (dC, dI) ttCl [(qx, .inr (2, [.ref qf, .ref qp, .int pk, .int pl, .int ul, .int pw, .int hi, .int ta])), (qp, .inr (1, [.ref qf])), (qf, .inr (0, [.ref qb, .ref qe, .int od, .int ot, .int tm])), (qb, .inl (cA, 32, .inl b)), (qe, .inl (cE, 2, .inl g))] s.heap := hP
  have hl := lv_entry ([.ref qx, .int n, .int x]) (n := 3) (Nat.le_of_ble_eq_true rfl)
  rw [lg_entry_eq]
  generalize (lg_sl ([.ref qx, .int n, .int x]) ++ List.replicate (3 - (lg_sl ([.ref qx, .int n, .int x])).length) Slot.unset).toArray = ls at hl ⊢
  have hl : lv_has ls 3 [(0, .ref qx), (1, .int n), (2, .int x)] := hl
  refine lv_aload_n hx hb dX2_unblock_0 rfl (lv_at hl 0 rfl) ?_
  refine va_get (D := (dC, dI)) (ci := 2) (v := .int pw) (C := RX2) (T := TX2) (N := 8) hx hb hts (by decide +kernel) hown hK hP 0 rfl rfl 5 (by decide) (hts (.fieldLink RX2 40 "TornTryCounter" "powered" "Z") (by decide +kernel)) (fun _ h9 => h9) rfl dX2_unblock_1 ?_
  refine lv_if_ne (tgt := 9) hx hb dX2_unblock_4 (by decide) (fun c_1 => ?_) (fun c_1 => ?_)
  · refine lv_aload_n hx hb dX2_unblock_9 rfl (lv_at hl 0 rfl) ?_
    refine va_get (D := (dC, dI)) (ci := 2) (v := .ref qp) (C := RX2) (T := TX2) (N := 8) hx hb hts (by decide +kernel) hown hK hP 0 rfl rfl 1 (by decide) (hts (.fieldLink RX2 22 "TornTryCounter" "pages" "LTornTryCounter$Pages;") (by decide +kernel)) (fun _ h9 => h9) rfl dX2_unblock_10 ?_
    have hPc := hP.sub (ws' := [(qp, .inr (1, [.ref qf])), (qf, .inr (0, [.ref qb, .ref qe, .int od, .int ot, .int tm])), (qb, .inl (cA, 32, .inl b)), (qe, .inl (cE, 2, .inl g))]) [1, 2, 3, 4] rfl
    have hDc := hD.sub (ws' := [(qp, .inr (1, [.ref qf])), (qf, .inr (0, [.ref qb, .ref qe, .int od, .int ot, .int tm])), (qb, .inl (cA, 32, .inl b)), (qe, .inl (cE, 2, .inl g))]) [1, 2, 3, 4] (by decide) rfl
    have hKc := hK.sub (tys' := [(cA, .int), (cE, .int)]) [0, 1] rfl
    have hFc := va_free (wc := [(qp, .inr (1, [.ref qf])), (qf, .inr (0, [.ref qb, .ref qe, .int od, .int ot, .int tm])), (qb, .inl (cA, 32, .inl b)), (qe, .inl (cE, 2, .inl g))]) hD hS hA [1, 2, 3, 4] rfl
    refine va_calli (va_runV (As := []) (rest := []) ⟨hx, hb, hml, hown, hts⟩ (c_P_pukTriesUsed l dC dI cA cE qp qf qb qe s.heap.size b g od ot tm) (cwV 0 hts gX2_unblock_X1_pukTriesUsed rfl rfl rfl (by decide +kernel) ⟨Nat.le_of_ble_eq_true rfl, Nat.le_of_ble_eq_true rfl⟩) ⟨fun a U g mk q => by obtain ⟨q0, q1, qP, qK, qD⟩ := q; exact ⟨q0, q1, qP, va_K.moved (u := U) (U := U.calling g mk a) (Vm.Alike.refl U.vm) qK, qD⟩, va_recv hKc hPc (ci := 1) (q0 := 0) rfl rfl, fun U hU hW => ⟨rfl, by rw [hU], by rw [hU]; exact hPc, va_K.moved hW.alike hKc, hDc.weaken (fun _ _ _ _ => trivial)⟩⟩ rfl rfl hl.1 rfl (lv_room (Nat.le_of_ble_eq_true rfl)) dX2_unblock_13 ⟨(Nat.zero_le _), (Nat.zero_le _)⟩) hS (fun q _ h => hFc q h) hFc (fun r_2 u t H locs ht hvm hw hB hz1 hk1 hS => ?_)
    have hw : tt_uu b = r_2 := hw.symm
    subst hw
    obtain ⟨hP1, hK1, hD1⟩ := hB
    rw [ht] at hP1
    obtain ⟨hP, hD⟩ := va_join (wr := [(qx, .inr (2, [.ref qf, .ref qp, .int pk, .int pl, .int ul, .int pw, .int hi, .int ta]))]) (w1 := [(qp, .inr (1, [.ref qf])), (qf, .inr (0, [.ref qb, .ref qe, .int od, .int ot, .int tm])), (qb, .inl (cA, 32, .inl b)), (qe, .inl (cE, 2, .inl g))]) hP hD [1, 2, 3, 4] [0] rfl rfl (by decide) (by decide) hk1 hFc hP1 hD1
    have hP : va_P (dC, dI) ttCl [(qx, .inr (2, [.ref qf, .ref qp, .int pk, .int pl, .int ul, .int pw, .int hi, .int ta])), (qp, .inr (1, [.ref qf])), (qf, .inr (0, [.ref qb, .ref qe, .int od, .int ot, .int tm])), (qb, .inl (cA, 32, .inl b)), (qe, .inl (cE, 2, .inl g))] H := hP
    have hD : va_D A [(qx, .inr (2, [.ref qf, .ref qp, .int pk, .int pl, .int ul, .int pw, .int hi, .int ta])), (qp, .inr (1, [.ref qf])), (qf, .inr (0, [.ref qb, .ref qe, .int od, .int ot, .int tm])), (qb, .inl (cA, 32, .inl b)), (qe, .inl (cE, 2, .inl g))] := hD
    refine lv_aload_n hx hb dX2_unblock_16 rfl (lv_at hl 0 rfl) ?_
    refine va_get (D := (dC, dI)) (ci := 2) (v := .int ul) (C := RX2) (T := TX2) (N := 8) hx hb hts (by decide +kernel) hown hK hP 0 rfl rfl 4 (by decide) (hts (.fieldLink RX2 37 "TornTryCounter" "pukLimit" "I") (by decide +kernel)) (fun _ h9 => h9) rfl dX2_unblock_17 ?_
    refine lv_icmp_lt (tgt := 26) hx hb dX2_unblock_20 (by decide) (fun c_3 => ?_) (fun c_3 => ?_)
    · refine lv_aload_n hx hb dX2_unblock_26 rfl (lv_at hl 0 rfl) ?_
      refine lv_iconst (v := 0) hx hb dX2_unblock_27 (by decide) ?_
      refine va_put (D := (dC, dI)) (ci := 2) (v := .int 0) (ty := .boolean) (C := RX2) (T := TX2) (N := 8) hx hb hts (by decide +kernel) tyX2 tyX2_ok nmX2 hown hK hP hD hS 0 rfl rfl 6 (by decide) (hts (.fieldLink RX2 44 "TornTryCounter" "holderIn" "Z") (by decide +kernel)) (fun _ h9 => h9) rfl (by decide +kernel) rfl rfl (Nat.le_of_ble_eq_true rfl) dX2_unblock_28 (fun H locs hP hD hS => ?_)
      have hP : va_P (dC, dI) ttCl [(qx, .inr (2, [.ref qf, .ref qp, .int pk, .int pl, .int ul, .int pw, .int 0, .int ta])), (qp, .inr (1, [.ref qf])), (qf, .inr (0, [.ref qb, .ref qe, .int od, .int ot, .int tm])), (qb, .inl (cA, 32, .inl b)), (qe, .inl (cE, 2, .inl g))] H := hP
      have hD : va_D A [(qx, .inr (2, [.ref qf, .ref qp, .int pk, .int pl, .int ul, .int pw, .int 0, .int ta])), (qp, .inr (1, [.ref qf])), (qf, .inr (0, [.ref qb, .ref qe, .int od, .int ot, .int tm])), (qb, .inl (cA, 32, .inl b)), (qe, .inl (cE, 2, .inl g))] := hD
      refine lv_aload_n hx hb dX2_unblock_31 rfl (lv_at hl 0 rfl) ?_
      refine va_get (D := (dC, dI)) (ci := 2) (v := .ref qp) (C := RX2) (T := TX2) (N := 8) hx hb hts (by decide +kernel) hown hK hP 0 rfl rfl 1 (by decide) (hts (.fieldLink RX2 22 "TornTryCounter" "pages" "LTornTryCounter$Pages;") (by decide +kernel)) (fun _ h9 => h9) rfl dX2_unblock_32 ?_
      refine lv_sipush (v := 239) hx hb dX2_unblock_35 (by decide) ?_
      have hPc := hP.sub (ws' := [(qp, .inr (1, [.ref qf])), (qf, .inr (0, [.ref qb, .ref qe, .int od, .int ot, .int tm])), (qb, .inl (cA, 32, .inl b)), (qe, .inl (cE, 2, .inl g))]) [1, 2, 3, 4] rfl
      have hDc := hD.sub (ws' := [(qp, .inr (1, [.ref qf])), (qf, .inr (0, [.ref qb, .ref qe, .int od, .int ot, .int tm])), (qb, .inl (cA, 32, .inl b)), (qe, .inl (cE, 2, .inl g))]) [1, 2, 3, 4] (by decide) rfl
      have hKc := hK.sub (tys' := [(cA, .int), (cE, .int)]) [0, 1] rfl
      have hFc := va_free (wc := [(qp, .inr (1, [.ref qf])), (qf, .inr (0, [.ref qb, .ref qe, .int od, .int ot, .int tm])), (qb, .inl (cA, 32, .inl b)), (qe, .inl (cE, 2, .inl g))]) hD hS hA [1, 2, 3, 4] rfl
      refine va_calli (va_runV (As := [.int 239]) (rest := []) ⟨hx, hb, hml, hown, hts⟩ (c_P_mark l dC dI cA cE qp qf qb qe H.size b g od ot tm 239) (cwV 1 hts gX2_unblock_X1_mark rfl rfl rfl (by decide +kernel) ⟨Nat.le_of_ble_eq_true rfl, Nat.le_of_ble_eq_true rfl⟩) ⟨fun a U g mk q => by obtain ⟨q0, q1, qP, qK, qD⟩ := q; exact ⟨q0, q1, qP, va_K.moved (u := U) (U := U.calling g mk a) (Vm.Alike.refl U.vm) qK, qD⟩, va_recv hKc hPc (ci := 1) (q0 := 0) rfl rfl, fun U hU hW => ⟨rfl, by rw [hU], by rw [hU]; exact hPc, va_K.moved hW.alike hKc, hDc.weaken (fun _ _ _ _ => trivial)⟩⟩ rfl rfl hl.1 rfl (lv_room (Nat.le_of_ble_eq_true rfl)) dX2_unblock_38 ⟨(Nat.zero_le _), (Nat.zero_le _)⟩) hS (fun q _ h => hFc q h) hFc (fun r_4 u t H locs ht hvm hw hB hz1 hk1 hS => ?_)
      obtain ⟨b_4, g_4, od_4, ot_4, tm_4⟩ := u
      obtain ⟨hP1, hK1, hD1⟩ := hB
      have e_4 : tt_mark (b, g, od, ot, tm) 239 = (r_4, (b_4, g_4, od_4, ot_4, tm_4)) := hw
      rw [ht] at hP1
      obtain ⟨hP, hD⟩ := va_join (wr := [(qx, .inr (2, [.ref qf, .ref qp, .int pk, .int pl, .int ul, .int pw, .int 0, .int ta]))]) (w1 := [(qp, .inr (1, [.ref qf])), (qf, .inr (0, [.ref qb, .ref qe, .int od_4, .int ot_4, .int tm_4])), (qb, .inl (cA, 32, .inl b_4)), (qe, .inl (cE, 2, .inl g_4))]) hP hD [1, 2, 3, 4] [0] rfl rfl (by decide) (by decide) hk1 hFc hP1 hD1
      have hP : va_P (dC, dI) ttCl [(qx, .inr (2, [.ref qf, .ref qp, .int pk, .int pl, .int ul, .int pw, .int 0, .int ta])), (qp, .inr (1, [.ref qf])), (qf, .inr (0, [.ref qb, .ref qe, .int od_4, .int ot_4, .int tm_4])), (qb, .inl (cA, 32, .inl b_4)), (qe, .inl (cE, 2, .inl g_4))] H := hP
      have hD : va_D A [(qx, .inr (2, [.ref qf, .ref qp, .int pk, .int pl, .int ul, .int pw, .int 0, .int ta])), (qp, .inr (1, [.ref qf])), (qf, .inr (0, [.ref qb, .ref qe, .int od_4, .int ot_4, .int tm_4])), (qb, .inl (cA, 32, .inl b_4)), (qe, .inl (cE, 2, .inl g_4))] := hD
      refine lv_iconst (v := (-1)) hx hb dX2_unblock_41 (by decide) ?_
      refine lv_icmp_ne (tgt := 50) hx hb dX2_unblock_42 (by decide) (fun c_5 => ?_) (fun c_5 => ?_)
      · refine lv_iload_n hx hb dX2_unblock_50 rfl (lv_at hl 1 rfl) ?_
        refine lv_aload_n hx hb dX2_unblock_51 rfl (lv_at hl 0 rfl) ?_
        refine va_get (D := (dC, dI)) (ci := 2) (v := .int pk) (C := RX2) (T := TX2) (N := 8) hx hb hts (by decide +kernel) hown hK hP 0 rfl rfl 2 (by decide) (hts (.fieldLink RX2 26 "TornTryCounter" "pukNumber" "I") (by decide +kernel)) (fun _ h9 => h9) rfl dX2_unblock_52 ?_
        refine lv_icmp_eq (tgt := 60) hx hb dX2_unblock_55 (by decide) (fun c_6 => ?_) (fun c_6 => ?_)
        · refine lv_aload_n hx hb dX2_unblock_60 rfl (lv_at hl 0 rfl) ?_
          refine va_get (D := (dC, dI)) (ci := 2) (v := .ref qp) (C := RX2) (T := TX2) (N := 8) hx hb hts (by decide +kernel) hown hK hP 0 rfl rfl 1 (by decide) (hts (.fieldLink RX2 22 "TornTryCounter" "pages" "LTornTryCounter$Pages;") (by decide +kernel)) (fun _ h9 => h9) rfl dX2_unblock_61 ?_
          refine lv_iload_n hx hb dX2_unblock_64 rfl (lv_at hl 2 rfl) ?_
          refine lv_ldc (v := 65535) hx hb hown (hts (.constant RX2 18 65535) (by decide +kernel)) dX2_unblock_65 ?_
          refine lv_iand hx hb dX2_unblock_67 ?_
          refine lv_iconst (v := 0) hx hb dX2_unblock_68 (by decide) ?_
          refine lv_iconst (v := 0) hx hb dX2_unblock_69 (by decide) ?_
          have hPc := hP.sub (ws' := [(qp, .inr (1, [.ref qf])), (qf, .inr (0, [.ref qb, .ref qe, .int od_4, .int ot_4, .int tm_4])), (qb, .inl (cA, 32, .inl b_4)), (qe, .inl (cE, 2, .inl g_4))]) [1, 2, 3, 4] rfl
          have hDc := hD.sub (ws' := [(qp, .inr (1, [.ref qf])), (qf, .inr (0, [.ref qb, .ref qe, .int od_4, .int ot_4, .int tm_4])), (qb, .inl (cA, 32, .inl b_4)), (qe, .inl (cE, 2, .inl g_4))]) [1, 2, 3, 4] (by decide) rfl
          have hKc := hK.sub (tys' := [(cA, .int), (cE, .int)]) [0, 1] rfl
          have hFc := va_free (wc := [(qp, .inr (1, [.ref qf])), (qf, .inr (0, [.ref qb, .ref qe, .int od_4, .int ot_4, .int tm_4])), (qb, .inl (cA, 32, .inl b_4)), (qe, .inl (cE, 2, .inl g_4))]) hD hS hA [1, 2, 3, 4] rfl
          refine va_calli (va_runV (As := [.int (x &&& 65535), .int 0, .int 0]) (rest := []) ⟨hx, hb, hml, hown, hts⟩ (c_P_turn l dC dI cA cE qp qf qb qe H.size b_4 g_4 od_4 ot_4 tm_4 (x &&& 65535) 0 0) (cwV 3 hts gX2_unblock_X1_turn rfl rfl rfl (by decide +kernel) ⟨Nat.le_of_ble_eq_true rfl, Nat.le_of_ble_eq_true rfl⟩) ⟨fun a U g mk q => by obtain ⟨q0, q1, qP, qK, qD⟩ := q; exact ⟨q0, q1, qP, va_K.moved (u := U) (U := U.calling g mk a) (Vm.Alike.refl U.vm) qK, qD⟩, va_recv hKc hPc (ci := 1) (q0 := 0) rfl rfl, fun U hU hW => ⟨rfl, by rw [hU], by rw [hU]; exact hPc, va_K.moved hW.alike hKc, hDc.weaken (fun _ _ _ _ => trivial)⟩⟩ rfl rfl hl.1 rfl (lv_room (Nat.le_of_ble_eq_true rfl)) dX2_unblock_70 ⟨(Nat.zero_le _), (Nat.zero_le _)⟩) hS (fun q _ h => hFc q h) hFc (fun r_7 u t H locs ht hvm hw hB hz1 hk1 hS => ?_)
          obtain ⟨b_7, g_7, od_7, ot_7, tm_7⟩ := u
          obtain ⟨hP1, hK1, hD1⟩ := hB
          have e_7 : tt_turn (b_4, g_4, od_4, ot_4, tm_4) (x &&& 65535) 0 0 = (r_7, (b_7, g_7, od_7, ot_7, tm_7)) := hw
          rw [ht] at hP1
          obtain ⟨hP, hD⟩ := va_join (wr := [(qx, .inr (2, [.ref qf, .ref qp, .int pk, .int pl, .int ul, .int pw, .int 0, .int ta]))]) (w1 := [(qp, .inr (1, [.ref qf])), (qf, .inr (0, [.ref qb, .ref qe, .int od_7, .int ot_7, .int tm_7])), (qb, .inl (cA, 32, .inl b_7)), (qe, .inl (cE, 2, .inl g_7))]) hP hD [1, 2, 3, 4] [0] rfl rfl (by decide) (by decide) hk1 hFc hP1 hD1
          have hP : va_P (dC, dI) ttCl [(qx, .inr (2, [.ref qf, .ref qp, .int pk, .int pl, .int ul, .int pw, .int 0, .int ta])), (qp, .inr (1, [.ref qf])), (qf, .inr (0, [.ref qb, .ref qe, .int od_7, .int ot_7, .int tm_7])), (qb, .inl (cA, 32, .inl b_7)), (qe, .inl (cE, 2, .inl g_7))] H := hP
          have hD : va_D A [(qx, .inr (2, [.ref qf, .ref qp, .int pk, .int pl, .int ul, .int pw, .int 0, .int ta])), (qp, .inr (1, [.ref qf])), (qf, .inr (0, [.ref qb, .ref qe, .int od_7, .int ot_7, .int tm_7])), (qb, .inl (cA, 32, .inl b_7)), (qe, .inl (cE, 2, .inl g_7))] := hD
          refine lv_if_eq (tgt := 80) hx hb dX2_unblock_73 (by decide) (fun c_8 => ?_) (fun c_8 => ?_)
          · refine lv_aload_n hx hb dX2_unblock_80 rfl (lv_at hl 0 rfl) ?_
            have hPc := hP.sub (ws' := [(qx, .inr (2, [.ref qf, .ref qp, .int pk, .int pl, .int ul, .int pw, .int 0, .int ta])), (qp, .inr (1, [.ref qf])), (qf, .inr (0, [.ref qb, .ref qe, .int od_7, .int ot_7, .int tm_7])), (qb, .inl (cA, 32, .inl b_7)), (qe, .inl (cE, 2, .inl g_7))]) [0, 1, 2, 3, 4] rfl
            have hDc := hD.sub (ws' := [(qx, .inr (2, [.ref qf, .ref qp, .int pk, .int pl, .int ul, .int pw, .int 0, .int ta])), (qp, .inr (1, [.ref qf])), (qf, .inr (0, [.ref qb, .ref qe, .int od_7, .int ot_7, .int tm_7])), (qb, .inl (cA, 32, .inl b_7)), (qe, .inl (cE, 2, .inl g_7))]) [0, 1, 2, 3, 4] (by decide) rfl
            have hKc := hK.sub (tys' := [(cA, .int), (cE, .int)]) [0, 1] rfl
            have hFc := va_free (wc := [(qx, .inr (2, [.ref qf, .ref qp, .int pk, .int pl, .int ul, .int pw, .int 0, .int ta])), (qp, .inr (1, [.ref qf])), (qf, .inr (0, [.ref qb, .ref qe, .int od_7, .int ot_7, .int tm_7])), (qb, .inl (cA, 32, .inl b_7)), (qe, .inl (cE, 2, .inl g_7))]) hD hS hA [0, 1, 2, 3, 4] rfl
            refine va_calli (va_runV (As := []) (rest := []) ⟨hx, hb, hml, hown, hts⟩ (c_X_losePower l dC dI cA cE qx qp qf qb qe H.size b_7 g_7 pk pl ul pw 0 ta od_7 ot_7 tm_7) (cwV 0 hts gX2_unblock_X2_losePower rfl rfl rfl (by decide +kernel) ⟨Nat.le_of_ble_eq_true rfl, Nat.le_of_ble_eq_true rfl⟩) ⟨fun a U g mk q => by obtain ⟨q0, q1, qP, qK, qD⟩ := q; exact ⟨q0, q1, qP, va_K.moved (u := U) (U := U.calling g mk a) (Vm.Alike.refl U.vm) qK, qD⟩, va_recv hKc hPc (ci := 2) (q0 := 0) rfl rfl, fun U hU hW => ⟨rfl, by rw [hU], by rw [hU]; exact hPc, va_K.moved hW.alike hKc, hDc.weaken (fun _ _ _ _ => trivial)⟩⟩ rfl rfl hl.1 rfl (lv_room (Nat.le_of_ble_eq_true rfl)) dX2_unblock_81 ⟨(Nat.zero_le _), (Nat.zero_le _)⟩) hS (fun q _ h => hFc q h) hFc (fun r_9 u t H locs ht hvm hw hB hz1 hk1 hS => ?_)
            have hw : (-3) = r_9 := hw.symm
            subst hw
            obtain ⟨hP1, hK1, hD1⟩ := hB
            rw [ht] at hP1
            obtain ⟨hP, hD⟩ := va_join (wr := []) (w1 := [(qx, .inr (2, [.ref qf, .ref qp, .int pk, .int pl, .int ul, .int 0, .int 0, .int ta])), (qp, .inr (1, [.ref qf])), (qf, .inr (0, [.ref qb, .ref qe, .int od_7, .int ot_7, .int tm_7])), (qb, .inl (cA, 32, .inl b_7)), (qe, .inl (cE, 2, .inl g_7))]) hP hD [0, 1, 2, 3, 4] [] rfl rfl (by decide) (by decide) hk1 hFc hP1 hD1
            have hP : va_P (dC, dI) ttCl [(qx, .inr (2, [.ref qf, .ref qp, .int pk, .int pl, .int ul, .int 0, .int 0, .int ta])), (qp, .inr (1, [.ref qf])), (qf, .inr (0, [.ref qb, .ref qe, .int od_7, .int ot_7, .int tm_7])), (qb, .inl (cA, 32, .inl b_7)), (qe, .inl (cE, 2, .inl g_7))] H := hP
            have hD : va_D A [(qx, .inr (2, [.ref qf, .ref qp, .int pk, .int pl, .int ul, .int 0, .int 0, .int ta])), (qp, .inr (1, [.ref qf])), (qf, .inr (0, [.ref qb, .ref qe, .int od_7, .int ot_7, .int tm_7])), (qb, .inl (cA, 32, .inl b_7)), (qe, .inl (cE, 2, .inl g_7))] := hD
            have hP9 := hP.sub (ws' := [(qx, .inr (2, [.ref qf, .ref qp, .int pk, .int pl, .int ul, .int 0, .int 0, .int ta])), (qp, .inr (1, [.ref qf])), (qf, .inr (0, [.ref qb, .ref qe, .int od_7, .int ot_7, .int tm_7])), (qb, .inl (cA, 32, .inl b_7)), (qe, .inl (cE, 2, .inl g_7))]) [0, 1, 2, 3, 4] rfl
            have hD9 := hD.sub (ws' := [(qx, .inr (2, [.ref qf, .ref qp, .int pk, .int pl, .int ul, .int 0, .int 0, .int ta])), (qp, .inr (1, [.ref qf])), (qf, .inr (0, [.ref qb, .ref qe, .int od_7, .int ot_7, .int tm_7])), (qb, .inl (cA, 32, .inl b_7)), (qe, .inl (cE, 2, .inl g_7))]) [0, 1, 2, 3, 4] (by decide) rfl
            have hK9 := hK.sub (tys' := [(cA, .int), (cE, .int)]) [0, 1] rfl
            exact W.iret (v := (-3)) hx hb hr (fun t ht hW => ⟨⟨(-3), (0, 0, ta, b_7, g_7, od_7, ot_7, tm_7), rfl, (by first | (simp only [tt_unblock, c_1, c_3, e_4, c_5, c_6, e_7, c_8, reduceIte, eq_self]; done) | (simp [tt_unblock, c_1, c_3, e_4, c_5, c_6, e_7, c_8]; done)), by rw [ht]; exact hP9, va_K.moved hW.alike hK9, hD9⟩, hS.F ht⟩) hS.2.2 dX2_unblock_84
          · refine lv_iconst (v := 1) hx hb dX2_unblock_76 (by decide) ?_
            refine lv_goto (tgt := 84) hx hb dX2_unblock_77 (by decide) ?_
            have hP9 := hP.sub (ws' := [(qx, .inr (2, [.ref qf, .ref qp, .int pk, .int pl, .int ul, .int pw, .int 0, .int ta])), (qp, .inr (1, [.ref qf])), (qf, .inr (0, [.ref qb, .ref qe, .int od_7, .int ot_7, .int tm_7])), (qb, .inl (cA, 32, .inl b_7)), (qe, .inl (cE, 2, .inl g_7))]) [0, 1, 2, 3, 4] rfl
            have hD9 := hD.sub (ws' := [(qx, .inr (2, [.ref qf, .ref qp, .int pk, .int pl, .int ul, .int pw, .int 0, .int ta])), (qp, .inr (1, [.ref qf])), (qf, .inr (0, [.ref qb, .ref qe, .int od_7, .int ot_7, .int tm_7])), (qb, .inl (cA, 32, .inl b_7)), (qe, .inl (cE, 2, .inl g_7))]) [0, 1, 2, 3, 4] (by decide) rfl
            have hK9 := hK.sub (tys' := [(cA, .int), (cE, .int)]) [0, 1] rfl
            exact W.iret (v := 1) hx hb hr (fun t ht hW => ⟨⟨1, (pw, 0, ta, b_7, g_7, od_7, ot_7, tm_7), rfl, (by first | (simp only [tt_unblock, c_1, c_3, e_4, c_5, c_6, e_7, c_8, reduceIte, eq_self]; done) | (simp [tt_unblock, c_1, c_3, e_4, c_5, c_6, e_7, c_8]; done)), by rw [ht]; exact hP9, va_K.moved hW.alike hK9, hD9⟩, hS.F ht⟩) hS.2.2 dX2_unblock_84
        · refine lv_iconst (v := 0) hx hb dX2_unblock_58 (by decide) ?_
          have hP9 := hP.sub (ws' := [(qx, .inr (2, [.ref qf, .ref qp, .int pk, .int pl, .int ul, .int pw, .int 0, .int ta])), (qp, .inr (1, [.ref qf])), (qf, .inr (0, [.ref qb, .ref qe, .int od_4, .int ot_4, .int tm_4])), (qb, .inl (cA, 32, .inl b_4)), (qe, .inl (cE, 2, .inl g_4))]) [0, 1, 2, 3, 4] rfl
          have hD9 := hD.sub (ws' := [(qx, .inr (2, [.ref qf, .ref qp, .int pk, .int pl, .int ul, .int pw, .int 0, .int ta])), (qp, .inr (1, [.ref qf])), (qf, .inr (0, [.ref qb, .ref qe, .int od_4, .int ot_4, .int tm_4])), (qb, .inl (cA, 32, .inl b_4)), (qe, .inl (cE, 2, .inl g_4))]) [0, 1, 2, 3, 4] (by decide) rfl
          have hK9 := hK.sub (tys' := [(cA, .int), (cE, .int)]) [0, 1] rfl
          exact W.iret (v := 0) hx hb hr (fun t ht hW => ⟨⟨0, (pw, 0, ta, b_4, g_4, od_4, ot_4, tm_4), rfl, (by first | (simp only [tt_unblock, c_1, c_3, e_4, c_5, c_6, reduceIte, eq_self]; done) | (simp [tt_unblock, c_1, c_3, e_4, c_5, c_6]; done)), by rw [ht]; exact hP9, va_K.moved hW.alike hK9, hD9⟩, hS.F ht⟩) hS.2.2 dX2_unblock_59
      · refine lv_aload_n hx hb dX2_unblock_45 rfl (lv_at hl 0 rfl) ?_
        have hPc := hP.sub (ws' := [(qx, .inr (2, [.ref qf, .ref qp, .int pk, .int pl, .int ul, .int pw, .int 0, .int ta])), (qp, .inr (1, [.ref qf])), (qf, .inr (0, [.ref qb, .ref qe, .int od_4, .int ot_4, .int tm_4])), (qb, .inl (cA, 32, .inl b_4)), (qe, .inl (cE, 2, .inl g_4))]) [0, 1, 2, 3, 4] rfl
        have hDc := hD.sub (ws' := [(qx, .inr (2, [.ref qf, .ref qp, .int pk, .int pl, .int ul, .int pw, .int 0, .int ta])), (qp, .inr (1, [.ref qf])), (qf, .inr (0, [.ref qb, .ref qe, .int od_4, .int ot_4, .int tm_4])), (qb, .inl (cA, 32, .inl b_4)), (qe, .inl (cE, 2, .inl g_4))]) [0, 1, 2, 3, 4] (by decide) rfl
        have hKc := hK.sub (tys' := [(cA, .int), (cE, .int)]) [0, 1] rfl
        have hFc := va_free (wc := [(qx, .inr (2, [.ref qf, .ref qp, .int pk, .int pl, .int ul, .int pw, .int 0, .int ta])), (qp, .inr (1, [.ref qf])), (qf, .inr (0, [.ref qb, .ref qe, .int od_4, .int ot_4, .int tm_4])), (qb, .inl (cA, 32, .inl b_4)), (qe, .inl (cE, 2, .inl g_4))]) hD hS hA [0, 1, 2, 3, 4] rfl
        refine va_calli (va_runV (As := []) (rest := []) ⟨hx, hb, hml, hown, hts⟩ (c_X_losePower l dC dI cA cE qx qp qf qb qe H.size b_4 g_4 pk pl ul pw 0 ta od_4 ot_4 tm_4) (cwV 0 hts gX2_unblock_X2_losePower rfl rfl rfl (by decide +kernel) ⟨Nat.le_of_ble_eq_true rfl, Nat.le_of_ble_eq_true rfl⟩) ⟨fun a U g mk q => by obtain ⟨q0, q1, qP, qK, qD⟩ := q; exact ⟨q0, q1, qP, va_K.moved (u := U) (U := U.calling g mk a) (Vm.Alike.refl U.vm) qK, qD⟩, va_recv hKc hPc (ci := 2) (q0 := 0) rfl rfl, fun U hU hW => ⟨rfl, by rw [hU], by rw [hU]; exact hPc, va_K.moved hW.alike hKc, hDc.weaken (fun _ _ _ _ => trivial)⟩⟩ rfl rfl hl.1 rfl (lv_room (Nat.le_of_ble_eq_true rfl)) dX2_unblock_46 ⟨(Nat.zero_le _), (Nat.zero_le _)⟩) hS (fun q _ h => hFc q h) hFc (fun r_10 u t H locs ht hvm hw hB hz1 hk1 hS => ?_)
        have hw : (-3) = r_10 := hw.symm
        subst hw
        obtain ⟨hP1, hK1, hD1⟩ := hB
        rw [ht] at hP1
        obtain ⟨hP, hD⟩ := va_join (wr := []) (w1 := [(qx, .inr (2, [.ref qf, .ref qp, .int pk, .int pl, .int ul, .int 0, .int 0, .int ta])), (qp, .inr (1, [.ref qf])), (qf, .inr (0, [.ref qb, .ref qe, .int od_4, .int ot_4, .int tm_4])), (qb, .inl (cA, 32, .inl b_4)), (qe, .inl (cE, 2, .inl g_4))]) hP hD [0, 1, 2, 3, 4] [] rfl rfl (by decide) (by decide) hk1 hFc hP1 hD1
        have hP : va_P (dC, dI) ttCl [(qx, .inr (2, [.ref qf, .ref qp, .int pk, .int pl, .int ul, .int 0, .int 0, .int ta])), (qp, .inr (1, [.ref qf])), (qf, .inr (0, [.ref qb, .ref qe, .int od_4, .int ot_4, .int tm_4])), (qb, .inl (cA, 32, .inl b_4)), (qe, .inl (cE, 2, .inl g_4))] H := hP
        have hD : va_D A [(qx, .inr (2, [.ref qf, .ref qp, .int pk, .int pl, .int ul, .int 0, .int 0, .int ta])), (qp, .inr (1, [.ref qf])), (qf, .inr (0, [.ref qb, .ref qe, .int od_4, .int ot_4, .int tm_4])), (qb, .inl (cA, 32, .inl b_4)), (qe, .inl (cE, 2, .inl g_4))] := hD
        have hP9 := hP.sub (ws' := [(qx, .inr (2, [.ref qf, .ref qp, .int pk, .int pl, .int ul, .int 0, .int 0, .int ta])), (qp, .inr (1, [.ref qf])), (qf, .inr (0, [.ref qb, .ref qe, .int od_4, .int ot_4, .int tm_4])), (qb, .inl (cA, 32, .inl b_4)), (qe, .inl (cE, 2, .inl g_4))]) [0, 1, 2, 3, 4] rfl
        have hD9 := hD.sub (ws' := [(qx, .inr (2, [.ref qf, .ref qp, .int pk, .int pl, .int ul, .int 0, .int 0, .int ta])), (qp, .inr (1, [.ref qf])), (qf, .inr (0, [.ref qb, .ref qe, .int od_4, .int ot_4, .int tm_4])), (qb, .inl (cA, 32, .inl b_4)), (qe, .inl (cE, 2, .inl g_4))]) [0, 1, 2, 3, 4] (by decide) rfl
        have hK9 := hK.sub (tys' := [(cA, .int), (cE, .int)]) [0, 1] rfl
        exact W.iret (v := (-3)) hx hb hr (fun t ht hW => ⟨⟨(-3), (0, 0, ta, b_4, g_4, od_4, ot_4, tm_4), rfl, (by first | (simp only [tt_unblock, c_1, c_3, e_4, c_5, reduceIte, eq_self]; done) | (simp [tt_unblock, c_1, c_3, e_4, c_5]; done)), by rw [ht]; exact hP9, va_K.moved hW.alike hK9, hD9⟩, hS.F ht⟩) hS.2.2 dX2_unblock_49
    · refine lv_bipush (v := (-2)) hx hb dX2_unblock_23 (by decide) ?_
      have hP9 := hP.sub (ws' := [(qx, .inr (2, [.ref qf, .ref qp, .int pk, .int pl, .int ul, .int pw, .int hi, .int ta])), (qp, .inr (1, [.ref qf])), (qf, .inr (0, [.ref qb, .ref qe, .int od, .int ot, .int tm])), (qb, .inl (cA, 32, .inl b)), (qe, .inl (cE, 2, .inl g))]) [0, 1, 2, 3, 4] rfl
      have hD9 := hD.sub (ws' := [(qx, .inr (2, [.ref qf, .ref qp, .int pk, .int pl, .int ul, .int pw, .int hi, .int ta])), (qp, .inr (1, [.ref qf])), (qf, .inr (0, [.ref qb, .ref qe, .int od, .int ot, .int tm])), (qb, .inl (cA, 32, .inl b)), (qe, .inl (cE, 2, .inl g))]) [0, 1, 2, 3, 4] (by decide) rfl
      have hK9 := hK.sub (tys' := [(cA, .int), (cE, .int)]) [0, 1] rfl
      exact W.iret (v := (-2)) hx hb hr (fun t ht hW => ⟨⟨(-2), (pw, hi, ta, b, g, od, ot, tm), rfl, (by first | (simp only [tt_unblock, c_1, c_3, reduceIte, eq_self]; done) | (simp [tt_unblock, c_1, c_3]; done)), by rw [ht]; exact hP9, va_K.moved hW.alike hK9, hD9⟩, hS.F ht⟩) hS.2.2 dX2_unblock_25
  · refine lv_iconst (v := (-1)) hx hb dX2_unblock_7 (by decide) ?_
    have hP9 := hP.sub (ws' := [(qx, .inr (2, [.ref qf, .ref qp, .int pk, .int pl, .int ul, .int pw, .int hi, .int ta])), (qp, .inr (1, [.ref qf])), (qf, .inr (0, [.ref qb, .ref qe, .int od, .int ot, .int tm])), (qb, .inl (cA, 32, .inl b)), (qe, .inl (cE, 2, .inl g))]) [0, 1, 2, 3, 4] rfl
    have hD9 := hD.sub (ws' := [(qx, .inr (2, [.ref qf, .ref qp, .int pk, .int pl, .int ul, .int pw, .int hi, .int ta])), (qp, .inr (1, [.ref qf])), (qf, .inr (0, [.ref qb, .ref qe, .int od, .int ot, .int tm])), (qb, .inl (cA, 32, .inl b)), (qe, .inl (cE, 2, .inl g))]) [0, 1, 2, 3, 4] (by decide) rfl
    have hK9 := hK.sub (tys' := [(cA, .int), (cE, .int)]) [0, 1] rfl
    exact W.iret (v := (-1)) hx hb hr (fun t ht hW => ⟨⟨(-1), (pw, hi, ta, b, g, od, ot, tm), rfl, (by first | (simp only [tt_unblock, c_1, reduceIte, eq_self]; done) | (simp [tt_unblock, c_1]; done)), by rw [ht]; exact hP9, va_K.moved hW.alike hK9, hD9⟩, hS.F ht⟩) hS.2.2 dX2_unblock_8
