set_option maxHeartbeats 4000000 in
set_option maxRecDepth 100000 in
theorem c_F_isPage (l : Launch) (dC : Nat → ClassId) (dI : Nat → Nat → Nat) (sz : Nat) (pg : Int32) : Met l yX0_isPage wsX0_isPage ({ frames := 0, cells := 0, slots := 0, locals := 0 }) (va_Pc [.int pg] (fun U => U.heap.size = sz ∧ va_P (dC, dI) ttCl [] U.heap ∧ va_K (dC, dI) ttCl [] U ∧ va_D (fun _ => True) [])) (va_Qi (fun (r : Int32) (_ : Unit) => r = tt_ip pg) (fun (_ : Unit) (t : State) => va_P (dC, dI) ttCl [] t.heap ∧ va_K (dC, dI) ttCl [] t ∧ va_D (va_A [] sz) []) (va_A [] sz)) 0 0 (va_A [] sz) := by
  refine Met.ofW (cc := cX0_isPage) (maxL := 1) (ret := (some .boolean)) (by decide) rfl ?_
  intro p e s m args below meth c s₁ B hml hv
  obtain ⟨rfl, hsz, hP, hK, hD0⟩ := hv
  have hx := B.exec
  have hb := B.bytes
  have hr := B.returns
  have hts := atoms_spec (ws := wsX0_isPage) B.pre
  have hown : s.vm.findClass RX0 = some m.cls := findClass_of_methodNamed B.named
  have hlocks := B.notSynchronized
  subst hsz
  have hD := hD0.self (sz := s.heap.size)
  generalize hAe : va_A [] s.heap.size = A at hD ⊢
  have hA : ∀ q : Nat, s.heap.size ≤ q → A q := fun q h => by rw [← hAe]; exact Or.inr h
  have hS : va_S A s.heap s.heap [] := va_S.rf
  have hP : va_P (dC, dI) ttCl [] s.heap := hP
  have hl := lv_entry ([.int pg]) (n := 1) (Nat.le_of_ble_eq_true rfl)
  rw [lg_entry_eq]
  generalize (lg_sl ([.int pg]) ++ List.replicate (1 - (lg_sl ([.int pg])).length) Slot.unset).toArray = ls at hl ⊢
  have hl : lv_has ls 1 [(0, .int pg)] := hl
  refine lv_iload_n hx hb dX0_isPage_0 rfl (lv_at hl 0 rfl) ?_
  refine lv_if_lt (tgt := 13) hx hb dX0_isPage_1 (by decide) (fun c_1 => ?_) (fun c_1 => ?_)
  · refine lv_iconst (v := 0) hx hb dX0_isPage_13 (by decide) ?_
    have hP9 := hP.sub (ws' := []) [] rfl
    have hD9 := hD.sub (ws' := []) [] (by decide) rfl
    have hK9 := hK.sub (tys' := []) [] rfl
    exact W.zret (v := 0) hx hb hr (by first | rfl | decide) (fun t ht hW => ⟨⟨0, (), rfl, (by first | (simp only [tt_ip, c_1, reduceIte, eq_self]; done) | (simp [tt_ip, c_1]; done)), by rw [ht]; exact hP9, va_K.moved hW.alike hK9, hD9⟩, hS.F ht⟩) hS.2.2 dX0_isPage_14
  · refine lv_iload_n hx hb dX0_isPage_4 rfl (lv_at hl 0 rfl) ?_
    refine lv_iconst (v := 2) hx hb dX0_isPage_5 (by decide) ?_
    refine lv_icmp_ge (tgt := 13) hx hb dX0_isPage_6 (by decide) (fun c_2 => ?_) (fun c_2 => ?_)
    · refine lv_iconst (v := 0) hx hb dX0_isPage_13 (by decide) ?_
      have hP9 := hP.sub (ws' := []) [] rfl
      have hD9 := hD.sub (ws' := []) [] (by decide) rfl
      have hK9 := hK.sub (tys' := []) [] rfl
      exact W.zret (v := 0) hx hb hr (by first | rfl | decide) (fun t ht hW => ⟨⟨0, (), rfl, (by first | (simp only [tt_ip, c_1, c_2, reduceIte, eq_self]; done) | (simp [tt_ip, c_1, c_2]; done)), by rw [ht]; exact hP9, va_K.moved hW.alike hK9, hD9⟩, hS.F ht⟩) hS.2.2 dX0_isPage_14
    · refine lv_iconst (v := 1) hx hb dX0_isPage_9 (by decide) ?_
      refine lv_goto (tgt := 14) hx hb dX0_isPage_10 (by decide) ?_
      have hP9 := hP.sub (ws' := []) [] rfl
      have hD9 := hD.sub (ws' := []) [] (by decide) rfl
      have hK9 := hK.sub (tys' := []) [] rfl
      exact W.zret (v := 1) hx hb hr (by first | rfl | decide) (fun t ht hW => ⟨⟨1, (), rfl, (by first | (simp only [tt_ip, c_1, c_2, reduceIte, eq_self]; done) | (simp [tt_ip, c_1, c_2]; done)), by rw [ht]; exact hP9, va_K.moved hW.alike hK9, hD9⟩, hS.F ht⟩) hS.2.2 dX0_isPage_14
set_option maxHeartbeats 4000000 in
set_option maxRecDepth 100000 in
theorem c_F_countOperation (l : Launch) (dC : Nat → ClassId) (dI : Nat → Nat → Nat) (cA cE : ClassId) (qf qb qe : Nat) (sz : Nat) (b g : Nat → Int32) (od ot tm : Int32) : Met l yX0_countOperation wsX0_countOperation ({ frames := 0, cells := 0, slots := 0, locals := 0 }) (va_Pc [.ref qf] (fun U => U.heap.size = sz ∧ va_P (dC, dI) ttCl [(qf, .inr (0, [.ref qb, .ref qe, .int od, .int ot, .int tm])), (qb, .inl (cA, 32, .inl b)), (qe, .inl (cE, 2, .inl g))] U.heap ∧ va_K (dC, dI) ttCl [(cA, .int), (cE, .int)] U ∧ va_D (fun _ => True) [(qf, .inr (0, [.ref qb, .ref qe, .int od, .int ot, .int tm])), (qb, .inl (cA, 32, .inl b)), (qe, .inl (cE, 2, .inl g))])) (va_Qi (fun (r : Int32) (u : tt_F) => tt_cnt (b, g, od, ot, tm) = (r, u)) (fun (u : tt_F) (t : State) => at_F dC dI cA cE (va_A [(qf, .inr (0, [.ref qb, .ref qe, .int od, .int ot, .int tm])), (qb, .inl (cA, 32, .inl b)), (qe, .inl (cE, 2, .inl g))] sz) qf qb qe u t) (va_A [(qf, .inr (0, [.ref qb, .ref qe, .int od, .int ot, .int tm])), (qb, .inl (cA, 32, .inl b)), (qe, .inl (cE, 2, .inl g))] sz)) 0 0 (va_A [(qf, .inr (0, [.ref qb, .ref qe, .int od, .int ot, .int tm])), (qb, .inl (cA, 32, .inl b)), (qe, .inl (cE, 2, .inl g))] sz) := by
  refine Met.ofW (cc := cX0_countOperation) (maxL := 1) (ret := (some .boolean)) (by decide) rfl ?_
  intro p e s m args below meth c s₁ B hml hv
  obtain ⟨rfl, hsz, hP, hK, hD0⟩ := hv
  have hx := B.exec
  have hb := B.bytes
  have hr := B.returns
  have hts := atoms_spec (ws := wsX0_countOperation) B.pre
  have hown : s.vm.findClass RX0 = some m.cls := findClass_of_methodNamed B.named
  have hlocks := B.notSynchronized
  subst hsz
  have hD := hD0.self (sz := s.heap.size)
  generalize hAe : va_A [(qf, .inr (0, [.ref qb, .ref qe, .int od, .int ot, .int tm])), (qb, .inl (cA, 32, .inl b)), (qe, .inl (cE, 2, .inl g))] s.heap.size = A at hD ⊢
  have hA : ∀ q : Nat, s.heap.size ≤ q → A q := fun q h => by rw [← hAe]; exact Or.inr h
  have hS : va_S A s.heap s.heap [] := va_S.rf
  have hP : va_P (dC, dI) ttCl [(qf, .inr (0, [.ref qb, .ref qe, .int od, .int ot, .int tm])), (qb, .inl (cA, 32, .inl b)), (qe, .inl (cE, 2, .inl g))] s.heap := hP
  have hl := lv_entry ([.ref qf]) (n := 1) (Nat.le_of_ble_eq_true rfl)
  rw [lg_entry_eq]
  generalize (lg_sl ([.ref qf]) ++ List.replicate (1 - (lg_sl ([.ref qf])).length) Slot.unset).toArray = ls at hl ⊢
  have hl : lv_has ls 1 [(0, .ref qf)] := hl
  refine lv_aload_n hx hb dX0_countOperation_0 rfl (lv_at hl 0 rfl) ?_
  refine lv_dup hx hb dX0_countOperation_1 rfl ?_
  refine va_get (D := (dC, dI)) (ci := 0) (v := .int od) (C := RX0) (T := TX0) (N := 5) hx hb hts (by decide +kernel) hown hK hP 0 rfl rfl 2 (by decide) (hts (.fieldLink RX0 16 "TornTryCounter$Flash" "operationsDone" "I") (by decide +kernel)) (fun _ h9 => h9) rfl dX0_countOperation_2 ?_
  refine lv_iconst (v := 1) hx hb dX0_countOperation_5 (by decide) ?_
  refine lv_iadd hx hb dX0_countOperation_6 ?_
  refine va_put (D := (dC, dI)) (ci := 0) (v := .int (od + 1)) (ty := .int) (C := RX0) (T := TX0) (N := 5) hx hb hts (by decide +kernel) tyX0 tyX0_ok nmX0 hown hK hP hD hS 0 rfl rfl 2 (by decide) (hts (.fieldLink RX0 16 "TornTryCounter$Flash" "operationsDone" "I") (by decide +kernel)) (fun _ h9 => h9) rfl (by decide +kernel) rfl rfl (Nat.le_of_ble_eq_true rfl) dX0_countOperation_7 (fun H locs hP hD hS => ?_)
  have hP : va_P (dC, dI) ttCl [(qf, .inr (0, [.ref qb, .ref qe, .int (od + 1), .int ot, .int tm])), (qb, .inl (cA, 32, .inl b)), (qe, .inl (cE, 2, .inl g))] H := hP
  have hD : va_D A [(qf, .inr (0, [.ref qb, .ref qe, .int (od + 1), .int ot, .int tm])), (qb, .inl (cA, 32, .inl b)), (qe, .inl (cE, 2, .inl g))] := hD
  refine lv_aload_n hx hb dX0_countOperation_10 rfl (lv_at hl 0 rfl) ?_
  refine va_get (D := (dC, dI)) (ci := 0) (v := .int ot) (C := RX0) (T := TX0) (N := 5) hx hb hts (by decide +kernel) hown hK hP 0 rfl rfl 3 (by decide) (hts (.fieldLink RX0 20 "TornTryCounter$Flash" "operationsToTear" "I") (by decide +kernel)) (fun _ h9 => h9) rfl dX0_countOperation_11 ?_
  refine lv_if_ne (tgt := 19) hx hb dX0_countOperation_14 (by decide) (fun c_1 => ?_) (fun c_1 => ?_)
  · refine lv_aload_n hx hb dX0_countOperation_19 rfl (lv_at hl 0 rfl) ?_
    refine lv_dup hx hb dX0_countOperation_20 rfl ?_
    refine va_get (D := (dC, dI)) (ci := 0) (v := .int ot) (C := RX0) (T := TX0) (N := 5) hx hb hts (by decide +kernel) hown hK hP 0 rfl rfl 3 (by decide) (hts (.fieldLink RX0 20 "TornTryCounter$Flash" "operationsToTear" "I") (by decide +kernel)) (fun _ h9 => h9) rfl dX0_countOperation_21 ?_
    refine lv_iconst (v := 1) hx hb dX0_countOperation_24 (by decide) ?_
    refine lv_isub hx hb dX0_countOperation_25 ?_
    refine va_put (D := (dC, dI)) (ci := 0) (v := .int (ot - 1)) (ty := .int) (C := RX0) (T := TX0) (N := 5) hx hb hts (by decide +kernel) tyX0 tyX0_ok nmX0 hown hK hP hD hS 0 rfl rfl 3 (by decide) (hts (.fieldLink RX0 20 "TornTryCounter$Flash" "operationsToTear" "I") (by decide +kernel)) (fun _ h9 => h9) rfl (by decide +kernel) rfl rfl (Nat.le_of_ble_eq_true rfl) dX0_countOperation_26 (fun H locs hP hD hS => ?_)
    have hP : va_P (dC, dI) ttCl [(qf, .inr (0, [.ref qb, .ref qe, .int (od + 1), .int (ot - 1), .int tm])), (qb, .inl (cA, 32, .inl b)), (qe, .inl (cE, 2, .inl g))] H := hP
    have hD : va_D A [(qf, .inr (0, [.ref qb, .ref qe, .int (od + 1), .int (ot - 1), .int tm])), (qb, .inl (cA, 32, .inl b)), (qe, .inl (cE, 2, .inl g))] := hD
    refine lv_aload_n hx hb dX0_countOperation_29 rfl (lv_at hl 0 rfl) ?_
    refine va_get (D := (dC, dI)) (ci := 0) (v := .int (ot - 1)) (C := RX0) (T := TX0) (N := 5) hx hb hts (by decide +kernel) hown hK hP 0 rfl rfl 3 (by decide) (hts (.fieldLink RX0 20 "TornTryCounter$Flash" "operationsToTear" "I") (by decide +kernel)) (fun _ h9 => h9) rfl dX0_countOperation_30 ?_
    refine lv_if_ne (tgt := 40) hx hb dX0_countOperation_33 (by decide) (fun c_2 => ?_) (fun c_2 => ?_)
    · refine lv_iconst (v := 0) hx hb dX0_countOperation_40 (by decide) ?_
      have hP9 := hP.sub (ws' := [(qf, .inr (0, [.ref qb, .ref qe, .int (od + 1), .int (ot - 1), .int tm])), (qb, .inl (cA, 32, .inl b)), (qe, .inl (cE, 2, .inl g))]) [0, 1, 2] rfl
      have hD9 := hD.sub (ws' := [(qf, .inr (0, [.ref qb, .ref qe, .int (od + 1), .int (ot - 1), .int tm])), (qb, .inl (cA, 32, .inl b)), (qe, .inl (cE, 2, .inl g))]) [0, 1, 2] (by decide) rfl
      have hK9 := hK.sub (tys' := [(cA, .int), (cE, .int)]) [0, 1] rfl
      exact W.zret (v := 0) hx hb hr (by first | rfl | decide) (fun t ht hW => ⟨⟨0, (b, g, od + 1, ot - 1, tm), rfl, (by first | (simp only [tt_cnt, c_1, c_2, reduceIte, eq_self]; done) | (simp [tt_cnt, c_1, c_2]; done)), by rw [ht]; exact hP9, va_K.moved hW.alike hK9, hD9⟩, hS.F ht⟩) hS.2.2 dX0_countOperation_41
    · refine lv_iconst (v := 1) hx hb dX0_countOperation_36 (by decide) ?_
      refine lv_goto (tgt := 41) hx hb dX0_countOperation_37 (by decide) ?_
      have hP9 := hP.sub (ws' := [(qf, .inr (0, [.ref qb, .ref qe, .int (od + 1), .int (ot - 1), .int tm])), (qb, .inl (cA, 32, .inl b)), (qe, .inl (cE, 2, .inl g))]) [0, 1, 2] rfl
      have hD9 := hD.sub (ws' := [(qf, .inr (0, [.ref qb, .ref qe, .int (od + 1), .int (ot - 1), .int tm])), (qb, .inl (cA, 32, .inl b)), (qe, .inl (cE, 2, .inl g))]) [0, 1, 2] (by decide) rfl
      have hK9 := hK.sub (tys' := [(cA, .int), (cE, .int)]) [0, 1] rfl
      exact W.zret (v := 1) hx hb hr (by first | rfl | decide) (fun t ht hW => ⟨⟨1, (b, g, od + 1, ot - 1, tm), rfl, (by first | (simp only [tt_cnt, c_1, c_2, reduceIte, eq_self]; done) | (simp [tt_cnt, c_1, c_2]; done)), by rw [ht]; exact hP9, va_K.moved hW.alike hK9, hD9⟩, hS.F ht⟩) hS.2.2 dX0_countOperation_41
  · refine lv_iconst (v := 0) hx hb dX0_countOperation_17 (by decide) ?_
    have hP9 := hP.sub (ws' := [(qf, .inr (0, [.ref qb, .ref qe, .int (od + 1), .int ot, .int tm])), (qb, .inl (cA, 32, .inl b)), (qe, .inl (cE, 2, .inl g))]) [0, 1, 2] rfl
    have hD9 := hD.sub (ws' := [(qf, .inr (0, [.ref qb, .ref qe, .int (od + 1), .int ot, .int tm])), (qb, .inl (cA, 32, .inl b)), (qe, .inl (cE, 2, .inl g))]) [0, 1, 2] (by decide) rfl
    have hK9 := hK.sub (tys' := [(cA, .int), (cE, .int)]) [0, 1] rfl
    exact W.zret (v := 0) hx hb hr (by first | rfl | decide) (fun t ht hW => ⟨⟨0, (b, g, od + 1, ot, tm), rfl, (by first | (simp only [tt_cnt, c_1, reduceIte, eq_self]; done) | (simp [tt_cnt, c_1]; done)), by rw [ht]; exact hP9, va_K.moved hW.alike hK9, hD9⟩, hS.F ht⟩) hS.2.2 dX0_countOperation_18
set_option maxHeartbeats 4000000 in
set_option maxRecDepth 100000 in
theorem c_F_read (l : Launch) (dC : Nat → ClassId) (dI : Nat → Nat → Nat) (cA cE : ClassId) (qf qb qe : Nat) (sz : Nat) (b g : Nat → Int32) (od ot tm : Int32) (pg a : Int32) : Met l yX0_read wsX0_read ({ frames := 0, cells := 0, slots := 0, locals := 0 }) (va_Pc [.ref qf, .int pg, .int a] (fun U => U.heap.size = sz ∧ va_P (dC, dI) ttCl [(qf, .inr (0, [.ref qb, .ref qe, .int od, .int ot, .int tm])), (qb, .inl (cA, 32, .inl b)), (qe, .inl (cE, 2, .inl g))] U.heap ∧ va_K (dC, dI) ttCl [(cA, .int), (cE, .int)] U ∧ va_D (fun _ => True) [(qf, .inr (0, [.ref qb, .ref qe, .int od, .int ot, .int tm])), (qb, .inl (cA, 32, .inl b)), (qe, .inl (cE, 2, .inl g))])) (va_Qi (fun (r : Int32) (_ : Unit) => r = tt_rd b pg a) (fun (_ : Unit) (t : State) => at_F dC dI cA cE (va_A [(qf, .inr (0, [.ref qb, .ref qe, .int od, .int ot, .int tm])), (qb, .inl (cA, 32, .inl b)), (qe, .inl (cE, 2, .inl g))] sz) qf qb qe (b, g, od, ot, tm) t) (va_A [(qf, .inr (0, [.ref qb, .ref qe, .int od, .int ot, .int tm])), (qb, .inl (cA, 32, .inl b)), (qe, .inl (cE, 2, .inl g))] sz)) 0 0 (va_A [(qf, .inr (0, [.ref qb, .ref qe, .int od, .int ot, .int tm])), (qb, .inl (cA, 32, .inl b)), (qe, .inl (cE, 2, .inl g))] sz) := by
  refine Met.ofW (cc := cX0_read) (maxL := 4) (ret := (some .int)) (by decide) rfl ?_
  intro p e s m args below meth c s₁ B hml hv
  obtain ⟨rfl, hsz, hP, hK, hD0⟩ := hv
  have hx := B.exec
  have hb := B.bytes
  have hr := B.returns
  have hts := atoms_spec (ws := wsX0_read) B.pre
  have hown : s.vm.findClass RX0 = some m.cls := findClass_of_methodNamed B.named
  have hlocks := B.notSynchronized
  subst hsz
  have hD := hD0.self (sz := s.heap.size)
  generalize hAe : va_A [(qf, .inr (0, [.ref qb, .ref qe, .int od, .int ot, .int tm])), (qb, .inl (cA, 32, .inl b)), (qe, .inl (cE, 2, .inl g))] s.heap.size = A at hD ⊢
  have hA : ∀ q : Nat, s.heap.size ≤ q → A q := fun q h => by rw [← hAe]; exact Or.inr h
  have hS : va_S A s.heap s.heap [] := va_S.rf
  have hP : va_P (dC, dI) ttCl [(qf, .inr (0, [.ref qb, .ref qe, .int od, .int ot, .int tm])), (qb, .inl (cA, 32, .inl b)), (qe, .inl (cE, 2, .inl g))] s.heap := hP
  have hl := lv_entry ([.ref qf, .int pg, .int a]) (n := 4) (Nat.le_of_ble_eq_true rfl)
  rw [lg_entry_eq]
  generalize (lg_sl ([.ref qf, .int pg, .int a]) ++ List.replicate (4 - (lg_sl ([.ref qf, .int pg, .int a])).length) Slot.unset).toArray = ls at hl ⊢
  have hl : lv_has ls 4 [(0, .ref qf), (1, .int pg), (2, .int a)] := hl
  refine lv_iload_n hx hb dX0_read_0 rfl (lv_at hl 1 rfl) ?_
  refine lv_bipush (v := 16) hx hb dX0_read_1 (by decide) ?_
  refine lv_imul hx hb dX0_read_3 ?_
  refine lv_iload_n hx hb dX0_read_4 rfl (lv_at hl 2 rfl) ?_
  refine lv_iadd hx hb dX0_read_5 ?_
  refine lv_istore_n (lv' := [(3, .int ((pg * 16) + a)), (0, .ref qf), (1, .int pg), (2, .int a)]) hx hb dX0_read_6 rfl hl (by decide) rfl (fun ls hl => ?_)
  refine lv_iload_n hx hb dX0_read_7 rfl (lv_at hl 0 rfl) ?_
  refine lv_if_lt (tgt := 29) hx hb dX0_read_8 (by decide) (fun c_1 => ?_) (fun c_1 => ?_)
  · refine lv_sipush (v := 255) hx hb dX0_read_29 (by decide) ?_
    have hP9 := hP.sub (ws' := [(qf, .inr (0, [.ref qb, .ref qe, .int od, .int ot, .int tm])), (qb, .inl (cA, 32, .inl b)), (qe, .inl (cE, 2, .inl g))]) [0, 1, 2] rfl
    have hD9 := hD.sub (ws' := [(qf, .inr (0, [.ref qb, .ref qe, .int od, .int ot, .int tm])), (qb, .inl (cA, 32, .inl b)), (qe, .inl (cE, 2, .inl g))]) [0, 1, 2] (by decide) rfl
    have hK9 := hK.sub (tys' := [(cA, .int), (cE, .int)]) [0, 1] rfl
    exact W.iret (v := 255) hx hb hr (fun t ht hW => ⟨⟨255, (), rfl, (by first | (simp only [tt_rd, c_1, reduceIte, eq_self]; done) | (simp [tt_rd, c_1]; done)), by rw [ht]; exact hP9, va_K.moved hW.alike hK9, hD9⟩, hS.F ht⟩) hS.2.2 dX0_read_32
  · refine lv_iload_n hx hb dX0_read_11 rfl (lv_at hl 0 rfl) ?_
    refine lv_aload_n hx hb dX0_read_12 rfl (lv_at hl 1 rfl) ?_
    refine va_get (D := (dC, dI)) (ci := 0) (v := .ref qb) (C := RX0) (T := TX0) (N := 5) hx hb hts (by decide +kernel) hown hK hP 0 rfl rfl 0 (by decide) (hts (.fieldLink RX0 9 "TornTryCounter$Flash" "bytes" "[I") (by decide +kernel)) (fun _ h9 => h9) rfl dX0_read_13 ?_
    refine va_alen (v := 32) hx hb hK hP 1 0 rfl rfl rfl dX0_read_16 ?_
    refine lv_icmp_ge (tgt := 29) hx hb dX0_read_17 (by decide) (fun c_2 => ?_) (fun c_2 => ?_)
    · refine lv_sipush (v := 255) hx hb dX0_read_29 (by decide) ?_
      have hP9 := hP.sub (ws' := [(qf, .inr (0, [.ref qb, .ref qe, .int od, .int ot, .int tm])), (qb, .inl (cA, 32, .inl b)), (qe, .inl (cE, 2, .inl g))]) [0, 1, 2] rfl
      have hD9 := hD.sub (ws' := [(qf, .inr (0, [.ref qb, .ref qe, .int od, .int ot, .int tm])), (qb, .inl (cA, 32, .inl b)), (qe, .inl (cE, 2, .inl g))]) [0, 1, 2] (by decide) rfl
      have hK9 := hK.sub (tys' := [(cA, .int), (cE, .int)]) [0, 1] rfl
      exact W.iret (v := 255) hx hb hr (fun t ht hW => ⟨⟨255, (), rfl, (by first | (simp only [tt_rd, c_1, c_2, reduceIte, eq_self]; done) | (simp [tt_rd, c_1, c_2]; done)), by rw [ht]; exact hP9, va_K.moved hW.alike hK9, hD9⟩, hS.F ht⟩) hS.2.2 dX0_read_32
    · refine lv_aload_n hx hb dX0_read_20 rfl (lv_at hl 1 rfl) ?_
      refine va_get (D := (dC, dI)) (ci := 0) (v := .ref qb) (C := RX0) (T := TX0) (N := 5) hx hb hts (by decide +kernel) hown hK hP 0 rfl rfl 0 (by decide) (hts (.fieldLink RX0 9 "TornTryCounter$Flash" "bytes" "[I") (by decide +kernel)) (fun _ h9 => h9) rfl dX0_read_21 ?_
      refine lv_iload_n hx hb dX0_read_24 rfl (lv_at hl 0 rfl) ?_
      refine va_iald hx hb hK hP 1 0 rfl rfl (tt_in32 c_1 c_2) dX0_read_25 ?_
      refine lv_goto (tgt := 32) hx hb dX0_read_26 (by decide) ?_
      have hP9 := hP.sub (ws' := [(qf, .inr (0, [.ref qb, .ref qe, .int od, .int ot, .int tm])), (qb, .inl (cA, 32, .inl b)), (qe, .inl (cE, 2, .inl g))]) [0, 1, 2] rfl
      have hD9 := hD.sub (ws' := [(qf, .inr (0, [.ref qb, .ref qe, .int od, .int ot, .int tm])), (qb, .inl (cA, 32, .inl b)), (qe, .inl (cE, 2, .inl g))]) [0, 1, 2] (by decide) rfl
      have hK9 := hK.sub (tys' := [(cA, .int), (cE, .int)]) [0, 1] rfl
      exact W.iret (v := b ((pg * 16) + a).toNatClampNeg) hx hb hr (fun t ht hW => ⟨⟨b ((pg * 16) + a).toNatClampNeg, (), rfl, (by first | (simp only [tt_rd, c_1, c_2, reduceIte, eq_self]; done) | (simp [tt_rd, c_1, c_2]; done)), by rw [ht]; exact hP9, va_K.moved hW.alike hK9, hD9⟩, hS.F ht⟩) hS.2.2 dX0_read_32
set_option maxHeartbeats 4000000 in
set_option maxRecDepth 100000 in
theorem c_F_preset (l : Launch) (dC : Nat → ClassId) (dI : Nat → Nat → Nat) (cA cE : ClassId) (qf qb qe : Nat) (sz : Nat) (b g : Nat → Int32) (od ot tm : Int32) (pg a v : Int32) : Met l yX0_preset wsX0_preset ({ frames := 0, cells := 0, slots := 0, locals := 0 }) (va_Pc [.ref qf, .int pg, .int a, .int v] (fun U => U.heap.size = sz ∧ va_P (dC, dI) ttCl [(qf, .inr (0, [.ref qb, .ref qe, .int od, .int ot, .int tm])), (qb, .inl (cA, 32, .inl b)), (qe, .inl (cE, 2, .inl g))] U.heap ∧ va_K (dC, dI) ttCl [(cA, .int), (cE, .int)] U ∧ va_D (fun _ => True) [(qf, .inr (0, [.ref qb, .ref qe, .int od, .int ot, .int tm])), (qb, .inl (cA, 32, .inl b)), (qe, .inl (cE, 2, .inl g))])) (va_Qv (fun (u : tt_F) => (tt_wr b pg a v, g, od, ot, tm) = u) (fun (u : tt_F) (t : State) => at_F dC dI cA cE (va_A [(qf, .inr (0, [.ref qb, .ref qe, .int od, .int ot, .int tm])), (qb, .inl (cA, 32, .inl b)), (qe, .inl (cE, 2, .inl g))] sz) qf qb qe u t) (va_A [(qf, .inr (0, [.ref qb, .ref qe, .int od, .int ot, .int tm])), (qb, .inl (cA, 32, .inl b)), (qe, .inl (cE, 2, .inl g))] sz)) 0 0 (va_A [(qf, .inr (0, [.ref qb, .ref qe, .int od, .int ot, .int tm])), (qb, .inl (cA, 32, .inl b)), (qe, .inl (cE, 2, .inl g))] sz) := by
  refine Met.ofW (cc := cX0_preset) (maxL := 5) (ret := none) (by decide) rfl ?_
  intro p e s m args below meth c s₁ B hml hv
  obtain ⟨rfl, hsz, hP, hK, hD0⟩ := hv
  have hx := B.exec
  have hb := B.bytes
  have hr := B.returns
  have hts := atoms_spec (ws := wsX0_preset) B.pre
  have hown : s.vm.findClass RX0 = some m.cls := findClass_of_methodNamed B.named
  have hlocks := B.notSynchronized
  subst hsz
  have hD := hD0.self (sz := s.heap.size)
  generalize hAe : va_A [(qf, .inr (0, [.ref qb, .ref qe, .int od, .int ot, .int tm])), (qb, .inl (cA, 32, .inl b)), (qe, .inl (cE, 2, .inl g))] s.heap.size = A at hD ⊢
  have hA : ∀ q : Nat, s.heap.size ≤ q → A q := fun q h => by rw [← hAe]; exact Or.inr h
  have hS : va_S A s.heap s.heap [] := va_S.rf
  have hP : va_P (dC, dI) ttCl [(qf, .inr (0, [.ref qb, .ref qe, .int od, .int ot, .int tm])), (qb, .inl (cA, 32, .inl b)), (qe, .inl (cE, 2, .inl g))] s.heap := hP
  have hl := lv_entry ([.ref qf, .int pg, .int a, .int v]) (n := 5) (Nat.le_of_ble_eq_true rfl)
  rw [lg_entry_eq]
  generalize (lg_sl ([.ref qf, .int pg, .int a, .int v]) ++ List.replicate (5 - (lg_sl ([.ref qf, .int pg, .int a, .int v])).length) Slot.unset).toArray = ls at hl ⊢
  have hl : lv_has ls 5 [(0, .ref qf), (1, .int pg), (2, .int a), (3, .int v)] := hl
  refine lv_iload_n hx hb dX0_preset_0 rfl (lv_at hl 1 rfl) ?_
  refine lv_bipush (v := 16) hx hb dX0_preset_1 (by decide) ?_
  refine lv_imul hx hb dX0_preset_3 ?_
  refine lv_iload_n hx hb dX0_preset_4 rfl (lv_at hl 2 rfl) ?_
  refine lv_iadd hx hb dX0_preset_5 ?_
  refine lv_istore (lv' := [(4, .int ((pg * 16) + a)), (0, .ref qf), (1, .int pg), (2, .int a), (3, .int v)]) hx hb dX0_preset_6 hl (by decide) rfl (fun ls hl => ?_)
  refine lv_iload hx hb dX0_preset_8 (lv_at hl 0 rfl) ?_
  refine lv_if_lt (tgt := 31) hx hb dX0_preset_10 (by decide) (fun c_1 => ?_) (fun c_1 => ?_)
  · have hP9 := hP.sub (ws' := [(qf, .inr (0, [.ref qb, .ref qe, .int od, .int ot, .int tm])), (qb, .inl (cA, 32, .inl b)), (qe, .inl (cE, 2, .inl g))]) [0, 1, 2] rfl
    have hD9 := hD.sub (ws' := [(qf, .inr (0, [.ref qb, .ref qe, .int od, .int ot, .int tm])), (qb, .inl (cA, 32, .inl b)), (qe, .inl (cE, 2, .inl g))]) [0, 1, 2] (by decide) rfl
    have hK9 := hK.sub (tys' := [(cA, .int), (cE, .int)]) [0, 1] rfl
    exact W.vret hx hb hr (fun t ht hW => ⟨⟨(b, g, od, ot, tm), rfl, (by first | (simp only [tt_wr, c_1, reduceIte, eq_self]; done) | (simp [tt_wr, c_1]; done)), by rw [ht]; exact hP9, va_K.moved hW.alike hK9, hD9⟩, hS.F ht⟩) hS.2.2 dX0_preset_31
  · refine lv_iload hx hb dX0_preset_13 (lv_at hl 0 rfl) ?_
    refine lv_aload_n hx hb dX0_preset_15 rfl (lv_at hl 1 rfl) ?_
    refine va_get (D := (dC, dI)) (ci := 0) (v := .ref qb) (C := RX0) (T := TX0) (N := 5) hx hb hts (by decide +kernel) hown hK hP 0 rfl rfl 0 (by decide) (hts (.fieldLink RX0 9 "TornTryCounter$Flash" "bytes" "[I") (by decide +kernel)) (fun _ h9 => h9) rfl dX0_preset_16 ?_
    refine va_alen (v := 32) hx hb hK hP 1 0 rfl rfl rfl dX0_preset_19 ?_
    refine lv_icmp_ge (tgt := 31) hx hb dX0_preset_20 (by decide) (fun c_2 => ?_) (fun c_2 => ?_)
    · have hP9 := hP.sub (ws' := [(qf, .inr (0, [.ref qb, .ref qe, .int od, .int ot, .int tm])), (qb, .inl (cA, 32, .inl b)), (qe, .inl (cE, 2, .inl g))]) [0, 1, 2] rfl
      have hD9 := hD.sub (ws' := [(qf, .inr (0, [.ref qb, .ref qe, .int od, .int ot, .int tm])), (qb, .inl (cA, 32, .inl b)), (qe, .inl (cE, 2, .inl g))]) [0, 1, 2] (by decide) rfl
      have hK9 := hK.sub (tys' := [(cA, .int), (cE, .int)]) [0, 1] rfl
      exact W.vret hx hb hr (fun t ht hW => ⟨⟨(b, g, od, ot, tm), rfl, (by first | (simp only [tt_wr, c_1, c_2, reduceIte, eq_self]; done) | (simp [tt_wr, c_1, c_2]; done)), by rw [ht]; exact hP9, va_K.moved hW.alike hK9, hD9⟩, hS.F ht⟩) hS.2.2 dX0_preset_31
    · refine lv_aload_n hx hb dX0_preset_23 rfl (lv_at hl 1 rfl) ?_
      refine va_get (D := (dC, dI)) (ci := 0) (v := .ref qb) (C := RX0) (T := TX0) (N := 5) hx hb hts (by decide +kernel) hown hK hP 0 rfl rfl 0 (by decide) (hts (.fieldLink RX0 9 "TornTryCounter$Flash" "bytes" "[I") (by decide +kernel)) (fun _ h9 => h9) rfl dX0_preset_24 ?_
      refine lv_iload hx hb dX0_preset_27 (lv_at hl 0 rfl) ?_
      refine lv_iload_n hx hb dX0_preset_29 rfl (lv_at hl 4 rfl) ?_
      refine va_iast hx hb hK hP hD hS 1 0 rfl rfl (tt_in32 c_1 c_2) dX0_preset_30 (fun H locs hP hD hS => ?_)
      have hP : va_P (dC, dI) ttCl [(qf, .inr (0, [.ref qb, .ref qe, .int od, .int ot, .int tm])), (qb, .inl (cA, 32, .inl (upd b ((pg * 16) + a).toNatClampNeg v))), (qe, .inl (cE, 2, .inl g))] H := hP
      have hD : va_D A [(qf, .inr (0, [.ref qb, .ref qe, .int od, .int ot, .int tm])), (qb, .inl (cA, 32, .inl (upd b ((pg * 16) + a).toNatClampNeg v))), (qe, .inl (cE, 2, .inl g))] := hD
      have hP9 := hP.sub (ws' := [(qf, .inr (0, [.ref qb, .ref qe, .int od, .int ot, .int tm])), (qb, .inl (cA, 32, .inl (upd b ((pg * 16) + a).toNatClampNeg v))), (qe, .inl (cE, 2, .inl g))]) [0, 1, 2] rfl
      have hD9 := hD.sub (ws' := [(qf, .inr (0, [.ref qb, .ref qe, .int od, .int ot, .int tm])), (qb, .inl (cA, 32, .inl (upd b ((pg * 16) + a).toNatClampNeg v))), (qe, .inl (cE, 2, .inl g))]) [0, 1, 2] (by decide) rfl
      have hK9 := hK.sub (tys' := [(cA, .int), (cE, .int)]) [0, 1] rfl
      exact W.vret hx hb hr (fun t ht hW => ⟨⟨(upd b ((pg * 16) + a).toNatClampNeg v, g, od, ot, tm), rfl, (by first | (simp only [tt_wr, c_1, c_2, reduceIte, eq_self]; done) | (simp [tt_wr, c_1, c_2]; done)), by rw [ht]; exact hP9, va_K.moved hW.alike hK9, hD9⟩, hS.F ht⟩) hS.2.2 dX0_preset_31
set_option maxHeartbeats 4000000 in
set_option maxRecDepth 100000 in
theorem c_F_program (l : Launch) (dC : Nat → ClassId) (dI : Nat → Nat → Nat) (cA cE : ClassId) (qf qb qe : Nat) (sz : Nat) (b g : Nat → Int32) (od ot tm : Int32) (pg a v : Int32) : Met l yX0_program wsX0_program ({ frames := 1, cells := 0, slots := 0, locals := 20 }) (va_Pc [.ref qf, .int pg, .int a, .int v] (fun U => U.heap.size = sz ∧ va_P (dC, dI) ttCl [(qf, .inr (0, [.ref qb, .ref qe, .int od, .int ot, .int tm])), (qb, .inl (cA, 32, .inl b)), (qe, .inl (cE, 2, .inl g))] U.heap ∧ va_K (dC, dI) ttCl [(cA, .int), (cE, .int)] U ∧ va_D (fun _ => True) [(qf, .inr (0, [.ref qb, .ref qe, .int od, .int ot, .int tm])), (qb, .inl (cA, 32, .inl b)), (qe, .inl (cE, 2, .inl g))])) (va_Qi (fun (r : Int32) (u : tt_F) => tt_prog (b, g, od, ot, tm) pg a v = (r, u)) (fun (u : tt_F) (t : State) => at_F dC dI cA cE (va_A [(qf, .inr (0, [.ref qb, .ref qe, .int od, .int ot, .int tm])), (qb, .inl (cA, 32, .inl b)), (qe, .inl (cE, 2, .inl g))] sz) qf qb qe u t) (va_A [(qf, .inr (0, [.ref qb, .ref qe, .int od, .int ot, .int tm])), (qb, .inl (cA, 32, .inl b)), (qe, .inl (cE, 2, .inl g))] sz)) 0 0 (va_A [(qf, .inr (0, [.ref qb, .ref qe, .int od, .int ot, .int tm])), (qb, .inl (cA, 32, .inl b)), (qe, .inl (cE, 2, .inl g))] sz) := by
  refine Met.ofW (cc := cX0_program) (maxL := 7) (ret := (some .boolean)) (by decide) rfl ?_
  intro p e s m args below meth c s₁ B hml hv
  obtain ⟨rfl, hsz, hP, hK, hD0⟩ := hv
  have hx := B.exec
  have hb := B.bytes
  have hr := B.returns
  have hts := atoms_spec (ws := wsX0_program) B.pre
  have hown : s.vm.findClass RX0 = some m.cls := findClass_of_methodNamed B.named
  have hlocks := B.notSynchronized
  subst hsz
  have hD := hD0.self (sz := s.heap.size)
  generalize hAe : va_A [(qf, .inr (0, [.ref qb, .ref qe, .int od, .int ot, .int tm])), (qb, .inl (cA, 32, .inl b)), (qe, .inl (cE, 2, .inl g))] s.heap.size = A at hD ⊢
  have hA : ∀ q : Nat, s.heap.size ≤ q → A q := fun q h => by rw [← hAe]; exact Or.inr h
  have hS : va_S A s.heap s.heap [] := va_S.rf
  have hP : va_P (dC, dI) ttCl [(qf, .inr (0, [.ref qb, .ref qe, .int od, .int ot, .int tm])), (qb, .inl (cA, 32, .inl b)), (qe, .inl (cE, 2, .inl g))] s.heap := hP
  have hl := lv_entry ([.ref qf, .int pg, .int a, .int v]) (n := 7) (Nat.le_of_ble_eq_true rfl)
  rw [lg_entry_eq]
  generalize (lg_sl ([.ref qf, .int pg, .int a, .int v]) ++ List.replicate (7 - (lg_sl ([.ref qf, .int pg, .int a, .int v])).length) Slot.unset).toArray = ls at hl ⊢
  have hl : lv_has ls 7 [(0, .ref qf), (1, .int pg), (2, .int a), (3, .int v)] := hl
  refine lv_aload_n hx hb dX0_program_0 rfl (lv_at hl 0 rfl) ?_
  have hPc := hP.sub (ws' := [(qf, .inr (0, [.ref qb, .ref qe, .int od, .int ot, .int tm])), (qb, .inl (cA, 32, .inl b)), (qe, .inl (cE, 2, .inl g))]) [0, 1, 2] rfl
  have hDc := hD.sub (ws' := [(qf, .inr (0, [.ref qb, .ref qe, .int od, .int ot, .int tm])), (qb, .inl (cA, 32, .inl b)), (qe, .inl (cE, 2, .inl g))]) [0, 1, 2] (by decide) rfl
  have hKc := hK.sub (tys' := [(cA, .int), (cE, .int)]) [0, 1] rfl
  have hFc := va_free (wc := [(qf, .inr (0, [.ref qb, .ref qe, .int od, .int ot, .int tm])), (qb, .inl (cA, 32, .inl b)), (qe, .inl (cE, 2, .inl g))]) hD hS hA [0, 1, 2] rfl
  refine va_calli (va_runV (As := []) (rest := []) ⟨hx, hb, hml, hown, hts⟩ (c_F_countOperation l dC dI cA cE qf qb qe s.heap.size b g od ot tm) (cwV 0 hts gX0_program_X0_countOperation rfl rfl rfl (by decide +kernel) ⟨Nat.le_of_ble_eq_true rfl, Nat.le_of_ble_eq_true rfl⟩) ⟨fun a U g mk q => by obtain ⟨q0, q1, qP, qK, qD⟩ := q; exact ⟨q0, q1, qP, va_K.moved (u := U) (U := U.calling g mk a) (Vm.Alike.refl U.vm) qK, qD⟩, va_recv hKc hPc (ci := 0) (q0 := 0) rfl rfl, fun U hU hW => ⟨rfl, by rw [hU], by rw [hU]; exact hPc, va_K.moved hW.alike hKc, hDc.weaken (fun _ _ _ _ => trivial)⟩⟩ rfl rfl hl.1 rfl (lv_room (Nat.le_of_ble_eq_true rfl)) dX0_program_1 ⟨(Nat.zero_le _), (Nat.zero_le _)⟩) hS (fun q _ h => hFc q h) hFc (fun r_1 u t H locs ht hvm hw hB hz1 hk1 hS => ?_)
  obtain ⟨b_1, g_1, od_1, ot_1, tm_1⟩ := u
  obtain ⟨hP1, hK1, hD1⟩ := hB
  have e_1 : tt_cnt (b, g, od, ot, tm) = (r_1, (b_1, g_1, od_1, ot_1, tm_1)) := hw
  rw [ht] at hP1
  obtain ⟨hP, hD⟩ := va_join (wr := []) (w1 := [(qf, .inr (0, [.ref qb, .ref qe, .int od_1, .int ot_1, .int tm_1])), (qb, .inl (cA, 32, .inl b_1)), (qe, .inl (cE, 2, .inl g_1))]) hP hD [0, 1, 2] [] rfl rfl (by decide) (by decide) hk1 hFc hP1 hD1
  have hP : va_P (dC, dI) ttCl [(qf, .inr (0, [.ref qb, .ref qe, .int od_1, .int ot_1, .int tm_1])), (qb, .inl (cA, 32, .inl b_1)), (qe, .inl (cE, 2, .inl g_1))] H := hP
  have hD : va_D A [(qf, .inr (0, [.ref qb, .ref qe, .int od_1, .int ot_1, .int tm_1])), (qb, .inl (cA, 32, .inl b_1)), (qe, .inl (cE, 2, .inl g_1))] := hD
  refine lv_istore (lv' := [(4, .int r_1), (0, .ref qf), (1, .int pg), (2, .int a), (3, .int v)]) hx hb dX0_program_4 hl (by decide) rfl (fun ls hl => ?_)
  refine lv_iload hx hb dX0_program_6 (lv_at hl 0 rfl) ?_
  refine lv_if_eq (tgt := 18) hx hb dX0_program_8 (by decide) (fun c_2 => ?_) (fun c_2 => ?_)
  · refine lv_sipush (v := 255) hx hb dX0_program_18 (by decide) ?_
    refine lv_istore (lv' := [(5, .int 255), (4, .int r_1), (0, .ref qf), (1, .int pg), (2, .int a), (3, .int v)]) hx hb dX0_program_21 hl (by decide) rfl (fun ls hl => ?_)
    refine lv_iload_n hx hb dX0_program_23 rfl (lv_at hl 3 rfl) ?_
    refine lv_bipush (v := 16) hx hb dX0_program_24 (by decide) ?_
    refine lv_imul hx hb dX0_program_26 ?_
    refine lv_iload_n hx hb dX0_program_27 rfl (lv_at hl 4 rfl) ?_
    refine lv_iadd hx hb dX0_program_28 ?_
    refine lv_istore (lv' := [(6, .int ((pg * 16) + a)), (5, .int 255), (4, .int r_1), (0, .ref qf), (1, .int pg), (2, .int a), (3, .int v)]) hx hb dX0_program_29 hl (by decide) rfl (fun ls hl => ?_)
    refine lv_iload hx hb dX0_program_31 (lv_at hl 0 rfl) ?_
    refine lv_if_lt (tgt := 62) hx hb dX0_program_33 (by decide) (fun c_3 => ?_) (fun c_3 => ?_)
    · refine lv_iload hx hb dX0_program_62 (lv_at hl 2 rfl) ?_
      refine lv_if_ne (tgt := 71) hx hb dX0_program_64 (by decide) (fun c_4 => ?_) (fun c_4 => ?_)
      · exact absurd c_2 c_4
      · refine lv_iconst (v := 1) hx hb dX0_program_67 (by decide) ?_
        refine lv_goto (tgt := 72) hx hb dX0_program_68 (by decide) ?_
        have hP9 := hP.sub (ws' := [(qf, .inr (0, [.ref qb, .ref qe, .int od_1, .int ot_1, .int tm_1])), (qb, .inl (cA, 32, .inl b_1)), (qe, .inl (cE, 2, .inl g_1))]) [0, 1, 2] rfl
        have hD9 := hD.sub (ws' := [(qf, .inr (0, [.ref qb, .ref qe, .int od_1, .int ot_1, .int tm_1])), (qb, .inl (cA, 32, .inl b_1)), (qe, .inl (cE, 2, .inl g_1))]) [0, 1, 2] (by decide) rfl
        have hK9 := hK.sub (tys' := [(cA, .int), (cE, .int)]) [0, 1] rfl
        exact W.zret (v := 1) hx hb hr (by first | rfl | decide) (fun t ht hW => ⟨⟨1, (b_1, g_1, od_1, ot_1, tm_1), rfl, (by first | (simp only [tt_prog, tt_pr, e_1, c_2, c_3, reduceIte, eq_self]; done) | (simp [tt_prog, tt_pr, e_1, c_2, c_3]; done)), by rw [ht]; exact hP9, va_K.moved hW.alike hK9, hD9⟩, hS.F ht⟩) hS.2.2 dX0_program_72
    · refine lv_iload hx hb dX0_program_36 (lv_at hl 0 rfl) ?_
      refine lv_aload_n hx hb dX0_program_38 rfl (lv_at hl 3 rfl) ?_
      refine va_get (D := (dC, dI)) (ci := 0) (v := .ref qb) (C := RX0) (T := TX0) (N := 5) hx hb hts (by decide +kernel) hown hK hP 0 rfl rfl 0 (by decide) (hts (.fieldLink RX0 9 "TornTryCounter$Flash" "bytes" "[I") (by decide +kernel)) (fun _ h9 => h9) rfl dX0_program_39 ?_
      refine va_alen (v := 32) hx hb hK hP 1 0 rfl rfl rfl dX0_program_42 ?_
      refine lv_icmp_ge (tgt := 62) hx hb dX0_program_43 (by decide) (fun c_5 => ?_) (fun c_5 => ?_)
      · refine lv_iload hx hb dX0_program_62 (lv_at hl 2 rfl) ?_
        refine lv_if_ne (tgt := 71) hx hb dX0_program_64 (by decide) (fun c_6 => ?_) (fun c_6 => ?_)
        · exact absurd c_2 c_6
        · refine lv_iconst (v := 1) hx hb dX0_program_67 (by decide) ?_
          refine lv_goto (tgt := 72) hx hb dX0_program_68 (by decide) ?_
          have hP9 := hP.sub (ws' := [(qf, .inr (0, [.ref qb, .ref qe, .int od_1, .int ot_1, .int tm_1])), (qb, .inl (cA, 32, .inl b_1)), (qe, .inl (cE, 2, .inl g_1))]) [0, 1, 2] rfl
          have hD9 := hD.sub (ws' := [(qf, .inr (0, [.ref qb, .ref qe, .int od_1, .int ot_1, .int tm_1])), (qb, .inl (cA, 32, .inl b_1)), (qe, .inl (cE, 2, .inl g_1))]) [0, 1, 2] (by decide) rfl
          have hK9 := hK.sub (tys' := [(cA, .int), (cE, .int)]) [0, 1] rfl
          exact W.zret (v := 1) hx hb hr (by first | rfl | decide) (fun t ht hW => ⟨⟨1, (b_1, g_1, od_1, ot_1, tm_1), rfl, (by first | (simp only [tt_prog, tt_pr, e_1, c_2, c_3, c_5, reduceIte, eq_self]; done) | (simp [tt_prog, tt_pr, e_1, c_2, c_3, c_5]; done)), by rw [ht]; exact hP9, va_K.moved hW.alike hK9, hD9⟩, hS.F ht⟩) hS.2.2 dX0_program_72
      · refine lv_aload_n hx hb dX0_program_46 rfl (lv_at hl 3 rfl) ?_
        refine va_get (D := (dC, dI)) (ci := 0) (v := .ref qb) (C := RX0) (T := TX0) (N := 5) hx hb hts (by decide +kernel) hown hK hP 0 rfl rfl 0 (by decide) (hts (.fieldLink RX0 9 "TornTryCounter$Flash" "bytes" "[I") (by decide +kernel)) (fun _ h9 => h9) rfl dX0_program_47 ?_
        refine lv_iload hx hb dX0_program_50 (lv_at hl 0 rfl) ?_
        refine lv_dup2_11 hx hb dX0_program_52 rfl rfl ?_
        refine va_iald hx hb hK hP 1 0 rfl rfl (tt_in32 c_3 c_5) dX0_program_53 ?_
        refine lv_iload_n hx hb dX0_program_54 rfl (lv_at hl 6 rfl) ?_
        refine lv_iload hx hb dX0_program_55 (lv_at hl 1 rfl) ?_
        refine lv_iconst (v := (-1)) hx hb dX0_program_57 (by decide) ?_
        refine lv_ixor hx hb dX0_program_58 ?_
        refine lv_ior hx hb dX0_program_59 ?_
        refine lv_iand hx hb dX0_program_60 ?_
        refine va_iast hx hb hK hP hD hS 1 0 rfl rfl (tt_in32 c_3 c_5) dX0_program_61 (fun H locs hP hD hS => ?_)
        have hP : va_P (dC, dI) ttCl [(qf, .inr (0, [.ref qb, .ref qe, .int od_1, .int ot_1, .int tm_1])), (qb, .inl (cA, 32, .inl (upd b_1 ((pg * 16) + a).toNatClampNeg ((b_1 ((pg * 16) + a).toNatClampNeg) &&& (v ||| (255 ^^^ (-1))))))), (qe, .inl (cE, 2, .inl g_1))] H := hP
        have hD : va_D A [(qf, .inr (0, [.ref qb, .ref qe, .int od_1, .int ot_1, .int tm_1])), (qb, .inl (cA, 32, .inl (upd b_1 ((pg * 16) + a).toNatClampNeg ((b_1 ((pg * 16) + a).toNatClampNeg) &&& (v ||| (255 ^^^ (-1))))))), (qe, .inl (cE, 2, .inl g_1))] := hD
        refine lv_iload hx hb dX0_program_62 (lv_at hl 2 rfl) ?_
        refine lv_if_ne (tgt := 71) hx hb dX0_program_64 (by decide) (fun c_7 => ?_) (fun c_7 => ?_)
        · exact absurd c_2 c_7
        · refine lv_iconst (v := 1) hx hb dX0_program_67 (by decide) ?_
          refine lv_goto (tgt := 72) hx hb dX0_program_68 (by decide) ?_
          have hP9 := hP.sub (ws' := [(qf, .inr (0, [.ref qb, .ref qe, .int od_1, .int ot_1, .int tm_1])), (qb, .inl (cA, 32, .inl (upd b_1 ((pg * 16) + a).toNatClampNeg ((b_1 ((pg * 16) + a).toNatClampNeg) &&& (v ||| (255 ^^^ (-1))))))), (qe, .inl (cE, 2, .inl g_1))]) [0, 1, 2] rfl
          have hD9 := hD.sub (ws' := [(qf, .inr (0, [.ref qb, .ref qe, .int od_1, .int ot_1, .int tm_1])), (qb, .inl (cA, 32, .inl (upd b_1 ((pg * 16) + a).toNatClampNeg ((b_1 ((pg * 16) + a).toNatClampNeg) &&& (v ||| (255 ^^^ (-1))))))), (qe, .inl (cE, 2, .inl g_1))]) [0, 1, 2] (by decide) rfl
          have hK9 := hK.sub (tys' := [(cA, .int), (cE, .int)]) [0, 1] rfl
          exact W.zret (v := 1) hx hb hr (by first | rfl | decide) (fun t ht hW => ⟨⟨1, (upd b_1 ((pg * 16) + a).toNatClampNeg ((b_1 ((pg * 16) + a).toNatClampNeg) &&& (v ||| (255 ^^^ (-1)))), g_1, od_1, ot_1, tm_1), rfl, (by first | (simp only [tt_prog, tt_pr, e_1, c_2, c_3, c_5, reduceIte, eq_self]; done) | (simp [tt_prog, tt_pr, e_1, c_2, c_3, c_5]; done)), by rw [ht]; exact hP9, va_K.moved hW.alike hK9, hD9⟩, hS.F ht⟩) hS.2.2 dX0_program_72
  · refine lv_aload_n hx hb dX0_program_11 rfl (lv_at hl 1 rfl) ?_
    refine va_get (D := (dC, dI)) (ci := 0) (v := .int tm_1) (C := RX0) (T := TX0) (N := 5) hx hb hts (by decide +kernel) hown hK hP 0 rfl rfl 4 (by decide) (hts (.fieldLink RX0 23 "TornTryCounter$Flash" "tearMask" "I") (by decide +kernel)) (fun _ h9 => h9) rfl dX0_program_12 ?_
    refine lv_goto (tgt := 21) hx hb dX0_program_15 (by decide) ?_
    refine lv_istore (lv' := [(5, .int tm_1), (4, .int r_1), (0, .ref qf), (1, .int pg), (2, .int a), (3, .int v)]) hx hb dX0_program_21 hl (by decide) rfl (fun ls hl => ?_)
    refine lv_iload_n hx hb dX0_program_23 rfl (lv_at hl 3 rfl) ?_
    refine lv_bipush (v := 16) hx hb dX0_program_24 (by decide) ?_
    refine lv_imul hx hb dX0_program_26 ?_
    refine lv_iload_n hx hb dX0_program_27 rfl (lv_at hl 4 rfl) ?_
    refine lv_iadd hx hb dX0_program_28 ?_
    refine lv_istore (lv' := [(6, .int ((pg * 16) + a)), (5, .int tm_1), (4, .int r_1), (0, .ref qf), (1, .int pg), (2, .int a), (3, .int v)]) hx hb dX0_program_29 hl (by decide) rfl (fun ls hl => ?_)
    refine lv_iload hx hb dX0_program_31 (lv_at hl 0 rfl) ?_
    refine lv_if_lt (tgt := 62) hx hb dX0_program_33 (by decide) (fun c_8 => ?_) (fun c_8 => ?_)
    · refine lv_iload hx hb dX0_program_62 (lv_at hl 2 rfl) ?_
      refine lv_if_ne (tgt := 71) hx hb dX0_program_64 (by decide) (fun c_9 => ?_) (fun c_9 => ?_)
      · refine lv_iconst (v := 0) hx hb dX0_program_71 (by decide) ?_
        have hP9 := hP.sub (ws' := [(qf, .inr (0, [.ref qb, .ref qe, .int od_1, .int ot_1, .int tm_1])), (qb, .inl (cA, 32, .inl b_1)), (qe, .inl (cE, 2, .inl g_1))]) [0, 1, 2] rfl
        have hD9 := hD.sub (ws' := [(qf, .inr (0, [.ref qb, .ref qe, .int od_1, .int ot_1, .int tm_1])), (qb, .inl (cA, 32, .inl b_1)), (qe, .inl (cE, 2, .inl g_1))]) [0, 1, 2] (by decide) rfl
        have hK9 := hK.sub (tys' := [(cA, .int), (cE, .int)]) [0, 1] rfl
        exact W.zret (v := 0) hx hb hr (by first | rfl | decide) (fun t ht hW => ⟨⟨0, (b_1, g_1, od_1, ot_1, tm_1), rfl, (by first | (simp only [tt_prog, tt_pr, e_1, c_2, c_8, reduceIte, eq_self]; done) | (simp [tt_prog, tt_pr, e_1, c_2, c_8]; done)), by rw [ht]; exact hP9, va_K.moved hW.alike hK9, hD9⟩, hS.F ht⟩) hS.2.2 dX0_program_72
      · exact absurd c_9 c_2
    · refine lv_iload hx hb dX0_program_36 (lv_at hl 0 rfl) ?_
      refine lv_aload_n hx hb dX0_program_38 rfl (lv_at hl 3 rfl) ?_
      refine va_get (D := (dC, dI)) (ci := 0) (v := .ref qb) (C := RX0) (T := TX0) (N := 5) hx hb hts (by decide +kernel) hown hK hP 0 rfl rfl 0 (by decide) (hts (.fieldLink RX0 9 "TornTryCounter$Flash" "bytes" "[I") (by decide +kernel)) (fun _ h9 => h9) rfl dX0_program_39 ?_
      refine va_alen (v := 32) hx hb hK hP 1 0 rfl rfl rfl dX0_program_42 ?_
      refine lv_icmp_ge (tgt := 62) hx hb dX0_program_43 (by decide) (fun c_10 => ?_) (fun c_10 => ?_)
      · refine lv_iload hx hb dX0_program_62 (lv_at hl 2 rfl) ?_
        refine lv_if_ne (tgt := 71) hx hb dX0_program_64 (by decide) (fun c_11 => ?_) (fun c_11 => ?_)
        · refine lv_iconst (v := 0) hx hb dX0_program_71 (by decide) ?_
          have hP9 := hP.sub (ws' := [(qf, .inr (0, [.ref qb, .ref qe, .int od_1, .int ot_1, .int tm_1])), (qb, .inl (cA, 32, .inl b_1)), (qe, .inl (cE, 2, .inl g_1))]) [0, 1, 2] rfl
          have hD9 := hD.sub (ws' := [(qf, .inr (0, [.ref qb, .ref qe, .int od_1, .int ot_1, .int tm_1])), (qb, .inl (cA, 32, .inl b_1)), (qe, .inl (cE, 2, .inl g_1))]) [0, 1, 2] (by decide) rfl
          have hK9 := hK.sub (tys' := [(cA, .int), (cE, .int)]) [0, 1] rfl
          exact W.zret (v := 0) hx hb hr (by first | rfl | decide) (fun t ht hW => ⟨⟨0, (b_1, g_1, od_1, ot_1, tm_1), rfl, (by first | (simp only [tt_prog, tt_pr, e_1, c_2, c_8, c_10, reduceIte, eq_self]; done) | (simp [tt_prog, tt_pr, e_1, c_2, c_8, c_10]; done)), by rw [ht]; exact hP9, va_K.moved hW.alike hK9, hD9⟩, hS.F ht⟩) hS.2.2 dX0_program_72
        · exact absurd c_11 c_2
      · refine lv_aload_n hx hb dX0_program_46 rfl (lv_at hl 3 rfl) ?_
        refine va_get (D := (dC, dI)) (ci := 0) (v := .ref qb) (C := RX0) (T := TX0) (N := 5) hx hb hts (by decide +kernel) hown hK hP 0 rfl rfl 0 (by decide) (hts (.fieldLink RX0 9 "TornTryCounter$Flash" "bytes" "[I") (by decide +kernel)) (fun _ h9 => h9) rfl dX0_program_47 ?_
        refine lv_iload hx hb dX0_program_50 (lv_at hl 0 rfl) ?_
        refine lv_dup2_11 hx hb dX0_program_52 rfl rfl ?_
        refine va_iald hx hb hK hP 1 0 rfl rfl (tt_in32 c_8 c_10) dX0_program_53 ?_
        refine lv_iload_n hx hb dX0_program_54 rfl (lv_at hl 6 rfl) ?_
        refine lv_iload hx hb dX0_program_55 (lv_at hl 1 rfl) ?_
        refine lv_iconst (v := (-1)) hx hb dX0_program_57 (by decide) ?_
        refine lv_ixor hx hb dX0_program_58 ?_
        refine lv_ior hx hb dX0_program_59 ?_
        refine lv_iand hx hb dX0_program_60 ?_
        refine va_iast hx hb hK hP hD hS 1 0 rfl rfl (tt_in32 c_8 c_10) dX0_program_61 (fun H locs hP hD hS => ?_)
        have hP : va_P (dC, dI) ttCl [(qf, .inr (0, [.ref qb, .ref qe, .int od_1, .int ot_1, .int tm_1])), (qb, .inl (cA, 32, .inl (upd b_1 ((pg * 16) + a).toNatClampNeg ((b_1 ((pg * 16) + a).toNatClampNeg) &&& (v ||| (tm_1 ^^^ (-1))))))), (qe, .inl (cE, 2, .inl g_1))] H := hP
        have hD : va_D A [(qf, .inr (0, [.ref qb, .ref qe, .int od_1, .int ot_1, .int tm_1])), (qb, .inl (cA, 32, .inl (upd b_1 ((pg * 16) + a).toNatClampNeg ((b_1 ((pg * 16) + a).toNatClampNeg) &&& (v ||| (tm_1 ^^^ (-1))))))), (qe, .inl (cE, 2, .inl g_1))] := hD
        refine lv_iload hx hb dX0_program_62 (lv_at hl 2 rfl) ?_
        refine lv_if_ne (tgt := 71) hx hb dX0_program_64 (by decide) (fun c_12 => ?_) (fun c_12 => ?_)
        · refine lv_iconst (v := 0) hx hb dX0_program_71 (by decide) ?_
          have hP9 := hP.sub (ws' := [(qf, .inr (0, [.ref qb, .ref qe, .int od_1, .int ot_1, .int tm_1])), (qb, .inl (cA, 32, .inl (upd b_1 ((pg * 16) + a).toNatClampNeg ((b_1 ((pg * 16) + a).toNatClampNeg) &&& (v ||| (tm_1 ^^^ (-1))))))), (qe, .inl (cE, 2, .inl g_1))]) [0, 1, 2] rfl
          have hD9 := hD.sub (ws' := [(qf, .inr (0, [.ref qb, .ref qe, .int od_1, .int ot_1, .int tm_1])), (qb, .inl (cA, 32, .inl (upd b_1 ((pg * 16) + a).toNatClampNeg ((b_1 ((pg * 16) + a).toNatClampNeg) &&& (v ||| (tm_1 ^^^ (-1))))))), (qe, .inl (cE, 2, .inl g_1))]) [0, 1, 2] (by decide) rfl
          have hK9 := hK.sub (tys' := [(cA, .int), (cE, .int)]) [0, 1] rfl
          exact W.zret (v := 0) hx hb hr (by first | rfl | decide) (fun t ht hW => ⟨⟨0, (upd b_1 ((pg * 16) + a).toNatClampNeg ((b_1 ((pg * 16) + a).toNatClampNeg) &&& (v ||| (tm_1 ^^^ (-1)))), g_1, od_1, ot_1, tm_1), rfl, (by first | (simp only [tt_prog, tt_pr, e_1, c_2, c_8, c_10, reduceIte, eq_self]; done) | (simp [tt_prog, tt_pr, e_1, c_2, c_8, c_10]; done)), by rw [ht]; exact hP9, va_K.moved hW.alike hK9, hD9⟩, hS.F ht⟩) hS.2.2 dX0_program_72
        · exact absurd c_12 c_2
set_option maxHeartbeats 4000000 in
set_option maxRecDepth 100000 in
theorem c_F_tearLater (l : Launch) (dC : Nat → ClassId) (dI : Nat → Nat → Nat) (cA cE : ClassId) (qf qb qe : Nat) (sz : Nat) (b g : Nat → Int32) (od ot tm : Int32) (n1 m1 : Int32) : Met l yX0_tearLater wsX0_tearLater ({ frames := 0, cells := 0, slots := 0, locals := 0 }) (va_Pc [.ref qf, .int n1, .int m1] (fun U => U.heap.size = sz ∧ va_P (dC, dI) ttCl [(qf, .inr (0, [.ref qb, .ref qe, .int od, .int ot, .int tm])), (qb, .inl (cA, 32, .inl b)), (qe, .inl (cE, 2, .inl g))] U.heap ∧ va_K (dC, dI) ttCl [(cA, .int), (cE, .int)] U ∧ va_D (fun _ => True) [(qf, .inr (0, [.ref qb, .ref qe, .int od, .int ot, .int tm])), (qb, .inl (cA, 32, .inl b)), (qe, .inl (cE, 2, .inl g))])) (va_Qv (fun (u : tt_F) => (b, g, od, n1, m1) = u) (fun (u : tt_F) (t : State) => at_F dC dI cA cE (va_A [(qf, .inr (0, [.ref qb, .ref qe, .int od, .int ot, .int tm])), (qb, .inl (cA, 32, .inl b)), (qe, .inl (cE, 2, .inl g))] sz) qf qb qe u t) (va_A [(qf, .inr (0, [.ref qb, .ref qe, .int od, .int ot, .int tm])), (qb, .inl (cA, 32, .inl b)), (qe, .inl (cE, 2, .inl g))] sz)) 0 0 (va_A [(qf, .inr (0, [.ref qb, .ref qe, .int od, .int ot, .int tm])), (qb, .inl (cA, 32, .inl b)), (qe, .inl (cE, 2, .inl g))] sz) := by
  refine Met.ofW (cc := cX0_tearLater) (maxL := 3) (ret := none) (by decide) rfl ?_
  intro p e s m args below meth c s₁ B hml hv
  obtain ⟨rfl, hsz, hP, hK, hD0⟩ := hv
  have hx := B.exec
  have hb := B.bytes
  have hr := B.returns
  have hts := atoms_spec (ws := wsX0_tearLater) B.pre
  have hown : s.vm.findClass RX0 = some m.cls := findClass_of_methodNamed B.named
  have hlocks := B.notSynchronized
  subst hsz
  have hD := hD0.self (sz := s.heap.size)
  generalize hAe : va_A [(qf, .inr (0, [.ref qb, .ref qe, .int od, .int ot, .int tm])), (qb, .inl (cA, 32, .inl b)), (qe, .inl (cE, 2, .inl g))] s.heap.size = A at hD ⊢
  have hA : ∀ q : Nat, s.heap.size ≤ q → A q := fun q h => by rw [← hAe]; exact Or.inr h
  have hS : va_S A s.heap s.heap [] := va_S.rf
  have hP : va_P (dC, dI) ttCl [(qf, .inr (0, [.ref qb, .ref qe, .int od, .int ot, .int tm])), (qb, .inl (cA, 32, .inl b)), (qe, .inl (cE, 2, .inl g))] s.heap := hP
  have hl := lv_entry ([.ref qf, .int n1, .int m1]) (n := 3) (Nat.le_of_ble_eq_true rfl)
  rw [lg_entry_eq]
  generalize (lg_sl ([.ref qf, .int n1, .int m1]) ++ List.replicate (3 - (lg_sl ([.ref qf, .int n1, .int m1])).length) Slot.unset).toArray = ls at hl ⊢
  have hl : lv_has ls 3 [(0, .ref qf), (1, .int n1), (2, .int m1)] := hl
  refine lv_aload_n hx hb dX0_tearLater_0 rfl (lv_at hl 0 rfl) ?_
  refine lv_iload_n hx hb dX0_tearLater_1 rfl (lv_at hl 1 rfl) ?_
  refine va_put (D := (dC, dI)) (ci := 0) (v := .int n1) (ty := .int) (C := RX0) (T := TX0) (N := 5) hx hb hts (by decide +kernel) tyX0 tyX0_ok nmX0 hown hK hP hD hS 0 rfl rfl 3 (by decide) (hts (.fieldLink RX0 20 "TornTryCounter$Flash" "operationsToTear" "I") (by decide +kernel)) (fun _ h9 => h9) rfl (by decide +kernel) rfl rfl (Nat.le_of_ble_eq_true rfl) dX0_tearLater_2 (fun H locs hP hD hS => ?_)
  have hP : va_P (dC, dI) ttCl [(qf, .inr (0, [.ref qb, .ref qe, .int od, .int n1, .int tm])), (qb, .inl (cA, 32, .inl b)), (qe, .inl (cE, 2, .inl g))] H := hP
  have hD : va_D A [(qf, .inr (0, [.ref qb, .ref qe, .int od, .int n1, .int tm])), (qb, .inl (cA, 32, .inl b)), (qe, .inl (cE, 2, .inl g))] := hD
  refine lv_aload_n hx hb dX0_tearLater_5 rfl (lv_at hl 0 rfl) ?_
  refine lv_iload_n hx hb dX0_tearLater_6 rfl (lv_at hl 2 rfl) ?_
  refine va_put (D := (dC, dI)) (ci := 0) (v := .int m1) (ty := .int) (C := RX0) (T := TX0) (N := 5) hx hb hts (by decide +kernel) tyX0 tyX0_ok nmX0 hown hK hP hD hS 0 rfl rfl 4 (by decide) (hts (.fieldLink RX0 23 "TornTryCounter$Flash" "tearMask" "I") (by decide +kernel)) (fun _ h9 => h9) rfl (by decide +kernel) rfl rfl (Nat.le_of_ble_eq_true rfl) dX0_tearLater_7 (fun H locs hP hD hS => ?_)
  have hP : va_P (dC, dI) ttCl [(qf, .inr (0, [.ref qb, .ref qe, .int od, .int n1, .int m1])), (qb, .inl (cA, 32, .inl b)), (qe, .inl (cE, 2, .inl g))] H := hP
  have hD : va_D A [(qf, .inr (0, [.ref qb, .ref qe, .int od, .int n1, .int m1])), (qb, .inl (cA, 32, .inl b)), (qe, .inl (cE, 2, .inl g))] := hD
  have hP9 := hP.sub (ws' := [(qf, .inr (0, [.ref qb, .ref qe, .int od, .int n1, .int m1])), (qb, .inl (cA, 32, .inl b)), (qe, .inl (cE, 2, .inl g))]) [0, 1, 2] rfl
  have hD9 := hD.sub (ws' := [(qf, .inr (0, [.ref qb, .ref qe, .int od, .int n1, .int m1])), (qb, .inl (cA, 32, .inl b)), (qe, .inl (cE, 2, .inl g))]) [0, 1, 2] (by decide) rfl
  have hK9 := hK.sub (tys' := [(cA, .int), (cE, .int)]) [0, 1] rfl
  exact W.vret hx hb hr (fun t ht hW => ⟨⟨(b, g, od, n1, m1), rfl, rfl, by rw [ht]; exact hP9, va_K.moved hW.alike hK9, hD9⟩, hS.F ht⟩) hS.2.2 dX0_tearLater_10
set_option maxHeartbeats 4000000 in
set_option maxRecDepth 100000 in
theorem c_F_operationCount (l : Launch) (dC : Nat → ClassId) (dI : Nat → Nat → Nat) (cA cE : ClassId) (qf qb qe : Nat) (sz : Nat) (b g : Nat → Int32) (od ot tm : Int32) : Met l yX0_operationCount wsX0_operationCount ({ frames := 0, cells := 0, slots := 0, locals := 0 }) (va_Pc [.ref qf] (fun U => U.heap.size = sz ∧ va_P (dC, dI) ttCl [(qf, .inr (0, [.ref qb, .ref qe, .int od, .int ot, .int tm])), (qb, .inl (cA, 32, .inl b)), (qe, .inl (cE, 2, .inl g))] U.heap ∧ va_K (dC, dI) ttCl [(cA, .int), (cE, .int)] U ∧ va_D (fun _ => True) [(qf, .inr (0, [.ref qb, .ref qe, .int od, .int ot, .int tm])), (qb, .inl (cA, 32, .inl b)), (qe, .inl (cE, 2, .inl g))])) (va_Qi (fun (r : Int32) (_ : Unit) => r = od) (fun (_ : Unit) (t : State) => at_F dC dI cA cE (va_A [(qf, .inr (0, [.ref qb, .ref qe, .int od, .int ot, .int tm])), (qb, .inl (cA, 32, .inl b)), (qe, .inl (cE, 2, .inl g))] sz) qf qb qe (b, g, od, ot, tm) t) (va_A [(qf, .inr (0, [.ref qb, .ref qe, .int od, .int ot, .int tm])), (qb, .inl (cA, 32, .inl b)), (qe, .inl (cE, 2, .inl g))] sz)) 0 0 (va_A [(qf, .inr (0, [.ref qb, .ref qe, .int od, .int ot, .int tm])), (qb, .inl (cA, 32, .inl b)), (qe, .inl (cE, 2, .inl g))] sz) := by
  refine Met.ofW (cc := cX0_operationCount) (maxL := 1) (ret := (some .int)) (by decide) rfl ?_
  intro p e s m args below meth c s₁ B hml hv
  obtain ⟨rfl, hsz, hP, hK, hD0⟩ := hv
  have hx := B.exec
  have hb := B.bytes
  have hr := B.returns
  have hts := atoms_spec (ws := wsX0_operationCount) B.pre
  have hown : s.vm.findClass RX0 = some m.cls := findClass_of_methodNamed B.named
  have hlocks := B.notSynchronized
  subst hsz
  have hD := hD0.self (sz := s.heap.size)
  generalize hAe : va_A [(qf, .inr (0, [.ref qb, .ref qe, .int od, .int ot, .int tm])), (qb, .inl (cA, 32, .inl b)), (qe, .inl (cE, 2, .inl g))] s.heap.size = A at hD ⊢
  have hA : ∀ q : Nat, s.heap.size ≤ q → A q := fun q h => by rw [← hAe]; exact Or.inr h
  have hS : va_S A s.heap s.heap [] := va_S.rf
  have hP : va_P (dC, dI) ttCl [(qf, .inr (0, [.ref qb, .ref qe, .int od, .int ot, .int tm])), (qb, .inl (cA, 32, .inl b)), (qe, .inl (cE, 2, .inl g))] s.heap := hP
  have hl := lv_entry ([.ref qf]) (n := 1) (Nat.le_of_ble_eq_true rfl)
  rw [lg_entry_eq]
  generalize (lg_sl ([.ref qf]) ++ List.replicate (1 - (lg_sl ([.ref qf])).length) Slot.unset).toArray = ls at hl ⊢
  have hl : lv_has ls 1 [(0, .ref qf)] := hl
  refine lv_aload_n hx hb dX0_operationCount_0 rfl (lv_at hl 0 rfl) ?_
  refine va_get (D := (dC, dI)) (ci := 0) (v := .int od) (C := RX0) (T := TX0) (N := 5) hx hb hts (by decide +kernel) hown hK hP 0 rfl rfl 2 (by decide) (hts (.fieldLink RX0 16 "TornTryCounter$Flash" "operationsDone" "I") (by decide +kernel)) (fun _ h9 => h9) rfl dX0_operationCount_1 ?_
  have hP9 := hP.sub (ws' := [(qf, .inr (0, [.ref qb, .ref qe, .int od, .int ot, .int tm])), (qb, .inl (cA, 32, .inl b)), (qe, .inl (cE, 2, .inl g))]) [0, 1, 2] rfl
  have hD9 := hD.sub (ws' := [(qf, .inr (0, [.ref qb, .ref qe, .int od, .int ot, .int tm])), (qb, .inl (cA, 32, .inl b)), (qe, .inl (cE, 2, .inl g))]) [0, 1, 2] (by decide) rfl
  have hK9 := hK.sub (tys' := [(cA, .int), (cE, .int)]) [0, 1] rfl
  exact W.iret (v := od) hx hb hr (fun t ht hW => ⟨⟨od, (), rfl, rfl, by rw [ht]; exact hP9, va_K.moved hW.alike hK9, hD9⟩, hS.F ht⟩) hS.2.2 dX0_operationCount_4
set_option maxHeartbeats 4000000 in
set_option maxRecDepth 100000 in
theorem c_F_eraseCount (l : Launch) (dC : Nat → ClassId) (dI : Nat → Nat → Nat) (cA cE : ClassId) (qf qb qe : Nat) (sz : Nat) (b g : Nat → Int32) (od ot tm : Int32) (pg : Int32) : Met l yX0_eraseCount wsX0_eraseCount ({ frames := 1, cells := 0, slots := 0, locals := 20 }) (va_Pc [.ref qf, .int pg] (fun U => U.heap.size = sz ∧ va_P (dC, dI) ttCl [(qf, .inr (0, [.ref qb, .ref qe, .int od, .int ot, .int tm])), (qb, .inl (cA, 32, .inl b)), (qe, .inl (cE, 2, .inl g))] U.heap ∧ va_K (dC, dI) ttCl [(cA, .int), (cE, .int)] U ∧ va_D (fun _ => True) [(qf, .inr (0, [.ref qb, .ref qe, .int od, .int ot, .int tm])), (qb, .inl (cA, 32, .inl b)), (qe, .inl (cE, 2, .inl g))])) (va_Qi (fun (r : Int32) (_ : Unit) => r = tt_ec g pg) (fun (_ : Unit) (t : State) => at_F dC dI cA cE (va_A [(qf, .inr (0, [.ref qb, .ref qe, .int od, .int ot, .int tm])), (qb, .inl (cA, 32, .inl b)), (qe, .inl (cE, 2, .inl g))] sz) qf qb qe (b, g, od, ot, tm) t) (va_A [(qf, .inr (0, [.ref qb, .ref qe, .int od, .int ot, .int tm])), (qb, .inl (cA, 32, .inl b)), (qe, .inl (cE, 2, .inl g))] sz)) 0 0 (va_A [(qf, .inr (0, [.ref qb, .ref qe, .int od, .int ot, .int tm])), (qb, .inl (cA, 32, .inl b)), (qe, .inl (cE, 2, .inl g))] sz) := by
  refine Met.ofW (cc := cX0_eraseCount) (maxL := 2) (ret := (some .int)) (by decide) rfl ?_
  intro p e s m args below meth c s₁ B hml hv
  obtain ⟨rfl, hsz, hP, hK, hD0⟩ := hv
  have hx := B.exec
  have hb := B.bytes
  have hr := B.returns
  have hts := atoms_spec (ws := wsX0_eraseCount) B.pre
  have hown : s.vm.findClass RX0 = some m.cls := findClass_of_methodNamed B.named
  have hlocks := B.notSynchronized
  subst hsz
  have hD := hD0.self (sz := s.heap.size)
  generalize hAe : va_A [(qf, .inr (0, [.ref qb, .ref qe, .int od, .int ot, .int tm])), (qb, .inl (cA, 32, .inl b)), (qe, .inl (cE, 2, .inl g))] s.heap.size = A at hD ⊢
  have hA : ∀ q : Nat, s.heap.size ≤ q → A q := fun q h => by rw [← hAe]; exact Or.inr h
  have hS : va_S A s.heap s.heap [] := va_S.rf
  have hP : va_P (dC, dI) ttCl [(qf, .inr (0, [.ref qb, .ref qe, .int od, .int ot, .int tm])), (qb, .inl (cA, 32, .inl b)), (qe, .inl (cE, 2, .inl g))] s.heap := hP
  have hl := lv_entry ([.ref qf, .int pg]) (n := 2) (Nat.le_of_ble_eq_true rfl)
  rw [lg_entry_eq]
  generalize (lg_sl ([.ref qf, .int pg]) ++ List.replicate (2 - (lg_sl ([.ref qf, .int pg])).length) Slot.unset).toArray = ls at hl ⊢
  have hl : lv_has ls 2 [(0, .ref qf), (1, .int pg)] := hl
  refine lv_iload_n hx hb dX0_eraseCount_0 rfl (lv_at hl 1 rfl) ?_
  have hPc := hP.sub (ws' := []) [] rfl
  have hDc := hD.sub (ws' := []) [] (by decide) rfl
  have hKc := hK.sub (tys' := []) [] rfl
  have hFc := va_free (wc := []) hD hS hA [] rfl
  refine va_calli (va_runS (As := [.int pg]) (rest := []) ⟨hx, hb, hml, hown, hts⟩ (c_F_isPage l dC dI s.heap.size pg) (va_cwS 1 hts gX0_eraseCount_X0_isPage rfl rfl rfl (by decide +kernel) ⟨Nat.le_of_ble_eq_true rfl, Nat.le_of_ble_eq_true rfl⟩) ⟨fun a U g mk q => by obtain ⟨q0, q1, qP, qK, qD⟩ := q; exact ⟨q0, q1, qP, va_K.moved (u := U) (U := U.calling g mk a) (Vm.Alike.refl U.vm) qK, qD⟩, fun U hU hW => ⟨rfl, by rw [hU], by rw [hU]; exact hPc, va_K.moved hW.alike hKc, hDc.weaken (fun _ _ _ _ => trivial)⟩⟩ rfl rfl hl.1 rfl (lv_room (Nat.le_of_ble_eq_true rfl)) dX0_eraseCount_1 ⟨(Nat.zero_le _), (Nat.zero_le _)⟩) hS (fun q _ h => hFc q h) hFc (fun r_1 u t H locs ht hvm hw hB hz1 hk1 hS => ?_)
  have hw : tt_ip pg = r_1 := hw.symm
  subst hw
  obtain ⟨hP1, hK1, hD1⟩ := hB
  rw [ht] at hP1
  obtain ⟨hP, hD⟩ := va_join (wr := [(qf, .inr (0, [.ref qb, .ref qe, .int od, .int ot, .int tm])), (qb, .inl (cA, 32, .inl b)), (qe, .inl (cE, 2, .inl g))]) (w1 := []) hP hD [] [0, 1, 2] rfl rfl (by decide) (by decide) hk1 hFc hP1 hD1
  have hP : va_P (dC, dI) ttCl [(qf, .inr (0, [.ref qb, .ref qe, .int od, .int ot, .int tm])), (qb, .inl (cA, 32, .inl b)), (qe, .inl (cE, 2, .inl g))] H := hP
  have hD : va_D A [(qf, .inr (0, [.ref qb, .ref qe, .int od, .int ot, .int tm])), (qb, .inl (cA, 32, .inl b)), (qe, .inl (cE, 2, .inl g))] := hD
  refine lv_if_eq (tgt := 16) hx hb dX0_eraseCount_4 (by decide) (fun c_2 => ?_) (fun c_2 => ?_)
  · refine lv_iconst (v := 0) hx hb dX0_eraseCount_16 (by decide) ?_
    have hP9 := hP.sub (ws' := [(qf, .inr (0, [.ref qb, .ref qe, .int od, .int ot, .int tm])), (qb, .inl (cA, 32, .inl b)), (qe, .inl (cE, 2, .inl g))]) [0, 1, 2] rfl
    have hD9 := hD.sub (ws' := [(qf, .inr (0, [.ref qb, .ref qe, .int od, .int ot, .int tm])), (qb, .inl (cA, 32, .inl b)), (qe, .inl (cE, 2, .inl g))]) [0, 1, 2] (by decide) rfl
    have hK9 := hK.sub (tys' := [(cA, .int), (cE, .int)]) [0, 1] rfl
    exact W.iret (v := 0) hx hb hr (fun t ht hW => ⟨⟨0, (), rfl, (by first | (simp only [tt_ec, c_2, reduceIte, eq_self]; done) | (simp [tt_ec, c_2]; done)), by rw [ht]; exact hP9, va_K.moved hW.alike hK9, hD9⟩, hS.F ht⟩) hS.2.2 dX0_eraseCount_17
  · refine lv_aload_n hx hb dX0_eraseCount_7 rfl (lv_at hl 0 rfl) ?_
    refine va_get (D := (dC, dI)) (ci := 0) (v := .ref qe) (C := RX0) (T := TX0) (N := 5) hx hb hts (by decide +kernel) hown hK hP 0 rfl rfl 1 (by decide) (hts (.fieldLink RX0 13 "TornTryCounter$Flash" "erases" "[I") (by decide +kernel)) (fun _ h9 => h9) rfl dX0_eraseCount_8 ?_
    refine lv_iload_n hx hb dX0_eraseCount_11 rfl (lv_at hl 1 rfl) ?_
    refine va_iald hx hb hK hP 2 1 rfl rfl (tt_inP c_2) dX0_eraseCount_12 ?_
    refine lv_goto (tgt := 17) hx hb dX0_eraseCount_13 (by decide) ?_
    have hP9 := hP.sub (ws' := [(qf, .inr (0, [.ref qb, .ref qe, .int od, .int ot, .int tm])), (qb, .inl (cA, 32, .inl b)), (qe, .inl (cE, 2, .inl g))]) [0, 1, 2] rfl
    have hD9 := hD.sub (ws' := [(qf, .inr (0, [.ref qb, .ref qe, .int od, .int ot, .int tm])), (qb, .inl (cA, 32, .inl b)), (qe, .inl (cE, 2, .inl g))]) [0, 1, 2] (by decide) rfl
    have hK9 := hK.sub (tys' := [(cA, .int), (cE, .int)]) [0, 1] rfl
    exact W.iret (v := g pg.toNatClampNeg) hx hb hr (fun t ht hW => ⟨⟨g pg.toNatClampNeg, (), rfl, (by first | (simp only [tt_ec, c_2, reduceIte, eq_self]; done) | (simp [tt_ec, c_2]; done)), by rw [ht]; exact hP9, va_K.moved hW.alike hK9, hD9⟩, hS.F ht⟩) hS.2.2 dX0_eraseCount_17
