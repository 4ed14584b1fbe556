set_option maxHeartbeats 4000000 in
set_option maxRecDepth 100000 in
theorem c_F_init (l : Launch) (dC : Nat → ClassId) (dI : Nat → Nat → Nat) (qf sz : Nat) : Met l yX0_init wsX0_init ({ frames := 1, cells := 2, slots := 34, locals := 12 }) (va_Pc [.ref qf] (fun U => U.heap.size = sz ∧ va_P (dC, dI) ttCl [(qf, .inr (0, [.null, .null, .int 0, .int 0, .int 0]))] U.heap ∧ va_K (dC, dI) ttCl [] U ∧ va_D (fun _ => True) [(qf, .inr (0, [.null, .null, .int 0, .int 0, .int 0]))])) (va_Qv (fun (_ : Unit) => True) (fun (_ : Unit) (t : State) => ∃ (qb qe : Nat) (cA cE : ClassId), at_F dC dI cA cE (va_A [(qf, .inr (0, [.null, .null, .int 0, .int 0, .int 0]))] sz) qf qb qe (tt_fl 32, (fun _ => 0), 0, 0, 0) t) (va_A [(qf, .inr (0, [.null, .null, .int 0, .int 0, .int 0]))] sz)) 2 34 (va_A [(qf, .inr (0, [.null, .null, .int 0, .int 0, .int 0]))] sz) := by
  refine Met.ofW (cc := cX0_init) (maxL := 2) (ret := none) (by decide) rfl ?_
  intro p e s m args below meth c s₁ B hml hv
  obtain ⟨rfl, hsz, hP, hK, hD0⟩ := hv
  have hx := B.exec
  have hb := B.bytes
  have hr := B.returns
  have hts := atoms_spec (ws := wsX0_init) B.pre
  have hown : s.vm.findClass RX0 = some m.cls := findClass_of_methodNamed B.named
  have hlocks := B.notSynchronized
  have hin : meth.name = "<init>" := (name_of_methodNamed B.named B.method).1
  subst hsz
  have hD := hD0.self (sz := s.heap.size)
  generalize hAe : va_A [(qf, .inr (0, [.null, .null, .int 0, .int 0, .int 0]))] s.heap.size = A at hD ⊢
  have hA : ∀ q : Nat, s.heap.size ≤ q → A q := fun q h => by rw [← hAe]; exact Or.inr h
  have hS : va_S A s.heap s.heap [] := va_S.rf
  have hP : va_P (dC, dI) ttCl [(qf, .inr (0, [.null, .null, .int 0, .int 0, .int 0]))] s.heap := hP
  have hl := lv_entry ([.ref qf]) (n := 2) (Nat.le_of_ble_eq_true rfl)
  rw [lg_entry_eq]
  generalize (lg_sl ([.ref qf]) ++ List.replicate (2 - (lg_sl ([.ref qf])).length) Slot.unset).toArray = ls at hl ⊢
  have hl : lv_has ls 2 [(0, .ref qf)] := hl
  refine lv_aload_n hx hb dX0_init_0 rfl (lv_at hl 0 rfl) ?_
  refine W.objInit hx hb hown (hts (.methodLink RX0 1 objectInit) (by decide +kernel)) (hts (.instanceMethod objectInit) (by decide +kernel)) (hts (.code objectInit ⟨#[0xb1]⟩ 1 none) (by decide +kernel)) rfl (by rw [hml]; exact hl.1) rfl dX0_init_1 (Nat.le_of_ble_eq_true rfl) (Nat.le_of_ble_eq_true rfl) ?_
  refine W.eq (g2 := F0 m 4 ls []) rfl ?_
  refine lv_aload_n hx hb dX0_init_4 rfl (lv_at hl 0 rfl) ?_
  refine lv_bipush (v := 32) hx hb dX0_init_5 (by decide) ?_
  refine va_newa (atype := .int) (N' := 32) (a0 := (32, .inl (fun _ => 0))) (ty := .int) (n := 32) hx hb (hts (.arrayClass .int) (by decide +kernel)) rfl hK hP hD hS hA (fun _ => rfl) (by decide) (by decide) (by decide) (Nat.le_of_ble_eq_true rfl) (Nat.le_of_ble_eq_true rfl) dX0_init_7 (fun qa7 cA7 H hK hP hD hS => ?_)
  have hP : va_P (dC, dI) ttCl [(qf, .inr (0, [.null, .null, .int 0, .int 0, .int 0])), (qa7, .inl (cA7, 32, .inl (fun _ => 0)))] H := hP
  have hD : va_D A [(qf, .inr (0, [.null, .null, .int 0, .int 0, .int 0])), (qa7, .inl (cA7, 32, .inl (fun _ => 0)))] := hD
  have hK : va_K (dC, dI) ttCl [(cA7, .int)] s := hK
  refine W.widen (k := 1) (n := 32) (by omega) (by omega) ?_
  refine va_putF (D := (dC, dI)) (ci := 0) (v := .ref qa7) (ty := .array .int) (C := RX0) (T := TX0) (N := 5) hx hb hts (by decide +kernel) tyX0 tyX0_ok nmX0 hown hK hP hD hS 0 rfl rfl 0 (by decide) (hts (.fieldLink RX0 9 "TornTryCounter$Flash" "bytes" "[I") (by decide +kernel)) (fun _ h9 => h9) rfl hin rfl (by decide +kernel) rfl rfl (Nat.le_of_ble_eq_true rfl) dX0_init_9 (fun H locs hP hD hS => ?_)
  have hP : va_P (dC, dI) ttCl [(qf, .inr (0, [.ref qa7, .null, .int 0, .int 0, .int 0])), (qa7, .inl (cA7, 32, .inl (fun _ => 0)))] H := hP
  have hD : va_D A [(qf, .inr (0, [.ref qa7, .null, .int 0, .int 0, .int 0])), (qa7, .inl (cA7, 32, .inl (fun _ => 0)))] := hD
  refine lv_aload_n hx hb dX0_init_12 rfl (lv_at hl 0 rfl) ?_
  refine lv_iconst (v := 2) hx hb dX0_init_13 (by decide) ?_
  refine va_newa (atype := .int) (N' := 2) (a0 := (2, .inl (fun _ => 0))) (ty := .int) (n := 2) hx hb (hts (.arrayClass .int) (by decide +kernel)) rfl hK hP hD hS hA (fun _ => rfl) (by decide) (by decide) (by decide) (Nat.le_of_ble_eq_true rfl) (Nat.le_of_ble_eq_true rfl) dX0_init_14 (fun qa14 cA14 H hK hP hD hS => ?_)
  have hP : va_P (dC, dI) ttCl [(qf, .inr (0, [.ref qa7, .null, .int 0, .int 0, .int 0])), (qa7, .inl (cA7, 32, .inl (fun _ => 0))), (qa14, .inl (cA14, 2, .inl (fun _ => 0)))] H := hP
  have hD : va_D A [(qf, .inr (0, [.ref qa7, .null, .int 0, .int 0, .int 0])), (qa7, .inl (cA7, 32, .inl (fun _ => 0))), (qa14, .inl (cA14, 2, .inl (fun _ => 0)))] := hD
  have hK : va_K (dC, dI) ttCl [(cA7, .int), (cA14, .int)] s := hK
  refine W.widen (k := 2) (n := 34) (by omega) (by omega) ?_
  refine va_putF (D := (dC, dI)) (ci := 0) (v := .ref qa14) (ty := .array .int) (C := RX0) (T := TX0) (N := 5) hx hb hts (by decide +kernel) tyX0 tyX0_ok nmX0 hown hK hP hD hS 0 rfl rfl 1 (by decide) (hts (.fieldLink RX0 13 "TornTryCounter$Flash" "erases" "[I") (by decide +kernel)) (fun _ h9 => h9) rfl hin rfl (by decide +kernel) rfl rfl (Nat.le_of_ble_eq_true rfl) dX0_init_16 (fun H locs hP hD hS => ?_)
  have hP : va_P (dC, dI) ttCl [(qf, .inr (0, [.ref qa7, .ref qa14, .int 0, .int 0, .int 0])), (qa7, .inl (cA7, 32, .inl (fun _ => 0))), (qa14, .inl (cA14, 2, .inl (fun _ => 0)))] H := hP
  have hD : va_D A [(qf, .inr (0, [.ref qa7, .ref qa14, .int 0, .int 0, .int 0])), (qa7, .inl (cA7, 32, .inl (fun _ => 0))), (qa14, .inl (cA14, 2, .inl (fun _ => 0)))] := hD
  refine lv_iconst (v := 0) hx hb dX0_init_19 (by decide) ?_
  refine lv_istore_n (lv' := [(1, .int 0), (0, .ref qf)]) hx hb dX0_init_20 rfl hl (by decide) rfl (fun ls hl => ?_)
  refine W.widen (k := 2) (n := 34) (by omega) (by omega) ?_
  refine tt_rec (pc := 21) (I := fun n H locs ls => ∃ i : Nat, i + n = 32 ∧ va_P (dC, dI) ttCl [(qf, .inr (0, [.ref qa7, .ref qa14, .int 0, .int 0, .int 0])), (qa7, .inl (cA7, 32, .inl (tt_fl i))), (qa14, .inl (cA14, 2, .inl (fun _ => 0)))] H ∧ va_D A [(qf, .inr (0, [.ref qa7, .ref qa14, .int 0, .int 0, .int 0])), (qa7, .inl (cA7, 32, .inl (tt_fl i))), (qa14, .inl (cA14, 2, .inl (fun _ => 0)))] ∧ va_S A s.heap H locs ∧ lv_has ls 2 [(0, .ref qf), (1, .int (nI i))]) ?_ 32 ⟨0, rfl, hP, hD, hS, lv_sub hl [1, 0] rfl⟩
  intro n H locs ls ih hI
  obtain ⟨i, hi, hP, hD, hS, hl⟩ := hI
  refine lv_iload_n hx hb dX0_init_21 rfl (lv_at hl 1 rfl) ?_
  refine lv_aload_n hx hb dX0_init_22 rfl (lv_at hl 0 rfl) ?_
  refine va_get (D := (dC, dI)) (ci := 0) (v := .ref qa7) (C := RX0) (T := TX0) (N := 5) hx hb hts (by decide +kernel) hown hK hP 0 rfl rfl 0 (by decide) (hts (.fieldLink RX0 9 "TornTryCounter$Flash" "bytes" "[I") (by decide +kernel)) (fun _ h9 => h9) rfl dX0_init_23 ?_
  refine va_alen (v := 32) hx hb hK hP 1 0 rfl rfl rfl dX0_init_26 ?_
  refine lv_icmp_ge (tgt := 45) hx hb dX0_init_27 (by decide) (fun c_1 => ?_) (fun c_1 => ?_)
  · obtain rfl : i = 32 := (tt_c32 i (by omega)).1 c_1
    refine lv_aload_n hx hb dX0_init_45 rfl (lv_at hl 0 rfl) ?_
    refine lv_iconst (v := 0) hx hb dX0_init_46 (by decide) ?_
    refine va_put (D := (dC, dI)) (ci := 0) (v := .int 0) (ty := .int) (C := RX0) (T := TX0) (N := 5) hx hb hts (by decide +kernel) tyX0 tyX0_ok nmX0 hown hK hP hD hS 0 rfl rfl 2 (by decide) (hts (.fieldLink RX0 16 "TornTryCounter$Flash" "operationsDone" "I") (by decide +kernel)) (fun _ h9 => h9) rfl (by decide +kernel) rfl rfl (Nat.le_of_ble_eq_true rfl) dX0_init_47 (fun H locs hP hD hS => ?_)
    have hP : va_P (dC, dI) ttCl [(qf, .inr (0, [.ref qa7, .ref qa14, .int 0, .int 0, .int 0])), (qa7, .inl (cA7, 32, .inl (tt_fl 32))), (qa14, .inl (cA14, 2, .inl (fun _ => 0)))] H := hP
    have hD : va_D A [(qf, .inr (0, [.ref qa7, .ref qa14, .int 0, .int 0, .int 0])), (qa7, .inl (cA7, 32, .inl (tt_fl 32))), (qa14, .inl (cA14, 2, .inl (fun _ => 0)))] := hD
    refine lv_aload_n hx hb dX0_init_50 rfl (lv_at hl 0 rfl) ?_
    refine lv_iconst (v := 0) hx hb dX0_init_51 (by decide) ?_
    refine va_put (D := (dC, dI)) (ci := 0) (v := .int 0) (ty := .int) (C := RX0) (T := TX0) (N := 5) hx hb hts (by decide +kernel) tyX0 tyX0_ok nmX0 hown hK hP hD hS 0 rfl rfl 3 (by decide) (hts (.fieldLink RX0 20 "TornTryCounter$Flash" "operationsToTear" "I") (by decide +kernel)) (fun _ h9 => h9) rfl (by decide +kernel) rfl rfl (Nat.le_of_ble_eq_true rfl) dX0_init_52 (fun H locs hP hD hS => ?_)
    have hP : va_P (dC, dI) ttCl [(qf, .inr (0, [.ref qa7, .ref qa14, .int 0, .int 0, .int 0])), (qa7, .inl (cA7, 32, .inl (tt_fl 32))), (qa14, .inl (cA14, 2, .inl (fun _ => 0)))] H := hP
    have hD : va_D A [(qf, .inr (0, [.ref qa7, .ref qa14, .int 0, .int 0, .int 0])), (qa7, .inl (cA7, 32, .inl (tt_fl 32))), (qa14, .inl (cA14, 2, .inl (fun _ => 0)))] := hD
    refine lv_aload_n hx hb dX0_init_55 rfl (lv_at hl 0 rfl) ?_
    refine lv_iconst (v := 0) hx hb dX0_init_56 (by decide) ?_
    refine va_put (D := (dC, dI)) (ci := 0) (v := .int 0) (ty := .int) (C := RX0) (T := TX0) (N := 5) hx hb hts (by decide +kernel) tyX0 tyX0_ok nmX0 hown hK hP hD hS 0 rfl rfl 4 (by decide) (hts (.fieldLink RX0 23 "TornTryCounter$Flash" "tearMask" "I") (by decide +kernel)) (fun _ h9 => h9) rfl (by decide +kernel) rfl rfl (Nat.le_of_ble_eq_true rfl) dX0_init_57 (fun H locs hP hD hS => ?_)
    have hP : va_P (dC, dI) ttCl [(qf, .inr (0, [.ref qa7, .ref qa14, .int 0, .int 0, .int 0])), (qa7, .inl (cA7, 32, .inl (tt_fl 32))), (qa14, .inl (cA14, 2, .inl (fun _ => 0)))] H := hP
    have hD : va_D A [(qf, .inr (0, [.ref qa7, .ref qa14, .int 0, .int 0, .int 0])), (qa7, .inl (cA7, 32, .inl (tt_fl 32))), (qa14, .inl (cA14, 2, .inl (fun _ => 0)))] := hD
    have hP9 := hP.sub (ws' := [(qf, .inr (0, [.ref qa7, .ref qa14, .int 0, .int 0, .int 0])), (qa7, .inl (cA7, 32, .inl (tt_fl 32))), (qa14, .inl (cA14, 2, .inl (fun _ => 0)))]) [0, 1, 2] rfl
    have hD9 := hD.sub (ws' := [(qf, .inr (0, [.ref qa7, .ref qa14, .int 0, .int 0, .int 0])), (qa7, .inl (cA7, 32, .inl (tt_fl 32))), (qa14, .inl (cA14, 2, .inl (fun _ => 0)))]) [0, 1, 2] (by decide) rfl
    have hK9 := hK.sub (tys' := [(cA7, .int), (cA14, .int)]) [0, 1] rfl
    exact W.vret hx hb hr (fun t ht hW => ⟨⟨(), rfl, trivial, qa7, qa14, cA7, cA14, by rw [ht]; exact hP9, va_K.moved hW.alike hK9, hD9⟩, hS.F ht⟩) hS.2.2 dX0_init_60
  · have hlt : i < 32 := (tt_c32 i (by omega)).2 c_1
    refine lv_aload_n hx hb dX0_init_30 rfl (lv_at hl 0 rfl) ?_
    refine va_get (D := (dC, dI)) (ci := 0) (v := .ref qa7) (C := RX0) (T := TX0) (N := 5) hx hb hts (by decide +kernel) hown hK hP 0 rfl rfl 0 (by decide) (hts (.fieldLink RX0 9 "TornTryCounter$Flash" "bytes" "[I") (by decide +kernel)) (fun _ h9 => h9) rfl dX0_init_31 ?_
    refine lv_iload_n hx hb dX0_init_34 rfl (lv_at hl 1 rfl) ?_
    refine lv_sipush (v := 255) hx hb dX0_init_35 (by decide) ?_
    refine va_iast hx hb hK hP hD hS 1 0 rfl rfl (vp_in_nI hlt (by decide)) dX0_init_38 (fun H locs hP hD hS => ?_)
    have hP : va_P (dC, dI) ttCl [(qf, .inr (0, [.ref qa7, .ref qa14, .int 0, .int 0, .int 0])), (qa7, .inl (cA7, 32, .inl (upd (tt_fl i) (nI i).toNatClampNeg 255))), (qa14, .inl (cA14, 2, .inl (fun _ => 0)))] H := hP
    have hD : va_D A [(qf, .inr (0, [.ref qa7, .ref qa14, .int 0, .int 0, .int 0])), (qa7, .inl (cA7, 32, .inl (upd (tt_fl i) (nI i).toNatClampNeg 255))), (qa14, .inl (cA14, 2, .inl (fun _ => 0)))] := hD
    refine lv_iinc (v := (nI i) + 1) (lv' := [(1, .int ((nI i) + 1)), (0, .ref qf)]) hx hb dX0_init_39 hl (k := 1) rfl rfl (by decide) rfl (fun ls hl => ?_)
    refine lv_goto (tgt := 21) hx hb dX0_init_42 (by decide) ?_
    refine ih (n - 1) (by omega) _ _ _ ⟨i + 1, by omega, ?_, ?_, hS, ?_⟩
    · rw [show tt_fl (i + 1) = upd (tt_fl i) (nI i).toNatClampNeg 255 from rfl]; exact hP.sub [0, 1, 2] rfl
    · rw [show tt_fl (i + 1) = upd (tt_fl i) (nI i).toNatClampNeg 255 from rfl]; exact hD.sub [0, 1, 2] (by decide) rfl
    · rw [show nI (i + 1) = (nI i) + 1 from (nI_1 i).symm]; exact lv_sub hl [1, 0] rfl
set_option maxHeartbeats 4000000 in
set_option maxRecDepth 100000 in
theorem c_P_init (l : Launch) (dC : Nat → ClassId) (dI : Nat → Nat → Nat) (cA cE : ClassId) (qp qf qb qe sz : Nat) (b g : Nat → Int32) (od ot tm pin : Int32) : Met l yX1_init wsX1_init ({ frames := 1, cells := 0, slots := 0, locals := 24 }) (va_Pc [.ref qp, .ref qf, .int pin] (fun U => U.heap.size = sz ∧ va_P (dC, dI) ttCl [(qp, .inr (1, [.null])), (qf, .inr (0, [.ref qb, .ref qe, .int od, .int ot, .int tm])), (qb, .inl (cA, 32, .inl b)), (qe, .inl (cE, 2, .inl g))] U.heap ∧ va_K (dC, dI) ttCl [(cA, .int), (cE, .int)] U ∧ va_D (fun _ => True) [(qp, .inr (1, [.null])), (qf, .inr (0, [.ref qb, .ref qe, .int od, .int ot, .int tm])), (qb, .inl (cA, 32, .inl b)), (qe, .inl (cE, 2, .inl g))])) (va_Qv (fun (_ : Unit) => True) (fun (_ : Unit) (t : State) => at_P dC dI cA cE (va_A [(qp, .inr (1, [.null])), (qf, .inr (0, [.ref qb, .ref qe, .int od, .int ot, .int tm])), (qb, .inl (cA, 32, .inl b)), (qe, .inl (cE, 2, .inl g))] sz) qp qf qb qe (tt_pres b pin, g, od, ot, tm) t) (va_A [(qp, .inr (1, [.null])), (qf, .inr (0, [.ref qb, .ref qe, .int od, .int ot, .int tm])), (qb, .inl (cA, 32, .inl b)), (qe, .inl (cE, 2, .inl g))] sz)) 0 0 (va_A [(qp, .inr (1, [.null])), (qf, .inr (0, [.ref qb, .ref qe, .int od, .int ot, .int tm])), (qb, .inl (cA, 32, .inl b)), (qe, .inl (cE, 2, .inl g))] sz) := by
  refine Met.ofW (cc := cX1_init) (maxL := 3) (ret := none) (by decide) rfl ?_
  intro p e s m args below meth c s₁ B hml hv
  obtain ⟨rfl, hsz, hP, hK, hD0⟩ := hv
  have hx := B.exec
  have hb := B.bytes
  have hr := B.returns
  have hts := atoms_spec (ws := wsX1_init) B.pre
  have hown : s.vm.findClass RX1 = some m.cls := findClass_of_methodNamed B.named
  have hlocks := B.notSynchronized
  have hin : meth.name = "<init>" := (name_of_methodNamed B.named B.method).1
  subst hsz
  have hD := hD0.self (sz := s.heap.size)
  generalize hAe : va_A [(qp, .inr (1, [.null])), (qf, .inr (0, [.ref qb, .ref qe, .int od, .int ot, .int tm])), (qb, .inl (cA, 32, .inl b)), (qe, .inl (cE, 2, .inl g))] s.heap.size = A at hD ⊢
  have hA : ∀ q : Nat, s.heap.size ≤ q → A q := fun q h => by rw [← hAe]; exact Or.inr h
  have hS : va_S A s.heap s.heap [] := va_S.rf
  have hP : va_P (dC, dI) ttCl [(qp, .inr (1, [.null])), (qf, .inr (0, [.ref qb, .ref qe, .int od, .int ot, .int tm])), (qb, .inl (cA, 32, .inl b)), (qe, .inl (cE, 2, .inl g))] s.heap := hP
  have hl := lv_entry ([.ref qp, .ref qf, .int pin]) (n := 3) (Nat.le_of_ble_eq_true rfl)
  rw [lg_entry_eq]
  generalize (lg_sl ([.ref qp, .ref qf, .int pin]) ++ List.replicate (3 - (lg_sl ([.ref qp, .ref qf, .int pin])).length) Slot.unset).toArray = ls at hl ⊢
  have hl : lv_has ls 3 [(0, .ref qp), (1, .ref qf), (2, .int pin)] := hl
  refine lv_aload_n hx hb dX1_init_0 rfl (lv_at hl 0 rfl) ?_
  refine W.objInit hx hb hown (hts (.methodLink RX1 1 objectInit) (by decide +kernel)) (hts (.instanceMethod objectInit) (by decide +kernel)) (hts (.code objectInit ⟨#[0xb1]⟩ 1 none) (by decide +kernel)) rfl (by rw [hml]; exact hl.1) rfl dX1_init_1 (Nat.le_of_ble_eq_true rfl) (Nat.le_of_ble_eq_true rfl) ?_
  refine W.eq (g2 := F0 m 4 ls []) rfl ?_
  refine lv_aload_n hx hb dX1_init_4 rfl (lv_at hl 0 rfl) ?_
  refine lv_aload_n hx hb dX1_init_5 rfl (lv_at hl 1 rfl) ?_
  refine va_putF (D := (dC, dI)) (ci := 1) (v := .ref qf) (ty := .object "TornTryCounter$Flash") (C := RX1) (T := TX1) (N := 1) hx hb hts (by decide +kernel) tyX1 tyX1_ok nmX1 hown hK hP hD hS 0 rfl rfl 0 (by decide) (hts (.fieldLink RX1 7 "TornTryCounter$Pages" "flash" "LTornTryCounter$Flash;") (by decide +kernel)) (fun _ h9 => h9) rfl hin rfl (by decide +kernel) rfl rfl (Nat.le_of_ble_eq_true rfl) dX1_init_6 (fun H locs hP hD hS => ?_)
  have hP : va_P (dC, dI) ttCl [(qp, .inr (1, [.ref qf])), (qf, .inr (0, [.ref qb, .ref qe, .int od, .int ot, .int tm])), (qb, .inl (cA, 32, .inl b)), (qe, .inl (cE, 2, .inl g))] H := hP
  have hD : va_D A [(qp, .inr (1, [.ref qf])), (qf, .inr (0, [.ref qb, .ref qe, .int od, .int ot, .int tm])), (qb, .inl (cA, 32, .inl b)), (qe, .inl (cE, 2, .inl g))] := hD
  refine lv_aload_n hx hb dX1_init_9 rfl (lv_at hl 1 rfl) ?_
  refine lv_iconst (v := 0) hx hb dX1_init_10 (by decide) ?_
  refine lv_iconst (v := 0) hx hb dX1_init_11 (by decide) ?_
  refine lv_bipush (v := 90) hx hb dX1_init_12 (by decide) ?_
  have hPc := hP.sub (ws' := [(qf, .inr (0, [.ref qb, .ref qe, .int od, .int ot, .int tm])), (qb, .inl (cA, 32, .inl b)), (qe, .inl (cE, 2, .inl g))]) [1, 2, 3] rfl
  have hDc := hD.sub (ws' := [(qf, .inr (0, [.ref qb, .ref qe, .int od, .int ot, .int tm])), (qb, .inl (cA, 32, .inl b)), (qe, .inl (cE, 2, .inl g))]) [1, 2, 3] (by decide) rfl
  have hKc := hK.sub (tys' := [(cA, .int), (cE, .int)]) [0, 1] rfl
  have hFc := va_free (wc := [(qf, .inr (0, [.ref qb, .ref qe, .int od, .int ot, .int tm])), (qb, .inl (cA, 32, .inl b)), (qe, .inl (cE, 2, .inl g))]) hD hS hA [1, 2, 3] rfl
  refine va_callv (va_runV (As := [.int 0, .int 0, .int 90]) (rest := []) ⟨hx, hb, hml, hown, hts⟩ (c_F_preset l dC dI cA cE qf qb qe H.size b g od ot tm 0 0 90) (cwV 3 hts gX1_init_X0_preset rfl rfl rfl (by decide +kernel) ⟨Nat.le_of_ble_eq_true rfl, Nat.le_of_ble_eq_true rfl⟩) ⟨fun a U g mk q => by obtain ⟨q0, q1, qP, qK, qD⟩ := q; exact ⟨q0, q1, qP, va_K.moved (u := U) (U := U.calling g mk a) (Vm.Alike.refl U.vm) qK, qD⟩, va_recv hKc hPc (ci := 0) (q0 := 0) rfl rfl, fun U hU hW => ⟨rfl, by rw [hU], by rw [hU]; exact hPc, va_K.moved hW.alike hKc, hDc.weaken (fun _ _ _ _ => trivial)⟩⟩ rfl rfl hl.1 rfl (lv_room (Nat.le_of_ble_eq_true rfl)) dX1_init_14 ⟨(Nat.zero_le _), (Nat.zero_le _)⟩) hS (fun q _ h => hFc q h) hFc (fun u t H locs ht hvm hw hB hz1 hk1 hS => ?_)
  have hw : (tt_wr b 0 0 90, g, od, ot, tm) = u := hw
  subst hw
  obtain ⟨hP1, hK1, hD1⟩ := hB
  rw [ht] at hP1
  obtain ⟨hP, hD⟩ := va_join (wr := [(qp, .inr (1, [.ref qf]))]) (w1 := [(qf, .inr (0, [.ref qb, .ref qe, .int od, .int ot, .int tm])), (qb, .inl (cA, 32, .inl (tt_wr b 0 0 90))), (qe, .inl (cE, 2, .inl g))]) hP hD [1, 2, 3] [0] rfl rfl (by decide) (by decide) hk1 hFc hP1 hD1
  have hP : va_P (dC, dI) ttCl [(qp, .inr (1, [.ref qf])), (qf, .inr (0, [.ref qb, .ref qe, .int od, .int ot, .int tm])), (qb, .inl (cA, 32, .inl (tt_wr b 0 0 90))), (qe, .inl (cE, 2, .inl g))] H := hP
  have hD : va_D A [(qp, .inr (1, [.ref qf])), (qf, .inr (0, [.ref qb, .ref qe, .int od, .int ot, .int tm])), (qb, .inl (cA, 32, .inl (tt_wr b 0 0 90))), (qe, .inl (cE, 2, .inl g))] := hD
  refine lv_aload_n hx hb dX1_init_17 rfl (lv_at hl 1 rfl) ?_
  refine lv_iconst (v := 0) hx hb dX1_init_18 (by decide) ?_
  refine lv_iconst (v := 1) hx hb dX1_init_19 (by decide) ?_
  refine lv_iconst (v := 0) hx hb dX1_init_20 (by decide) ?_
  have hPc := hP.sub (ws' := [(qf, .inr (0, [.ref qb, .ref qe, .int od, .int ot, .int tm])), (qb, .inl (cA, 32, .inl (tt_wr b 0 0 90))), (qe, .inl (cE, 2, .inl g))]) [1, 2, 3] rfl
  have hDc := hD.sub (ws' := [(qf, .inr (0, [.ref qb, .ref qe, .int od, .int ot, .int tm])), (qb, .inl (cA, 32, .inl (tt_wr b 0 0 90))), (qe, .inl (cE, 2, .inl g))]) [1, 2, 3] (by decide) rfl
  have hKc := hK.sub (tys' := [(cA, .int), (cE, .int)]) [0, 1] rfl
  have hFc := va_free (wc := [(qf, .inr (0, [.ref qb, .ref qe, .int od, .int ot, .int tm])), (qb, .inl (cA, 32, .inl (tt_wr b 0 0 90))), (qe, .inl (cE, 2, .inl g))]) hD hS hA [1, 2, 3] rfl
  refine va_callv (va_runV (As := [.int 0, .int 1, .int 0]) (rest := []) ⟨hx, hb, hml, hown, hts⟩ (c_F_preset l dC dI cA cE qf qb qe H.size (tt_wr b 0 0 90) g od ot tm 0 1 0) (cwV 3 hts gX1_init_X0_preset rfl rfl rfl (by decide +kernel) ⟨Nat.le_of_ble_eq_true rfl, Nat.le_of_ble_eq_true rfl⟩) ⟨fun a U g mk q => by obtain ⟨q0, q1, qP, qK, qD⟩ := q; exact ⟨q0, q1, qP, va_K.moved (u := U) (U := U.calling g mk a) (Vm.Alike.refl U.vm) qK, qD⟩, va_recv hKc hPc (ci := 0) (q0 := 0) rfl rfl, fun U hU hW => ⟨rfl, by rw [hU], by rw [hU]; exact hPc, va_K.moved hW.alike hKc, hDc.weaken (fun _ _ _ _ => trivial)⟩⟩ rfl rfl hl.1 rfl (lv_room (Nat.le_of_ble_eq_true rfl)) dX1_init_21 ⟨(Nat.zero_le _), (Nat.zero_le _)⟩) hS (fun q _ h => hFc q h) hFc (fun u t H locs ht hvm hw hB hz1 hk1 hS => ?_)
  have hw : (tt_wr (tt_wr b 0 0 90) 0 1 0, g, od, ot, tm) = u := hw
  subst hw
  obtain ⟨hP1, hK1, hD1⟩ := hB
  rw [ht] at hP1
  obtain ⟨hP, hD⟩ := va_join (wr := [(qp, .inr (1, [.ref qf]))]) (w1 := [(qf, .inr (0, [.ref qb, .ref qe, .int od, .int ot, .int tm])), (qb, .inl (cA, 32, .inl (tt_wr (tt_wr b 0 0 90) 0 1 0))), (qe, .inl (cE, 2, .inl g))]) hP hD [1, 2, 3] [0] rfl rfl (by decide) (by decide) hk1 hFc hP1 hD1
  have hP : va_P (dC, dI) ttCl [(qp, .inr (1, [.ref qf])), (qf, .inr (0, [.ref qb, .ref qe, .int od, .int ot, .int tm])), (qb, .inl (cA, 32, .inl (tt_wr (tt_wr b 0 0 90) 0 1 0))), (qe, .inl (cE, 2, .inl g))] H := hP
  have hD : va_D A [(qp, .inr (1, [.ref qf])), (qf, .inr (0, [.ref qb, .ref qe, .int od, .int ot, .int tm])), (qb, .inl (cA, 32, .inl (tt_wr (tt_wr b 0 0 90) 0 1 0))), (qe, .inl (cE, 2, .inl g))] := hD
  refine lv_aload_n hx hb dX1_init_24 rfl (lv_at hl 1 rfl) ?_
  refine lv_iconst (v := 0) hx hb dX1_init_25 (by decide) ?_
  refine lv_iconst (v := 2) hx hb dX1_init_26 (by decide) ?_
  refine lv_iload_n hx hb dX1_init_27 rfl (lv_at hl 2 rfl) ?_
  refine lv_bipush (v := 8) hx hb dX1_init_28 (by decide) ?_
  refine lv_ishr hx hb dX1_init_30 ?_
  have hPc := hP.sub (ws' := [(qf, .inr (0, [.ref qb, .ref qe, .int od, .int ot, .int tm])), (qb, .inl (cA, 32, .inl (tt_wr (tt_wr b 0 0 90) 0 1 0))), (qe, .inl (cE, 2, .inl g))]) [1, 2, 3] rfl
  have hDc := hD.sub (ws' := [(qf, .inr (0, [.ref qb, .ref qe, .int od, .int ot, .int tm])), (qb, .inl (cA, 32, .inl (tt_wr (tt_wr b 0 0 90) 0 1 0))), (qe, .inl (cE, 2, .inl g))]) [1, 2, 3] (by decide) rfl
  have hKc := hK.sub (tys' := [(cA, .int), (cE, .int)]) [0, 1] rfl
  have hFc := va_free (wc := [(qf, .inr (0, [.ref qb, .ref qe, .int od, .int ot, .int tm])), (qb, .inl (cA, 32, .inl (tt_wr (tt_wr b 0 0 90) 0 1 0))), (qe, .inl (cE, 2, .inl g))]) hD hS hA [1, 2, 3] rfl
  refine va_callv (va_runV (As := [.int 0, .int 2, .int (pin >>> ((8 : Int32) &&& 31))]) (rest := []) ⟨hx, hb, hml, hown, hts⟩ (c_F_preset l dC dI cA cE qf qb qe H.size (tt_wr (tt_wr b 0 0 90) 0 1 0) g od ot tm 0 2 (pin >>> ((8 : Int32) &&& 31))) (cwV 3 hts gX1_init_X0_preset rfl rfl rfl (by decide +kernel) ⟨Nat.le_of_ble_eq_true rfl, Nat.le_of_ble_eq_true rfl⟩) ⟨fun a U g mk q => by obtain ⟨q0, q1, qP, qK, qD⟩ := q; exact ⟨q0, q1, qP, va_K.moved (u := U) (U := U.calling g mk a) (Vm.Alike.refl U.vm) qK, qD⟩, va_recv hKc hPc (ci := 0) (q0 := 0) rfl rfl, fun U hU hW => ⟨rfl, by rw [hU], by rw [hU]; exact hPc, va_K.moved hW.alike hKc, hDc.weaken (fun _ _ _ _ => trivial)⟩⟩ rfl rfl hl.1 rfl (lv_room (Nat.le_of_ble_eq_true rfl)) dX1_init_31 ⟨(Nat.zero_le _), (Nat.zero_le _)⟩) hS (fun q _ h => hFc q h) hFc (fun u t H locs ht hvm hw hB hz1 hk1 hS => ?_)
  have hw : (tt_wr (tt_wr (tt_wr b 0 0 90) 0 1 0) 0 2 (pin >>> ((8 : Int32) &&& 31)), g, od, ot, tm) = u := hw
  subst hw
  obtain ⟨hP1, hK1, hD1⟩ := hB
  rw [ht] at hP1
  obtain ⟨hP, hD⟩ := va_join (wr := [(qp, .inr (1, [.ref qf]))]) (w1 := [(qf, .inr (0, [.ref qb, .ref qe, .int od, .int ot, .int tm])), (qb, .inl (cA, 32, .inl (tt_wr (tt_wr (tt_wr b 0 0 90) 0 1 0) 0 2 (pin >>> ((8 : Int32) &&& 31))))), (qe, .inl (cE, 2, .inl g))]) hP hD [1, 2, 3] [0] rfl rfl (by decide) (by decide) hk1 hFc hP1 hD1
  have hP : va_P (dC, dI) ttCl [(qp, .inr (1, [.ref qf])), (qf, .inr (0, [.ref qb, .ref qe, .int od, .int ot, .int tm])), (qb, .inl (cA, 32, .inl (tt_wr (tt_wr (tt_wr b 0 0 90) 0 1 0) 0 2 (pin >>> ((8 : Int32) &&& 31))))), (qe, .inl (cE, 2, .inl g))] H := hP
  have hD : va_D A [(qp, .inr (1, [.ref qf])), (qf, .inr (0, [.ref qb, .ref qe, .int od, .int ot, .int tm])), (qb, .inl (cA, 32, .inl (tt_wr (tt_wr (tt_wr b 0 0 90) 0 1 0) 0 2 (pin >>> ((8 : Int32) &&& 31))))), (qe, .inl (cE, 2, .inl g))] := hD
  refine lv_aload_n hx hb dX1_init_34 rfl (lv_at hl 1 rfl) ?_
  refine lv_iconst (v := 0) hx hb dX1_init_35 (by decide) ?_
  refine lv_iconst (v := 3) hx hb dX1_init_36 (by decide) ?_
  refine lv_iload_n hx hb dX1_init_37 rfl (lv_at hl 2 rfl) ?_
  refine lv_sipush (v := 255) hx hb dX1_init_38 (by decide) ?_
  refine lv_iand hx hb dX1_init_41 ?_
  have hPc := hP.sub (ws' := [(qf, .inr (0, [.ref qb, .ref qe, .int od, .int ot, .int tm])), (qb, .inl (cA, 32, .inl (tt_wr (tt_wr (tt_wr b 0 0 90) 0 1 0) 0 2 (pin >>> ((8 : Int32) &&& 31))))), (qe, .inl (cE, 2, .inl g))]) [1, 2, 3] rfl
  have hDc := hD.sub (ws' := [(qf, .inr (0, [.ref qb, .ref qe, .int od, .int ot, .int tm])), (qb, .inl (cA, 32, .inl (tt_wr (tt_wr (tt_wr b 0 0 90) 0 1 0) 0 2 (pin >>> ((8 : Int32) &&& 31))))), (qe, .inl (cE, 2, .inl g))]) [1, 2, 3] (by decide) rfl
  have hKc := hK.sub (tys' := [(cA, .int), (cE, .int)]) [0, 1] rfl
  have hFc := va_free (wc := [(qf, .inr (0, [.ref qb, .ref qe, .int od, .int ot, .int tm])), (qb, .inl (cA, 32, .inl (tt_wr (tt_wr (tt_wr b 0 0 90) 0 1 0) 0 2 (pin >>> ((8 : Int32) &&& 31))))), (qe, .inl (cE, 2, .inl g))]) hD hS hA [1, 2, 3] rfl
  refine va_callv (va_runV (As := [.int 0, .int 3, .int (pin &&& 255)]) (rest := []) ⟨hx, hb, hml, hown, hts⟩ (c_F_preset l dC dI cA cE qf qb qe H.size (tt_wr (tt_wr (tt_wr b 0 0 90) 0 1 0) 0 2 (pin >>> ((8 : Int32) &&& 31))) g od ot tm 0 3 (pin &&& 255)) (cwV 3 hts gX1_init_X0_preset rfl rfl rfl (by decide +kernel) ⟨Nat.le_of_ble_eq_true rfl, Nat.le_of_ble_eq_true rfl⟩) ⟨fun a U g mk q => by obtain ⟨q0, q1, qP, qK, qD⟩ := q; exact ⟨q0, q1, qP, va_K.moved (u := U) (U := U.calling g mk a) (Vm.Alike.refl U.vm) qK, qD⟩, va_recv hKc hPc (ci := 0) (q0 := 0) rfl rfl, fun U hU hW => ⟨rfl, by rw [hU], by rw [hU]; exact hPc, va_K.moved hW.alike hKc, hDc.weaken (fun _ _ _ _ => trivial)⟩⟩ rfl rfl hl.1 rfl (lv_room (Nat.le_of_ble_eq_true rfl)) dX1_init_42 ⟨(Nat.zero_le _), (Nat.zero_le _)⟩) hS (fun q _ h => hFc q h) hFc (fun u t H locs ht hvm hw hB hz1 hk1 hS => ?_)
  have hw : (tt_wr (tt_wr (tt_wr (tt_wr b 0 0 90) 0 1 0) 0 2 (pin >>> ((8 : Int32) &&& 31))) 0 3 (pin &&& 255), g, od, ot, tm) = u := hw
  subst hw
  obtain ⟨hP1, hK1, hD1⟩ := hB
  rw [ht] at hP1
  obtain ⟨hP, hD⟩ := va_join (wr := [(qp, .inr (1, [.ref qf]))]) (w1 := [(qf, .inr (0, [.ref qb, .ref qe, .int od, .int ot, .int tm])), (qb, .inl (cA, 32, .inl (tt_wr (tt_wr (tt_wr (tt_wr b 0 0 90) 0 1 0) 0 2 (pin >>> ((8 : Int32) &&& 31))) 0 3 (pin &&& 255)))), (qe, .inl (cE, 2, .inl g))]) hP hD [1, 2, 3] [0] rfl rfl (by decide) (by decide) hk1 hFc hP1 hD1
  have hP : va_P (dC, dI) ttCl [(qp, .inr (1, [.ref qf])), (qf, .inr (0, [.ref qb, .ref qe, .int od, .int ot, .int tm])), (qb, .inl (cA, 32, .inl (tt_wr (tt_wr (tt_wr (tt_wr b 0 0 90) 0 1 0) 0 2 (pin >>> ((8 : Int32) &&& 31))) 0 3 (pin &&& 255)))), (qe, .inl (cE, 2, .inl g))] H := hP
  have hD : va_D A [(qp, .inr (1, [.ref qf])), (qf, .inr (0, [.ref qb, .ref qe, .int od, .int ot, .int tm])), (qb, .inl (cA, 32, .inl (tt_wr (tt_wr (tt_wr (tt_wr b 0 0 90) 0 1 0) 0 2 (pin >>> ((8 : Int32) &&& 31))) 0 3 (pin &&& 255)))), (qe, .inl (cE, 2, .inl g))] := hD
  refine lv_aload_n hx hb dX1_init_45 rfl (lv_at hl 1 rfl) ?_
  refine lv_iconst (v := 0) hx hb dX1_init_46 (by decide) ?_
  refine lv_iconst (v := 4) hx hb dX1_init_47 (by decide) ?_
  refine lv_iconst (v := 0) hx hb dX1_init_48 (by decide) ?_
  have hPc := hP.sub (ws' := [(qf, .inr (0, [.ref qb, .ref qe, .int od, .int ot, .int tm])), (qb, .inl (cA, 32, .inl (tt_wr (tt_wr (tt_wr (tt_wr b 0 0 90) 0 1 0) 0 2 (pin >>> ((8 : Int32) &&& 31))) 0 3 (pin &&& 255)))), (qe, .inl (cE, 2, .inl g))]) [1, 2, 3] rfl
  have hDc := hD.sub (ws' := [(qf, .inr (0, [.ref qb, .ref qe, .int od, .int ot, .int tm])), (qb, .inl (cA, 32, .inl (tt_wr (tt_wr (tt_wr (tt_wr b 0 0 90) 0 1 0) 0 2 (pin >>> ((8 : Int32) &&& 31))) 0 3 (pin &&& 255)))), (qe, .inl (cE, 2, .inl g))]) [1, 2, 3] (by decide) rfl
  have hKc := hK.sub (tys' := [(cA, .int), (cE, .int)]) [0, 1] rfl
  have hFc := va_free (wc := [(qf, .inr (0, [.ref qb, .ref qe, .int od, .int ot, .int tm])), (qb, .inl (cA, 32, .inl (tt_wr (tt_wr (tt_wr (tt_wr b 0 0 90) 0 1 0) 0 2 (pin >>> ((8 : Int32) &&& 31))) 0 3 (pin &&& 255)))), (qe, .inl (cE, 2, .inl g))]) hD hS hA [1, 2, 3] rfl
  refine va_callv (va_runV (As := [.int 0, .int 4, .int 0]) (rest := []) ⟨hx, hb, hml, hown, hts⟩ (c_F_preset l dC dI cA cE qf qb qe H.size (tt_wr (tt_wr (tt_wr (tt_wr b 0 0 90) 0 1 0) 0 2 (pin >>> ((8 : Int32) &&& 31))) 0 3 (pin &&& 255)) g od ot tm 0 4 0) (cwV 3 hts gX1_init_X0_preset rfl rfl rfl (by decide +kernel) ⟨Nat.le_of_ble_eq_true rfl, Nat.le_of_ble_eq_true rfl⟩) ⟨fun a U g mk q => by obtain ⟨q0, q1, qP, qK, qD⟩ := q; exact ⟨q0, q1, qP, va_K.moved (u := U) (U := U.calling g mk a) (Vm.Alike.refl U.vm) qK, qD⟩, va_recv hKc hPc (ci := 0) (q0 := 0) rfl rfl, fun U hU hW => ⟨rfl, by rw [hU], by rw [hU]; exact hPc, va_K.moved hW.alike hKc, hDc.weaken (fun _ _ _ _ => trivial)⟩⟩ rfl rfl hl.1 rfl (lv_room (Nat.le_of_ble_eq_true rfl)) dX1_init_49 ⟨(Nat.zero_le _), (Nat.zero_le _)⟩) hS (fun q _ h => hFc q h) hFc (fun u t H locs ht hvm hw hB hz1 hk1 hS => ?_)
  have hw : (tt_wr (tt_wr (tt_wr (tt_wr (tt_wr b 0 0 90) 0 1 0) 0 2 (pin >>> ((8 : Int32) &&& 31))) 0 3 (pin &&& 255)) 0 4 0, g, od, ot, tm) = u := hw
  subst hw
  obtain ⟨hP1, hK1, hD1⟩ := hB
  rw [ht] at hP1
  obtain ⟨hP, hD⟩ := va_join (wr := [(qp, .inr (1, [.ref qf]))]) (w1 := [(qf, .inr (0, [.ref qb, .ref qe, .int od, .int ot, .int tm])), (qb, .inl (cA, 32, .inl (tt_wr (tt_wr (tt_wr (tt_wr (tt_wr b 0 0 90) 0 1 0) 0 2 (pin >>> ((8 : Int32) &&& 31))) 0 3 (pin &&& 255)) 0 4 0))), (qe, .inl (cE, 2, .inl g))]) hP hD [1, 2, 3] [0] rfl rfl (by decide) (by decide) hk1 hFc hP1 hD1
  have hP : va_P (dC, dI) ttCl [(qp, .inr (1, [.ref qf])), (qf, .inr (0, [.ref qb, .ref qe, .int od, .int ot, .int tm])), (qb, .inl (cA, 32, .inl (tt_wr (tt_wr (tt_wr (tt_wr (tt_wr b 0 0 90) 0 1 0) 0 2 (pin >>> ((8 : Int32) &&& 31))) 0 3 (pin &&& 255)) 0 4 0))), (qe, .inl (cE, 2, .inl g))] H := hP
  have hD : va_D A [(qp, .inr (1, [.ref qf])), (qf, .inr (0, [.ref qb, .ref qe, .int od, .int ot, .int tm])), (qb, .inl (cA, 32, .inl (tt_wr (tt_wr (tt_wr (tt_wr (tt_wr b 0 0 90) 0 1 0) 0 2 (pin >>> ((8 : Int32) &&& 31))) 0 3 (pin &&& 255)) 0 4 0))), (qe, .inl (cE, 2, .inl g))] := hD
  refine lv_aload_n hx hb dX1_init_52 rfl (lv_at hl 1 rfl) ?_
  refine lv_iconst (v := 0) hx hb dX1_init_53 (by decide) ?_
  refine lv_iconst (v := 5) hx hb dX1_init_54 (by decide) ?_
  refine lv_iconst (v := 0) hx hb dX1_init_55 (by decide) ?_
  have hPc := hP.sub (ws' := [(qf, .inr (0, [.ref qb, .ref qe, .int od, .int ot, .int tm])), (qb, .inl (cA, 32, .inl (tt_wr (tt_wr (tt_wr (tt_wr (tt_wr b 0 0 90) 0 1 0) 0 2 (pin >>> ((8 : Int32) &&& 31))) 0 3 (pin &&& 255)) 0 4 0))), (qe, .inl (cE, 2, .inl g))]) [1, 2, 3] rfl
  have hDc := hD.sub (ws' := [(qf, .inr (0, [.ref qb, .ref qe, .int od, .int ot, .int tm])), (qb, .inl (cA, 32, .inl (tt_wr (tt_wr (tt_wr (tt_wr (tt_wr b 0 0 90) 0 1 0) 0 2 (pin >>> ((8 : Int32) &&& 31))) 0 3 (pin &&& 255)) 0 4 0))), (qe, .inl (cE, 2, .inl g))]) [1, 2, 3] (by decide) rfl
  have hKc := hK.sub (tys' := [(cA, .int), (cE, .int)]) [0, 1] rfl
  have hFc := va_free (wc := [(qf, .inr (0, [.ref qb, .ref qe, .int od, .int ot, .int tm])), (qb, .inl (cA, 32, .inl (tt_wr (tt_wr (tt_wr (tt_wr (tt_wr b 0 0 90) 0 1 0) 0 2 (pin >>> ((8 : Int32) &&& 31))) 0 3 (pin &&& 255)) 0 4 0))), (qe, .inl (cE, 2, .inl g))]) hD hS hA [1, 2, 3] rfl
  refine va_callv (va_runV (As := [.int 0, .int 5, .int 0]) (rest := []) ⟨hx, hb, hml, hown, hts⟩ (c_F_preset l dC dI cA cE qf qb qe H.size (tt_wr (tt_wr (tt_wr (tt_wr (tt_wr b 0 0 90) 0 1 0) 0 2 (pin >>> ((8 : Int32) &&& 31))) 0 3 (pin &&& 255)) 0 4 0) g od ot tm 0 5 0) (cwV 3 hts gX1_init_X0_preset rfl rfl rfl (by decide +kernel) ⟨Nat.le_of_ble_eq_true rfl, Nat.le_of_ble_eq_true rfl⟩) ⟨fun a U g mk q => by obtain ⟨q0, q1, qP, qK, qD⟩ := q; exact ⟨q0, q1, qP, va_K.moved (u := U) (U := U.calling g mk a) (Vm.Alike.refl U.vm) qK, qD⟩, va_recv hKc hPc (ci := 0) (q0 := 0) rfl rfl, fun U hU hW => ⟨rfl, by rw [hU], by rw [hU]; exact hPc, va_K.moved hW.alike hKc, hDc.weaken (fun _ _ _ _ => trivial)⟩⟩ rfl rfl hl.1 rfl (lv_room (Nat.le_of_ble_eq_true rfl)) dX1_init_56 ⟨(Nat.zero_le _), (Nat.zero_le _)⟩) hS (fun q _ h => hFc q h) hFc (fun u t H locs ht hvm hw hB hz1 hk1 hS => ?_)
  have hw : (tt_wr (tt_wr (tt_wr (tt_wr (tt_wr (tt_wr b 0 0 90) 0 1 0) 0 2 (pin >>> ((8 : Int32) &&& 31))) 0 3 (pin &&& 255)) 0 4 0) 0 5 0, g, od, ot, tm) = u := hw
  subst hw
  obtain ⟨hP1, hK1, hD1⟩ := hB
  rw [ht] at hP1
  obtain ⟨hP, hD⟩ := va_join (wr := [(qp, .inr (1, [.ref qf]))]) (w1 := [(qf, .inr (0, [.ref qb, .ref qe, .int od, .int ot, .int tm])), (qb, .inl (cA, 32, .inl (tt_wr (tt_wr (tt_wr (tt_wr (tt_wr (tt_wr b 0 0 90) 0 1 0) 0 2 (pin >>> ((8 : Int32) &&& 31))) 0 3 (pin &&& 255)) 0 4 0) 0 5 0))), (qe, .inl (cE, 2, .inl g))]) hP hD [1, 2, 3] [0] rfl rfl (by decide) (by decide) hk1 hFc hP1 hD1
  have hP : va_P (dC, dI) ttCl [(qp, .inr (1, [.ref qf])), (qf, .inr (0, [.ref qb, .ref qe, .int od, .int ot, .int tm])), (qb, .inl (cA, 32, .inl (tt_wr (tt_wr (tt_wr (tt_wr (tt_wr (tt_wr b 0 0 90) 0 1 0) 0 2 (pin >>> ((8 : Int32) &&& 31))) 0 3 (pin &&& 255)) 0 4 0) 0 5 0))), (qe, .inl (cE, 2, .inl g))] H := hP
  have hD : va_D A [(qp, .inr (1, [.ref qf])), (qf, .inr (0, [.ref qb, .ref qe, .int od, .int ot, .int tm])), (qb, .inl (cA, 32, .inl (tt_wr (tt_wr (tt_wr (tt_wr (tt_wr (tt_wr b 0 0 90) 0 1 0) 0 2 (pin >>> ((8 : Int32) &&& 31))) 0 3 (pin &&& 255)) 0 4 0) 0 5 0))), (qe, .inl (cE, 2, .inl g))] := hD
  have hP9 := hP.sub (ws' := [(qp, .inr (1, [.ref qf])), (qf, .inr (0, [.ref qb, .ref qe, .int od, .int ot, .int tm])), (qb, .inl (cA, 32, .inl (tt_wr (tt_wr (tt_wr (tt_wr (tt_wr (tt_wr b 0 0 90) 0 1 0) 0 2 (pin >>> ((8 : Int32) &&& 31))) 0 3 (pin &&& 255)) 0 4 0) 0 5 0))), (qe, .inl (cE, 2, .inl g))]) [0, 1, 2, 3] rfl
  have hD9 := hD.sub (ws' := [(qp, .inr (1, [.ref qf])), (qf, .inr (0, [.ref qb, .ref qe, .int od, .int ot, .int tm])), (qb, .inl (cA, 32, .inl (tt_wr (tt_wr (tt_wr (tt_wr (tt_wr (tt_wr b 0 0 90) 0 1 0) 0 2 (pin >>> ((8 : Int32) &&& 31))) 0 3 (pin &&& 255)) 0 4 0) 0 5 0))), (qe, .inl (cE, 2, .inl g))]) [0, 1, 2, 3] (by decide) rfl
  have hK9 := hK.sub (tys' := [(cA, .int), (cE, .int)]) [0, 1] rfl
  exact W.vret hx hb hr (fun t ht hW => ⟨⟨(), rfl, trivial, by rw [ht]; exact hP9, va_K.moved hW.alike hK9, hD9⟩, hS.F ht⟩) hS.2.2 dX1_init_59
set_option maxHeartbeats 4000000 in
set_option maxRecDepth 100000 in
theorem c_X_init (l : Launch) (dC : Nat → ClassId) (dI : Nat → Nat → Nat) (qx sz : Nat) (n1 n2 n3 n4 : Int32) : Met l yX2_init wsX2_init ({ frames := 2, cells := 4, slots := 40, locals := 46 }) (va_Pc [.ref qx, .int n1, .int n2, .int n3, .int n4] (fun U => U.heap.size = sz ∧ va_P (dC, dI) ttCl [(qx, .inr (2, [.null, .null, .int 0, .int 0, .int 0, .int 0, .int 0, .int 0]))] U.heap ∧ va_K (dC, dI) ttCl [] U ∧ va_D (fun _ => True) [(qx, .inr (2, [.null, .null, .int 0, .int 0, .int 0, .int 0, .int 0, .int 0]))])) (va_Qv (fun (_ : Unit) => True) (fun (_ : Unit) (t : State) => ∃ (qp qf qb qe : Nat) (cA cE : ClassId), at_X dC dI cA cE (va_A [(qx, .inr (2, [.null, .null, .int 0, .int 0, .int 0, .int 0, .int 0, .int 0]))] sz) qx qp qf qb qe n2 (tt_lim n3 3) (tt_lim n4 5) (1, 0, 0, tt_pres (tt_fl 32) (n1 &&& 65535), (fun _ => 0), 0, 0, 0) t) (va_A [(qx, .inr (2, [.null, .null, .int 0, .int 0, .int 0, .int 0, .int 0, .int 0]))] sz)) 4 40 (va_A [(qx, .inr (2, [.null, .null, .int 0, .int 0, .int 0, .int 0, .int 0, .int 0]))] sz) := by
  refine Met.ofW (cc := cX2_init) (maxL := 5) (ret := none) (by decide) rfl ?_
  intro p e s m args below meth c s₁ B hml hv
  obtain ⟨rfl, hsz, hP, hK, hD0⟩ := hv
  have hx := B.exec
  have hb := B.bytes
  have hr := B.returns
  have hts := atoms_spec (ws := wsX2_init) B.pre
  have hown : s.vm.findClass RX2 = some m.cls := findClass_of_methodNamed B.named
  have hlocks := B.notSynchronized
  have hin : meth.name = "<init>" := (name_of_methodNamed B.named B.method).1
  subst hsz
  have hD := hD0.self (sz := s.heap.size)
  generalize hAe : va_A [(qx, .inr (2, [.null, .null, .int 0, .int 0, .int 0, .int 0, .int 0, .int 0]))] s.heap.size = A at hD ⊢
  have hA : ∀ q : Nat, s.heap.size ≤ q → A q := fun q h => by rw [← hAe]; exact Or.inr h
  have hS : va_S A s.heap s.heap [] := va_S.rf
  have hP : va_P (dC, dI) ttCl [(qx, .inr (2, [.null, .null, .int 0, .int 0, .int 0, .int 0, .int 0, .int 0]))] s.heap := hP
  have hl := lv_entry ([.ref qx, .int n1, .int n2, .int n3, .int n4]) (n := 5) (Nat.le_of_ble_eq_true rfl)
  rw [lg_entry_eq]
  generalize (lg_sl ([.ref qx, .int n1, .int n2, .int n3, .int n4]) ++ List.replicate (5 - (lg_sl ([.ref qx, .int n1, .int n2, .int n3, .int n4])).length) Slot.unset).toArray = ls at hl ⊢
  have hl : lv_has ls 5 [(0, .ref qx), (1, .int n1), (2, .int n2), (3, .int n3), (4, .int n4)] := hl
  refine lv_aload_n hx hb dX2_init_0 rfl (lv_at hl 0 rfl) ?_
  refine W.objInit hx hb hown (hts (.methodLink RX2 1 objectInit) (by decide +kernel)) (hts (.instanceMethod objectInit) (by decide +kernel)) (hts (.code objectInit ⟨#[0xb1]⟩ 1 none) (by decide +kernel)) rfl (by rw [hml]; exact hl.1) rfl dX2_init_1 (Nat.le_of_ble_eq_true rfl) (Nat.le_of_ble_eq_true rfl) ?_
  refine W.eq (g2 := F0 m 4 ls []) rfl ?_
  refine lv_aload_n hx hb dX2_init_4 rfl (lv_at hl 0 rfl) ?_
  refine va_new (ci := 0) (fs := [.null, .null, .int 0, .int 0, .int 0]) (C := RX0) (T := TX0) (N := 5) hx hb hts (by decide +kernel) tyX0 tyX0_ok hown (hts (.classLink RX2 7 RX0) (by decide +kernel)) (hts (.instantiable RX0 5) (by decide +kernel)) (hts (.initialized RX0) (by decide +kernel)) hK hP hD hS hA rfl (fun j hj => by rcases (show j = 0 ∨ j = 1 ∨ j = 2 ∨ j = 3 ∨ j = 4 by omega) with rfl | rfl | rfl | rfl | rfl <;> rfl) (Nat.le_of_ble_eq_true rfl) (Nat.le_of_ble_eq_true rfl) dX2_init_5 (fun qn5 H hP hD hS => ?_)
  have hP : va_P (dC, dI) ttCl [(qx, .inr (2, [.null, .null, .int 0, .int 0, .int 0, .int 0, .int 0, .int 0])), (qn5, .inr (0, [.null, .null, .int 0, .int 0, .int 0]))] H := hP
  have hD : va_D A [(qx, .inr (2, [.null, .null, .int 0, .int 0, .int 0, .int 0, .int 0, .int 0])), (qn5, .inr (0, [.null, .null, .int 0, .int 0, .int 0]))] := hD
  refine W.widen (k := 1) (n := 5) (by omega) (by omega) ?_
  refine lv_dup hx hb dX2_init_8 rfl ?_
  have hPc := hP.sub (ws' := [(qn5, .inr (0, [.null, .null, .int 0, .int 0, .int 0]))]) [1] rfl
  have hDc := hD.sub (ws' := [(qn5, .inr (0, [.null, .null, .int 0, .int 0, .int 0]))]) [1] (by decide) rfl
  have hKc := hK.sub (tys' := []) [] rfl
  have hFc := va_free (wc := [(qn5, .inr (0, [.null, .null, .int 0, .int 0, .int 0]))]) hD hS hA [1] rfl
  refine va_callv (va_runI (As := []) (rest := [.ref qn5, .ref qx]) ⟨hx, hb, hml, hown, hts⟩ (c_F_init l dC dI qn5 (H.size)) (cwI 0 hts gX2_init_X0_init rfl rfl rfl (hts (.initialized RX0) (by decide +kernel)) (hts (.methodLink RX2 9 yX0_init) (by decide +kernel)) (hts (.instanceMethod yX0_init) (by decide +kernel)) rfl (by decide +kernel) ⟨Nat.le_of_ble_eq_true rfl, Nat.le_of_ble_eq_true rfl⟩) ⟨fun a U g mk q => by obtain ⟨q0, q1, qP, qK, qD⟩ := q; exact ⟨q0, q1, qP, va_K.moved (u := U) (U := U.calling g mk a) (Vm.Alike.refl U.vm) qK, qD⟩, fun U hU hW => ⟨rfl, by rw [hU], by rw [hU]; exact hPc, va_K.moved hW.alike hKc, hDc.weaken (fun _ _ _ _ => trivial)⟩⟩ rfl rfl hl.1 rfl (lv_room (Nat.le_of_ble_eq_true rfl)) dX2_init_9 ⟨Nat.le_of_ble_eq_true rfl, Nat.le_of_ble_eq_true rfl⟩) hS (fun q _ h => hFc q h) hFc (fun u t H locs ht hvm hw hB hz1 hk1 hS => ?_)
  obtain ⟨qb, qe, cA, cE, hP1, hK1, hD1⟩ := hB
  rw [ht] at hP1
  obtain ⟨hP, hD⟩ := va_join (wr := [(qx, .inr (2, [.null, .null, .int 0, .int 0, .int 0, .int 0, .int 0, .int 0]))]) (w1 := [(qn5, .inr (0, [.ref qb, .ref qe, .int 0, .int 0, .int 0])), (qb, .inl (cA, 32, .inl (tt_fl 32))), (qe, .inl (cE, 2, .inl (fun _ => 0)))]) hP hD [1] [0] rfl rfl (by decide) (by decide) hk1 hFc hP1 hD1
  have hK := hK.app (va_K.moved hvm.symm hK1)
  have hK : va_K (dC, dI) ttCl [(cA, .int), (cE, .int)] s := hK
  have hP : va_P (dC, dI) ttCl [(qx, .inr (2, [.null, .null, .int 0, .int 0, .int 0, .int 0, .int 0, .int 0])), (qn5, .inr (0, [.ref qb, .ref qe, .int 0, .int 0, .int 0])), (qb, .inl (cA, 32, .inl (tt_fl 32))), (qe, .inl (cE, 2, .inl (fun _ => 0)))] H := hP
  have hD : va_D A [(qx, .inr (2, [.null, .null, .int 0, .int 0, .int 0, .int 0, .int 0, .int 0])), (qn5, .inr (0, [.ref qb, .ref qe, .int 0, .int 0, .int 0])), (qb, .inl (cA, 32, .inl (tt_fl 32))), (qe, .inl (cE, 2, .inl (fun _ => 0)))] := hD
  refine W.widen (k := 3) (n := 39) (by omega) (by omega) ?_
  refine va_putF (D := (dC, dI)) (ci := 2) (v := .ref qn5) (ty := .object "TornTryCounter$Flash") (C := RX2) (T := TX2) (N := 8) hx hb hts (by decide +kernel) tyX2 tyX2_ok nmX2 hown hK hP hD hS 0 rfl rfl 0 (by decide) (hts (.fieldLink RX2 10 "TornTryCounter" "flash" "LTornTryCounter$Flash;") (by decide +kernel)) (fun _ h9 => h9) rfl hin rfl (by decide +kernel) rfl rfl (Nat.le_of_ble_eq_true rfl) dX2_init_12 (fun H locs hP hD hS => ?_)
  have hP : va_P (dC, dI) ttCl [(qx, .inr (2, [.ref qn5, .null, .int 0, .int 0, .int 0, .int 0, .int 0, .int 0])), (qn5, .inr (0, [.ref qb, .ref qe, .int 0, .int 0, .int 0])), (qb, .inl (cA, 32, .inl (tt_fl 32))), (qe, .inl (cE, 2, .inl (fun _ => 0)))] H := hP
  have hD : va_D A [(qx, .inr (2, [.ref qn5, .null, .int 0, .int 0, .int 0, .int 0, .int 0, .int 0])), (qn5, .inr (0, [.ref qb, .ref qe, .int 0, .int 0, .int 0])), (qb, .inl (cA, 32, .inl (tt_fl 32))), (qe, .inl (cE, 2, .inl (fun _ => 0)))] := hD
  refine lv_aload_n hx hb dX2_init_15 rfl (lv_at hl 0 rfl) ?_
  refine va_new (ci := 1) (fs := [.null]) (C := RX1) (T := TX1) (N := 1) hx hb hts (by decide +kernel) tyX1 tyX1_ok hown (hts (.classLink RX2 16 RX1) (by decide +kernel)) (hts (.instantiable RX1 1) (by decide +kernel)) (hts (.initialized RX1) (by decide +kernel)) hK hP hD hS hA rfl (fun j hj => by rcases (show j = 0 by omega) with rfl <;> rfl) (Nat.le_of_ble_eq_true rfl) (Nat.le_of_ble_eq_true rfl) dX2_init_16 (fun qn16 H hP hD hS => ?_)
  have hP : va_P (dC, dI) ttCl [(qx, .inr (2, [.ref qn5, .null, .int 0, .int 0, .int 0, .int 0, .int 0, .int 0])), (qn5, .inr (0, [.ref qb, .ref qe, .int 0, .int 0, .int 0])), (qb, .inl (cA, 32, .inl (tt_fl 32))), (qe, .inl (cE, 2, .inl (fun _ => 0))), (qn16, .inr (1, [.null]))] H := hP
  have hD : va_D A [(qx, .inr (2, [.ref qn5, .null, .int 0, .int 0, .int 0, .int 0, .int 0, .int 0])), (qn5, .inr (0, [.ref qb, .ref qe, .int 0, .int 0, .int 0])), (qb, .inl (cA, 32, .inl (tt_fl 32))), (qe, .inl (cE, 2, .inl (fun _ => 0))), (qn16, .inr (1, [.null]))] := hD
  refine W.widen (k := 4) (n := 40) (by omega) (by omega) ?_
  refine lv_dup hx hb dX2_init_19 rfl ?_
  refine lv_aload_n hx hb dX2_init_20 rfl (lv_at hl 0 rfl) ?_
  refine va_get (D := (dC, dI)) (ci := 2) (v := .ref qn5) (C := RX2) (T := TX2) (N := 8) hx hb hts (by decide +kernel) hown hK hP 0 rfl rfl 0 (by decide) (hts (.fieldLink RX2 10 "TornTryCounter" "flash" "LTornTryCounter$Flash;") (by decide +kernel)) (fun _ h9 => h9) rfl dX2_init_21 ?_
  refine lv_iload_n hx hb dX2_init_24 rfl (lv_at hl 1 rfl) ?_
  refine lv_ldc (v := 65535) hx hb hown (hts (.constant RX2 18 65535) (by decide +kernel)) dX2_init_25 ?_
  refine lv_iand hx hb dX2_init_27 ?_
  have hPc := hP.sub (ws' := [(qn16, .inr (1, [.null])), (qn5, .inr (0, [.ref qb, .ref qe, .int 0, .int 0, .int 0])), (qb, .inl (cA, 32, .inl (tt_fl 32))), (qe, .inl (cE, 2, .inl (fun _ => 0)))]) [4, 1, 2, 3] rfl
  have hDc := hD.sub (ws' := [(qn16, .inr (1, [.null])), (qn5, .inr (0, [.ref qb, .ref qe, .int 0, .int 0, .int 0])), (qb, .inl (cA, 32, .inl (tt_fl 32))), (qe, .inl (cE, 2, .inl (fun _ => 0)))]) [4, 1, 2, 3] (by decide) rfl
  have hKc := hK.sub (tys' := [(cA, .int), (cE, .int)]) [0, 1] rfl
  have hFc := va_free (wc := [(qn16, .inr (1, [.null])), (qn5, .inr (0, [.ref qb, .ref qe, .int 0, .int 0, .int 0])), (qb, .inl (cA, 32, .inl (tt_fl 32))), (qe, .inl (cE, 2, .inl (fun _ => 0)))]) hD hS hA [4, 1, 2, 3] rfl
  refine va_callv (va_runI (As := [.ref qn5, .int (n1 &&& 65535)]) (rest := [.ref qn16, .ref qx]) ⟨hx, hb, hml, hown, hts⟩ (c_P_init l dC dI cA cE qn16 qn5 qb qe H.size (tt_fl 32) (fun _ => 0) 0 0 0 (n1 &&& 65535)) (cwI 2 hts gX2_init_X1_init rfl rfl rfl (hts (.initialized RX1) (by decide +kernel)) (hts (.methodLink RX2 19 yX1_init) (by decide +kernel)) (hts (.instanceMethod yX1_init) (by decide +kernel)) rfl (by decide +kernel) ⟨Nat.le_of_ble_eq_true rfl, Nat.le_of_ble_eq_true rfl⟩) ⟨fun a U g mk q => by obtain ⟨q0, q1, qP, qK, qD⟩ := q; exact ⟨q0, q1, qP, va_K.moved (u := U) (U := U.calling g mk a) (Vm.Alike.refl U.vm) qK, qD⟩, fun U hU hW => ⟨rfl, by rw [hU], by rw [hU]; exact hPc, va_K.moved hW.alike hKc, hDc.weaken (fun _ _ _ _ => trivial)⟩⟩ rfl rfl hl.1 rfl (lv_room (Nat.le_of_ble_eq_true rfl)) dX2_init_28 ⟨Nat.le_of_ble_eq_true rfl, Nat.le_of_ble_eq_true rfl⟩) hS (fun q _ h => hFc q h) hFc (fun u t H locs ht hvm hw hB hz1 hk1 hS => ?_)
  obtain ⟨hP1, hK1, hD1⟩ := hB
  rw [ht] at hP1
  obtain ⟨hP, hD⟩ := va_join (wr := [(qx, .inr (2, [.ref qn5, .null, .int 0, .int 0, .int 0, .int 0, .int 0, .int 0]))]) (w1 := [(qn16, .inr (1, [.ref qn5])), (qn5, .inr (0, [.ref qb, .ref qe, .int 0, .int 0, .int 0])), (qb, .inl (cA, 32, .inl (tt_pres (tt_fl 32) (n1 &&& 65535)))), (qe, .inl (cE, 2, .inl (fun _ => 0)))]) hP hD [4, 1, 2, 3] [0] rfl rfl (by decide) (by decide) hk1 hFc hP1 hD1
  have hP : va_P (dC, dI) ttCl [(qx, .inr (2, [.ref qn5, .null, .int 0, .int 0, .int 0, .int 0, .int 0, .int 0])), (qn16, .inr (1, [.ref qn5])), (qn5, .inr (0, [.ref qb, .ref qe, .int 0, .int 0, .int 0])), (qb, .inl (cA, 32, .inl (tt_pres (tt_fl 32) (n1 &&& 65535)))), (qe, .inl (cE, 2, .inl (fun _ => 0)))] H := hP
  have hD : va_D A [(qx, .inr (2, [.ref qn5, .null, .int 0, .int 0, .int 0, .int 0, .int 0, .int 0])), (qn16, .inr (1, [.ref qn5])), (qn5, .inr (0, [.ref qb, .ref qe, .int 0, .int 0, .int 0])), (qb, .inl (cA, 32, .inl (tt_pres (tt_fl 32) (n1 &&& 65535)))), (qe, .inl (cE, 2, .inl (fun _ => 0)))] := hD
  refine va_putF (D := (dC, dI)) (ci := 2) (v := .ref qn16) (ty := .object "TornTryCounter$Pages") (C := RX2) (T := TX2) (N := 8) hx hb hts (by decide +kernel) tyX2 tyX2_ok nmX2 hown hK hP hD hS 0 rfl rfl 1 (by decide) (hts (.fieldLink RX2 22 "TornTryCounter" "pages" "LTornTryCounter$Pages;") (by decide +kernel)) (fun _ h9 => h9) rfl hin rfl (by decide +kernel) rfl rfl (Nat.le_of_ble_eq_true rfl) dX2_init_31 (fun H locs hP hD hS => ?_)
  have hP : va_P (dC, dI) ttCl [(qx, .inr (2, [.ref qn5, .ref qn16, .int 0, .int 0, .int 0, .int 0, .int 0, .int 0])), (qn16, .inr (1, [.ref qn5])), (qn5, .inr (0, [.ref qb, .ref qe, .int 0, .int 0, .int 0])), (qb, .inl (cA, 32, .inl (tt_pres (tt_fl 32) (n1 &&& 65535)))), (qe, .inl (cE, 2, .inl (fun _ => 0)))] H := hP
  have hD : va_D A [(qx, .inr (2, [.ref qn5, .ref qn16, .int 0, .int 0, .int 0, .int 0, .int 0, .int 0])), (qn16, .inr (1, [.ref qn5])), (qn5, .inr (0, [.ref qb, .ref qe, .int 0, .int 0, .int 0])), (qb, .inl (cA, 32, .inl (tt_pres (tt_fl 32) (n1 &&& 65535)))), (qe, .inl (cE, 2, .inl (fun _ => 0)))] := hD
  refine lv_aload_n hx hb dX2_init_34 rfl (lv_at hl 0 rfl) ?_
  refine lv_iload_n hx hb dX2_init_35 rfl (lv_at hl 2 rfl) ?_
  refine va_putF (D := (dC, dI)) (ci := 2) (v := .int n2) (ty := .int) (C := RX2) (T := TX2) (N := 8) hx hb hts (by decide +kernel) tyX2 tyX2_ok nmX2 hown hK hP hD hS 0 rfl rfl 2 (by decide) (hts (.fieldLink RX2 26 "TornTryCounter" "pukNumber" "I") (by decide +kernel)) (fun _ h9 => h9) rfl hin rfl (by decide +kernel) rfl rfl (Nat.le_of_ble_eq_true rfl) dX2_init_36 (fun H locs hP hD hS => ?_)
  have hP : va_P (dC, dI) ttCl [(qx, .inr (2, [.ref qn5, .ref qn16, .int n2, .int 0, .int 0, .int 0, .int 0, .int 0])), (qn16, .inr (1, [.ref qn5])), (qn5, .inr (0, [.ref qb, .ref qe, .int 0, .int 0, .int 0])), (qb, .inl (cA, 32, .inl (tt_pres (tt_fl 32) (n1 &&& 65535)))), (qe, .inl (cE, 2, .inl (fun _ => 0)))] H := hP
  have hD : va_D A [(qx, .inr (2, [.ref qn5, .ref qn16, .int n2, .int 0, .int 0, .int 0, .int 0, .int 0])), (qn16, .inr (1, [.ref qn5])), (qn5, .inr (0, [.ref qb, .ref qe, .int 0, .int 0, .int 0])), (qb, .inl (cA, 32, .inl (tt_pres (tt_fl 32) (n1 &&& 65535)))), (qe, .inl (cE, 2, .inl (fun _ => 0)))] := hD
  refine lv_aload_n hx hb dX2_init_39 rfl (lv_at hl 0 rfl) ?_
  refine lv_iload_n hx hb dX2_init_40 rfl (lv_at hl 3 rfl) ?_
  refine lv_iconst (v := 3) hx hb dX2_init_41 (by decide) ?_
  have hPc := hP.sub (ws' := []) [] rfl
  have hDc := hD.sub (ws' := []) [] (by decide) rfl
  have hKc := hK.sub (tys' := []) [] rfl
  have hFc := va_free (wc := []) hD hS hA [] rfl
  refine va_calli (va_runS (As := [.int n3, .int 3]) (rest := [.ref qx]) ⟨hx, hb, hml, hown, hts⟩ (c_X_limitOr l dC dI H.size n3 3) (va_cwS 2 hts gX2_init_X2_limitOr rfl rfl rfl (by decide +kernel) ⟨Nat.le_of_ble_eq_true rfl, Nat.le_of_ble_eq_true rfl⟩) ⟨fun a U g mk q => by obtain ⟨q0, q1, qP, qK, qD⟩ := q; exact ⟨q0, q1, qP, va_K.moved (u := U) (U := U.calling g mk a) (Vm.Alike.refl U.vm) qK, qD⟩, fun U hU hW => ⟨rfl, by rw [hU], by rw [hU]; exact hPc, va_K.moved hW.alike hKc, hDc.weaken (fun _ _ _ _ => trivial)⟩⟩ rfl rfl hl.1 rfl (lv_room (Nat.le_of_ble_eq_true rfl)) dX2_init_42 ⟨Nat.le_of_ble_eq_true rfl, Nat.le_of_ble_eq_true rfl⟩) hS (fun q _ h => hFc q h) hFc (fun r_3 u t H locs ht hvm hw hB hz1 hk1 hS => ?_)
  have hw : tt_lim n3 3 = r_3 := hw.symm
  subst hw
  obtain ⟨hP1, hK1, hD1⟩ := hB
  rw [ht] at hP1
  obtain ⟨hP, hD⟩ := va_join (wr := [(qx, .inr (2, [.ref qn5, .ref qn16, .int n2, .int 0, .int 0, .int 0, .int 0, .int 0])), (qn16, .inr (1, [.ref qn5])), (qn5, .inr (0, [.ref qb, .ref qe, .int 0, .int 0, .int 0])), (qb, .inl (cA, 32, .inl (tt_pres (tt_fl 32) (n1 &&& 65535)))), (qe, .inl (cE, 2, .inl (fun _ => 0)))]) (w1 := []) hP hD [] [0, 1, 2, 3, 4] rfl rfl (by decide) (by decide) hk1 hFc hP1 hD1
  have hP : va_P (dC, dI) ttCl [(qx, .inr (2, [.ref qn5, .ref qn16, .int n2, .int 0, .int 0, .int 0, .int 0, .int 0])), (qn16, .inr (1, [.ref qn5])), (qn5, .inr (0, [.ref qb, .ref qe, .int 0, .int 0, .int 0])), (qb, .inl (cA, 32, .inl (tt_pres (tt_fl 32) (n1 &&& 65535)))), (qe, .inl (cE, 2, .inl (fun _ => 0)))] H := hP
  have hD : va_D A [(qx, .inr (2, [.ref qn5, .ref qn16, .int n2, .int 0, .int 0, .int 0, .int 0, .int 0])), (qn16, .inr (1, [.ref qn5])), (qn5, .inr (0, [.ref qb, .ref qe, .int 0, .int 0, .int 0])), (qb, .inl (cA, 32, .inl (tt_pres (tt_fl 32) (n1 &&& 65535)))), (qe, .inl (cE, 2, .inl (fun _ => 0)))] := hD
  refine va_putF (D := (dC, dI)) (ci := 2) (v := .int (tt_lim n3 3)) (ty := .int) (C := RX2) (T := TX2) (N := 8) hx hb hts (by decide +kernel) tyX2 tyX2_ok nmX2 hown hK hP hD hS 0 rfl rfl 3 (by decide) (hts (.fieldLink RX2 34 "TornTryCounter" "pinLimit" "I") (by decide +kernel)) (fun _ h9 => h9) rfl hin rfl (by decide +kernel) rfl rfl (Nat.le_of_ble_eq_true rfl) dX2_init_45 (fun H locs hP hD hS => ?_)
  have hP : va_P (dC, dI) ttCl [(qx, .inr (2, [.ref qn5, .ref qn16, .int n2, .int (tt_lim n3 3), .int 0, .int 0, .int 0, .int 0])), (qn16, .inr (1, [.ref qn5])), (qn5, .inr (0, [.ref qb, .ref qe, .int 0, .int 0, .int 0])), (qb, .inl (cA, 32, .inl (tt_pres (tt_fl 32) (n1 &&& 65535)))), (qe, .inl (cE, 2, .inl (fun _ => 0)))] H := hP
  have hD : va_D A [(qx, .inr (2, [.ref qn5, .ref qn16, .int n2, .int (tt_lim n3 3), .int 0, .int 0, .int 0, .int 0])), (qn16, .inr (1, [.ref qn5])), (qn5, .inr (0, [.ref qb, .ref qe, .int 0, .int 0, .int 0])), (qb, .inl (cA, 32, .inl (tt_pres (tt_fl 32) (n1 &&& 65535)))), (qe, .inl (cE, 2, .inl (fun _ => 0)))] := hD
  refine lv_aload_n hx hb dX2_init_48 rfl (lv_at hl 0 rfl) ?_
  refine lv_iload hx hb dX2_init_49 (lv_at hl 4 rfl) ?_
  refine lv_iconst (v := 5) hx hb dX2_init_51 (by decide) ?_
  have hPc := hP.sub (ws' := []) [] rfl
  have hDc := hD.sub (ws' := []) [] (by decide) rfl
  have hKc := hK.sub (tys' := []) [] rfl
  have hFc := va_free (wc := []) hD hS hA [] rfl
  refine va_calli (va_runS (As := [.int n4, .int 5]) (rest := [.ref qx]) ⟨hx, hb, hml, hown, hts⟩ (c_X_limitOr l dC dI H.size n4 5) (va_cwS 2 hts gX2_init_X2_limitOr rfl rfl rfl (by decide +kernel) ⟨Nat.le_of_ble_eq_true rfl, Nat.le_of_ble_eq_true rfl⟩) ⟨fun a U g mk q => by obtain ⟨q0, q1, qP, qK, qD⟩ := q; exact ⟨q0, q1, qP, va_K.moved (u := U) (U := U.calling g mk a) (Vm.Alike.refl U.vm) qK, qD⟩, fun U hU hW => ⟨rfl, by rw [hU], by rw [hU]; exact hPc, va_K.moved hW.alike hKc, hDc.weaken (fun _ _ _ _ => trivial)⟩⟩ rfl rfl hl.1 rfl (lv_room (Nat.le_of_ble_eq_true rfl)) dX2_init_52 ⟨Nat.le_of_ble_eq_true rfl, Nat.le_of_ble_eq_true rfl⟩) hS (fun q _ h => hFc q h) hFc (fun r_4 u t H locs ht hvm hw hB hz1 hk1 hS => ?_)
  have hw : tt_lim n4 5 = r_4 := hw.symm
  subst hw
  obtain ⟨hP1, hK1, hD1⟩ := hB
  rw [ht] at hP1
  obtain ⟨hP, hD⟩ := va_join (wr := [(qx, .inr (2, [.ref qn5, .ref qn16, .int n2, .int (tt_lim n3 3), .int 0, .int 0, .int 0, .int 0])), (qn16, .inr (1, [.ref qn5])), (qn5, .inr (0, [.ref qb, .ref qe, .int 0, .int 0, .int 0])), (qb, .inl (cA, 32, .inl (tt_pres (tt_fl 32) (n1 &&& 65535)))), (qe, .inl (cE, 2, .inl (fun _ => 0)))]) (w1 := []) hP hD [] [0, 1, 2, 3, 4] rfl rfl (by decide) (by decide) hk1 hFc hP1 hD1
  have hP : va_P (dC, dI) ttCl [(qx, .inr (2, [.ref qn5, .ref qn16, .int n2, .int (tt_lim n3 3), .int 0, .int 0, .int 0, .int 0])), (qn16, .inr (1, [.ref qn5])), (qn5, .inr (0, [.ref qb, .ref qe, .int 0, .int 0, .int 0])), (qb, .inl (cA, 32, .inl (tt_pres (tt_fl 32) (n1 &&& 65535)))), (qe, .inl (cE, 2, .inl (fun _ => 0)))] H := hP
  have hD : va_D A [(qx, .inr (2, [.ref qn5, .ref qn16, .int n2, .int (tt_lim n3 3), .int 0, .int 0, .int 0, .int 0])), (qn16, .inr (1, [.ref qn5])), (qn5, .inr (0, [.ref qb, .ref qe, .int 0, .int 0, .int 0])), (qb, .inl (cA, 32, .inl (tt_pres (tt_fl 32) (n1 &&& 65535)))), (qe, .inl (cE, 2, .inl (fun _ => 0)))] := hD
  refine va_putF (D := (dC, dI)) (ci := 2) (v := .int (tt_lim n4 5)) (ty := .int) (C := RX2) (T := TX2) (N := 8) hx hb hts (by decide +kernel) tyX2 tyX2_ok nmX2 hown hK hP hD hS 0 rfl rfl 4 (by decide) (hts (.fieldLink RX2 37 "TornTryCounter" "pukLimit" "I") (by decide +kernel)) (fun _ h9 => h9) rfl hin rfl (by decide +kernel) rfl rfl (Nat.le_of_ble_eq_true rfl) dX2_init_55 (fun H locs hP hD hS => ?_)
  have hP : va_P (dC, dI) ttCl [(qx, .inr (2, [.ref qn5, .ref qn16, .int n2, .int (tt_lim n3 3), .int (tt_lim n4 5), .int 0, .int 0, .int 0])), (qn16, .inr (1, [.ref qn5])), (qn5, .inr (0, [.ref qb, .ref qe, .int 0, .int 0, .int 0])), (qb, .inl (cA, 32, .inl (tt_pres (tt_fl 32) (n1 &&& 65535)))), (qe, .inl (cE, 2, .inl (fun _ => 0)))] H := hP
  have hD : va_D A [(qx, .inr (2, [.ref qn5, .ref qn16, .int n2, .int (tt_lim n3 3), .int (tt_lim n4 5), .int 0, .int 0, .int 0])), (qn16, .inr (1, [.ref qn5])), (qn5, .inr (0, [.ref qb, .ref qe, .int 0, .int 0, .int 0])), (qb, .inl (cA, 32, .inl (tt_pres (tt_fl 32) (n1 &&& 65535)))), (qe, .inl (cE, 2, .inl (fun _ => 0)))] := hD
  refine lv_aload_n hx hb dX2_init_58 rfl (lv_at hl 0 rfl) ?_
  refine lv_iconst (v := 1) hx hb dX2_init_59 (by decide) ?_
  refine va_put (D := (dC, dI)) (ci := 2) (v := .int 1) (ty := .boolean) (C := RX2) (T := TX2) (N := 8) hx hb hts (by decide +kernel) tyX2 tyX2_ok nmX2 hown hK hP hD hS 0 rfl rfl 5 (by decide) (hts (.fieldLink RX2 40 "TornTryCounter" "powered" "Z") (by decide +kernel)) (fun _ h9 => h9) rfl (by decide +kernel) rfl rfl (Nat.le_of_ble_eq_true rfl) dX2_init_60 (fun H locs hP hD hS => ?_)
  have hP : va_P (dC, dI) ttCl [(qx, .inr (2, [.ref qn5, .ref qn16, .int n2, .int (tt_lim n3 3), .int (tt_lim n4 5), .int 1, .int 0, .int 0])), (qn16, .inr (1, [.ref qn5])), (qn5, .inr (0, [.ref qb, .ref qe, .int 0, .int 0, .int 0])), (qb, .inl (cA, 32, .inl (tt_pres (tt_fl 32) (n1 &&& 65535)))), (qe, .inl (cE, 2, .inl (fun _ => 0)))] H := hP
  have hD : va_D A [(qx, .inr (2, [.ref qn5, .ref qn16, .int n2, .int (tt_lim n3 3), .int (tt_lim n4 5), .int 1, .int 0, .int 0])), (qn16, .inr (1, [.ref qn5])), (qn5, .inr (0, [.ref qb, .ref qe, .int 0, .int 0, .int 0])), (qb, .inl (cA, 32, .inl (tt_pres (tt_fl 32) (n1 &&& 65535)))), (qe, .inl (cE, 2, .inl (fun _ => 0)))] := hD
  refine lv_aload_n hx hb dX2_init_63 rfl (lv_at hl 0 rfl) ?_
  refine lv_iconst (v := 0) hx hb dX2_init_64 (by decide) ?_
  refine va_put (D := (dC, dI)) (ci := 2) (v := .int 0) (ty := .boolean) (C := RX2) (T := TX2) (N := 8) hx hb hts (by decide +kernel) tyX2 tyX2_ok nmX2 hown hK hP hD hS 0 rfl rfl 6 (by decide) (hts (.fieldLink RX2 44 "TornTryCounter" "holderIn" "Z") (by decide +kernel)) (fun _ h9 => h9) rfl (by decide +kernel) rfl rfl (Nat.le_of_ble_eq_true rfl) dX2_init_65 (fun H locs hP hD hS => ?_)
  have hP : va_P (dC, dI) ttCl [(qx, .inr (2, [.ref qn5, .ref qn16, .int n2, .int (tt_lim n3 3), .int (tt_lim n4 5), .int 1, .int 0, .int 0])), (qn16, .inr (1, [.ref qn5])), (qn5, .inr (0, [.ref qb, .ref qe, .int 0, .int 0, .int 0])), (qb, .inl (cA, 32, .inl (tt_pres (tt_fl 32) (n1 &&& 65535)))), (qe, .inl (cE, 2, .inl (fun _ => 0)))] H := hP
  have hD : va_D A [(qx, .inr (2, [.ref qn5, .ref qn16, .int n2, .int (tt_lim n3 3), .int (tt_lim n4 5), .int 1, .int 0, .int 0])), (qn16, .inr (1, [.ref qn5])), (qn5, .inr (0, [.ref qb, .ref qe, .int 0, .int 0, .int 0])), (qb, .inl (cA, 32, .inl (tt_pres (tt_fl 32) (n1 &&& 65535)))), (qe, .inl (cE, 2, .inl (fun _ => 0)))] := hD
  refine lv_aload_n hx hb dX2_init_68 rfl (lv_at hl 0 rfl) ?_
  refine lv_iconst (v := 0) hx hb dX2_init_69 (by decide) ?_
  refine va_put (D := (dC, dI)) (ci := 2) (v := .int 0) (ty := .int) (C := RX2) (T := TX2) (N := 8) hx hb hts (by decide +kernel) tyX2 tyX2_ok nmX2 hown hK hP hD hS 0 rfl rfl 7 (by decide) (hts (.fieldLink RX2 47 "TornTryCounter" "tearsArmed" "I") (by decide +kernel)) (fun _ h9 => h9) rfl (by decide +kernel) rfl rfl (Nat.le_of_ble_eq_true rfl) dX2_init_70 (fun H locs hP hD hS => ?_)
  have hP : va_P (dC, dI) ttCl [(qx, .inr (2, [.ref qn5, .ref qn16, .int n2, .int (tt_lim n3 3), .int (tt_lim n4 5), .int 1, .int 0, .int 0])), (qn16, .inr (1, [.ref qn5])), (qn5, .inr (0, [.ref qb, .ref qe, .int 0, .int 0, .int 0])), (qb, .inl (cA, 32, .inl (tt_pres (tt_fl 32) (n1 &&& 65535)))), (qe, .inl (cE, 2, .inl (fun _ => 0)))] H := hP
  have hD : va_D A [(qx, .inr (2, [.ref qn5, .ref qn16, .int n2, .int (tt_lim n3 3), .int (tt_lim n4 5), .int 1, .int 0, .int 0])), (qn16, .inr (1, [.ref qn5])), (qn5, .inr (0, [.ref qb, .ref qe, .int 0, .int 0, .int 0])), (qb, .inl (cA, 32, .inl (tt_pres (tt_fl 32) (n1 &&& 65535)))), (qe, .inl (cE, 2, .inl (fun _ => 0)))] := hD
  have hP9 := hP.sub (ws' := [(qx, .inr (2, [.ref qn5, .ref qn16, .int n2, .int (tt_lim n3 3), .int (tt_lim n4 5), .int 1, .int 0, .int 0])), (qn16, .inr (1, [.ref qn5])), (qn5, .inr (0, [.ref qb, .ref qe, .int 0, .int 0, .int 0])), (qb, .inl (cA, 32, .inl (tt_pres (tt_fl 32) (n1 &&& 65535)))), (qe, .inl (cE, 2, .inl (fun _ => 0)))]) [0, 1, 2, 3, 4] rfl
  have hD9 := hD.sub (ws' := [(qx, .inr (2, [.ref qn5, .ref qn16, .int n2, .int (tt_lim n3 3), .int (tt_lim n4 5), .int 1, .int 0, .int 0])), (qn16, .inr (1, [.ref qn5])), (qn5, .inr (0, [.ref qb, .ref qe, .int 0, .int 0, .int 0])), (qb, .inl (cA, 32, .inl (tt_pres (tt_fl 32) (n1 &&& 65535)))), (qe, .inl (cE, 2, .inl (fun _ => 0)))]) [0, 1, 2, 3, 4] (by decide) rfl
  have hK9 := hK.sub (tys' := [(cA, .int), (cE, .int)]) [0, 1] rfl
  exact W.vret hx hb hr (fun t ht hW => ⟨⟨(), rfl, trivial, qn16, qn5, qb, qe, cA, cE, by rw [ht]; exact hP9, va_K.moved hW.alike hK9, hD9⟩, hS.F ht⟩) hS.2.2 dX2_init_73
