set_option maxHeartbeats 4000000 in
set_option maxRecDepth 100000 in
theorem c_M_all (l : Launch) (dC : Nat → ClassId) (dI : Nat → Nat → Nat) (sz : Nat) (x k : Int32) : Met l yM_all wsM_all ({ frames := 0, cells := 0, slots := 0, locals := 0 }) (va_Pc [.int x, .int k] (fun U => U.heap.size = sz ∧ va_P (dC, dI) ttCl [] U.heap ∧ va_K (dC, dI) ttCl [] U ∧ va_D (fun _ => True) [])) (va_Qi (fun (r : Int32) (_ : Unit) => r = mm_all x k) (fun (_ : Unit) (t : State) => va_P (dC, dI) ttCl [] t.heap ∧ va_K (dC, dI) ttCl [] t ∧ va_D (va_A [] sz) []) (va_A [] sz)) 0 0 (va_A [] sz) := by
  refine Met.ofW (cc := cM_all) (maxL := 2) (ret := (some .boolean)) (by decide) rfl ?_
  intro p e s m args below meth c s₁ B hml hv
  obtain ⟨rfl, hsz, hP, hK, hD0⟩ := hv
  have hx := B.exec
  have hb := B.bytes
  have hr := B.returns
  have hts := atoms_spec (ws := wsM_all) B.pre
  have hown : s.vm.findClass RM = some m.cls := findClass_of_methodNamed B.named
  have hlocks := B.notSynchronized
  subst hsz
  have hD := hD0.self (sz := s.heap.size)
  generalize hAe : va_A [] s.heap.size = A at hD ⊢
  have hA : ∀ q : Nat, s.heap.size ≤ q → A q := fun q h => by rw [← hAe]; exact Or.inr h
  have hS : va_S A s.heap s.heap [] := va_S.rf
  have hP : va_P (dC, dI) ttCl [] s.heap := hP
  have hl := lv_entry ([.int x, .int k]) (n := 2) (Nat.le_of_ble_eq_true rfl)
  rw [lg_entry_eq]
  generalize (lg_sl ([.int x, .int k]) ++ List.replicate (2 - (lg_sl ([.int x, .int k])).length) Slot.unset).toArray = ls at hl ⊢
  have hl : lv_has ls 2 [(0, .int x), (1, .int k)] := hl
  refine lv_iload_n hx hb dM_all_0 rfl (lv_at hl 0 rfl) ?_
  refine lv_if_lt (tgt := 11) hx hb dM_all_1 (by decide) (fun c_1 => ?_) (fun c_1 => ?_)
  · refine lv_iconst (v := 1) hx hb dM_all_11 (by decide) ?_
    refine lv_goto (tgt := 16) hx hb dM_all_12 (by decide) ?_
    have hP9 := hP.sub (ws' := []) [] rfl
    have hD9 := hD.sub (ws' := []) [] (by decide) rfl
    have hK9 := hK.sub (tys' := []) [] rfl
    exact W.zret (v := 1) hx hb hr (by first | rfl | decide) (fun t ht hW => ⟨⟨1, (), rfl, (by first | (simp only [mm_all, if_pos c_1, reduceIte, eq_self, tt_n10]; done) | (simp only [mm_all, c_1, reduceIte, eq_self, tt_n10]; done) | (simp [mm_all, c_1]; done)), by rw [ht]; exact hP9, va_K.moved hW.alike hK9, hD9⟩, hS.F ht⟩) hS.2.2 dM_all_16
  · refine lv_iload_n hx hb dM_all_4 rfl (lv_at hl 0 rfl) ?_
    refine lv_iload_n hx hb dM_all_5 rfl (lv_at hl 1 rfl) ?_
    refine lv_iand hx hb dM_all_6 ?_
    refine lv_iload_n hx hb dM_all_7 rfl (lv_at hl 1 rfl) ?_
    refine lv_icmp_ne (tgt := 15) hx hb dM_all_8 (by decide) (fun c_2 => ?_) (fun c_2 => ?_)
    · refine lv_iconst (v := 0) hx hb dM_all_15 (by decide) ?_
      have hP9 := hP.sub (ws' := []) [] rfl
      have hD9 := hD.sub (ws' := []) [] (by decide) rfl
      have hK9 := hK.sub (tys' := []) [] rfl
      exact W.zret (v := 0) hx hb hr (by first | rfl | decide) (fun t ht hW => ⟨⟨0, (), rfl, (by first | (simp only [mm_all, if_neg c_1, if_neg c_2, reduceIte, eq_self, tt_n10]; done) | (simp only [mm_all, c_1, c_2, reduceIte, eq_self, tt_n10]; done) | (simp [mm_all, c_1, c_2]; done)), by rw [ht]; exact hP9, va_K.moved hW.alike hK9, hD9⟩, hS.F ht⟩) hS.2.2 dM_all_16
    · refine lv_iconst (v := 1) hx hb dM_all_11 (by decide) ?_
      refine lv_goto (tgt := 16) hx hb dM_all_12 (by decide) ?_
      have hP9 := hP.sub (ws' := []) [] rfl
      have hD9 := hD.sub (ws' := []) [] (by decide) rfl
      have hK9 := hK.sub (tys' := []) [] rfl
      exact W.zret (v := 1) hx hb hr (by first | rfl | decide) (fun t ht hW => ⟨⟨1, (), rfl, (by first | (simp only [mm_all, if_neg c_1, if_pos c_2, reduceIte, eq_self, tt_n10]; done) | (simp only [mm_all, c_1, c_2, reduceIte, eq_self, tt_n10]; done) | (simp [mm_all, c_1, c_2]; done)), by rw [ht]; exact hP9, va_K.moved hW.alike hK9, hD9⟩, hS.F ht⟩) hS.2.2 dM_all_16
set_option maxHeartbeats 4000000 in
set_option maxRecDepth 100000 in
theorem c_M_operate (l : Launch) (dC : Nat → ClassId) (dI : Nat → Nat → Nat) (qm : Nat) (sz : Nat) (pk pl ul ac ag pn pt ut en og pw hd tn tk ar dn e0 e1 : Int32) : Met l yM_operate wsM_operate ({ frames := 0, cells := 0, slots := 0, locals := 0 }) (va_Pc [.ref qm] (fun U => U.heap.size = sz ∧ va_P (dC, dI) ttCl [(qm, .inr (3, [.int pl, .int ul, .int pk, .int ac, .int ag, .int pn, .int pt, .int ut, .int en, .int og, .int pw, .int hd, .int tn, .int tk, .int ar, .int dn, .int e0, .int e1]))] U.heap ∧ va_K (dC, dI) ttCl [] U ∧ va_D (fun _ => True) [(qm, .inr (3, [.int pl, .int ul, .int pk, .int ac, .int ag, .int pn, .int pt, .int ut, .int en, .int og, .int pw, .int hd, .int tn, .int tk, .int ar, .int dn, .int e0, .int e1]))])) (va_Qi (fun (r : Int32) (u : tt_M) => mm_op (ac, ag, pn, pt, ut, en, og, pw, hd, tn, tk, ar, dn, e0, e1) = (r, u)) (fun (u : tt_M) (t : State) => at_M dC dI (va_A [(qm, .inr (3, [.int pl, .int ul, .int pk, .int ac, .int ag, .int pn, .int pt, .int ut, .int en, .int og, .int pw, .int hd, .int tn, .int tk, .int ar, .int dn, .int e0, .int e1]))] sz) qm pk pl ul u t) (va_A [(qm, .inr (3, [.int pl, .int ul, .int pk, .int ac, .int ag, .int pn, .int pt, .int ut, .int en, .int og, .int pw, .int hd, .int tn, .int tk, .int ar, .int dn, .int e0, .int e1]))] sz)) 0 0 (va_A [(qm, .inr (3, [.int pl, .int ul, .int pk, .int ac, .int ag, .int pn, .int pt, .int ut, .int en, .int og, .int pw, .int hd, .int tn, .int tk, .int ar, .int dn, .int e0, .int e1]))] sz) := by
  refine Met.ofW (cc := cM_operate) (maxL := 2) (ret := (some .int)) (by decide) rfl ?_
  intro p e s m args below meth c s₁ B hml hv
  obtain ⟨rfl, hsz, hP, hK, hD0⟩ := hv
  have hx := B.exec
  have hb := B.bytes
  have hr := B.returns
  have hts := atoms_spec (ws := wsM_operate) B.pre
  have hown : s.vm.findClass RM = some m.cls := findClass_of_methodNamed B.named
  have hlocks := B.notSynchronized
  subst hsz
  have hD := hD0.self (sz := s.heap.size)
  generalize hAe : va_A [(qm, .inr (3, [.int pl, .int ul, .int pk, .int ac, .int ag, .int pn, .int pt, .int ut, .int en, .int og, .int pw, .int hd, .int tn, .int tk, .int ar, .int dn, .int e0, .int e1]))] s.heap.size = A at hD ⊢
  have hA : ∀ q : Nat, s.heap.size ≤ q → A q := fun q h => by rw [← hAe]; exact Or.inr h
  have hS : va_S A s.heap s.heap [] := va_S.rf
  have hP : va_P (dC, dI) ttCl [(qm, .inr (3, [.int pl, .int ul, .int pk, .int ac, .int ag, .int pn, .int pt, .int ut, .int en, .int og, .int pw, .int hd, .int tn, .int tk, .int ar, .int dn, .int e0, .int e1]))] s.heap := hP
  have hl := lv_entry ([.ref qm]) (n := 2) (Nat.le_of_ble_eq_true rfl)
  rw [lg_entry_eq]
  generalize (lg_sl ([.ref qm]) ++ List.replicate (2 - (lg_sl ([.ref qm])).length) Slot.unset).toArray = ls at hl ⊢
  have hl : lv_has ls 2 [(0, .ref qm)] := hl
  refine lv_aload_n hx hb dM_operate_0 rfl (lv_at hl 0 rfl) ?_
  refine lv_dup hx hb dM_operate_1 rfl ?_
  refine va_get (D := (dC, dI)) (ci := 3) (v := .int dn) (C := RM) (T := TM) (N := 18) hx hb hts (by decide +kernel) hown hK hP 0 rfl rfl 15 (by decide) (hts (.fieldLink RM 30 "TornTryCounterModel" "done" "I") (by decide +kernel)) (fun _ h9 => h9) rfl dM_operate_2 ?_
  refine lv_iconst (v := 1) hx hb dM_operate_5 (by decide) ?_
  refine lv_iadd hx hb dM_operate_6 ?_
  refine va_put (D := (dC, dI)) (ci := 3) (v := .int (dn + 1)) (ty := .int) (C := RM) (T := TM) (N := 18) hx hb hts (by decide +kernel) tyM tyM_ok nmM hown hK hP hD hS 0 rfl rfl 15 (by decide) (hts (.fieldLink RM 30 "TornTryCounterModel" "done" "I") (by decide +kernel)) (fun _ h9 => h9) rfl (by decide +kernel) rfl rfl (Nat.le_of_ble_eq_true rfl) dM_operate_7 (fun H locs hP hD hS => ?_)
  have hP : va_P (dC, dI) ttCl [(qm, .inr (3, [.int pl, .int ul, .int pk, .int ac, .int ag, .int pn, .int pt, .int ut, .int en, .int og, .int pw, .int hd, .int tn, .int tk, .int ar, .int (dn + 1), .int e0, .int e1]))] H := hP
  have hD : va_D A [(qm, .inr (3, [.int pl, .int ul, .int pk, .int ac, .int ag, .int pn, .int pt, .int ut, .int en, .int og, .int pw, .int hd, .int tn, .int tk, .int ar, .int (dn + 1), .int e0, .int e1]))] := hD
  refine lv_aload_n hx hb dM_operate_10 rfl (lv_at hl 0 rfl) ?_
  refine va_get (D := (dC, dI)) (ci := 3) (v := .int tn) (C := RM) (T := TM) (N := 18) hx hb hts (by decide +kernel) hown hK hP 0 rfl rfl 12 (by decide) (hts (.fieldLink RM 33 "TornTryCounterModel" "torn" "I") (by decide +kernel)) (fun _ h9 => h9) rfl dM_operate_11 ?_
  refine lv_iconst (v := 1) hx hb dM_operate_14 (by decide) ?_
  refine lv_icmp_ne (tgt := 22) hx hb dM_operate_15 (by decide) (fun c_1 => ?_) (fun c_1 => ?_)
  · refine lv_iconst (v := 0) hx hb dM_operate_22 (by decide) ?_
    refine lv_istore_n (lv' := [(1, .int 0), (0, .ref qm)]) hx hb dM_operate_23 rfl hl (by decide) rfl (fun ls hl => ?_)
    refine lv_aload_n hx hb dM_operate_24 rfl (lv_at hl 1 rfl) ?_
    refine lv_aload_n hx hb dM_operate_25 rfl (lv_at hl 1 rfl) ?_
    refine va_get (D := (dC, dI)) (ci := 3) (v := .int tn) (C := RM) (T := TM) (N := 18) hx hb hts (by decide +kernel) hown hK hP 0 rfl rfl 12 (by decide) (hts (.fieldLink RM 33 "TornTryCounterModel" "torn" "I") (by decide +kernel)) (fun _ h9 => h9) rfl dM_operate_26 ?_
    refine lv_if_le (tgt := 41) hx hb dM_operate_29 (by decide) (fun c_2 => ?_) (fun c_2 => ?_)
    · refine lv_iconst (v := 0) hx hb dM_operate_41 (by decide) ?_
      refine va_put (D := (dC, dI)) (ci := 3) (v := .int 0) (ty := .int) (C := RM) (T := TM) (N := 18) hx hb hts (by decide +kernel) tyM tyM_ok nmM hown hK hP hD hS 0 rfl rfl 12 (by decide) (hts (.fieldLink RM 33 "TornTryCounterModel" "torn" "I") (by decide +kernel)) (fun _ h9 => h9) rfl (by decide +kernel) rfl rfl (Nat.le_of_ble_eq_true rfl) dM_operate_42 (fun H locs hP hD hS => ?_)
      have hP : va_P (dC, dI) ttCl [(qm, .inr (3, [.int pl, .int ul, .int pk, .int ac, .int ag, .int pn, .int pt, .int ut, .int en, .int og, .int pw, .int hd, .int 0, .int tk, .int ar, .int (dn + 1), .int e0, .int e1]))] H := hP
      have hD : va_D A [(qm, .inr (3, [.int pl, .int ul, .int pk, .int ac, .int ag, .int pn, .int pt, .int ut, .int en, .int og, .int pw, .int hd, .int 0, .int tk, .int ar, .int (dn + 1), .int e0, .int e1]))] := hD
      refine lv_iload_n hx hb dM_operate_45 rfl (lv_at hl 0 rfl) ?_
      refine lv_if_ne (tgt := 51) hx hb dM_operate_46 (by decide) (fun c_3 => ?_) (fun c_3 => ?_)
      · exact absurd c_3 (by decide)
      · refine lv_iconst (v := (-1)) hx hb dM_operate_49 (by decide) ?_
        have hP9 := hP.sub (ws' := [(qm, .inr (3, [.int pl, .int ul, .int pk, .int ac, .int ag, .int pn, .int pt, .int ut, .int en, .int og, .int pw, .int hd, .int 0, .int tk, .int ar, .int (dn + 1), .int e0, .int e1]))]) [0] rfl
        have hD9 := hD.sub (ws' := [(qm, .inr (3, [.int pl, .int ul, .int pk, .int ac, .int ag, .int pn, .int pt, .int ut, .int en, .int og, .int pw, .int hd, .int 0, .int tk, .int ar, .int (dn + 1), .int e0, .int e1]))]) [0] (by decide) rfl
        have hK9 := hK.sub (tys' := []) [] rfl
        exact W.iret (v := (-1)) hx hb hr (fun t ht hW => ⟨⟨(-1), (ac, ag, pn, pt, ut, en, og, pw, hd, 0, tk, ar, dn + 1, e0, e1), rfl, (by first | (simp only [mm_op, if_neg c_1, if_pos c_2, reduceIte, eq_self, tt_n10]; done) | (simp only [mm_op, c_1, c_2, reduceIte, eq_self, tt_n10]; done) | (simp [mm_op, c_1, c_2]; done)), by rw [ht]; exact hP9, va_K.moved hW.alike hK9, hD9⟩, hS.F ht⟩) hS.2.2 dM_operate_50
    · refine lv_aload_n hx hb dM_operate_32 rfl (lv_at hl 1 rfl) ?_
      refine va_get (D := (dC, dI)) (ci := 3) (v := .int tn) (C := RM) (T := TM) (N := 18) hx hb hts (by decide +kernel) hown hK hP 0 rfl rfl 12 (by decide) (hts (.fieldLink RM 33 "TornTryCounterModel" "torn" "I") (by decide +kernel)) (fun _ h9 => h9) rfl dM_operate_33 ?_
      refine lv_iconst (v := 1) hx hb dM_operate_36 (by decide) ?_
      refine lv_isub hx hb dM_operate_37 ?_
      refine lv_goto (tgt := 42) hx hb dM_operate_38 (by decide) ?_
      refine va_put (D := (dC, dI)) (ci := 3) (v := .int (tn - 1)) (ty := .int) (C := RM) (T := TM) (N := 18) hx hb hts (by decide +kernel) tyM tyM_ok nmM hown hK hP hD hS 0 rfl rfl 12 (by decide) (hts (.fieldLink RM 33 "TornTryCounterModel" "torn" "I") (by decide +kernel)) (fun _ h9 => h9) rfl (by decide +kernel) rfl rfl (Nat.le_of_ble_eq_true rfl) dM_operate_42 (fun H locs hP hD hS => ?_)
      have hP : va_P (dC, dI) ttCl [(qm, .inr (3, [.int pl, .int ul, .int pk, .int ac, .int ag, .int pn, .int pt, .int ut, .int en, .int og, .int pw, .int hd, .int (tn - 1), .int tk, .int ar, .int (dn + 1), .int e0, .int e1]))] H := hP
      have hD : va_D A [(qm, .inr (3, [.int pl, .int ul, .int pk, .int ac, .int ag, .int pn, .int pt, .int ut, .int en, .int og, .int pw, .int hd, .int (tn - 1), .int tk, .int ar, .int (dn + 1), .int e0, .int e1]))] := hD
      refine lv_iload_n hx hb dM_operate_45 rfl (lv_at hl 0 rfl) ?_
      refine lv_if_ne (tgt := 51) hx hb dM_operate_46 (by decide) (fun c_4 => ?_) (fun c_4 => ?_)
      · exact absurd c_4 (by decide)
      · refine lv_iconst (v := (-1)) hx hb dM_operate_49 (by decide) ?_
        have hP9 := hP.sub (ws' := [(qm, .inr (3, [.int pl, .int ul, .int pk, .int ac, .int ag, .int pn, .int pt, .int ut, .int en, .int og, .int pw, .int hd, .int (tn - 1), .int tk, .int ar, .int (dn + 1), .int e0, .int e1]))]) [0] rfl
        have hD9 := hD.sub (ws' := [(qm, .inr (3, [.int pl, .int ul, .int pk, .int ac, .int ag, .int pn, .int pt, .int ut, .int en, .int og, .int pw, .int hd, .int (tn - 1), .int tk, .int ar, .int (dn + 1), .int e0, .int e1]))]) [0] (by decide) rfl
        have hK9 := hK.sub (tys' := []) [] rfl
        exact W.iret (v := (-1)) hx hb hr (fun t ht hW => ⟨⟨(-1), (ac, ag, pn, pt, ut, en, og, pw, hd, tn - 1, tk, ar, dn + 1, e0, e1), rfl, (by first | (simp only [mm_op, if_neg c_1, if_neg c_2, reduceIte, eq_self, tt_n10]; done) | (simp only [mm_op, c_1, c_2, reduceIte, eq_self, tt_n10]; done) | (simp [mm_op, c_1, c_2]; done)), by rw [ht]; exact hP9, va_K.moved hW.alike hK9, hD9⟩, hS.F ht⟩) hS.2.2 dM_operate_50
  · refine lv_iconst (v := 1) hx hb dM_operate_18 (by decide) ?_
    refine lv_goto (tgt := 23) hx hb dM_operate_19 (by decide) ?_
    refine lv_istore_n (lv' := [(1, .int 1), (0, .ref qm)]) hx hb dM_operate_23 rfl hl (by decide) rfl (fun ls hl => ?_)
    refine lv_aload_n hx hb dM_operate_24 rfl (lv_at hl 1 rfl) ?_
    refine lv_aload_n hx hb dM_operate_25 rfl (lv_at hl 1 rfl) ?_
    refine va_get (D := (dC, dI)) (ci := 3) (v := .int tn) (C := RM) (T := TM) (N := 18) hx hb hts (by decide +kernel) hown hK hP 0 rfl rfl 12 (by decide) (hts (.fieldLink RM 33 "TornTryCounterModel" "torn" "I") (by decide +kernel)) (fun _ h9 => h9) rfl dM_operate_26 ?_
    refine lv_if_le (tgt := 41) hx hb dM_operate_29 (by decide) (fun c_5 => ?_) (fun c_5 => ?_)
    · refine lv_iconst (v := 0) hx hb dM_operate_41 (by decide) ?_
      refine va_put (D := (dC, dI)) (ci := 3) (v := .int 0) (ty := .int) (C := RM) (T := TM) (N := 18) hx hb hts (by decide +kernel) tyM tyM_ok nmM hown hK hP hD hS 0 rfl rfl 12 (by decide) (hts (.fieldLink RM 33 "TornTryCounterModel" "torn" "I") (by decide +kernel)) (fun _ h9 => h9) rfl (by decide +kernel) rfl rfl (Nat.le_of_ble_eq_true rfl) dM_operate_42 (fun H locs hP hD hS => ?_)
      have hP : va_P (dC, dI) ttCl [(qm, .inr (3, [.int pl, .int ul, .int pk, .int ac, .int ag, .int pn, .int pt, .int ut, .int en, .int og, .int pw, .int hd, .int 0, .int tk, .int ar, .int (dn + 1), .int e0, .int e1]))] H := hP
      have hD : va_D A [(qm, .inr (3, [.int pl, .int ul, .int pk, .int ac, .int ag, .int pn, .int pt, .int ut, .int en, .int og, .int pw, .int hd, .int 0, .int tk, .int ar, .int (dn + 1), .int e0, .int e1]))] := hD
      refine lv_iload_n hx hb dM_operate_45 rfl (lv_at hl 0 rfl) ?_
      refine lv_if_ne (tgt := 51) hx hb dM_operate_46 (by decide) (fun c_6 => ?_) (fun c_6 => ?_)
      · refine lv_aload_n hx hb dM_operate_51 rfl (lv_at hl 1 rfl) ?_
        refine lv_iconst (v := 0) hx hb dM_operate_52 (by decide) ?_
        refine va_put (D := (dC, dI)) (ci := 3) (v := .int 0) (ty := .boolean) (C := RM) (T := TM) (N := 18) hx hb hts (by decide +kernel) tyM tyM_ok nmM hown hK hP hD hS 0 rfl rfl 10 (by decide) (hts (.fieldLink RM 13 "TornTryCounterModel" "power" "Z") (by decide +kernel)) (fun _ h9 => h9) rfl (by decide +kernel) rfl rfl (Nat.le_of_ble_eq_true rfl) dM_operate_53 (fun H locs hP hD hS => ?_)
        have hP : va_P (dC, dI) ttCl [(qm, .inr (3, [.int pl, .int ul, .int pk, .int ac, .int ag, .int pn, .int pt, .int ut, .int en, .int og, .int 0, .int hd, .int 0, .int tk, .int ar, .int (dn + 1), .int e0, .int e1]))] H := hP
        have hD : va_D A [(qm, .inr (3, [.int pl, .int ul, .int pk, .int ac, .int ag, .int pn, .int pt, .int ut, .int en, .int og, .int 0, .int hd, .int 0, .int tk, .int ar, .int (dn + 1), .int e0, .int e1]))] := hD
        refine lv_aload_n hx hb dM_operate_56 rfl (lv_at hl 1 rfl) ?_
        refine lv_iconst (v := 0) hx hb dM_operate_57 (by decide) ?_
        refine va_put (D := (dC, dI)) (ci := 3) (v := .int 0) (ty := .boolean) (C := RM) (T := TM) (N := 18) hx hb hts (by decide +kernel) tyM tyM_ok nmM hown hK hP hD hS 0 rfl rfl 11 (by decide) (hts (.fieldLink RM 36 "TornTryCounterModel" "holder" "Z") (by decide +kernel)) (fun _ h9 => h9) rfl (by decide +kernel) rfl rfl (Nat.le_of_ble_eq_true rfl) dM_operate_58 (fun H locs hP hD hS => ?_)
        have hP : va_P (dC, dI) ttCl [(qm, .inr (3, [.int pl, .int ul, .int pk, .int ac, .int ag, .int pn, .int pt, .int ut, .int en, .int og, .int 0, .int 0, .int 0, .int tk, .int ar, .int (dn + 1), .int e0, .int e1]))] H := hP
        have hD : va_D A [(qm, .inr (3, [.int pl, .int ul, .int pk, .int ac, .int ag, .int pn, .int pt, .int ut, .int en, .int og, .int 0, .int 0, .int 0, .int tk, .int ar, .int (dn + 1), .int e0, .int e1]))] := hD
        refine lv_aload_n hx hb dM_operate_61 rfl (lv_at hl 1 rfl) ?_
        refine va_get (D := (dC, dI)) (ci := 3) (v := .int tk) (C := RM) (T := TM) (N := 18) hx hb hts (by decide +kernel) hown hK hP 0 rfl rfl 13 (by decide) (hts (.fieldLink RM 39 "TornTryCounterModel" "tornMask" "I") (by decide +kernel)) (fun _ h9 => h9) rfl dM_operate_62 ?_
        have hP9 := hP.sub (ws' := [(qm, .inr (3, [.int pl, .int ul, .int pk, .int ac, .int ag, .int pn, .int pt, .int ut, .int en, .int og, .int 0, .int 0, .int 0, .int tk, .int ar, .int (dn + 1), .int e0, .int e1]))]) [0] rfl
        have hD9 := hD.sub (ws' := [(qm, .inr (3, [.int pl, .int ul, .int pk, .int ac, .int ag, .int pn, .int pt, .int ut, .int en, .int og, .int 0, .int 0, .int 0, .int tk, .int ar, .int (dn + 1), .int e0, .int e1]))]) [0] (by decide) rfl
        have hK9 := hK.sub (tys' := []) [] rfl
        exact W.iret (v := tk) hx hb hr (fun t ht hW => ⟨⟨tk, (ac, ag, pn, pt, ut, en, og, 0, 0, 0, tk, ar, dn + 1, e0, e1), rfl, (by first | (simp only [mm_op, if_pos c_1, if_pos c_5, reduceIte, eq_self, tt_n10]; done) | (simp only [mm_op, c_1, c_5, reduceIte, eq_self, tt_n10]; done) | (simp [mm_op, c_1, c_5]; done)), by rw [ht]; exact hP9, va_K.moved hW.alike hK9, hD9⟩, hS.F ht⟩) hS.2.2 dM_operate_65
      · exact absurd c_6 (by decide)
    · refine lv_aload_n hx hb dM_operate_32 rfl (lv_at hl 1 rfl) ?_
      refine va_get (D := (dC, dI)) (ci := 3) (v := .int tn) (C := RM) (T := TM) (N := 18) hx hb hts (by decide +kernel) hown hK hP 0 rfl rfl 12 (by decide) (hts (.fieldLink RM 33 "TornTryCounterModel" "torn" "I") (by decide +kernel)) (fun _ h9 => h9) rfl dM_operate_33 ?_
      refine lv_iconst (v := 1) hx hb dM_operate_36 (by decide) ?_
      refine lv_isub hx hb dM_operate_37 ?_
      refine lv_goto (tgt := 42) hx hb dM_operate_38 (by decide) ?_
      refine va_put (D := (dC, dI)) (ci := 3) (v := .int (tn - 1)) (ty := .int) (C := RM) (T := TM) (N := 18) hx hb hts (by decide +kernel) tyM tyM_ok nmM hown hK hP hD hS 0 rfl rfl 12 (by decide) (hts (.fieldLink RM 33 "TornTryCounterModel" "torn" "I") (by decide +kernel)) (fun _ h9 => h9) rfl (by decide +kernel) rfl rfl (Nat.le_of_ble_eq_true rfl) dM_operate_42 (fun H locs hP hD hS => ?_)
      have hP : va_P (dC, dI) ttCl [(qm, .inr (3, [.int pl, .int ul, .int pk, .int ac, .int ag, .int pn, .int pt, .int ut, .int en, .int og, .int pw, .int hd, .int (tn - 1), .int tk, .int ar, .int (dn + 1), .int e0, .int e1]))] H := hP
      have hD : va_D A [(qm, .inr (3, [.int pl, .int ul, .int pk, .int ac, .int ag, .int pn, .int pt, .int ut, .int en, .int og, .int pw, .int hd, .int (tn - 1), .int tk, .int ar, .int (dn + 1), .int e0, .int e1]))] := hD
      refine lv_iload_n hx hb dM_operate_45 rfl (lv_at hl 0 rfl) ?_
      refine lv_if_ne (tgt := 51) hx hb dM_operate_46 (by decide) (fun c_7 => ?_) (fun c_7 => ?_)
      · refine lv_aload_n hx hb dM_operate_51 rfl (lv_at hl 1 rfl) ?_
        refine lv_iconst (v := 0) hx hb dM_operate_52 (by decide) ?_
        refine va_put (D := (dC, dI)) (ci := 3) (v := .int 0) (ty := .boolean) (C := RM) (T := TM) (N := 18) hx hb hts (by decide +kernel) tyM tyM_ok nmM hown hK hP hD hS 0 rfl rfl 10 (by decide) (hts (.fieldLink RM 13 "TornTryCounterModel" "power" "Z") (by decide +kernel)) (fun _ h9 => h9) rfl (by decide +kernel) rfl rfl (Nat.le_of_ble_eq_true rfl) dM_operate_53 (fun H locs hP hD hS => ?_)
        have hP : va_P (dC, dI) ttCl [(qm, .inr (3, [.int pl, .int ul, .int pk, .int ac, .int ag, .int pn, .int pt, .int ut, .int en, .int og, .int 0, .int hd, .int (tn - 1), .int tk, .int ar, .int (dn + 1), .int e0, .int e1]))] H := hP
        have hD : va_D A [(qm, .inr (3, [.int pl, .int ul, .int pk, .int ac, .int ag, .int pn, .int pt, .int ut, .int en, .int og, .int 0, .int hd, .int (tn - 1), .int tk, .int ar, .int (dn + 1), .int e0, .int e1]))] := hD
        refine lv_aload_n hx hb dM_operate_56 rfl (lv_at hl 1 rfl) ?_
        refine lv_iconst (v := 0) hx hb dM_operate_57 (by decide) ?_
        refine va_put (D := (dC, dI)) (ci := 3) (v := .int 0) (ty := .boolean) (C := RM) (T := TM) (N := 18) hx hb hts (by decide +kernel) tyM tyM_ok nmM hown hK hP hD hS 0 rfl rfl 11 (by decide) (hts (.fieldLink RM 36 "TornTryCounterModel" "holder" "Z") (by decide +kernel)) (fun _ h9 => h9) rfl (by decide +kernel) rfl rfl (Nat.le_of_ble_eq_true rfl) dM_operate_58 (fun H locs hP hD hS => ?_)
        have hP : va_P (dC, dI) ttCl [(qm, .inr (3, [.int pl, .int ul, .int pk, .int ac, .int ag, .int pn, .int pt, .int ut, .int en, .int og, .int 0, .int 0, .int (tn - 1), .int tk, .int ar, .int (dn + 1), .int e0, .int e1]))] H := hP
        have hD : va_D A [(qm, .inr (3, [.int pl, .int ul, .int pk, .int ac, .int ag, .int pn, .int pt, .int ut, .int en, .int og, .int 0, .int 0, .int (tn - 1), .int tk, .int ar, .int (dn + 1), .int e0, .int e1]))] := hD
        refine lv_aload_n hx hb dM_operate_61 rfl (lv_at hl 1 rfl) ?_
        refine va_get (D := (dC, dI)) (ci := 3) (v := .int tk) (C := RM) (T := TM) (N := 18) hx hb hts (by decide +kernel) hown hK hP 0 rfl rfl 13 (by decide) (hts (.fieldLink RM 39 "TornTryCounterModel" "tornMask" "I") (by decide +kernel)) (fun _ h9 => h9) rfl dM_operate_62 ?_
        have hP9 := hP.sub (ws' := [(qm, .inr (3, [.int pl, .int ul, .int pk, .int ac, .int ag, .int pn, .int pt, .int ut, .int en, .int og, .int 0, .int 0, .int (tn - 1), .int tk, .int ar, .int (dn + 1), .int e0, .int e1]))]) [0] rfl
        have hD9 := hD.sub (ws' := [(qm, .inr (3, [.int pl, .int ul, .int pk, .int ac, .int ag, .int pn, .int pt, .int ut, .int en, .int og, .int 0, .int 0, .int (tn - 1), .int tk, .int ar, .int (dn + 1), .int e0, .int e1]))]) [0] (by decide) rfl
        have hK9 := hK.sub (tys' := []) [] rfl
        exact W.iret (v := tk) hx hb hr (fun t ht hW => ⟨⟨tk, (ac, ag, pn, pt, ut, en, og, 0, 0, tn - 1, tk, ar, dn + 1, e0, e1), rfl, (by first | (simp only [mm_op, if_pos c_1, if_neg c_5, reduceIte, eq_self, tt_n10]; done) | (simp only [mm_op, c_1, c_5, reduceIte, eq_self, tt_n10]; done) | (simp [mm_op, c_1, c_5]; done)), by rw [ht]; exact hP9, va_K.moved hW.alike hK9, hD9⟩, hS.F ht⟩) hS.2.2 dM_operate_65
      · exact absurd c_7 (by decide)
set_option maxHeartbeats 4000000 in
set_option maxRecDepth 100000 in
theorem c_M_turn (l : Launch) (dC : Nat → ClassId) (dI : Nat → Nat → Nat) (qm : Nat) (sz : Nat) (pk pl ul ac ag pn pt ut en og pw hd tn tk ar dn e0 e1 : Int32) (p1 a1 c1 : Int32) : Met l yM_turn wsM_turn ({ frames := 1, cells := 0, slots := 0, locals := 21 }) (va_Pc [.ref qm, .int p1, .int a1, .int c1] (fun U => U.heap.size = sz ∧ va_P (dC, dI) ttCl [(qm, .inr (3, [.int pl, .int ul, .int pk, .int ac, .int ag, .int pn, .int pt, .int ut, .int en, .int og, .int pw, .int hd, .int tn, .int tk, .int ar, .int dn, .int e0, .int e1]))] U.heap ∧ va_K (dC, dI) ttCl [] U ∧ va_D (fun _ => True) [(qm, .inr (3, [.int pl, .int ul, .int pk, .int ac, .int ag, .int pn, .int pt, .int ut, .int en, .int og, .int pw, .int hd, .int tn, .int tk, .int ar, .int dn, .int e0, .int e1]))])) (va_Qi (fun (r : Int32) (u : tt_M) => mm_turn (ac, ag, pn, pt, ut, en, og, pw, hd, tn, tk, ar, dn, e0, e1) p1 a1 c1 = (r, u)) (fun (u : tt_M) (t : State) => at_M dC dI (va_A [(qm, .inr (3, [.int pl, .int ul, .int pk, .int ac, .int ag, .int pn, .int pt, .int ut, .int en, .int og, .int pw, .int hd, .int tn, .int tk, .int ar, .int dn, .int e0, .int e1]))] sz) qm pk pl ul u t) (va_A [(qm, .inr (3, [.int pl, .int ul, .int pk, .int ac, .int ag, .int pn, .int pt, .int ut, .int en, .int og, .int pw, .int hd, .int tn, .int tk, .int ar, .int dn, .int e0, .int e1]))] sz)) 0 0 (va_A [(qm, .inr (3, [.int pl, .int ul, .int pk, .int ac, .int ag, .int pn, .int pt, .int ut, .int en, .int og, .int pw, .int hd, .int tn, .int tk, .int ar, .int dn, .int e0, .int e1]))] sz) := by
  refine Met.ofW (cc := cM_turn) (maxL := 5) (ret := (some .boolean)) (by decide) rfl ?_
  intro p e s m args below meth c s₁ B hml hv
  obtain ⟨rfl, hsz, hP, hK, hD0⟩ := hv
  have hx := B.exec
  have hb := B.bytes
  have hr := B.returns
  have hts := atoms_spec (ws := wsM_turn) B.pre
  have hown : s.vm.findClass RM = some m.cls := findClass_of_methodNamed B.named
  have hlocks := B.notSynchronized
  subst hsz
  have hD := hD0.self (sz := s.heap.size)
  generalize hAe : va_A [(qm, .inr (3, [.int pl, .int ul, .int pk, .int ac, .int ag, .int pn, .int pt, .int ut, .int en, .int og, .int pw, .int hd, .int tn, .int tk, .int ar, .int dn, .int e0, .int e1]))] s.heap.size = A at hD ⊢
  have hA : ∀ q : Nat, s.heap.size ≤ q → A q := fun q h => by rw [← hAe]; exact Or.inr h
  have hS : va_S A s.heap s.heap [] := va_S.rf
  have hP : va_P (dC, dI) ttCl [(qm, .inr (3, [.int pl, .int ul, .int pk, .int ac, .int ag, .int pn, .int pt, .int ut, .int en, .int og, .int pw, .int hd, .int tn, .int tk, .int ar, .int dn, .int e0, .int e1]))] s.heap := hP
  have hl := lv_entry ([.ref qm, .int p1, .int a1, .int c1]) (n := 5) (Nat.le_of_ble_eq_true rfl)
  rw [lg_entry_eq]
  generalize (lg_sl ([.ref qm, .int p1, .int a1, .int c1]) ++ List.replicate (5 - (lg_sl ([.ref qm, .int p1, .int a1, .int c1])).length) Slot.unset).toArray = ls at hl ⊢
  have hl : lv_has ls 5 [(0, .ref qm), (1, .int p1), (2, .int a1), (3, .int c1)] := hl
  refine lv_aload_n hx hb dM_turn_0 rfl (lv_at hl 0 rfl) ?_
  refine va_get (D := (dC, dI)) (ci := 3) (v := .int og) (C := RM) (T := TM) (N := 18) hx hb hts (by decide +kernel) hown hK hP 0 rfl rfl 9 (by decide) (hts (.fieldLink RM 42 "TornTryCounterModel" "otherGood" "Z") (by decide +kernel)) (fun _ h9 => h9) rfl dM_turn_1 ?_
  refine lv_if_eq (tgt := 42) hx hb dM_turn_4 (by decide) (fun c_1 => ?_) (fun c_1 => ?_)
  · refine lv_aload_n hx hb dM_turn_42 rfl (lv_at hl 0 rfl) ?_
    refine va_get (D := (dC, dI)) (ci := 3) (v := .int ac) (C := RM) (T := TM) (N := 18) hx hb hts (by decide +kernel) hown hK hP 0 rfl rfl 3 (by decide) (hts (.fieldLink RM 49 "TornTryCounterModel" "active" "I") (by decide +kernel)) (fun _ h9 => h9) rfl dM_turn_43 ?_
    refine lv_if_ne (tgt := 62) hx hb dM_turn_46 (by decide) (fun c_2 => ?_) (fun c_2 => ?_)
    · refine lv_aload_n hx hb dM_turn_62 rfl (lv_at hl 0 rfl) ?_
      refine lv_dup hx hb dM_turn_63 rfl ?_
      refine va_get (D := (dC, dI)) (ci := 3) (v := .int e0) (C := RM) (T := TM) (N := 18) hx hb hts (by decide +kernel) hown hK hP 0 rfl rfl 16 (by decide) (hts (.fieldLink RM 55 "TornTryCounterModel" "erased0" "I") (by decide +kernel)) (fun _ h9 => h9) rfl dM_turn_64 ?_
      refine lv_iconst (v := 1) hx hb dM_turn_67 (by decide) ?_
      refine lv_iadd hx hb dM_turn_68 ?_
      refine va_put (D := (dC, dI)) (ci := 3) (v := .int (e0 + 1)) (ty := .int) (C := RM) (T := TM) (N := 18) hx hb hts (by decide +kernel) tyM tyM_ok nmM hown hK hP hD hS 0 rfl rfl 16 (by decide) (hts (.fieldLink RM 55 "TornTryCounterModel" "erased0" "I") (by decide +kernel)) (fun _ h9 => h9) rfl (by decide +kernel) rfl rfl (Nat.le_of_ble_eq_true rfl) dM_turn_69 (fun H locs hP hD hS => ?_)
      have hP : va_P (dC, dI) ttCl [(qm, .inr (3, [.int pl, .int ul, .int pk, .int ac, .int ag, .int pn, .int pt, .int ut, .int en, .int og, .int pw, .int hd, .int tn, .int tk, .int ar, .int dn, .int (e0 + 1), .int e1]))] H := hP
      have hD : va_D A [(qm, .inr (3, [.int pl, .int ul, .int pk, .int ac, .int ag, .int pn, .int pt, .int ut, .int en, .int og, .int pw, .int hd, .int tn, .int tk, .int ar, .int dn, .int (e0 + 1), .int e1]))] := hD
      refine lv_iconst (v := 0) hx hb dM_turn_72 (by decide) ?_
      refine lv_istore (lv' := [(4, .int 0), (0, .ref qm), (1, .int p1), (2, .int a1), (3, .int c1)]) hx hb dM_turn_73 hl (by decide) rfl (fun ls hl => ?_)
      refine W.widen (k := 0) (n := 0) (by omega) (by omega) ?_
      obtain ⟨Z, hZ⟩ : ∃ z, mm_lp 6 (ac, ag, pn, pt, ut, en, og, pw, hd, tn, tk, ar, dn, e0 + 1, e1) = z := ⟨_, rfl⟩
      refine tt_rec (pc := 75) (I := fun n H locs ls => ∃ (i : Nat) (ac_z ag_z pn_z pt_z ut_z en_z og_z pw_z hd_z tn_z tk_z ar_z dn_z e0_z e1_z : Int32), i + n = 6 ∧ mm_lp n (ac_z, ag_z, pn_z, pt_z, ut_z, en_z, og_z, pw_z, hd_z, tn_z, tk_z, ar_z, dn_z, e0_z, e1_z) = Z ∧ va_P (dC, dI) ttCl [(qm, .inr (3, [.int pl, .int ul, .int pk, .int ac_z, .int ag_z, .int pn_z, .int pt_z, .int ut_z, .int en_z, .int og_z, .int pw_z, .int hd_z, .int tn_z, .int tk_z, .int ar_z, .int dn_z, .int e0_z, .int e1_z]))] H ∧ va_D A [(qm, .inr (3, [.int pl, .int ul, .int pk, .int ac_z, .int ag_z, .int pn_z, .int pt_z, .int ut_z, .int en_z, .int og_z, .int pw_z, .int hd_z, .int tn_z, .int tk_z, .int ar_z, .int dn_z, .int e0_z, .int e1_z]))] ∧ va_S A s.heap H locs ∧ lv_has ls 5 [(0, .ref qm), (1, .int p1), (2, .int a1), (3, .int c1), (4, .int (nI i))]) ?_ 6 ⟨0, ac, ag, pn, pt, ut, en, og, pw, hd, tn, tk, ar, dn, e0 + 1, e1, rfl, hZ, hP, hD, hS, lv_sub hl [1, 2, 3, 4, 0] rfl⟩
      intro n H locs ls ih hI
      obtain ⟨i, ac_z, ag_z, pn_z, pt_z, ut_z, en_z, og_z, pw_z, hd_z, tn_z, tk_z, ar_z, dn_z, e0_z, e1_z, hi, hlp, hP, hD, hS, hl⟩ := hI
      refine lv_iload hx hb dM_turn_75 (lv_at hl 4 rfl) ?_
      refine lv_bipush (v := 6) hx hb dM_turn_77 (by decide) ?_
      refine lv_icmp_ge (tgt := 97) hx hb dM_turn_79 (by decide) (fun c_3 => ?_) (fun c_3 => ?_)
      · have hie : i = 6 := (tt_c6 i (by omega)).1 c_3
        obtain rfl : n = 0 := by omega
        simp only [mm_lp] at hlp
        refine lv_aload_n hx hb dM_turn_97 rfl (lv_at hl 0 rfl) ?_
        have hPc := hP.sub (ws' := [(qm, .inr (3, [.int pl, .int ul, .int pk, .int ac_z, .int ag_z, .int pn_z, .int pt_z, .int ut_z, .int en_z, .int og_z, .int pw_z, .int hd_z, .int tn_z, .int tk_z, .int ar_z, .int dn_z, .int e0_z, .int e1_z]))]) [0] rfl
        have hDc := hD.sub (ws' := [(qm, .inr (3, [.int pl, .int ul, .int pk, .int ac_z, .int ag_z, .int pn_z, .int pt_z, .int ut_z, .int en_z, .int og_z, .int pw_z, .int hd_z, .int tn_z, .int tk_z, .int ar_z, .int dn_z, .int e0_z, .int e1_z]))]) [0] (by decide) rfl
        have hKc := hK.sub (tys' := []) [] rfl
        have hFc := va_free (wc := [(qm, .inr (3, [.int pl, .int ul, .int pk, .int ac_z, .int ag_z, .int pn_z, .int pt_z, .int ut_z, .int en_z, .int og_z, .int pw_z, .int hd_z, .int tn_z, .int tk_z, .int ar_z, .int dn_z, .int e0_z, .int e1_z]))]) hD hS hA [0] rfl
        refine va_calli (va_runV (As := []) (rest := []) ⟨hx, hb, hml, hown, hts⟩ (c_M_operate l dC dI qm H.size pk pl ul ac_z ag_z pn_z pt_z ut_z en_z og_z pw_z hd_z tn_z tk_z ar_z dn_z e0_z e1_z) (cwV 0 hts gM_turn_M_operate rfl rfl rfl (by decide +kernel) ⟨Nat.le_of_ble_eq_true rfl, Nat.le_of_ble_eq_true rfl⟩) ⟨fun a U g mk q => by obtain ⟨q0, q1, qP, qK, qD⟩ := q; exact ⟨q0, q1, qP, va_K.moved (u := U) (U := U.calling g mk a) (Vm.Alike.refl U.vm) qK, qD⟩, va_recv hKc hPc (ci := 3) (q0 := 0) rfl rfl, fun U hU hW => ⟨rfl, by rw [hU], by rw [hU]; exact hPc, va_K.moved hW.alike hKc, hDc.weaken (fun _ _ _ _ => trivial)⟩⟩ rfl rfl hl.1 rfl (lv_room (Nat.le_of_ble_eq_true rfl)) dM_turn_98 ⟨(Nat.zero_le _), (Nat.zero_le _)⟩) hS (fun q _ h => hFc q h) hFc (fun r_4 u t H locs ht hvm hw hB hz1 hk1 hS => ?_)
        obtain ⟨ac_4, ag_4, pn_4, pt_4, ut_4, en_4, og_4, pw_4, hd_4, tn_4, tk_4, ar_4, dn_4, e0_4, e1_4⟩ := u
        obtain ⟨hP1, hK1, hD1⟩ := hB
        have e_4 : mm_op (ac_z, ag_z, pn_z, pt_z, ut_z, en_z, og_z, pw_z, hd_z, tn_z, tk_z, ar_z, dn_z, e0_z, e1_z) = (r_4, (ac_4, ag_4, pn_4, pt_4, ut_4, en_4, og_4, pw_4, hd_4, tn_4, tk_4, ar_4, dn_4, e0_4, e1_4)) := hw
        rw [ht] at hP1
        obtain ⟨hP, hD⟩ := va_join (wr := []) (w1 := [(qm, .inr (3, [.int pl, .int ul, .int pk, .int ac_4, .int ag_4, .int pn_4, .int pt_4, .int ut_4, .int en_4, .int og_4, .int pw_4, .int hd_4, .int tn_4, .int tk_4, .int ar_4, .int dn_4, .int e0_4, .int e1_4]))]) hP hD [0] [] rfl rfl (by decide) (by decide) hk1 hFc hP1 hD1
        have hP : va_P (dC, dI) ttCl [(qm, .inr (3, [.int pl, .int ul, .int pk, .int ac_4, .int ag_4, .int pn_4, .int pt_4, .int ut_4, .int en_4, .int og_4, .int pw_4, .int hd_4, .int tn_4, .int tk_4, .int ar_4, .int dn_4, .int e0_4, .int e1_4]))] H := hP
        have hD : va_D A [(qm, .inr (3, [.int pl, .int ul, .int pk, .int ac_4, .int ag_4, .int pn_4, .int pt_4, .int ut_4, .int en_4, .int og_4, .int pw_4, .int hd_4, .int tn_4, .int tk_4, .int ar_4, .int dn_4, .int e0_4, .int e1_4]))] := hD
        refine lv_istore (lv' := [(4, .int r_4), (0, .ref qm), (1, .int p1), (2, .int a1), (3, .int c1)]) hx hb dM_turn_101 hl (by decide) rfl (fun ls hl => ?_)
        refine lv_iload hx hb dM_turn_103 (lv_at hl 0 rfl) ?_
        refine lv_sipush (v := 165) hx hb dM_turn_105 (by decide) ?_
        have hPc := hP.sub (ws' := []) [] rfl
        have hDc := hD.sub (ws' := []) [] (by decide) rfl
        have hKc := hK.sub (tys' := []) [] rfl
        have hFc := va_free (wc := []) hD hS hA [] rfl
        refine va_calli (va_runS (As := [.int r_4, .int 165]) (rest := []) ⟨hx, hb, hml, hown, hts⟩ (c_M_all l dC dI H.size r_4 165) (va_cwS 2 hts gM_turn_M_all rfl rfl rfl (by decide +kernel) ⟨Nat.le_of_ble_eq_true rfl, Nat.le_of_ble_eq_true rfl⟩) ⟨fun a U g mk q => by obtain ⟨q0, q1, qP, qK, qD⟩ := q; exact ⟨q0, q1, qP, va_K.moved (u := U) (U := U.calling g mk a) (Vm.Alike.refl U.vm) qK, qD⟩, fun U hU hW => ⟨rfl, by rw [hU], by rw [hU]; exact hPc, va_K.moved hW.alike hKc, hDc.weaken (fun _ _ _ _ => trivial)⟩⟩ rfl rfl hl.1 rfl (lv_room (Nat.le_of_ble_eq_true rfl)) dM_turn_108 ⟨(Nat.zero_le _), (Nat.zero_le _)⟩) hS (fun q _ h => hFc q h) hFc (fun r_5 u t H locs ht hvm hw hB hz1 hk1 hS => ?_)
        have hw : mm_all r_4 165 = r_5 := hw.symm
        subst hw
        obtain ⟨hP1, hK1, hD1⟩ := hB
        rw [ht] at hP1
        obtain ⟨hP, hD⟩ := va_join (wr := [(qm, .inr (3, [.int pl, .int ul, .int pk, .int ac_4, .int ag_4, .int pn_4, .int pt_4, .int ut_4, .int en_4, .int og_4, .int pw_4, .int hd_4, .int tn_4, .int tk_4, .int ar_4, .int dn_4, .int e0_4, .int e1_4]))]) (w1 := []) hP hD [] [0] rfl rfl (by decide) (by decide) hk1 hFc hP1 hD1
        have hP : va_P (dC, dI) ttCl [(qm, .inr (3, [.int pl, .int ul, .int pk, .int ac_4, .int ag_4, .int pn_4, .int pt_4, .int ut_4, .int en_4, .int og_4, .int pw_4, .int hd_4, .int tn_4, .int tk_4, .int ar_4, .int dn_4, .int e0_4, .int e1_4]))] H := hP
        have hD : va_D A [(qm, .inr (3, [.int pl, .int ul, .int pk, .int ac_4, .int ag_4, .int pn_4, .int pt_4, .int ut_4, .int en_4, .int og_4, .int pw_4, .int hd_4, .int tn_4, .int tk_4, .int ar_4, .int dn_4, .int e0_4, .int e1_4]))] := hD
        refine lv_if_eq (tgt := 164) hx hb dM_turn_111 (by decide) (fun c_6 => ?_) (fun c_6 => ?_)
        · refine lv_iload hx hb dM_turn_164 (lv_at hl 0 rfl) ?_
          refine lv_if_ge (tgt := 173) hx hb dM_turn_166 (by decide) (fun c_7 => ?_) (fun c_7 => ?_)
          · refine lv_iconst (v := 0) hx hb dM_turn_173 (by decide) ?_
            have hP9 := hP.sub (ws' := [(qm, .inr (3, [.int pl, .int ul, .int pk, .int ac_4, .int ag_4, .int pn_4, .int pt_4, .int ut_4, .int en_4, .int og_4, .int pw_4, .int hd_4, .int tn_4, .int tk_4, .int ar_4, .int dn_4, .int e0_4, .int e1_4]))]) [0] rfl
            have hD9 := hD.sub (ws' := [(qm, .inr (3, [.int pl, .int ul, .int pk, .int ac_4, .int ag_4, .int pn_4, .int pt_4, .int ut_4, .int en_4, .int og_4, .int pw_4, .int hd_4, .int tn_4, .int tk_4, .int ar_4, .int dn_4, .int e0_4, .int e1_4]))]) [0] (by decide) rfl
            have hK9 := hK.sub (tys' := []) [] rfl
            exact W.zret (v := 0) hx hb hr (by first | rfl | decide) (fun t ht hW => ⟨⟨0, (ac_4, ag_4, pn_4, pt_4, ut_4, en_4, og_4, pw_4, hd_4, tn_4, tk_4, ar_4, dn_4, e0_4, e1_4), rfl, (by first | (simp only [mm_turn, mm_t0, mm_t9, mm_er, mm_setog, tt_seq_p, if_pos c_1, if_neg c_2, if_pos c_3, (hZ.trans hlp.symm), e_4, if_pos c_6, if_pos c_7, reduceIte, eq_self, tt_n10]; done) | (simp only [mm_turn, mm_t0, mm_t9, mm_er, mm_setog, tt_seq_p, c_1, c_2, c_3, (hZ.trans hlp.symm), e_4, c_6, c_7, reduceIte, eq_self, tt_n10]; done) | (simp [mm_turn, mm_t0, mm_t9, mm_er, mm_setog, tt_seq_p, c_1, c_2, c_3, (hZ.trans hlp.symm), e_4, c_6, c_7]; done)), by rw [ht]; exact hP9, va_K.moved hW.alike hK9, hD9⟩, hS.F ht⟩) hS.2.2 dM_turn_174
          · refine lv_iconst (v := 1) hx hb dM_turn_169 (by decide) ?_
            refine lv_goto (tgt := 174) hx hb dM_turn_170 (by decide) ?_
            have hP9 := hP.sub (ws' := [(qm, .inr (3, [.int pl, .int ul, .int pk, .int ac_4, .int ag_4, .int pn_4, .int pt_4, .int ut_4, .int en_4, .int og_4, .int pw_4, .int hd_4, .int tn_4, .int tk_4, .int ar_4, .int dn_4, .int e0_4, .int e1_4]))]) [0] rfl
            have hD9 := hD.sub (ws' := [(qm, .inr (3, [.int pl, .int ul, .int pk, .int ac_4, .int ag_4, .int pn_4, .int pt_4, .int ut_4, .int en_4, .int og_4, .int pw_4, .int hd_4, .int tn_4, .int tk_4, .int ar_4, .int dn_4, .int e0_4, .int e1_4]))]) [0] (by decide) rfl
            have hK9 := hK.sub (tys' := []) [] rfl
            exact W.zret (v := 1) hx hb hr (by first | rfl | decide) (fun t ht hW => ⟨⟨1, (ac_4, ag_4, pn_4, pt_4, ut_4, en_4, og_4, pw_4, hd_4, tn_4, tk_4, ar_4, dn_4, e0_4, e1_4), rfl, (by first | (simp only [mm_turn, mm_t0, mm_t9, mm_er, mm_setog, tt_seq_p, if_pos c_1, if_neg c_2, if_pos c_3, (hZ.trans hlp.symm), e_4, if_pos c_6, if_neg c_7, reduceIte, eq_self, tt_n10]; done) | (simp only [mm_turn, mm_t0, mm_t9, mm_er, mm_setog, tt_seq_p, c_1, c_2, c_3, (hZ.trans hlp.symm), e_4, c_6, c_7, reduceIte, eq_self, tt_n10]; done) | (simp [mm_turn, mm_t0, mm_t9, mm_er, mm_setog, tt_seq_p, c_1, c_2, c_3, (hZ.trans hlp.symm), e_4, c_6, c_7]; done)), by rw [ht]; exact hP9, va_K.moved hW.alike hK9, hD9⟩, hS.F ht⟩) hS.2.2 dM_turn_174
        · refine lv_aload_n hx hb dM_turn_114 rfl (lv_at hl 1 rfl) ?_
          refine lv_iconst (v := 1) hx hb dM_turn_115 (by decide) ?_
          refine lv_aload_n hx hb dM_turn_116 rfl (lv_at hl 1 rfl) ?_
          refine va_get (D := (dC, dI)) (ci := 3) (v := .int ac_4) (C := RM) (T := TM) (N := 18) hx hb hts (by decide +kernel) hown hK hP 0 rfl rfl 3 (by decide) (hts (.fieldLink RM 49 "TornTryCounterModel" "active" "I") (by decide +kernel)) (fun _ h9 => h9) rfl dM_turn_117 ?_
          refine lv_isub hx hb dM_turn_120 ?_
          refine va_put (D := (dC, dI)) (ci := 3) (v := .int (1 - ac_4)) (ty := .int) (C := RM) (T := TM) (N := 18) hx hb hts (by decide +kernel) tyM tyM_ok nmM hown hK hP hD hS 0 rfl rfl 3 (by decide) (hts (.fieldLink RM 49 "TornTryCounterModel" "active" "I") (by decide +kernel)) (fun _ h9 => h9) rfl (by decide +kernel) rfl rfl (Nat.le_of_ble_eq_true rfl) dM_turn_121 (fun H locs hP hD hS => ?_)
          have hP : va_P (dC, dI) ttCl [(qm, .inr (3, [.int pl, .int ul, .int pk, .int (1 - ac_4), .int ag_4, .int pn_4, .int pt_4, .int ut_4, .int en_4, .int og_4, .int pw_4, .int hd_4, .int tn_4, .int tk_4, .int ar_4, .int dn_4, .int e0_4, .int e1_4]))] H := hP
          have hD : va_D A [(qm, .inr (3, [.int pl, .int ul, .int pk, .int (1 - ac_4), .int ag_4, .int pn_4, .int pt_4, .int ut_4, .int en_4, .int og_4, .int pw_4, .int hd_4, .int tn_4, .int tk_4, .int ar_4, .int dn_4, .int e0_4, .int e1_4]))] := hD
          refine lv_aload_n hx hb dM_turn_124 rfl (lv_at hl 1 rfl) ?_
          refine lv_aload_n hx hb dM_turn_125 rfl (lv_at hl 1 rfl) ?_
          refine va_get (D := (dC, dI)) (ci := 3) (v := .int ag_4) (C := RM) (T := TM) (N := 18) hx hb hts (by decide +kernel) hown hK hP 0 rfl rfl 4 (by decide) (hts (.fieldLink RM 62 "TornTryCounterModel" "age" "I") (by decide +kernel)) (fun _ h9 => h9) rfl dM_turn_126 ?_
          refine lv_iconst (v := 1) hx hb dM_turn_129 (by decide) ?_
          refine lv_iadd hx hb dM_turn_130 ?_
          refine lv_sipush (v := 256) hx hb dM_turn_131 (by decide) ?_
          refine lv_irem hx hb dM_turn_134 (by decide) ?_
          refine va_put (D := (dC, dI)) (ci := 3) (v := .int ((ag_4 + 1) - (ag_4 + 1) / 256 * 256)) (ty := .int) (C := RM) (T := TM) (N := 18) hx hb hts (by decide +kernel) tyM tyM_ok nmM hown hK hP hD hS 0 rfl rfl 4 (by decide) (hts (.fieldLink RM 62 "TornTryCounterModel" "age" "I") (by decide +kernel)) (fun _ h9 => h9) rfl (by decide +kernel) rfl rfl (Nat.le_of_ble_eq_true rfl) dM_turn_135 (fun H locs hP hD hS => ?_)
          have hP : va_P (dC, dI) ttCl [(qm, .inr (3, [.int pl, .int ul, .int pk, .int (1 - ac_4), .int ((ag_4 + 1) - (ag_4 + 1) / 256 * 256), .int pn_4, .int pt_4, .int ut_4, .int en_4, .int og_4, .int pw_4, .int hd_4, .int tn_4, .int tk_4, .int ar_4, .int dn_4, .int e0_4, .int e1_4]))] H := hP
          have hD : va_D A [(qm, .inr (3, [.int pl, .int ul, .int pk, .int (1 - ac_4), .int ((ag_4 + 1) - (ag_4 + 1) / 256 * 256), .int pn_4, .int pt_4, .int ut_4, .int en_4, .int og_4, .int pw_4, .int hd_4, .int tn_4, .int tk_4, .int ar_4, .int dn_4, .int e0_4, .int e1_4]))] := hD
          refine lv_aload_n hx hb dM_turn_138 rfl (lv_at hl 1 rfl) ?_
          refine lv_iload_n hx hb dM_turn_139 rfl (lv_at hl 2 rfl) ?_
          refine va_put (D := (dC, dI)) (ci := 3) (v := .int p1) (ty := .int) (C := RM) (T := TM) (N := 18) hx hb hts (by decide +kernel) tyM tyM_ok nmM hown hK hP hD hS 0 rfl rfl 5 (by decide) (hts (.fieldLink RM 18 "TornTryCounterModel" "pinNumber" "I") (by decide +kernel)) (fun _ h9 => h9) rfl (by decide +kernel) rfl rfl (Nat.le_of_ble_eq_true rfl) dM_turn_140 (fun H locs hP hD hS => ?_)
          have hP : va_P (dC, dI) ttCl [(qm, .inr (3, [.int pl, .int ul, .int pk, .int (1 - ac_4), .int ((ag_4 + 1) - (ag_4 + 1) / 256 * 256), .int p1, .int pt_4, .int ut_4, .int en_4, .int og_4, .int pw_4, .int hd_4, .int tn_4, .int tk_4, .int ar_4, .int dn_4, .int e0_4, .int e1_4]))] H := hP
          have hD : va_D A [(qm, .inr (3, [.int pl, .int ul, .int pk, .int (1 - ac_4), .int ((ag_4 + 1) - (ag_4 + 1) / 256 * 256), .int p1, .int pt_4, .int ut_4, .int en_4, .int og_4, .int pw_4, .int hd_4, .int tn_4, .int tk_4, .int ar_4, .int dn_4, .int e0_4, .int e1_4]))] := hD
          refine lv_aload_n hx hb dM_turn_143 rfl (lv_at hl 1 rfl) ?_
          refine lv_iload_n hx hb dM_turn_144 rfl (lv_at hl 3 rfl) ?_
          refine va_put (D := (dC, dI)) (ci := 3) (v := .int a1) (ty := .int) (C := RM) (T := TM) (N := 18) hx hb hts (by decide +kernel) tyM tyM_ok nmM hown hK hP hD hS 0 rfl rfl 6 (by decide) (hts (.fieldLink RM 65 "TornTryCounterModel" "pinTries" "I") (by decide +kernel)) (fun _ h9 => h9) rfl (by decide +kernel) rfl rfl (Nat.le_of_ble_eq_true rfl) dM_turn_145 (fun H locs hP hD hS => ?_)
          have hP : va_P (dC, dI) ttCl [(qm, .inr (3, [.int pl, .int ul, .int pk, .int (1 - ac_4), .int ((ag_4 + 1) - (ag_4 + 1) / 256 * 256), .int p1, .int a1, .int ut_4, .int en_4, .int og_4, .int pw_4, .int hd_4, .int tn_4, .int tk_4, .int ar_4, .int dn_4, .int e0_4, .int e1_4]))] H := hP
          have hD : va_D A [(qm, .inr (3, [.int pl, .int ul, .int pk, .int (1 - ac_4), .int ((ag_4 + 1) - (ag_4 + 1) / 256 * 256), .int p1, .int a1, .int ut_4, .int en_4, .int og_4, .int pw_4, .int hd_4, .int tn_4, .int tk_4, .int ar_4, .int dn_4, .int e0_4, .int e1_4]))] := hD
          refine lv_aload_n hx hb dM_turn_148 rfl (lv_at hl 1 rfl) ?_
          refine lv_iload_n hx hb dM_turn_149 rfl (lv_at hl 4 rfl) ?_
          refine va_put (D := (dC, dI)) (ci := 3) (v := .int c1) (ty := .int) (C := RM) (T := TM) (N := 18) hx hb hts (by decide +kernel) tyM tyM_ok nmM hown hK hP hD hS 0 rfl rfl 7 (by decide) (hts (.fieldLink RM 68 "TornTryCounterModel" "pukTries" "I") (by decide +kernel)) (fun _ h9 => h9) rfl (by decide +kernel) rfl rfl (Nat.le_of_ble_eq_true rfl) dM_turn_150 (fun H locs hP hD hS => ?_)
          have hP : va_P (dC, dI) ttCl [(qm, .inr (3, [.int pl, .int ul, .int pk, .int (1 - ac_4), .int ((ag_4 + 1) - (ag_4 + 1) / 256 * 256), .int p1, .int a1, .int c1, .int en_4, .int og_4, .int pw_4, .int hd_4, .int tn_4, .int tk_4, .int ar_4, .int dn_4, .int e0_4, .int e1_4]))] H := hP
          have hD : va_D A [(qm, .inr (3, [.int pl, .int ul, .int pk, .int (1 - ac_4), .int ((ag_4 + 1) - (ag_4 + 1) / 256 * 256), .int p1, .int a1, .int c1, .int en_4, .int og_4, .int pw_4, .int hd_4, .int tn_4, .int tk_4, .int ar_4, .int dn_4, .int e0_4, .int e1_4]))] := hD
          refine lv_aload_n hx hb dM_turn_153 rfl (lv_at hl 1 rfl) ?_
          refine lv_bipush (v := 10) hx hb dM_turn_154 (by decide) ?_
          refine va_put (D := (dC, dI)) (ci := 3) (v := .int 10) (ty := .int) (C := RM) (T := TM) (N := 18) hx hb hts (by decide +kernel) tyM tyM_ok nmM hown hK hP hD hS 0 rfl rfl 8 (by decide) (hts (.fieldLink RM 7 "TornTryCounterModel" "entries" "I") (by decide +kernel)) (fun _ h9 => h9) rfl (by decide +kernel) rfl rfl (Nat.le_of_ble_eq_true rfl) dM_turn_156 (fun H locs hP hD hS => ?_)
          have hP : va_P (dC, dI) ttCl [(qm, .inr (3, [.int pl, .int ul, .int pk, .int (1 - ac_4), .int ((ag_4 + 1) - (ag_4 + 1) / 256 * 256), .int p1, .int a1, .int c1, .int 10, .int og_4, .int pw_4, .int hd_4, .int tn_4, .int tk_4, .int ar_4, .int dn_4, .int e0_4, .int e1_4]))] H := hP
          have hD : va_D A [(qm, .inr (3, [.int pl, .int ul, .int pk, .int (1 - ac_4), .int ((ag_4 + 1) - (ag_4 + 1) / 256 * 256), .int p1, .int a1, .int c1, .int 10, .int og_4, .int pw_4, .int hd_4, .int tn_4, .int tk_4, .int ar_4, .int dn_4, .int e0_4, .int e1_4]))] := hD
          refine lv_aload_n hx hb dM_turn_159 rfl (lv_at hl 1 rfl) ?_
          refine lv_iconst (v := 1) hx hb dM_turn_160 (by decide) ?_
          refine va_put (D := (dC, dI)) (ci := 3) (v := .int 1) (ty := .boolean) (C := RM) (T := TM) (N := 18) hx hb hts (by decide +kernel) tyM tyM_ok nmM hown hK hP hD hS 0 rfl rfl 9 (by decide) (hts (.fieldLink RM 42 "TornTryCounterModel" "otherGood" "Z") (by decide +kernel)) (fun _ h9 => h9) rfl (by decide +kernel) rfl rfl (Nat.le_of_ble_eq_true rfl) dM_turn_161 (fun H locs hP hD hS => ?_)
          have hP : va_P (dC, dI) ttCl [(qm, .inr (3, [.int pl, .int ul, .int pk, .int (1 - ac_4), .int ((ag_4 + 1) - (ag_4 + 1) / 256 * 256), .int p1, .int a1, .int c1, .int 10, .int 1, .int pw_4, .int hd_4, .int tn_4, .int tk_4, .int ar_4, .int dn_4, .int e0_4, .int e1_4]))] H := hP
          have hD : va_D A [(qm, .inr (3, [.int pl, .int ul, .int pk, .int (1 - ac_4), .int ((ag_4 + 1) - (ag_4 + 1) / 256 * 256), .int p1, .int a1, .int c1, .int 10, .int 1, .int pw_4, .int hd_4, .int tn_4, .int tk_4, .int ar_4, .int dn_4, .int e0_4, .int e1_4]))] := hD
          refine lv_iload hx hb dM_turn_164 (lv_at hl 0 rfl) ?_
          refine lv_if_ge (tgt := 173) hx hb dM_turn_166 (by decide) (fun c_8 => ?_) (fun c_8 => ?_)
          · refine lv_iconst (v := 0) hx hb dM_turn_173 (by decide) ?_
            have hP9 := hP.sub (ws' := [(qm, .inr (3, [.int pl, .int ul, .int pk, .int (1 - ac_4), .int ((ag_4 + 1) - (ag_4 + 1) / 256 * 256), .int p1, .int a1, .int c1, .int 10, .int 1, .int pw_4, .int hd_4, .int tn_4, .int tk_4, .int ar_4, .int dn_4, .int e0_4, .int e1_4]))]) [0] rfl
            have hD9 := hD.sub (ws' := [(qm, .inr (3, [.int pl, .int ul, .int pk, .int (1 - ac_4), .int ((ag_4 + 1) - (ag_4 + 1) / 256 * 256), .int p1, .int a1, .int c1, .int 10, .int 1, .int pw_4, .int hd_4, .int tn_4, .int tk_4, .int ar_4, .int dn_4, .int e0_4, .int e1_4]))]) [0] (by decide) rfl
            have hK9 := hK.sub (tys' := []) [] rfl
            exact W.zret (v := 0) hx hb hr (by first | rfl | decide) (fun t ht hW => ⟨⟨0, (1 - ac_4, (ag_4 + 1) - (ag_4 + 1) / 256 * 256, p1, a1, c1, 10, 1, pw_4, hd_4, tn_4, tk_4, ar_4, dn_4, e0_4, e1_4), rfl, (by first | (simp only [mm_turn, mm_t0, mm_t9, mm_er, mm_setog, tt_seq_p, if_pos c_1, if_neg c_2, if_pos c_3, (hZ.trans hlp.symm), e_4, if_neg c_6, if_pos c_8, reduceIte, eq_self, tt_n10]; done) | (simp only [mm_turn, mm_t0, mm_t9, mm_er, mm_setog, tt_seq_p, c_1, c_2, c_3, (hZ.trans hlp.symm), e_4, c_6, c_8, reduceIte, eq_self, tt_n10]; done) | (simp [mm_turn, mm_t0, mm_t9, mm_er, mm_setog, tt_seq_p, c_1, c_2, c_3, (hZ.trans hlp.symm), e_4, c_6, c_8]; done)), by rw [ht]; exact hP9, va_K.moved hW.alike hK9, hD9⟩, hS.F ht⟩) hS.2.2 dM_turn_174
          · refine lv_iconst (v := 1) hx hb dM_turn_169 (by decide) ?_
            refine lv_goto (tgt := 174) hx hb dM_turn_170 (by decide) ?_
            have hP9 := hP.sub (ws' := [(qm, .inr (3, [.int pl, .int ul, .int pk, .int (1 - ac_4), .int ((ag_4 + 1) - (ag_4 + 1) / 256 * 256), .int p1, .int a1, .int c1, .int 10, .int 1, .int pw_4, .int hd_4, .int tn_4, .int tk_4, .int ar_4, .int dn_4, .int e0_4, .int e1_4]))]) [0] rfl
            have hD9 := hD.sub (ws' := [(qm, .inr (3, [.int pl, .int ul, .int pk, .int (1 - ac_4), .int ((ag_4 + 1) - (ag_4 + 1) / 256 * 256), .int p1, .int a1, .int c1, .int 10, .int 1, .int pw_4, .int hd_4, .int tn_4, .int tk_4, .int ar_4, .int dn_4, .int e0_4, .int e1_4]))]) [0] (by decide) rfl
            have hK9 := hK.sub (tys' := []) [] rfl
            exact W.zret (v := 1) hx hb hr (by first | rfl | decide) (fun t ht hW => ⟨⟨1, (1 - ac_4, (ag_4 + 1) - (ag_4 + 1) / 256 * 256, p1, a1, c1, 10, 1, pw_4, hd_4, tn_4, tk_4, ar_4, dn_4, e0_4, e1_4), rfl, (by first | (simp only [mm_turn, mm_t0, mm_t9, mm_er, mm_setog, tt_seq_p, if_pos c_1, if_neg c_2, if_pos c_3, (hZ.trans hlp.symm), e_4, if_neg c_6, if_neg c_8, reduceIte, eq_self, tt_n10]; done) | (simp only [mm_turn, mm_t0, mm_t9, mm_er, mm_setog, tt_seq_p, c_1, c_2, c_3, (hZ.trans hlp.symm), e_4, c_6, c_8, reduceIte, eq_self, tt_n10]; done) | (simp [mm_turn, mm_t0, mm_t9, mm_er, mm_setog, tt_seq_p, c_1, c_2, c_3, (hZ.trans hlp.symm), e_4, c_6, c_8]; done)), by rw [ht]; exact hP9, va_K.moved hW.alike hK9, hD9⟩, hS.F ht⟩) hS.2.2 dM_turn_174
      · have hlt : i < 6 := (tt_c6 i (by omega)).2 c_3
        obtain ⟨n, rfl⟩ : ∃ k, n = k + 1 := ⟨n - 1, by omega⟩
        refine lv_aload_n hx hb dM_turn_82 rfl (lv_at hl 0 rfl) ?_
        have hPc := hP.sub (ws' := [(qm, .inr (3, [.int pl, .int ul, .int pk, .int ac_z, .int ag_z, .int pn_z, .int pt_z, .int ut_z, .int en_z, .int og_z, .int pw_z, .int hd_z, .int tn_z, .int tk_z, .int ar_z, .int dn_z, .int e0_z, .int e1_z]))]) [0] rfl
        have hDc := hD.sub (ws' := [(qm, .inr (3, [.int pl, .int ul, .int pk, .int ac_z, .int ag_z, .int pn_z, .int pt_z, .int ut_z, .int en_z, .int og_z, .int pw_z, .int hd_z, .int tn_z, .int tk_z, .int ar_z, .int dn_z, .int e0_z, .int e1_z]))]) [0] (by decide) rfl
        have hKc := hK.sub (tys' := []) [] rfl
        have hFc := va_free (wc := [(qm, .inr (3, [.int pl, .int ul, .int pk, .int ac_z, .int ag_z, .int pn_z, .int pt_z, .int ut_z, .int en_z, .int og_z, .int pw_z, .int hd_z, .int tn_z, .int tk_z, .int ar_z, .int dn_z, .int e0_z, .int e1_z]))]) hD hS hA [0] rfl
        refine va_calli (va_runV (As := []) (rest := []) ⟨hx, hb, hml, hown, hts⟩ (c_M_operate l dC dI qm H.size pk pl ul ac_z ag_z pn_z pt_z ut_z en_z og_z pw_z hd_z tn_z tk_z ar_z dn_z e0_z e1_z) (cwV 0 hts gM_turn_M_operate rfl rfl rfl (by decide +kernel) ⟨Nat.le_of_ble_eq_true rfl, Nat.le_of_ble_eq_true rfl⟩) ⟨fun a U g mk q => by obtain ⟨q0, q1, qP, qK, qD⟩ := q; exact ⟨q0, q1, qP, va_K.moved (u := U) (U := U.calling g mk a) (Vm.Alike.refl U.vm) qK, qD⟩, va_recv hKc hPc (ci := 3) (q0 := 0) rfl rfl, fun U hU hW => ⟨rfl, by rw [hU], by rw [hU]; exact hPc, va_K.moved hW.alike hKc, hDc.weaken (fun _ _ _ _ => trivial)⟩⟩ rfl rfl hl.1 rfl (lv_room (Nat.le_of_ble_eq_true rfl)) dM_turn_83 ⟨(Nat.zero_le _), (Nat.zero_le _)⟩) hS (fun q _ h => hFc q h) hFc (fun r_9 u t H locs ht hvm hw hB hz1 hk1 hS => ?_)
        obtain ⟨ac_9, ag_9, pn_9, pt_9, ut_9, en_9, og_9, pw_9, hd_9, tn_9, tk_9, ar_9, dn_9, e0_9, e1_9⟩ := u
        obtain ⟨hP1, hK1, hD1⟩ := hB
        have e_9 : mm_op (ac_z, ag_z, pn_z, pt_z, ut_z, en_z, og_z, pw_z, hd_z, tn_z, tk_z, ar_z, dn_z, e0_z, e1_z) = (r_9, (ac_9, ag_9, pn_9, pt_9, ut_9, en_9, og_9, pw_9, hd_9, tn_9, tk_9, ar_9, dn_9, e0_9, e1_9)) := hw
        rw [ht] at hP1
        obtain ⟨hP, hD⟩ := va_join (wr := []) (w1 := [(qm, .inr (3, [.int pl, .int ul, .int pk, .int ac_9, .int ag_9, .int pn_9, .int pt_9, .int ut_9, .int en_9, .int og_9, .int pw_9, .int hd_9, .int tn_9, .int tk_9, .int ar_9, .int dn_9, .int e0_9, .int e1_9]))]) hP hD [0] [] rfl rfl (by decide) (by decide) hk1 hFc hP1 hD1
        have hP : va_P (dC, dI) ttCl [(qm, .inr (3, [.int pl, .int ul, .int pk, .int ac_9, .int ag_9, .int pn_9, .int pt_9, .int ut_9, .int en_9, .int og_9, .int pw_9, .int hd_9, .int tn_9, .int tk_9, .int ar_9, .int dn_9, .int e0_9, .int e1_9]))] H := hP
        have hD : va_D A [(qm, .inr (3, [.int pl, .int ul, .int pk, .int ac_9, .int ag_9, .int pn_9, .int pt_9, .int ut_9, .int en_9, .int og_9, .int pw_9, .int hd_9, .int tn_9, .int tk_9, .int ar_9, .int dn_9, .int e0_9, .int e1_9]))] := hD
        refine lv_if_lt (tgt := 91) hx hb dM_turn_86 (by decide) (fun c_10 => ?_) (fun c_10 => ?_)
        · simp only [mm_lp, e_9, c_10, reduceIte] at hlp
          refine lv_iinc (v := (nI i) + 1) (lv' := [(4, .int ((nI i) + 1)), (0, .ref qm), (1, .int p1), (2, .int a1), (3, .int c1)]) hx hb dM_turn_91 hl (k := 4) rfl rfl (by decide) rfl (fun ls hl => ?_)
          refine lv_goto (tgt := 75) hx hb dM_turn_94 (by decide) ?_
          refine ih n (by omega) _ _ _ ⟨i + 1, ac_9, ag_9, pn_9, pt_9, ut_9, en_9, og_9, pw_9, hd_9, tn_9, tk_9, ar_9, dn_9, e0_9, e1_9, by omega, hlp, hP.sub [0] rfl, hD.sub [0] (by decide) rfl, hS, ?_⟩
          rw [show nI (i + 1) = nI i + 1 from (nI_1 i).symm]; exact lv_sub hl [1, 2, 3, 4, 0] rfl
        · simp only [mm_lp, e_9, c_10, reduceIte] at hlp
          refine lv_iconst (v := 0) hx hb dM_turn_89 (by decide) ?_
          have hP9 := hP.sub (ws' := [(qm, .inr (3, [.int pl, .int ul, .int pk, .int ac_9, .int ag_9, .int pn_9, .int pt_9, .int ut_9, .int en_9, .int og_9, .int pw_9, .int hd_9, .int tn_9, .int tk_9, .int ar_9, .int dn_9, .int e0_9, .int e1_9]))]) [0] rfl
          have hD9 := hD.sub (ws' := [(qm, .inr (3, [.int pl, .int ul, .int pk, .int ac_9, .int ag_9, .int pn_9, .int pt_9, .int ut_9, .int en_9, .int og_9, .int pw_9, .int hd_9, .int tn_9, .int tk_9, .int ar_9, .int dn_9, .int e0_9, .int e1_9]))]) [0] (by decide) rfl
          have hK9 := hK.sub (tys' := []) [] rfl
          exact W.zret (v := 0) hx hb hr (by first | rfl | decide) (fun t ht hW => ⟨⟨0, (ac_9, ag_9, pn_9, pt_9, ut_9, en_9, og_9, pw_9, hd_9, tn_9, tk_9, ar_9, dn_9, e0_9, e1_9), rfl, (by first | (simp only [mm_turn, mm_t0, mm_t9, mm_er, mm_setog, tt_seq_p, if_pos c_1, if_neg c_2, if_neg c_3, e_9, if_neg c_10, (hZ.trans hlp.symm), reduceIte, eq_self, tt_n10]; done) | (simp only [mm_turn, mm_t0, mm_t9, mm_er, mm_setog, tt_seq_p, c_1, c_2, c_3, e_9, c_10, (hZ.trans hlp.symm), reduceIte, eq_self, tt_n10]; done) | (simp [mm_turn, mm_t0, mm_t9, mm_er, mm_setog, tt_seq_p, c_1, c_2, c_3, e_9, c_10, (hZ.trans hlp.symm)]; done)), by rw [ht]; exact hP9, va_K.moved hW.alike hK9, hD9⟩, hS.F ht⟩) hS.2.2 dM_turn_90
    · refine lv_aload_n hx hb dM_turn_49 rfl (lv_at hl 0 rfl) ?_
      refine lv_dup hx hb dM_turn_50 rfl ?_
      refine va_get (D := (dC, dI)) (ci := 3) (v := .int e1) (C := RM) (T := TM) (N := 18) hx hb hts (by decide +kernel) hown hK hP 0 rfl rfl 17 (by decide) (hts (.fieldLink RM 52 "TornTryCounterModel" "erased1" "I") (by decide +kernel)) (fun _ h9 => h9) rfl dM_turn_51 ?_
      refine lv_iconst (v := 1) hx hb dM_turn_54 (by decide) ?_
      refine lv_iadd hx hb dM_turn_55 ?_
      refine va_put (D := (dC, dI)) (ci := 3) (v := .int (e1 + 1)) (ty := .int) (C := RM) (T := TM) (N := 18) hx hb hts (by decide +kernel) tyM tyM_ok nmM hown hK hP hD hS 0 rfl rfl 17 (by decide) (hts (.fieldLink RM 52 "TornTryCounterModel" "erased1" "I") (by decide +kernel)) (fun _ h9 => h9) rfl (by decide +kernel) rfl rfl (Nat.le_of_ble_eq_true rfl) dM_turn_56 (fun H locs hP hD hS => ?_)
      have hP : va_P (dC, dI) ttCl [(qm, .inr (3, [.int pl, .int ul, .int pk, .int ac, .int ag, .int pn, .int pt, .int ut, .int en, .int og, .int pw, .int hd, .int tn, .int tk, .int ar, .int dn, .int e0, .int (e1 + 1)]))] H := hP
      have hD : va_D A [(qm, .inr (3, [.int pl, .int ul, .int pk, .int ac, .int ag, .int pn, .int pt, .int ut, .int en, .int og, .int pw, .int hd, .int tn, .int tk, .int ar, .int dn, .int e0, .int (e1 + 1)]))] := hD
      refine lv_goto (tgt := 72) hx hb dM_turn_59 (by decide) ?_
      refine lv_iconst (v := 0) hx hb dM_turn_72 (by decide) ?_
      refine lv_istore (lv' := [(4, .int 0), (0, .ref qm), (1, .int p1), (2, .int a1), (3, .int c1)]) hx hb dM_turn_73 hl (by decide) rfl (fun ls hl => ?_)
      refine W.widen (k := 0) (n := 0) (by omega) (by omega) ?_
      obtain ⟨Z, hZ⟩ : ∃ z, mm_lp 6 (ac, ag, pn, pt, ut, en, og, pw, hd, tn, tk, ar, dn, e0, e1 + 1) = z := ⟨_, rfl⟩
      refine tt_rec (pc := 75) (I := fun n H locs ls => ∃ (i : Nat) (ac_z ag_z pn_z pt_z ut_z en_z og_z pw_z hd_z tn_z tk_z ar_z dn_z e0_z e1_z : Int32), i + n = 6 ∧ mm_lp n (ac_z, ag_z, pn_z, pt_z, ut_z, en_z, og_z, pw_z, hd_z, tn_z, tk_z, ar_z, dn_z, e0_z, e1_z) = Z ∧ va_P (dC, dI) ttCl [(qm, .inr (3, [.int pl, .int ul, .int pk, .int ac_z, .int ag_z, .int pn_z, .int pt_z, .int ut_z, .int en_z, .int og_z, .int pw_z, .int hd_z, .int tn_z, .int tk_z, .int ar_z, .int dn_z, .int e0_z, .int e1_z]))] H ∧ va_D A [(qm, .inr (3, [.int pl, .int ul, .int pk, .int ac_z, .int ag_z, .int pn_z, .int pt_z, .int ut_z, .int en_z, .int og_z, .int pw_z, .int hd_z, .int tn_z, .int tk_z, .int ar_z, .int dn_z, .int e0_z, .int e1_z]))] ∧ va_S A s.heap H locs ∧ lv_has ls 5 [(0, .ref qm), (1, .int p1), (2, .int a1), (3, .int c1), (4, .int (nI i))]) ?_ 6 ⟨0, ac, ag, pn, pt, ut, en, og, pw, hd, tn, tk, ar, dn, e0, e1 + 1, rfl, hZ, hP, hD, hS, lv_sub hl [1, 2, 3, 4, 0] rfl⟩
      intro n H locs ls ih hI
      obtain ⟨i, ac_z, ag_z, pn_z, pt_z, ut_z, en_z, og_z, pw_z, hd_z, tn_z, tk_z, ar_z, dn_z, e0_z, e1_z, hi, hlp, hP, hD, hS, hl⟩ := hI
      refine lv_iload hx hb dM_turn_75 (lv_at hl 4 rfl) ?_
      refine lv_bipush (v := 6) hx hb dM_turn_77 (by decide) ?_
      refine lv_icmp_ge (tgt := 97) hx hb dM_turn_79 (by decide) (fun c_11 => ?_) (fun c_11 => ?_)
      · have hie : i = 6 := (tt_c6 i (by omega)).1 c_11
        obtain rfl : n = 0 := by omega
        simp only [mm_lp] at hlp
        refine lv_aload_n hx hb dM_turn_97 rfl (lv_at hl 0 rfl) ?_
        have hPc := hP.sub (ws' := [(qm, .inr (3, [.int pl, .int ul, .int pk, .int ac_z, .int ag_z, .int pn_z, .int pt_z, .int ut_z, .int en_z, .int og_z, .int pw_z, .int hd_z, .int tn_z, .int tk_z, .int ar_z, .int dn_z, .int e0_z, .int e1_z]))]) [0] rfl
        have hDc := hD.sub (ws' := [(qm, .inr (3, [.int pl, .int ul, .int pk, .int ac_z, .int ag_z, .int pn_z, .int pt_z, .int ut_z, .int en_z, .int og_z, .int pw_z, .int hd_z, .int tn_z, .int tk_z, .int ar_z, .int dn_z, .int e0_z, .int e1_z]))]) [0] (by decide) rfl
        have hKc := hK.sub (tys' := []) [] rfl
        have hFc := va_free (wc := [(qm, .inr (3, [.int pl, .int ul, .int pk, .int ac_z, .int ag_z, .int pn_z, .int pt_z, .int ut_z, .int en_z, .int og_z, .int pw_z, .int hd_z, .int tn_z, .int tk_z, .int ar_z, .int dn_z, .int e0_z, .int e1_z]))]) hD hS hA [0] rfl
        refine va_calli (va_runV (As := []) (rest := []) ⟨hx, hb, hml, hown, hts⟩ (c_M_operate l dC dI qm H.size pk pl ul ac_z ag_z pn_z pt_z ut_z en_z og_z pw_z hd_z tn_z tk_z ar_z dn_z e0_z e1_z) (cwV 0 hts gM_turn_M_operate rfl rfl rfl (by decide +kernel) ⟨Nat.le_of_ble_eq_true rfl, Nat.le_of_ble_eq_true rfl⟩) ⟨fun a U g mk q => by obtain ⟨q0, q1, qP, qK, qD⟩ := q; exact ⟨q0, q1, qP, va_K.moved (u := U) (U := U.calling g mk a) (Vm.Alike.refl U.vm) qK, qD⟩, va_recv hKc hPc (ci := 3) (q0 := 0) rfl rfl, fun U hU hW => ⟨rfl, by rw [hU], by rw [hU]; exact hPc, va_K.moved hW.alike hKc, hDc.weaken (fun _ _ _ _ => trivial)⟩⟩ rfl rfl hl.1 rfl (lv_room (Nat.le_of_ble_eq_true rfl)) dM_turn_98 ⟨(Nat.zero_le _), (Nat.zero_le _)⟩) hS (fun q _ h => hFc q h) hFc (fun r_12 u t H locs ht hvm hw hB hz1 hk1 hS => ?_)
        obtain ⟨ac_12, ag_12, pn_12, pt_12, ut_12, en_12, og_12, pw_12, hd_12, tn_12, tk_12, ar_12, dn_12, e0_12, e1_12⟩ := u
        obtain ⟨hP1, hK1, hD1⟩ := hB
        have e_12 : mm_op (ac_z, ag_z, pn_z, pt_z, ut_z, en_z, og_z, pw_z, hd_z, tn_z, tk_z, ar_z, dn_z, e0_z, e1_z) = (r_12, (ac_12, ag_12, pn_12, pt_12, ut_12, en_12, og_12, pw_12, hd_12, tn_12, tk_12, ar_12, dn_12, e0_12, e1_12)) := hw
        rw [ht] at hP1
        obtain ⟨hP, hD⟩ := va_join (wr := []) (w1 := [(qm, .inr (3, [.int pl, .int ul, .int pk, .int ac_12, .int ag_12, .int pn_12, .int pt_12, .int ut_12, .int en_12, .int og_12, .int pw_12, .int hd_12, .int tn_12, .int tk_12, .int ar_12, .int dn_12, .int e0_12, .int e1_12]))]) hP hD [0] [] rfl rfl (by decide) (by decide) hk1 hFc hP1 hD1
        have hP : va_P (dC, dI) ttCl [(qm, .inr (3, [.int pl, .int ul, .int pk, .int ac_12, .int ag_12, .int pn_12, .int pt_12, .int ut_12, .int en_12, .int og_12, .int pw_12, .int hd_12, .int tn_12, .int tk_12, .int ar_12, .int dn_12, .int e0_12, .int e1_12]))] H := hP
        have hD : va_D A [(qm, .inr (3, [.int pl, .int ul, .int pk, .int ac_12, .int ag_12, .int pn_12, .int pt_12, .int ut_12, .int en_12, .int og_12, .int pw_12, .int hd_12, .int tn_12, .int tk_12, .int ar_12, .int dn_12, .int e0_12, .int e1_12]))] := hD
        refine lv_istore (lv' := [(4, .int r_12), (0, .ref qm), (1, .int p1), (2, .int a1), (3, .int c1)]) hx hb dM_turn_101 hl (by decide) rfl (fun ls hl => ?_)
        refine lv_iload hx hb dM_turn_103 (lv_at hl 0 rfl) ?_
        refine lv_sipush (v := 165) hx hb dM_turn_105 (by decide) ?_
        have hPc := hP.sub (ws' := []) [] rfl
        have hDc := hD.sub (ws' := []) [] (by decide) rfl
        have hKc := hK.sub (tys' := []) [] rfl
        have hFc := va_free (wc := []) hD hS hA [] rfl
        refine va_calli (va_runS (As := [.int r_12, .int 165]) (rest := []) ⟨hx, hb, hml, hown, hts⟩ (c_M_all l dC dI H.size r_12 165) (va_cwS 2 hts gM_turn_M_all rfl rfl rfl (by decide +kernel) ⟨Nat.le_of_ble_eq_true rfl, Nat.le_of_ble_eq_true rfl⟩) ⟨fun a U g mk q => by obtain ⟨q0, q1, qP, qK, qD⟩ := q; exact ⟨q0, q1, qP, va_K.moved (u := U) (U := U.calling g mk a) (Vm.Alike.refl U.vm) qK, qD⟩, fun U hU hW => ⟨rfl, by rw [hU], by rw [hU]; exact hPc, va_K.moved hW.alike hKc, hDc.weaken (fun _ _ _ _ => trivial)⟩⟩ rfl rfl hl.1 rfl (lv_room (Nat.le_of_ble_eq_true rfl)) dM_turn_108 ⟨(Nat.zero_le _), (Nat.zero_le _)⟩) hS (fun q _ h => hFc q h) hFc (fun r_13 u t H locs ht hvm hw hB hz1 hk1 hS => ?_)
        have hw : mm_all r_12 165 = r_13 := hw.symm
        subst hw
        obtain ⟨hP1, hK1, hD1⟩ := hB
        rw [ht] at hP1
        obtain ⟨hP, hD⟩ := va_join (wr := [(qm, .inr (3, [.int pl, .int ul, .int pk, .int ac_12, .int ag_12, .int pn_12, .int pt_12, .int ut_12, .int en_12, .int og_12, .int pw_12, .int hd_12, .int tn_12, .int tk_12, .int ar_12, .int dn_12, .int e0_12, .int e1_12]))]) (w1 := []) hP hD [] [0] rfl rfl (by decide) (by decide) hk1 hFc hP1 hD1
        have hP : va_P (dC, dI) ttCl [(qm, .inr (3, [.int pl, .int ul, .int pk, .int ac_12, .int ag_12, .int pn_12, .int pt_12, .int ut_12, .int en_12, .int og_12, .int pw_12, .int hd_12, .int tn_12, .int tk_12, .int ar_12, .int dn_12, .int e0_12, .int e1_12]))] H := hP
        have hD : va_D A [(qm, .inr (3, [.int pl, .int ul, .int pk, .int ac_12, .int ag_12, .int pn_12, .int pt_12, .int ut_12, .int en_12, .int og_12, .int pw_12, .int hd_12, .int tn_12, .int tk_12, .int ar_12, .int dn_12, .int e0_12, .int e1_12]))] := hD
        refine lv_if_eq (tgt := 164) hx hb dM_turn_111 (by decide) (fun c_14 => ?_) (fun c_14 => ?_)
        · refine lv_iload hx hb dM_turn_164 (lv_at hl 0 rfl) ?_
          refine lv_if_ge (tgt := 173) hx hb dM_turn_166 (by decide) (fun c_15 => ?_) (fun c_15 => ?_)
          · refine lv_iconst (v := 0) hx hb dM_turn_173 (by decide) ?_
            have hP9 := hP.sub (ws' := [(qm, .inr (3, [.int pl, .int ul, .int pk, .int ac_12, .int ag_12, .int pn_12, .int pt_12, .int ut_12, .int en_12, .int og_12, .int pw_12, .int hd_12, .int tn_12, .int tk_12, .int ar_12, .int dn_12, .int e0_12, .int e1_12]))]) [0] rfl
            have hD9 := hD.sub (ws' := [(qm, .inr (3, [.int pl, .int ul, .int pk, .int ac_12, .int ag_12, .int pn_12, .int pt_12, .int ut_12, .int en_12, .int og_12, .int pw_12, .int hd_12, .int tn_12, .int tk_12, .int ar_12, .int dn_12, .int e0_12, .int e1_12]))]) [0] (by decide) rfl
            have hK9 := hK.sub (tys' := []) [] rfl
            exact W.zret (v := 0) hx hb hr (by first | rfl | decide) (fun t ht hW => ⟨⟨0, (ac_12, ag_12, pn_12, pt_12, ut_12, en_12, og_12, pw_12, hd_12, tn_12, tk_12, ar_12, dn_12, e0_12, e1_12), rfl, (by first | (simp only [mm_turn, mm_t0, mm_t9, mm_er, mm_setog, tt_seq_p, if_pos c_1, if_pos c_2, if_pos c_11, (hZ.trans hlp.symm), e_12, if_pos c_14, if_pos c_15, reduceIte, eq_self, tt_n10]; done) | (simp only [mm_turn, mm_t0, mm_t9, mm_er, mm_setog, tt_seq_p, c_1, c_2, c_11, (hZ.trans hlp.symm), e_12, c_14, c_15, reduceIte, eq_self, tt_n10]; done) | (simp [mm_turn, mm_t0, mm_t9, mm_er, mm_setog, tt_seq_p, c_1, c_2, c_11, (hZ.trans hlp.symm), e_12, c_14, c_15]; done)), by rw [ht]; exact hP9, va_K.moved hW.alike hK9, hD9⟩, hS.F ht⟩) hS.2.2 dM_turn_174
          · refine lv_iconst (v := 1) hx hb dM_turn_169 (by decide) ?_
            refine lv_goto (tgt := 174) hx hb dM_turn_170 (by decide) ?_
            have hP9 := hP.sub (ws' := [(qm, .inr (3, [.int pl, .int ul, .int pk, .int ac_12, .int ag_12, .int pn_12, .int pt_12, .int ut_12, .int en_12, .int og_12, .int pw_12, .int hd_12, .int tn_12, .int tk_12, .int ar_12, .int dn_12, .int e0_12, .int e1_12]))]) [0] rfl
            have hD9 := hD.sub (ws' := [(qm, .inr (3, [.int pl, .int ul, .int pk, .int ac_12, .int ag_12, .int pn_12, .int pt_12, .int ut_12, .int en_12, .int og_12, .int pw_12, .int hd_12, .int tn_12, .int tk_12, .int ar_12, .int dn_12, .int e0_12, .int e1_12]))]) [0] (by decide) rfl
            have hK9 := hK.sub (tys' := []) [] rfl
            exact W.zret (v := 1) hx hb hr (by first | rfl | decide) (fun t ht hW => ⟨⟨1, (ac_12, ag_12, pn_12, pt_12, ut_12, en_12, og_12, pw_12, hd_12, tn_12, tk_12, ar_12, dn_12, e0_12, e1_12), rfl, (by first | (simp only [mm_turn, mm_t0, mm_t9, mm_er, mm_setog, tt_seq_p, if_pos c_1, if_pos c_2, if_pos c_11, (hZ.trans hlp.symm), e_12, if_pos c_14, if_neg c_15, reduceIte, eq_self, tt_n10]; done) | (simp only [mm_turn, mm_t0, mm_t9, mm_er, mm_setog, tt_seq_p, c_1, c_2, c_11, (hZ.trans hlp.symm), e_12, c_14, c_15, reduceIte, eq_self, tt_n10]; done) | (simp [mm_turn, mm_t0, mm_t9, mm_er, mm_setog, tt_seq_p, c_1, c_2, c_11, (hZ.trans hlp.symm), e_12, c_14, c_15]; done)), by rw [ht]; exact hP9, va_K.moved hW.alike hK9, hD9⟩, hS.F ht⟩) hS.2.2 dM_turn_174
        · refine lv_aload_n hx hb dM_turn_114 rfl (lv_at hl 1 rfl) ?_
          refine lv_iconst (v := 1) hx hb dM_turn_115 (by decide) ?_
          refine lv_aload_n hx hb dM_turn_116 rfl (lv_at hl 1 rfl) ?_
          refine va_get (D := (dC, dI)) (ci := 3) (v := .int ac_12) (C := RM) (T := TM) (N := 18) hx hb hts (by decide +kernel) hown hK hP 0 rfl rfl 3 (by decide) (hts (.fieldLink RM 49 "TornTryCounterModel" "active" "I") (by decide +kernel)) (fun _ h9 => h9) rfl dM_turn_117 ?_
          refine lv_isub hx hb dM_turn_120 ?_
          refine va_put (D := (dC, dI)) (ci := 3) (v := .int (1 - ac_12)) (ty := .int) (C := RM) (T := TM) (N := 18) hx hb hts (by decide +kernel) tyM tyM_ok nmM hown hK hP hD hS 0 rfl rfl 3 (by decide) (hts (.fieldLink RM 49 "TornTryCounterModel" "active" "I") (by decide +kernel)) (fun _ h9 => h9) rfl (by decide +kernel) rfl rfl (Nat.le_of_ble_eq_true rfl) dM_turn_121 (fun H locs hP hD hS => ?_)
          have hP : va_P (dC, dI) ttCl [(qm, .inr (3, [.int pl, .int ul, .int pk, .int (1 - ac_12), .int ag_12, .int pn_12, .int pt_12, .int ut_12, .int en_12, .int og_12, .int pw_12, .int hd_12, .int tn_12, .int tk_12, .int ar_12, .int dn_12, .int e0_12, .int e1_12]))] H := hP
          have hD : va_D A [(qm, .inr (3, [.int pl, .int ul, .int pk, .int (1 - ac_12), .int ag_12, .int pn_12, .int pt_12, .int ut_12, .int en_12, .int og_12, .int pw_12, .int hd_12, .int tn_12, .int tk_12, .int ar_12, .int dn_12, .int e0_12, .int e1_12]))] := hD
          refine lv_aload_n hx hb dM_turn_124 rfl (lv_at hl 1 rfl) ?_
          refine lv_aload_n hx hb dM_turn_125 rfl (lv_at hl 1 rfl) ?_
          refine va_get (D := (dC, dI)) (ci := 3) (v := .int ag_12) (C := RM) (T := TM) (N := 18) hx hb hts (by decide +kernel) hown hK hP 0 rfl rfl 4 (by decide) (hts (.fieldLink RM 62 "TornTryCounterModel" "age" "I") (by decide +kernel)) (fun _ h9 => h9) rfl dM_turn_126 ?_
          refine lv_iconst (v := 1) hx hb dM_turn_129 (by decide) ?_
          refine lv_iadd hx hb dM_turn_130 ?_
          refine lv_sipush (v := 256) hx hb dM_turn_131 (by decide) ?_
          refine lv_irem hx hb dM_turn_134 (by decide) ?_
          refine va_put (D := (dC, dI)) (ci := 3) (v := .int ((ag_12 + 1) - (ag_12 + 1) / 256 * 256)) (ty := .int) (C := RM) (T := TM) (N := 18) hx hb hts (by decide +kernel) tyM tyM_ok nmM hown hK hP hD hS 0 rfl rfl 4 (by decide) (hts (.fieldLink RM 62 "TornTryCounterModel" "age" "I") (by decide +kernel)) (fun _ h9 => h9) rfl (by decide +kernel) rfl rfl (Nat.le_of_ble_eq_true rfl) dM_turn_135 (fun H locs hP hD hS => ?_)
          have hP : va_P (dC, dI) ttCl [(qm, .inr (3, [.int pl, .int ul, .int pk, .int (1 - ac_12), .int ((ag_12 + 1) - (ag_12 + 1) / 256 * 256), .int pn_12, .int pt_12, .int ut_12, .int en_12, .int og_12, .int pw_12, .int hd_12, .int tn_12, .int tk_12, .int ar_12, .int dn_12, .int e0_12, .int e1_12]))] H := hP
          have hD : va_D A [(qm, .inr (3, [.int pl, .int ul, .int pk, .int (1 - ac_12), .int ((ag_12 + 1) - (ag_12 + 1) / 256 * 256), .int pn_12, .int pt_12, .int ut_12, .int en_12, .int og_12, .int pw_12, .int hd_12, .int tn_12, .int tk_12, .int ar_12, .int dn_12, .int e0_12, .int e1_12]))] := hD
          refine lv_aload_n hx hb dM_turn_138 rfl (lv_at hl 1 rfl) ?_
          refine lv_iload_n hx hb dM_turn_139 rfl (lv_at hl 2 rfl) ?_
          refine va_put (D := (dC, dI)) (ci := 3) (v := .int p1) (ty := .int) (C := RM) (T := TM) (N := 18) hx hb hts (by decide +kernel) tyM tyM_ok nmM hown hK hP hD hS 0 rfl rfl 5 (by decide) (hts (.fieldLink RM 18 "TornTryCounterModel" "pinNumber" "I") (by decide +kernel)) (fun _ h9 => h9) rfl (by decide +kernel) rfl rfl (Nat.le_of_ble_eq_true rfl) dM_turn_140 (fun H locs hP hD hS => ?_)
          have hP : va_P (dC, dI) ttCl [(qm, .inr (3, [.int pl, .int ul, .int pk, .int (1 - ac_12), .int ((ag_12 + 1) - (ag_12 + 1) / 256 * 256), .int p1, .int pt_12, .int ut_12, .int en_12, .int og_12, .int pw_12, .int hd_12, .int tn_12, .int tk_12, .int ar_12, .int dn_12, .int e0_12, .int e1_12]))] H := hP
          have hD : va_D A [(qm, .inr (3, [.int pl, .int ul, .int pk, .int (1 - ac_12), .int ((ag_12 + 1) - (ag_12 + 1) / 256 * 256), .int p1, .int pt_12, .int ut_12, .int en_12, .int og_12, .int pw_12, .int hd_12, .int tn_12, .int tk_12, .int ar_12, .int dn_12, .int e0_12, .int e1_12]))] := hD
          refine lv_aload_n hx hb dM_turn_143 rfl (lv_at hl 1 rfl) ?_
          refine lv_iload_n hx hb dM_turn_144 rfl (lv_at hl 3 rfl) ?_
          refine va_put (D := (dC, dI)) (ci := 3) (v := .int a1) (ty := .int) (C := RM) (T := TM) (N := 18) hx hb hts (by decide +kernel) tyM tyM_ok nmM hown hK hP hD hS 0 rfl rfl 6 (by decide) (hts (.fieldLink RM 65 "TornTryCounterModel" "pinTries" "I") (by decide +kernel)) (fun _ h9 => h9) rfl (by decide +kernel) rfl rfl (Nat.le_of_ble_eq_true rfl) dM_turn_145 (fun H locs hP hD hS => ?_)
          have hP : va_P (dC, dI) ttCl [(qm, .inr (3, [.int pl, .int ul, .int pk, .int (1 - ac_12), .int ((ag_12 + 1) - (ag_12 + 1) / 256 * 256), .int p1, .int a1, .int ut_12, .int en_12, .int og_12, .int pw_12, .int hd_12, .int tn_12, .int tk_12, .int ar_12, .int dn_12, .int e0_12, .int e1_12]))] H := hP
          have hD : va_D A [(qm, .inr (3, [.int pl, .int ul, .int pk, .int (1 - ac_12), .int ((ag_12 + 1) - (ag_12 + 1) / 256 * 256), .int p1, .int a1, .int ut_12, .int en_12, .int og_12, .int pw_12, .int hd_12, .int tn_12, .int tk_12, .int ar_12, .int dn_12, .int e0_12, .int e1_12]))] := hD
          refine lv_aload_n hx hb dM_turn_148 rfl (lv_at hl 1 rfl) ?_
          refine lv_iload_n hx hb dM_turn_149 rfl (lv_at hl 4 rfl) ?_
          refine va_put (D := (dC, dI)) (ci := 3) (v := .int c1) (ty := .int) (C := RM) (T := TM) (N := 18) hx hb hts (by decide +kernel) tyM tyM_ok nmM hown hK hP hD hS 0 rfl rfl 7 (by decide) (hts (.fieldLink RM 68 "TornTryCounterModel" "pukTries" "I") (by decide +kernel)) (fun _ h9 => h9) rfl (by decide +kernel) rfl rfl (Nat.le_of_ble_eq_true rfl) dM_turn_150 (fun H locs hP hD hS => ?_)
          have hP : va_P (dC, dI) ttCl [(qm, .inr (3, [.int pl, .int ul, .int pk, .int (1 - ac_12), .int ((ag_12 + 1) - (ag_12 + 1) / 256 * 256), .int p1, .int a1, .int c1, .int en_12, .int og_12, .int pw_12, .int hd_12, .int tn_12, .int tk_12, .int ar_12, .int dn_12, .int e0_12, .int e1_12]))] H := hP
          have hD : va_D A [(qm, .inr (3, [.int pl, .int ul, .int pk, .int (1 - ac_12), .int ((ag_12 + 1) - (ag_12 + 1) / 256 * 256), .int p1, .int a1, .int c1, .int en_12, .int og_12, .int pw_12, .int hd_12, .int tn_12, .int tk_12, .int ar_12, .int dn_12, .int e0_12, .int e1_12]))] := hD
          refine lv_aload_n hx hb dM_turn_153 rfl (lv_at hl 1 rfl) ?_
          refine lv_bipush (v := 10) hx hb dM_turn_154 (by decide) ?_
          refine va_put (D := (dC, dI)) (ci := 3) (v := .int 10) (ty := .int) (C := RM) (T := TM) (N := 18) hx hb hts (by decide +kernel) tyM tyM_ok nmM hown hK hP hD hS 0 rfl rfl 8 (by decide) (hts (.fieldLink RM 7 "TornTryCounterModel" "entries" "I") (by decide +kernel)) (fun _ h9 => h9) rfl (by decide +kernel) rfl rfl (Nat.le_of_ble_eq_true rfl) dM_turn_156 (fun H locs hP hD hS => ?_)
          have hP : va_P (dC, dI) ttCl [(qm, .inr (3, [.int pl, .int ul, .int pk, .int (1 - ac_12), .int ((ag_12 + 1) - (ag_12 + 1) / 256 * 256), .int p1, .int a1, .int c1, .int 10, .int og_12, .int pw_12, .int hd_12, .int tn_12, .int tk_12, .int ar_12, .int dn_12, .int e0_12, .int e1_12]))] H := hP
          have hD : va_D A [(qm, .inr (3, [.int pl, .int ul, .int pk, .int (1 - ac_12), .int ((ag_12 + 1) - (ag_12 + 1) / 256 * 256), .int p1, .int a1, .int c1, .int 10, .int og_12, .int pw_12, .int hd_12, .int tn_12, .int tk_12, .int ar_12, .int dn_12, .int e0_12, .int e1_12]))] := hD
          refine lv_aload_n hx hb dM_turn_159 rfl (lv_at hl 1 rfl) ?_
          refine lv_iconst (v := 1) hx hb dM_turn_160 (by decide) ?_
          refine va_put (D := (dC, dI)) (ci := 3) (v := .int 1) (ty := .boolean) (C := RM) (T := TM) (N := 18) hx hb hts (by decide +kernel) tyM tyM_ok nmM hown hK hP hD hS 0 rfl rfl 9 (by decide) (hts (.fieldLink RM 42 "TornTryCounterModel" "otherGood" "Z") (by decide +kernel)) (fun _ h9 => h9) rfl (by decide +kernel) rfl rfl (Nat.le_of_ble_eq_true rfl) dM_turn_161 (fun H locs hP hD hS => ?_)
          have hP : va_P (dC, dI) ttCl [(qm, .inr (3, [.int pl, .int ul, .int pk, .int (1 - ac_12), .int ((ag_12 + 1) - (ag_12 + 1) / 256 * 256), .int p1, .int a1, .int c1, .int 10, .int 1, .int pw_12, .int hd_12, .int tn_12, .int tk_12, .int ar_12, .int dn_12, .int e0_12, .int e1_12]))] H := hP
          have hD : va_D A [(qm, .inr (3, [.int pl, .int ul, .int pk, .int (1 - ac_12), .int ((ag_12 + 1) - (ag_12 + 1) / 256 * 256), .int p1, .int a1, .int c1, .int 10, .int 1, .int pw_12, .int hd_12, .int tn_12, .int tk_12, .int ar_12, .int dn_12, .int e0_12, .int e1_12]))] := hD
          refine lv_iload hx hb dM_turn_164 (lv_at hl 0 rfl) ?_
          refine lv_if_ge (tgt := 173) hx hb dM_turn_166 (by decide) (fun c_16 => ?_) (fun c_16 => ?_)
          · refine lv_iconst (v := 0) hx hb dM_turn_173 (by decide) ?_
            have hP9 := hP.sub (ws' := [(qm, .inr (3, [.int pl, .int ul, .int pk, .int (1 - ac_12), .int ((ag_12 + 1) - (ag_12 + 1) / 256 * 256), .int p1, .int a1, .int c1, .int 10, .int 1, .int pw_12, .int hd_12, .int tn_12, .int tk_12, .int ar_12, .int dn_12, .int e0_12, .int e1_12]))]) [0] rfl
            have hD9 := hD.sub (ws' := [(qm, .inr (3, [.int pl, .int ul, .int pk, .int (1 - ac_12), .int ((ag_12 + 1) - (ag_12 + 1) / 256 * 256), .int p1, .int a1, .int c1, .int 10, .int 1, .int pw_12, .int hd_12, .int tn_12, .int tk_12, .int ar_12, .int dn_12, .int e0_12, .int e1_12]))]) [0] (by decide) rfl
            have hK9 := hK.sub (tys' := []) [] rfl
            exact W.zret (v := 0) hx hb hr (by first | rfl | decide) (fun t ht hW => ⟨⟨0, (1 - ac_12, (ag_12 + 1) - (ag_12 + 1) / 256 * 256, p1, a1, c1, 10, 1, pw_12, hd_12, tn_12, tk_12, ar_12, dn_12, e0_12, e1_12), rfl, (by first | (simp only [mm_turn, mm_t0, mm_t9, mm_er, mm_setog, tt_seq_p, if_pos c_1, if_pos c_2, if_pos c_11, (hZ.trans hlp.symm), e_12, if_neg c_14, if_pos c_16, reduceIte, eq_self, tt_n10]; done) | (simp only [mm_turn, mm_t0, mm_t9, mm_er, mm_setog, tt_seq_p, c_1, c_2, c_11, (hZ.trans hlp.symm), e_12, c_14, c_16, reduceIte, eq_self, tt_n10]; done) | (simp [mm_turn, mm_t0, mm_t9, mm_er, mm_setog, tt_seq_p, c_1, c_2, c_11, (hZ.trans hlp.symm), e_12, c_14, c_16]; done)), by rw [ht]; exact hP9, va_K.moved hW.alike hK9, hD9⟩, hS.F ht⟩) hS.2.2 dM_turn_174
          · refine lv_iconst (v := 1) hx hb dM_turn_169 (by decide) ?_
            refine lv_goto (tgt := 174) hx hb dM_turn_170 (by decide) ?_
            have hP9 := hP.sub (ws' := [(qm, .inr (3, [.int pl, .int ul, .int pk, .int (1 - ac_12), .int ((ag_12 + 1) - (ag_12 + 1) / 256 * 256), .int p1, .int a1, .int c1, .int 10, .int 1, .int pw_12, .int hd_12, .int tn_12, .int tk_12, .int ar_12, .int dn_12, .int e0_12, .int e1_12]))]) [0] rfl
            have hD9 := hD.sub (ws' := [(qm, .inr (3, [.int pl, .int ul, .int pk, .int (1 - ac_12), .int ((ag_12 + 1) - (ag_12 + 1) / 256 * 256), .int p1, .int a1, .int c1, .int 10, .int 1, .int pw_12, .int hd_12, .int tn_12, .int tk_12, .int ar_12, .int dn_12, .int e0_12, .int e1_12]))]) [0] (by decide) rfl
            have hK9 := hK.sub (tys' := []) [] rfl
            exact W.zret (v := 1) hx hb hr (by first | rfl | decide) (fun t ht hW => ⟨⟨1, (1 - ac_12, (ag_12 + 1) - (ag_12 + 1) / 256 * 256, p1, a1, c1, 10, 1, pw_12, hd_12, tn_12, tk_12, ar_12, dn_12, e0_12, e1_12), rfl, (by first | (simp only [mm_turn, mm_t0, mm_t9, mm_er, mm_setog, tt_seq_p, if_pos c_1, if_pos c_2, if_pos c_11, (hZ.trans hlp.symm), e_12, if_neg c_14, if_neg c_16, reduceIte, eq_self, tt_n10]; done) | (simp only [mm_turn, mm_t0, mm_t9, mm_er, mm_setog, tt_seq_p, c_1, c_2, c_11, (hZ.trans hlp.symm), e_12, c_14, c_16, reduceIte, eq_self, tt_n10]; done) | (simp [mm_turn, mm_t0, mm_t9, mm_er, mm_setog, tt_seq_p, c_1, c_2, c_11, (hZ.trans hlp.symm), e_12, c_14, c_16]; done)), by rw [ht]; exact hP9, va_K.moved hW.alike hK9, hD9⟩, hS.F ht⟩) hS.2.2 dM_turn_174
      · have hlt : i < 6 := (tt_c6 i (by omega)).2 c_11
        obtain ⟨n, rfl⟩ : ∃ k, n = k + 1 := ⟨n - 1, by omega⟩
        refine lv_aload_n hx hb dM_turn_82 rfl (lv_at hl 0 rfl) ?_
        have hPc := hP.sub (ws' := [(qm, .inr (3, [.int pl, .int ul, .int pk, .int ac_z, .int ag_z, .int pn_z, .int pt_z, .int ut_z, .int en_z, .int og_z, .int pw_z, .int hd_z, .int tn_z, .int tk_z, .int ar_z, .int dn_z, .int e0_z, .int e1_z]))]) [0] rfl
        have hDc := hD.sub (ws' := [(qm, .inr (3, [.int pl, .int ul, .int pk, .int ac_z, .int ag_z, .int pn_z, .int pt_z, .int ut_z, .int en_z, .int og_z, .int pw_z, .int hd_z, .int tn_z, .int tk_z, .int ar_z, .int dn_z, .int e0_z, .int e1_z]))]) [0] (by decide) rfl
        have hKc := hK.sub (tys' := []) [] rfl
        have hFc := va_free (wc := [(qm, .inr (3, [.int pl, .int ul, .int pk, .int ac_z, .int ag_z, .int pn_z, .int pt_z, .int ut_z, .int en_z, .int og_z, .int pw_z, .int hd_z, .int tn_z, .int tk_z, .int ar_z, .int dn_z, .int e0_z, .int e1_z]))]) hD hS hA [0] rfl
        refine va_calli (va_runV (As := []) (rest := []) ⟨hx, hb, hml, hown, hts⟩ (c_M_operate l dC dI qm H.size pk pl ul ac_z ag_z pn_z pt_z ut_z en_z og_z pw_z hd_z tn_z tk_z ar_z dn_z e0_z e1_z) (cwV 0 hts gM_turn_M_operate rfl rfl rfl (by decide +kernel) ⟨Nat.le_of_ble_eq_true rfl, Nat.le_of_ble_eq_true rfl⟩) ⟨fun a U g mk q => by obtain ⟨q0, q1, qP, qK, qD⟩ := q; exact ⟨q0, q1, qP, va_K.moved (u := U) (U := U.calling g mk a) (Vm.Alike.refl U.vm) qK, qD⟩, va_recv hKc hPc (ci := 3) (q0 := 0) rfl rfl, fun U hU hW => ⟨rfl, by rw [hU], by rw [hU]; exact hPc, va_K.moved hW.alike hKc, hDc.weaken (fun _ _ _ _ => trivial)⟩⟩ rfl rfl hl.1 rfl (lv_room (Nat.le_of_ble_eq_true rfl)) dM_turn_83 ⟨(Nat.zero_le _), (Nat.zero_le _)⟩) hS (fun q _ h => hFc q h) hFc (fun r_17 u t H locs ht hvm hw hB hz1 hk1 hS => ?_)
        obtain ⟨ac_17, ag_17, pn_17, pt_17, ut_17, en_17, og_17, pw_17, hd_17, tn_17, tk_17, ar_17, dn_17, e0_17, e1_17⟩ := u
        obtain ⟨hP1, hK1, hD1⟩ := hB
        have e_17 : mm_op (ac_z, ag_z, pn_z, pt_z, ut_z, en_z, og_z, pw_z, hd_z, tn_z, tk_z, ar_z, dn_z, e0_z, e1_z) = (r_17, (ac_17, ag_17, pn_17, pt_17, ut_17, en_17, og_17, pw_17, hd_17, tn_17, tk_17, ar_17, dn_17, e0_17, e1_17)) := hw
        rw [ht] at hP1
        obtain ⟨hP, hD⟩ := va_join (wr := []) (w1 := [(qm, .inr (3, [.int pl, .int ul, .int pk, .int ac_17, .int ag_17, .int pn_17, .int pt_17, .int ut_17, .int en_17, .int og_17, .int pw_17, .int hd_17, .int tn_17, .int tk_17, .int ar_17, .int dn_17, .int e0_17, .int e1_17]))]) hP hD [0] [] rfl rfl (by decide) (by decide) hk1 hFc hP1 hD1
        have hP : va_P (dC, dI) ttCl [(qm, .inr (3, [.int pl, .int ul, .int pk, .int ac_17, .int ag_17, .int pn_17, .int pt_17, .int ut_17, .int en_17, .int og_17, .int pw_17, .int hd_17, .int tn_17, .int tk_17, .int ar_17, .int dn_17, .int e0_17, .int e1_17]))] H := hP
        have hD : va_D A [(qm, .inr (3, [.int pl, .int ul, .int pk, .int ac_17, .int ag_17, .int pn_17, .int pt_17, .int ut_17, .int en_17, .int og_17, .int pw_17, .int hd_17, .int tn_17, .int tk_17, .int ar_17, .int dn_17, .int e0_17, .int e1_17]))] := hD
        refine lv_if_lt (tgt := 91) hx hb dM_turn_86 (by decide) (fun c_18 => ?_) (fun c_18 => ?_)
        · simp only [mm_lp, e_17, c_18, reduceIte] at hlp
          refine lv_iinc (v := (nI i) + 1) (lv' := [(4, .int ((nI i) + 1)), (0, .ref qm), (1, .int p1), (2, .int a1), (3, .int c1)]) hx hb dM_turn_91 hl (k := 4) rfl rfl (by decide) rfl (fun ls hl => ?_)
          refine lv_goto (tgt := 75) hx hb dM_turn_94 (by decide) ?_
          refine ih n (by omega) _ _ _ ⟨i + 1, ac_17, ag_17, pn_17, pt_17, ut_17, en_17, og_17, pw_17, hd_17, tn_17, tk_17, ar_17, dn_17, e0_17, e1_17, by omega, hlp, hP.sub [0] rfl, hD.sub [0] (by decide) rfl, hS, ?_⟩
          rw [show nI (i + 1) = nI i + 1 from (nI_1 i).symm]; exact lv_sub hl [1, 2, 3, 4, 0] rfl
        · simp only [mm_lp, e_17, c_18, reduceIte] at hlp
          refine lv_iconst (v := 0) hx hb dM_turn_89 (by decide) ?_
          have hP9 := hP.sub (ws' := [(qm, .inr (3, [.int pl, .int ul, .int pk, .int ac_17, .int ag_17, .int pn_17, .int pt_17, .int ut_17, .int en_17, .int og_17, .int pw_17, .int hd_17, .int tn_17, .int tk_17, .int ar_17, .int dn_17, .int e0_17, .int e1_17]))]) [0] rfl
          have hD9 := hD.sub (ws' := [(qm, .inr (3, [.int pl, .int ul, .int pk, .int ac_17, .int ag_17, .int pn_17, .int pt_17, .int ut_17, .int en_17, .int og_17, .int pw_17, .int hd_17, .int tn_17, .int tk_17, .int ar_17, .int dn_17, .int e0_17, .int e1_17]))]) [0] (by decide) rfl
          have hK9 := hK.sub (tys' := []) [] rfl
          exact W.zret (v := 0) hx hb hr (by first | rfl | decide) (fun t ht hW => ⟨⟨0, (ac_17, ag_17, pn_17, pt_17, ut_17, en_17, og_17, pw_17, hd_17, tn_17, tk_17, ar_17, dn_17, e0_17, e1_17), rfl, (by first | (simp only [mm_turn, mm_t0, mm_t9, mm_er, mm_setog, tt_seq_p, if_pos c_1, if_pos c_2, if_neg c_11, e_17, if_neg c_18, (hZ.trans hlp.symm), reduceIte, eq_self, tt_n10]; done) | (simp only [mm_turn, mm_t0, mm_t9, mm_er, mm_setog, tt_seq_p, c_1, c_2, c_11, e_17, c_18, (hZ.trans hlp.symm), reduceIte, eq_self, tt_n10]; done) | (simp [mm_turn, mm_t0, mm_t9, mm_er, mm_setog, tt_seq_p, c_1, c_2, c_11, e_17, c_18, (hZ.trans hlp.symm)]; done)), by rw [ht]; exact hP9, va_K.moved hW.alike hK9, hD9⟩, hS.F ht⟩) hS.2.2 dM_turn_90
  · refine lv_aload_n hx hb dM_turn_7 rfl (lv_at hl 0 rfl) ?_
    have hPc := hP.sub (ws' := [(qm, .inr (3, [.int pl, .int ul, .int pk, .int ac, .int ag, .int pn, .int pt, .int ut, .int en, .int og, .int pw, .int hd, .int tn, .int tk, .int ar, .int dn, .int e0, .int e1]))]) [0] rfl
    have hDc := hD.sub (ws' := [(qm, .inr (3, [.int pl, .int ul, .int pk, .int ac, .int ag, .int pn, .int pt, .int ut, .int en, .int og, .int pw, .int hd, .int tn, .int tk, .int ar, .int dn, .int e0, .int e1]))]) [0] (by decide) rfl
    have hKc := hK.sub (tys' := []) [] rfl
    have hFc := va_free (wc := [(qm, .inr (3, [.int pl, .int ul, .int pk, .int ac, .int ag, .int pn, .int pt, .int ut, .int en, .int og, .int pw, .int hd, .int tn, .int tk, .int ar, .int dn, .int e0, .int e1]))]) hD hS hA [0] rfl
    refine va_calli (va_runV (As := []) (rest := []) ⟨hx, hb, hml, hown, hts⟩ (c_M_operate l dC dI qm s.heap.size pk pl ul ac ag pn pt ut en og pw hd tn tk ar dn e0 e1) (cwV 0 hts gM_turn_M_operate rfl rfl rfl (by decide +kernel) ⟨Nat.le_of_ble_eq_true rfl, Nat.le_of_ble_eq_true rfl⟩) ⟨fun a U g mk q => by obtain ⟨q0, q1, qP, qK, qD⟩ := q; exact ⟨q0, q1, qP, va_K.moved (u := U) (U := U.calling g mk a) (Vm.Alike.refl U.vm) qK, qD⟩, va_recv hKc hPc (ci := 3) (q0 := 0) rfl rfl, fun U hU hW => ⟨rfl, by rw [hU], by rw [hU]; exact hPc, va_K.moved hW.alike hKc, hDc.weaken (fun _ _ _ _ => trivial)⟩⟩ rfl rfl hl.1 rfl (lv_room (Nat.le_of_ble_eq_true rfl)) dM_turn_8 ⟨(Nat.zero_le _), (Nat.zero_le _)⟩) hS (fun q _ h => hFc q h) hFc (fun r_19 u t H locs ht hvm hw hB hz1 hk1 hS => ?_)
    obtain ⟨ac_19, ag_19, pn_19, pt_19, ut_19, en_19, og_19, pw_19, hd_19, tn_19, tk_19, ar_19, dn_19, e0_19, e1_19⟩ := u
    obtain ⟨hP1, hK1, hD1⟩ := hB
    have e_19 : mm_op (ac, ag, pn, pt, ut, en, og, pw, hd, tn, tk, ar, dn, e0, e1) = (r_19, (ac_19, ag_19, pn_19, pt_19, ut_19, en_19, og_19, pw_19, hd_19, tn_19, tk_19, ar_19, dn_19, e0_19, e1_19)) := hw
    rw [ht] at hP1
    obtain ⟨hP, hD⟩ := va_join (wr := []) (w1 := [(qm, .inr (3, [.int pl, .int ul, .int pk, .int ac_19, .int ag_19, .int pn_19, .int pt_19, .int ut_19, .int en_19, .int og_19, .int pw_19, .int hd_19, .int tn_19, .int tk_19, .int ar_19, .int dn_19, .int e0_19, .int e1_19]))]) hP hD [0] [] rfl rfl (by decide) (by decide) hk1 hFc hP1 hD1
    have hP : va_P (dC, dI) ttCl [(qm, .inr (3, [.int pl, .int ul, .int pk, .int ac_19, .int ag_19, .int pn_19, .int pt_19, .int ut_19, .int en_19, .int og_19, .int pw_19, .int hd_19, .int tn_19, .int tk_19, .int ar_19, .int dn_19, .int e0_19, .int e1_19]))] H := hP
    have hD : va_D A [(qm, .inr (3, [.int pl, .int ul, .int pk, .int ac_19, .int ag_19, .int pn_19, .int pt_19, .int ut_19, .int en_19, .int og_19, .int pw_19, .int hd_19, .int tn_19, .int tk_19, .int ar_19, .int dn_19, .int e0_19, .int e1_19]))] := hD
    refine lv_istore (lv' := [(4, .int r_19), (0, .ref qm), (1, .int p1), (2, .int a1), (3, .int c1)]) hx hb dM_turn_11 hl (by decide) rfl (fun ls hl => ?_)
    refine lv_aload_n hx hb dM_turn_13 rfl (lv_at hl 1 rfl) ?_
    refine lv_iload hx hb dM_turn_14 (lv_at hl 0 rfl) ?_
    refine lv_if_lt (tgt := 31) hx hb dM_turn_16 (by decide) (fun c_20 => ?_) (fun c_20 => ?_)
    · refine lv_iconst (v := 0) hx hb dM_turn_31 (by decide) ?_
      refine va_put (D := (dC, dI)) (ci := 3) (v := .int 0) (ty := .boolean) (C := RM) (T := TM) (N := 18) hx hb hts (by decide +kernel) tyM tyM_ok nmM hown hK hP hD hS 0 rfl rfl 9 (by decide) (hts (.fieldLink RM 42 "TornTryCounterModel" "otherGood" "Z") (by decide +kernel)) (fun _ h9 => h9) rfl (by decide +kernel) rfl rfl (Nat.le_of_ble_eq_true rfl) dM_turn_32 (fun H locs hP hD hS => ?_)
      have hP : va_P (dC, dI) ttCl [(qm, .inr (3, [.int pl, .int ul, .int pk, .int ac_19, .int ag_19, .int pn_19, .int pt_19, .int ut_19, .int en_19, .int 0, .int pw_19, .int hd_19, .int tn_19, .int tk_19, .int ar_19, .int dn_19, .int e0_19, .int e1_19]))] H := hP
      have hD : va_D A [(qm, .inr (3, [.int pl, .int ul, .int pk, .int ac_19, .int ag_19, .int pn_19, .int pt_19, .int ut_19, .int en_19, .int 0, .int pw_19, .int hd_19, .int tn_19, .int tk_19, .int ar_19, .int dn_19, .int e0_19, .int e1_19]))] := hD
      refine lv_iload hx hb dM_turn_35 (lv_at hl 0 rfl) ?_
      refine lv_if_lt (tgt := 42) hx hb dM_turn_37 (by decide) (fun c_21 => ?_) (fun c_21 => ?_)
      · refine lv_aload_n hx hb dM_turn_42 rfl (lv_at hl 1 rfl) ?_
        refine va_get (D := (dC, dI)) (ci := 3) (v := .int ac_19) (C := RM) (T := TM) (N := 18) hx hb hts (by decide +kernel) hown hK hP 0 rfl rfl 3 (by decide) (hts (.fieldLink RM 49 "TornTryCounterModel" "active" "I") (by decide +kernel)) (fun _ h9 => h9) rfl dM_turn_43 ?_
        refine lv_if_ne (tgt := 62) hx hb dM_turn_46 (by decide) (fun c_22 => ?_) (fun c_22 => ?_)
        · refine lv_aload_n hx hb dM_turn_62 rfl (lv_at hl 1 rfl) ?_
          refine lv_dup hx hb dM_turn_63 rfl ?_
          refine va_get (D := (dC, dI)) (ci := 3) (v := .int e0_19) (C := RM) (T := TM) (N := 18) hx hb hts (by decide +kernel) hown hK hP 0 rfl rfl 16 (by decide) (hts (.fieldLink RM 55 "TornTryCounterModel" "erased0" "I") (by decide +kernel)) (fun _ h9 => h9) rfl dM_turn_64 ?_
          refine lv_iconst (v := 1) hx hb dM_turn_67 (by decide) ?_
          refine lv_iadd hx hb dM_turn_68 ?_
          refine va_put (D := (dC, dI)) (ci := 3) (v := .int (e0_19 + 1)) (ty := .int) (C := RM) (T := TM) (N := 18) hx hb hts (by decide +kernel) tyM tyM_ok nmM hown hK hP hD hS 0 rfl rfl 16 (by decide) (hts (.fieldLink RM 55 "TornTryCounterModel" "erased0" "I") (by decide +kernel)) (fun _ h9 => h9) rfl (by decide +kernel) rfl rfl (Nat.le_of_ble_eq_true rfl) dM_turn_69 (fun H locs hP hD hS => ?_)
          have hP : va_P (dC, dI) ttCl [(qm, .inr (3, [.int pl, .int ul, .int pk, .int ac_19, .int ag_19, .int pn_19, .int pt_19, .int ut_19, .int en_19, .int 0, .int pw_19, .int hd_19, .int tn_19, .int tk_19, .int ar_19, .int dn_19, .int (e0_19 + 1), .int e1_19]))] H := hP
          have hD : va_D A [(qm, .inr (3, [.int pl, .int ul, .int pk, .int ac_19, .int ag_19, .int pn_19, .int pt_19, .int ut_19, .int en_19, .int 0, .int pw_19, .int hd_19, .int tn_19, .int tk_19, .int ar_19, .int dn_19, .int (e0_19 + 1), .int e1_19]))] := hD
          refine lv_iconst (v := 0) hx hb dM_turn_72 (by decide) ?_
          refine lv_istore (lv' := [(4, .int 0), (0, .ref qm), (1, .int p1), (2, .int a1), (3, .int c1)]) hx hb dM_turn_73 hl (by decide) rfl (fun ls hl => ?_)
          refine W.widen (k := 0) (n := 0) (by omega) (by omega) ?_
          obtain ⟨Z, hZ⟩ : ∃ z, mm_lp 6 (ac_19, ag_19, pn_19, pt_19, ut_19, en_19, 0, pw_19, hd_19, tn_19, tk_19, ar_19, dn_19, e0_19 + 1, e1_19) = z := ⟨_, rfl⟩
          refine tt_rec (pc := 75) (I := fun n H locs ls => ∃ (i : Nat) (ac_z ag_z pn_z pt_z ut_z en_z og_z pw_z hd_z tn_z tk_z ar_z dn_z e0_z e1_z : Int32), i + n = 6 ∧ mm_lp n (ac_z, ag_z, pn_z, pt_z, ut_z, en_z, og_z, pw_z, hd_z, tn_z, tk_z, ar_z, dn_z, e0_z, e1_z) = Z ∧ va_P (dC, dI) ttCl [(qm, .inr (3, [.int pl, .int ul, .int pk, .int ac_z, .int ag_z, .int pn_z, .int pt_z, .int ut_z, .int en_z, .int og_z, .int pw_z, .int hd_z, .int tn_z, .int tk_z, .int ar_z, .int dn_z, .int e0_z, .int e1_z]))] H ∧ va_D A [(qm, .inr (3, [.int pl, .int ul, .int pk, .int ac_z, .int ag_z, .int pn_z, .int pt_z, .int ut_z, .int en_z, .int og_z, .int pw_z, .int hd_z, .int tn_z, .int tk_z, .int ar_z, .int dn_z, .int e0_z, .int e1_z]))] ∧ va_S A s.heap H locs ∧ lv_has ls 5 [(0, .ref qm), (1, .int p1), (2, .int a1), (3, .int c1), (4, .int (nI i))]) ?_ 6 ⟨0, ac_19, ag_19, pn_19, pt_19, ut_19, en_19, 0, pw_19, hd_19, tn_19, tk_19, ar_19, dn_19, e0_19 + 1, e1_19, rfl, hZ, hP, hD, hS, lv_sub hl [1, 2, 3, 4, 0] rfl⟩
          intro n H locs ls ih hI
          obtain ⟨i, ac_z, ag_z, pn_z, pt_z, ut_z, en_z, og_z, pw_z, hd_z, tn_z, tk_z, ar_z, dn_z, e0_z, e1_z, hi, hlp, hP, hD, hS, hl⟩ := hI
          refine lv_iload hx hb dM_turn_75 (lv_at hl 4 rfl) ?_
          refine lv_bipush (v := 6) hx hb dM_turn_77 (by decide) ?_
          refine lv_icmp_ge (tgt := 97) hx hb dM_turn_79 (by decide) (fun c_23 => ?_) (fun c_23 => ?_)
          · have hie : i = 6 := (tt_c6 i (by omega)).1 c_23
            obtain rfl : n = 0 := by omega
            simp only [mm_lp] at hlp
            refine lv_aload_n hx hb dM_turn_97 rfl (lv_at hl 0 rfl) ?_
            have hPc := hP.sub (ws' := [(qm, .inr (3, [.int pl, .int ul, .int pk, .int ac_z, .int ag_z, .int pn_z, .int pt_z, .int ut_z, .int en_z, .int og_z, .int pw_z, .int hd_z, .int tn_z, .int tk_z, .int ar_z, .int dn_z, .int e0_z, .int e1_z]))]) [0] rfl
            have hDc := hD.sub (ws' := [(qm, .inr (3, [.int pl, .int ul, .int pk, .int ac_z, .int ag_z, .int pn_z, .int pt_z, .int ut_z, .int en_z, .int og_z, .int pw_z, .int hd_z, .int tn_z, .int tk_z, .int ar_z, .int dn_z, .int e0_z, .int e1_z]))]) [0] (by decide) rfl
            have hKc := hK.sub (tys' := []) [] rfl
            have hFc := va_free (wc := [(qm, .inr (3, [.int pl, .int ul, .int pk, .int ac_z, .int ag_z, .int pn_z, .int pt_z, .int ut_z, .int en_z, .int og_z, .int pw_z, .int hd_z, .int tn_z, .int tk_z, .int ar_z, .int dn_z, .int e0_z, .int e1_z]))]) hD hS hA [0] rfl
            refine va_calli (va_runV (As := []) (rest := []) ⟨hx, hb, hml, hown, hts⟩ (c_M_operate l dC dI qm H.size pk pl ul ac_z ag_z pn_z pt_z ut_z en_z og_z pw_z hd_z tn_z tk_z ar_z dn_z e0_z e1_z) (cwV 0 hts gM_turn_M_operate rfl rfl rfl (by decide +kernel) ⟨Nat.le_of_ble_eq_true rfl, Nat.le_of_ble_eq_true rfl⟩) ⟨fun a U g mk q => by obtain ⟨q0, q1, qP, qK, qD⟩ := q; exact ⟨q0, q1, qP, va_K.moved (u := U) (U := U.calling g mk a) (Vm.Alike.refl U.vm) qK, qD⟩, va_recv hKc hPc (ci := 3) (q0 := 0) rfl rfl, fun U hU hW => ⟨rfl, by rw [hU], by rw [hU]; exact hPc, va_K.moved hW.alike hKc, hDc.weaken (fun _ _ _ _ => trivial)⟩⟩ rfl rfl hl.1 rfl (lv_room (Nat.le_of_ble_eq_true rfl)) dM_turn_98 ⟨(Nat.zero_le _), (Nat.zero_le _)⟩) hS (fun q _ h => hFc q h) hFc (fun r_24 u t H locs ht hvm hw hB hz1 hk1 hS => ?_)
            obtain ⟨ac_24, ag_24, pn_24, pt_24, ut_24, en_24, og_24, pw_24, hd_24, tn_24, tk_24, ar_24, dn_24, e0_24, e1_24⟩ := u
            obtain ⟨hP1, hK1, hD1⟩ := hB
            have e_24 : mm_op (ac_z, ag_z, pn_z, pt_z, ut_z, en_z, og_z, pw_z, hd_z, tn_z, tk_z, ar_z, dn_z, e0_z, e1_z) = (r_24, (ac_24, ag_24, pn_24, pt_24, ut_24, en_24, og_24, pw_24, hd_24, tn_24, tk_24, ar_24, dn_24, e0_24, e1_24)) := hw
            rw [ht] at hP1
            obtain ⟨hP, hD⟩ := va_join (wr := []) (w1 := [(qm, .inr (3, [.int pl, .int ul, .int pk, .int ac_24, .int ag_24, .int pn_24, .int pt_24, .int ut_24, .int en_24, .int og_24, .int pw_24, .int hd_24, .int tn_24, .int tk_24, .int ar_24, .int dn_24, .int e0_24, .int e1_24]))]) hP hD [0] [] rfl rfl (by decide) (by decide) hk1 hFc hP1 hD1
            have hP : va_P (dC, dI) ttCl [(qm, .inr (3, [.int pl, .int ul, .int pk, .int ac_24, .int ag_24, .int pn_24, .int pt_24, .int ut_24, .int en_24, .int og_24, .int pw_24, .int hd_24, .int tn_24, .int tk_24, .int ar_24, .int dn_24, .int e0_24, .int e1_24]))] H := hP
            have hD : va_D A [(qm, .inr (3, [.int pl, .int ul, .int pk, .int ac_24, .int ag_24, .int pn_24, .int pt_24, .int ut_24, .int en_24, .int og_24, .int pw_24, .int hd_24, .int tn_24, .int tk_24, .int ar_24, .int dn_24, .int e0_24, .int e1_24]))] := hD
            refine lv_istore (lv' := [(4, .int r_24), (0, .ref qm), (1, .int p1), (2, .int a1), (3, .int c1)]) hx hb dM_turn_101 hl (by decide) rfl (fun ls hl => ?_)
            refine lv_iload hx hb dM_turn_103 (lv_at hl 0 rfl) ?_
            refine lv_sipush (v := 165) hx hb dM_turn_105 (by decide) ?_
            have hPc := hP.sub (ws' := []) [] rfl
            have hDc := hD.sub (ws' := []) [] (by decide) rfl
            have hKc := hK.sub (tys' := []) [] rfl
            have hFc := va_free (wc := []) hD hS hA [] rfl
            refine va_calli (va_runS (As := [.int r_24, .int 165]) (rest := []) ⟨hx, hb, hml, hown, hts⟩ (c_M_all l dC dI H.size r_24 165) (va_cwS 2 hts gM_turn_M_all rfl rfl rfl (by decide +kernel) ⟨Nat.le_of_ble_eq_true rfl, Nat.le_of_ble_eq_true rfl⟩) ⟨fun a U g mk q => by obtain ⟨q0, q1, qP, qK, qD⟩ := q; exact ⟨q0, q1, qP, va_K.moved (u := U) (U := U.calling g mk a) (Vm.Alike.refl U.vm) qK, qD⟩, fun U hU hW => ⟨rfl, by rw [hU], by rw [hU]; exact hPc, va_K.moved hW.alike hKc, hDc.weaken (fun _ _ _ _ => trivial)⟩⟩ rfl rfl hl.1 rfl (lv_room (Nat.le_of_ble_eq_true rfl)) dM_turn_108 ⟨(Nat.zero_le _), (Nat.zero_le _)⟩) hS (fun q _ h => hFc q h) hFc (fun r_25 u t H locs ht hvm hw hB hz1 hk1 hS => ?_)
            have hw : mm_all r_24 165 = r_25 := hw.symm
            subst hw
            obtain ⟨hP1, hK1, hD1⟩ := hB
            rw [ht] at hP1
            obtain ⟨hP, hD⟩ := va_join (wr := [(qm, .inr (3, [.int pl, .int ul, .int pk, .int ac_24, .int ag_24, .int pn_24, .int pt_24, .int ut_24, .int en_24, .int og_24, .int pw_24, .int hd_24, .int tn_24, .int tk_24, .int ar_24, .int dn_24, .int e0_24, .int e1_24]))]) (w1 := []) hP hD [] [0] rfl rfl (by decide) (by decide) hk1 hFc hP1 hD1
            have hP : va_P (dC, dI) ttCl [(qm, .inr (3, [.int pl, .int ul, .int pk, .int ac_24, .int ag_24, .int pn_24, .int pt_24, .int ut_24, .int en_24, .int og_24, .int pw_24, .int hd_24, .int tn_24, .int tk_24, .int ar_24, .int dn_24, .int e0_24, .int e1_24]))] H := hP
            have hD : va_D A [(qm, .inr (3, [.int pl, .int ul, .int pk, .int ac_24, .int ag_24, .int pn_24, .int pt_24, .int ut_24, .int en_24, .int og_24, .int pw_24, .int hd_24, .int tn_24, .int tk_24, .int ar_24, .int dn_24, .int e0_24, .int e1_24]))] := hD
            refine lv_if_eq (tgt := 164) hx hb dM_turn_111 (by decide) (fun c_26 => ?_) (fun c_26 => ?_)
            · refine lv_iload hx hb dM_turn_164 (lv_at hl 0 rfl) ?_
              refine lv_if_ge (tgt := 173) hx hb dM_turn_166 (by decide) (fun c_27 => ?_) (fun c_27 => ?_)
              · refine lv_iconst (v := 0) hx hb dM_turn_173 (by decide) ?_
                have hP9 := hP.sub (ws' := [(qm, .inr (3, [.int pl, .int ul, .int pk, .int ac_24, .int ag_24, .int pn_24, .int pt_24, .int ut_24, .int en_24, .int og_24, .int pw_24, .int hd_24, .int tn_24, .int tk_24, .int ar_24, .int dn_24, .int e0_24, .int e1_24]))]) [0] rfl
                have hD9 := hD.sub (ws' := [(qm, .inr (3, [.int pl, .int ul, .int pk, .int ac_24, .int ag_24, .int pn_24, .int pt_24, .int ut_24, .int en_24, .int og_24, .int pw_24, .int hd_24, .int tn_24, .int tk_24, .int ar_24, .int dn_24, .int e0_24, .int e1_24]))]) [0] (by decide) rfl
                have hK9 := hK.sub (tys' := []) [] rfl
                exact W.zret (v := 0) hx hb hr (by first | rfl | decide) (fun t ht hW => ⟨⟨0, (ac_24, ag_24, pn_24, pt_24, ut_24, en_24, og_24, pw_24, hd_24, tn_24, tk_24, ar_24, dn_24, e0_24, e1_24), rfl, (by first | (simp only [mm_turn, mm_t0, mm_t9, mm_er, mm_setog, tt_seq_p, if_neg c_1, e_19, if_pos c_20, if_neg c_22, if_pos c_23, (hZ.trans hlp.symm), e_24, if_pos c_26, if_pos c_27, reduceIte, eq_self, tt_n10]; done) | (simp only [mm_turn, mm_t0, mm_t9, mm_er, mm_setog, tt_seq_p, c_1, e_19, c_20, c_22, c_23, (hZ.trans hlp.symm), e_24, c_26, c_27, reduceIte, eq_self, tt_n10]; done) | (simp [mm_turn, mm_t0, mm_t9, mm_er, mm_setog, tt_seq_p, c_1, e_19, c_20, c_22, c_23, (hZ.trans hlp.symm), e_24, c_26, c_27]; done)), by rw [ht]; exact hP9, va_K.moved hW.alike hK9, hD9⟩, hS.F ht⟩) hS.2.2 dM_turn_174
              · refine lv_iconst (v := 1) hx hb dM_turn_169 (by decide) ?_
                refine lv_goto (tgt := 174) hx hb dM_turn_170 (by decide) ?_
                have hP9 := hP.sub (ws' := [(qm, .inr (3, [.int pl, .int ul, .int pk, .int ac_24, .int ag_24, .int pn_24, .int pt_24, .int ut_24, .int en_24, .int og_24, .int pw_24, .int hd_24, .int tn_24, .int tk_24, .int ar_24, .int dn_24, .int e0_24, .int e1_24]))]) [0] rfl
                have hD9 := hD.sub (ws' := [(qm, .inr (3, [.int pl, .int ul, .int pk, .int ac_24, .int ag_24, .int pn_24, .int pt_24, .int ut_24, .int en_24, .int og_24, .int pw_24, .int hd_24, .int tn_24, .int tk_24, .int ar_24, .int dn_24, .int e0_24, .int e1_24]))]) [0] (by decide) rfl
                have hK9 := hK.sub (tys' := []) [] rfl
                exact W.zret (v := 1) hx hb hr (by first | rfl | decide) (fun t ht hW => ⟨⟨1, (ac_24, ag_24, pn_24, pt_24, ut_24, en_24, og_24, pw_24, hd_24, tn_24, tk_24, ar_24, dn_24, e0_24, e1_24), rfl, (by first | (simp only [mm_turn, mm_t0, mm_t9, mm_er, mm_setog, tt_seq_p, if_neg c_1, e_19, if_pos c_20, if_neg c_22, if_pos c_23, (hZ.trans hlp.symm), e_24, if_pos c_26, if_neg c_27, reduceIte, eq_self, tt_n10]; done) | (simp only [mm_turn, mm_t0, mm_t9, mm_er, mm_setog, tt_seq_p, c_1, e_19, c_20, c_22, c_23, (hZ.trans hlp.symm), e_24, c_26, c_27, reduceIte, eq_self, tt_n10]; done) | (simp [mm_turn, mm_t0, mm_t9, mm_er, mm_setog, tt_seq_p, c_1, e_19, c_20, c_22, c_23, (hZ.trans hlp.symm), e_24, c_26, c_27]; done)), by rw [ht]; exact hP9, va_K.moved hW.alike hK9, hD9⟩, hS.F ht⟩) hS.2.2 dM_turn_174
            · refine lv_aload_n hx hb dM_turn_114 rfl (lv_at hl 1 rfl) ?_
              refine lv_iconst (v := 1) hx hb dM_turn_115 (by decide) ?_
              refine lv_aload_n hx hb dM_turn_116 rfl (lv_at hl 1 rfl) ?_
              refine va_get (D := (dC, dI)) (ci := 3) (v := .int ac_24) (C := RM) (T := TM) (N := 18) hx hb hts (by decide +kernel) hown hK hP 0 rfl rfl 3 (by decide) (hts (.fieldLink RM 49 "TornTryCounterModel" "active" "I") (by decide +kernel)) (fun _ h9 => h9) rfl dM_turn_117 ?_
              refine lv_isub hx hb dM_turn_120 ?_
              refine va_put (D := (dC, dI)) (ci := 3) (v := .int (1 - ac_24)) (ty := .int) (C := RM) (T := TM) (N := 18) hx hb hts (by decide +kernel) tyM tyM_ok nmM hown hK hP hD hS 0 rfl rfl 3 (by decide) (hts (.fieldLink RM 49 "TornTryCounterModel" "active" "I") (by decide +kernel)) (fun _ h9 => h9) rfl (by decide +kernel) rfl rfl (Nat.le_of_ble_eq_true rfl) dM_turn_121 (fun H locs hP hD hS => ?_)
              have hP : va_P (dC, dI) ttCl [(qm, .inr (3, [.int pl, .int ul, .int pk, .int (1 - ac_24), .int ag_24, .int pn_24, .int pt_24, .int ut_24, .int en_24, .int og_24, .int pw_24, .int hd_24, .int tn_24, .int tk_24, .int ar_24, .int dn_24, .int e0_24, .int e1_24]))] H := hP
              have hD : va_D A [(qm, .inr (3, [.int pl, .int ul, .int pk, .int (1 - ac_24), .int ag_24, .int pn_24, .int pt_24, .int ut_24, .int en_24, .int og_24, .int pw_24, .int hd_24, .int tn_24, .int tk_24, .int ar_24, .int dn_24, .int e0_24, .int e1_24]))] := hD
              refine lv_aload_n hx hb dM_turn_124 rfl (lv_at hl 1 rfl) ?_
              refine lv_aload_n hx hb dM_turn_125 rfl (lv_at hl 1 rfl) ?_
              refine va_get (D := (dC, dI)) (ci := 3) (v := .int ag_24) (C := RM) (T := TM) (N := 18) hx hb hts (by decide +kernel) hown hK hP 0 rfl rfl 4 (by decide) (hts (.fieldLink RM 62 "TornTryCounterModel" "age" "I") (by decide +kernel)) (fun _ h9 => h9) rfl dM_turn_126 ?_
              refine lv_iconst (v := 1) hx hb dM_turn_129 (by decide) ?_
              refine lv_iadd hx hb dM_turn_130 ?_
              refine lv_sipush (v := 256) hx hb dM_turn_131 (by decide) ?_
              refine lv_irem hx hb dM_turn_134 (by decide) ?_
              refine va_put (D := (dC, dI)) (ci := 3) (v := .int ((ag_24 + 1) - (ag_24 + 1) / 256 * 256)) (ty := .int) (C := RM) (T := TM) (N := 18) hx hb hts (by decide +kernel) tyM tyM_ok nmM hown hK hP hD hS 0 rfl rfl 4 (by decide) (hts (.fieldLink RM 62 "TornTryCounterModel" "age" "I") (by decide +kernel)) (fun _ h9 => h9) rfl (by decide +kernel) rfl rfl (Nat.le_of_ble_eq_true rfl) dM_turn_135 (fun H locs hP hD hS => ?_)
              have hP : va_P (dC, dI) ttCl [(qm, .inr (3, [.int pl, .int ul, .int pk, .int (1 - ac_24), .int ((ag_24 + 1) - (ag_24 + 1) / 256 * 256), .int pn_24, .int pt_24, .int ut_24, .int en_24, .int og_24, .int pw_24, .int hd_24, .int tn_24, .int tk_24, .int ar_24, .int dn_24, .int e0_24, .int e1_24]))] H := hP
              have hD : va_D A [(qm, .inr (3, [.int pl, .int ul, .int pk, .int (1 - ac_24), .int ((ag_24 + 1) - (ag_24 + 1) / 256 * 256), .int pn_24, .int pt_24, .int ut_24, .int en_24, .int og_24, .int pw_24, .int hd_24, .int tn_24, .int tk_24, .int ar_24, .int dn_24, .int e0_24, .int e1_24]))] := hD
              refine lv_aload_n hx hb dM_turn_138 rfl (lv_at hl 1 rfl) ?_
              refine lv_iload_n hx hb dM_turn_139 rfl (lv_at hl 2 rfl) ?_
              refine va_put (D := (dC, dI)) (ci := 3) (v := .int p1) (ty := .int) (C := RM) (T := TM) (N := 18) hx hb hts (by decide +kernel) tyM tyM_ok nmM hown hK hP hD hS 0 rfl rfl 5 (by decide) (hts (.fieldLink RM 18 "TornTryCounterModel" "pinNumber" "I") (by decide +kernel)) (fun _ h9 => h9) rfl (by decide +kernel) rfl rfl (Nat.le_of_ble_eq_true rfl) dM_turn_140 (fun H locs hP hD hS => ?_)
              have hP : va_P (dC, dI) ttCl [(qm, .inr (3, [.int pl, .int ul, .int pk, .int (1 - ac_24), .int ((ag_24 + 1) - (ag_24 + 1) / 256 * 256), .int p1, .int pt_24, .int ut_24, .int en_24, .int og_24, .int pw_24, .int hd_24, .int tn_24, .int tk_24, .int ar_24, .int dn_24, .int e0_24, .int e1_24]))] H := hP
              have hD : va_D A [(qm, .inr (3, [.int pl, .int ul, .int pk, .int (1 - ac_24), .int ((ag_24 + 1) - (ag_24 + 1) / 256 * 256), .int p1, .int pt_24, .int ut_24, .int en_24, .int og_24, .int pw_24, .int hd_24, .int tn_24, .int tk_24, .int ar_24, .int dn_24, .int e0_24, .int e1_24]))] := hD
              refine lv_aload_n hx hb dM_turn_143 rfl (lv_at hl 1 rfl) ?_
              refine lv_iload_n hx hb dM_turn_144 rfl (lv_at hl 3 rfl) ?_
              refine va_put (D := (dC, dI)) (ci := 3) (v := .int a1) (ty := .int) (C := RM) (T := TM) (N := 18) hx hb hts (by decide +kernel) tyM tyM_ok nmM hown hK hP hD hS 0 rfl rfl 6 (by decide) (hts (.fieldLink RM 65 "TornTryCounterModel" "pinTries" "I") (by decide +kernel)) (fun _ h9 => h9) rfl (by decide +kernel) rfl rfl (Nat.le_of_ble_eq_true rfl) dM_turn_145 (fun H locs hP hD hS => ?_)
              have hP : va_P (dC, dI) ttCl [(qm, .inr (3, [.int pl, .int ul, .int pk, .int (1 - ac_24), .int ((ag_24 + 1) - (ag_24 + 1) / 256 * 256), .int p1, .int a1, .int ut_24, .int en_24, .int og_24, .int pw_24, .int hd_24, .int tn_24, .int tk_24, .int ar_24, .int dn_24, .int e0_24, .int e1_24]))] H := hP
              have hD : va_D A [(qm, .inr (3, [.int pl, .int ul, .int pk, .int (1 - ac_24), .int ((ag_24 + 1) - (ag_24 + 1) / 256 * 256), .int p1, .int a1, .int ut_24, .int en_24, .int og_24, .int pw_24, .int hd_24, .int tn_24, .int tk_24, .int ar_24, .int dn_24, .int e0_24, .int e1_24]))] := hD
              refine lv_aload_n hx hb dM_turn_148 rfl (lv_at hl 1 rfl) ?_
              refine lv_iload_n hx hb dM_turn_149 rfl (lv_at hl 4 rfl) ?_
              refine va_put (D := (dC, dI)) (ci := 3) (v := .int c1) (ty := .int) (C := RM) (T := TM) (N := 18) hx hb hts (by decide +kernel) tyM tyM_ok nmM hown hK hP hD hS 0 rfl rfl 7 (by decide) (hts (.fieldLink RM 68 "TornTryCounterModel" "pukTries" "I") (by decide +kernel)) (fun _ h9 => h9) rfl (by decide +kernel) rfl rfl (Nat.le_of_ble_eq_true rfl) dM_turn_150 (fun H locs hP hD hS => ?_)
              have hP : va_P (dC, dI) ttCl [(qm, .inr (3, [.int pl, .int ul, .int pk, .int (1 - ac_24), .int ((ag_24 + 1) - (ag_24 + 1) / 256 * 256), .int p1, .int a1, .int c1, .int en_24, .int og_24, .int pw_24, .int hd_24, .int tn_24, .int tk_24, .int ar_24, .int dn_24, .int e0_24, .int e1_24]))] H := hP
              have hD : va_D A [(qm, .inr (3, [.int pl, .int ul, .int pk, .int (1 - ac_24), .int ((ag_24 + 1) - (ag_24 + 1) / 256 * 256), .int p1, .int a1, .int c1, .int en_24, .int og_24, .int pw_24, .int hd_24, .int tn_24, .int tk_24, .int ar_24, .int dn_24, .int e0_24, .int e1_24]))] := hD
              refine lv_aload_n hx hb dM_turn_153 rfl (lv_at hl 1 rfl) ?_
              refine lv_bipush (v := 10) hx hb dM_turn_154 (by decide) ?_
              refine va_put (D := (dC, dI)) (ci := 3) (v := .int 10) (ty := .int) (C := RM) (T := TM) (N := 18) hx hb hts (by decide +kernel) tyM tyM_ok nmM hown hK hP hD hS 0 rfl rfl 8 (by decide) (hts (.fieldLink RM 7 "TornTryCounterModel" "entries" "I") (by decide +kernel)) (fun _ h9 => h9) rfl (by decide +kernel) rfl rfl (Nat.le_of_ble_eq_true rfl) dM_turn_156 (fun H locs hP hD hS => ?_)
              have hP : va_P (dC, dI) ttCl [(qm, .inr (3, [.int pl, .int ul, .int pk, .int (1 - ac_24), .int ((ag_24 + 1) - (ag_24 + 1) / 256 * 256), .int p1, .int a1, .int c1, .int 10, .int og_24, .int pw_24, .int hd_24, .int tn_24, .int tk_24, .int ar_24, .int dn_24, .int e0_24, .int e1_24]))] H := hP
              have hD : va_D A [(qm, .inr (3, [.int pl, .int ul, .int pk, .int (1 - ac_24), .int ((ag_24 + 1) - (ag_24 + 1) / 256 * 256), .int p1, .int a1, .int c1, .int 10, .int og_24, .int pw_24, .int hd_24, .int tn_24, .int tk_24, .int ar_24, .int dn_24, .int e0_24, .int e1_24]))] := hD
              refine lv_aload_n hx hb dM_turn_159 rfl (lv_at hl 1 rfl) ?_
              refine lv_iconst (v := 1) hx hb dM_turn_160 (by decide) ?_
              refine va_put (D := (dC, dI)) (ci := 3) (v := .int 1) (ty := .boolean) (C := RM) (T := TM) (N := 18) hx hb hts (by decide +kernel) tyM tyM_ok nmM hown hK hP hD hS 0 rfl rfl 9 (by decide) (hts (.fieldLink RM 42 "TornTryCounterModel" "otherGood" "Z") (by decide +kernel)) (fun _ h9 => h9) rfl (by decide +kernel) rfl rfl (Nat.le_of_ble_eq_true rfl) dM_turn_161 (fun H locs hP hD hS => ?_)
              have hP : va_P (dC, dI) ttCl [(qm, .inr (3, [.int pl, .int ul, .int pk, .int (1 - ac_24), .int ((ag_24 + 1) - (ag_24 + 1) / 256 * 256), .int p1, .int a1, .int c1, .int 10, .int 1, .int pw_24, .int hd_24, .int tn_24, .int tk_24, .int ar_24, .int dn_24, .int e0_24, .int e1_24]))] H := hP
              have hD : va_D A [(qm, .inr (3, [.int pl, .int ul, .int pk, .int (1 - ac_24), .int ((ag_24 + 1) - (ag_24 + 1) / 256 * 256), .int p1, .int a1, .int c1, .int 10, .int 1, .int pw_24, .int hd_24, .int tn_24, .int tk_24, .int ar_24, .int dn_24, .int e0_24, .int e1_24]))] := hD
              refine lv_iload hx hb dM_turn_164 (lv_at hl 0 rfl) ?_
              refine lv_if_ge (tgt := 173) hx hb dM_turn_166 (by decide) (fun c_28 => ?_) (fun c_28 => ?_)
              · refine lv_iconst (v := 0) hx hb dM_turn_173 (by decide) ?_
                have hP9 := hP.sub (ws' := [(qm, .inr (3, [.int pl, .int ul, .int pk, .int (1 - ac_24), .int ((ag_24 + 1) - (ag_24 + 1) / 256 * 256), .int p1, .int a1, .int c1, .int 10, .int 1, .int pw_24, .int hd_24, .int tn_24, .int tk_24, .int ar_24, .int dn_24, .int e0_24, .int e1_24]))]) [0] rfl
                have hD9 := hD.sub (ws' := [(qm, .inr (3, [.int pl, .int ul, .int pk, .int (1 - ac_24), .int ((ag_24 + 1) - (ag_24 + 1) / 256 * 256), .int p1, .int a1, .int c1, .int 10, .int 1, .int pw_24, .int hd_24, .int tn_24, .int tk_24, .int ar_24, .int dn_24, .int e0_24, .int e1_24]))]) [0] (by decide) rfl
                have hK9 := hK.sub (tys' := []) [] rfl
                exact W.zret (v := 0) hx hb hr (by first | rfl | decide) (fun t ht hW => ⟨⟨0, (1 - ac_24, (ag_24 + 1) - (ag_24 + 1) / 256 * 256, p1, a1, c1, 10, 1, pw_24, hd_24, tn_24, tk_24, ar_24, dn_24, e0_24, e1_24), rfl, (by first | (simp only [mm_turn, mm_t0, mm_t9, mm_er, mm_setog, tt_seq_p, if_neg c_1, e_19, if_pos c_20, if_neg c_22, if_pos c_23, (hZ.trans hlp.symm), e_24, if_neg c_26, if_pos c_28, reduceIte, eq_self, tt_n10]; done) | (simp only [mm_turn, mm_t0, mm_t9, mm_er, mm_setog, tt_seq_p, c_1, e_19, c_20, c_22, c_23, (hZ.trans hlp.symm), e_24, c_26, c_28, reduceIte, eq_self, tt_n10]; done) | (simp [mm_turn, mm_t0, mm_t9, mm_er, mm_setog, tt_seq_p, c_1, e_19, c_20, c_22, c_23, (hZ.trans hlp.symm), e_24, c_26, c_28]; done)), by rw [ht]; exact hP9, va_K.moved hW.alike hK9, hD9⟩, hS.F ht⟩) hS.2.2 dM_turn_174
              · refine lv_iconst (v := 1) hx hb dM_turn_169 (by decide) ?_
                refine lv_goto (tgt := 174) hx hb dM_turn_170 (by decide) ?_
                have hP9 := hP.sub (ws' := [(qm, .inr (3, [.int pl, .int ul, .int pk, .int (1 - ac_24), .int ((ag_24 + 1) - (ag_24 + 1) / 256 * 256), .int p1, .int a1, .int c1, .int 10, .int 1, .int pw_24, .int hd_24, .int tn_24, .int tk_24, .int ar_24, .int dn_24, .int e0_24, .int e1_24]))]) [0] rfl
                have hD9 := hD.sub (ws' := [(qm, .inr (3, [.int pl, .int ul, .int pk, .int (1 - ac_24), .int ((ag_24 + 1) - (ag_24 + 1) / 256 * 256), .int p1, .int a1, .int c1, .int 10, .int 1, .int pw_24, .int hd_24, .int tn_24, .int tk_24, .int ar_24, .int dn_24, .int e0_24, .int e1_24]))]) [0] (by decide) rfl
                have hK9 := hK.sub (tys' := []) [] rfl
                exact W.zret (v := 1) hx hb hr (by first | rfl | decide) (fun t ht hW => ⟨⟨1, (1 - ac_24, (ag_24 + 1) - (ag_24 + 1) / 256 * 256, p1, a1, c1, 10, 1, pw_24, hd_24, tn_24, tk_24, ar_24, dn_24, e0_24, e1_24), rfl, (by first | (simp only [mm_turn, mm_t0, mm_t9, mm_er, mm_setog, tt_seq_p, if_neg c_1, e_19, if_pos c_20, if_neg c_22, if_pos c_23, (hZ.trans hlp.symm), e_24, if_neg c_26, if_neg c_28, reduceIte, eq_self, tt_n10]; done) | (simp only [mm_turn, mm_t0, mm_t9, mm_er, mm_setog, tt_seq_p, c_1, e_19, c_20, c_22, c_23, (hZ.trans hlp.symm), e_24, c_26, c_28, reduceIte, eq_self, tt_n10]; done) | (simp [mm_turn, mm_t0, mm_t9, mm_er, mm_setog, tt_seq_p, c_1, e_19, c_20, c_22, c_23, (hZ.trans hlp.symm), e_24, c_26, c_28]; done)), by rw [ht]; exact hP9, va_K.moved hW.alike hK9, hD9⟩, hS.F ht⟩) hS.2.2 dM_turn_174
          · have hlt : i < 6 := (tt_c6 i (by omega)).2 c_23
            obtain ⟨n, rfl⟩ : ∃ k, n = k + 1 := ⟨n - 1, by omega⟩
            refine lv_aload_n hx hb dM_turn_82 rfl (lv_at hl 0 rfl) ?_
            have hPc := hP.sub (ws' := [(qm, .inr (3, [.int pl, .int ul, .int pk, .int ac_z, .int ag_z, .int pn_z, .int pt_z, .int ut_z, .int en_z, .int og_z, .int pw_z, .int hd_z, .int tn_z, .int tk_z, .int ar_z, .int dn_z, .int e0_z, .int e1_z]))]) [0] rfl
            have hDc := hD.sub (ws' := [(qm, .inr (3, [.int pl, .int ul, .int pk, .int ac_z, .int ag_z, .int pn_z, .int pt_z, .int ut_z, .int en_z, .int og_z, .int pw_z, .int hd_z, .int tn_z, .int tk_z, .int ar_z, .int dn_z, .int e0_z, .int e1_z]))]) [0] (by decide) rfl
            have hKc := hK.sub (tys' := []) [] rfl
            have hFc := va_free (wc := [(qm, .inr (3, [.int pl, .int ul, .int pk, .int ac_z, .int ag_z, .int pn_z, .int pt_z, .int ut_z, .int en_z, .int og_z, .int pw_z, .int hd_z, .int tn_z, .int tk_z, .int ar_z, .int dn_z, .int e0_z, .int e1_z]))]) hD hS hA [0] rfl
            refine va_calli (va_runV (As := []) (rest := []) ⟨hx, hb, hml, hown, hts⟩ (c_M_operate l dC dI qm H.size pk pl ul ac_z ag_z pn_z pt_z ut_z en_z og_z pw_z hd_z tn_z tk_z ar_z dn_z e0_z e1_z) (cwV 0 hts gM_turn_M_operate rfl rfl rfl (by decide +kernel) ⟨Nat.le_of_ble_eq_true rfl, Nat.le_of_ble_eq_true rfl⟩) ⟨fun a U g mk q => by obtain ⟨q0, q1, qP, qK, qD⟩ := q; exact ⟨q0, q1, qP, va_K.moved (u := U) (U := U.calling g mk a) (Vm.Alike.refl U.vm) qK, qD⟩, va_recv hKc hPc (ci := 3) (q0 := 0) rfl rfl, fun U hU hW => ⟨rfl, by rw [hU], by rw [hU]; exact hPc, va_K.moved hW.alike hKc, hDc.weaken (fun _ _ _ _ => trivial)⟩⟩ rfl rfl hl.1 rfl (lv_room (Nat.le_of_ble_eq_true rfl)) dM_turn_83 ⟨(Nat.zero_le _), (Nat.zero_le _)⟩) hS (fun q _ h => hFc q h) hFc (fun r_29 u t H locs ht hvm hw hB hz1 hk1 hS => ?_)
            obtain ⟨ac_29, ag_29, pn_29, pt_29, ut_29, en_29, og_29, pw_29, hd_29, tn_29, tk_29, ar_29, dn_29, e0_29, e1_29⟩ := u
            obtain ⟨hP1, hK1, hD1⟩ := hB
            have e_29 : mm_op (ac_z, ag_z, pn_z, pt_z, ut_z, en_z, og_z, pw_z, hd_z, tn_z, tk_z, ar_z, dn_z, e0_z, e1_z) = (r_29, (ac_29, ag_29, pn_29, pt_29, ut_29, en_29, og_29, pw_29, hd_29, tn_29, tk_29, ar_29, dn_29, e0_29, e1_29)) := hw
            rw [ht] at hP1
            obtain ⟨hP, hD⟩ := va_join (wr := []) (w1 := [(qm, .inr (3, [.int pl, .int ul, .int pk, .int ac_29, .int ag_29, .int pn_29, .int pt_29, .int ut_29, .int en_29, .int og_29, .int pw_29, .int hd_29, .int tn_29, .int tk_29, .int ar_29, .int dn_29, .int e0_29, .int e1_29]))]) hP hD [0] [] rfl rfl (by decide) (by decide) hk1 hFc hP1 hD1
            have hP : va_P (dC, dI) ttCl [(qm, .inr (3, [.int pl, .int ul, .int pk, .int ac_29, .int ag_29, .int pn_29, .int pt_29, .int ut_29, .int en_29, .int og_29, .int pw_29, .int hd_29, .int tn_29, .int tk_29, .int ar_29, .int dn_29, .int e0_29, .int e1_29]))] H := hP
            have hD : va_D A [(qm, .inr (3, [.int pl, .int ul, .int pk, .int ac_29, .int ag_29, .int pn_29, .int pt_29, .int ut_29, .int en_29, .int og_29, .int pw_29, .int hd_29, .int tn_29, .int tk_29, .int ar_29, .int dn_29, .int e0_29, .int e1_29]))] := hD
            refine lv_if_lt (tgt := 91) hx hb dM_turn_86 (by decide) (fun c_30 => ?_) (fun c_30 => ?_)
            · simp only [mm_lp, e_29, c_30, reduceIte] at hlp
              refine lv_iinc (v := (nI i) + 1) (lv' := [(4, .int ((nI i) + 1)), (0, .ref qm), (1, .int p1), (2, .int a1), (3, .int c1)]) hx hb dM_turn_91 hl (k := 4) rfl rfl (by decide) rfl (fun ls hl => ?_)
              refine lv_goto (tgt := 75) hx hb dM_turn_94 (by decide) ?_
              refine ih n (by omega) _ _ _ ⟨i + 1, ac_29, ag_29, pn_29, pt_29, ut_29, en_29, og_29, pw_29, hd_29, tn_29, tk_29, ar_29, dn_29, e0_29, e1_29, by omega, hlp, hP.sub [0] rfl, hD.sub [0] (by decide) rfl, hS, ?_⟩
              rw [show nI (i + 1) = nI i + 1 from (nI_1 i).symm]; exact lv_sub hl [1, 2, 3, 4, 0] rfl
            · simp only [mm_lp, e_29, c_30, reduceIte] at hlp
              refine lv_iconst (v := 0) hx hb dM_turn_89 (by decide) ?_
              have hP9 := hP.sub (ws' := [(qm, .inr (3, [.int pl, .int ul, .int pk, .int ac_29, .int ag_29, .int pn_29, .int pt_29, .int ut_29, .int en_29, .int og_29, .int pw_29, .int hd_29, .int tn_29, .int tk_29, .int ar_29, .int dn_29, .int e0_29, .int e1_29]))]) [0] rfl
              have hD9 := hD.sub (ws' := [(qm, .inr (3, [.int pl, .int ul, .int pk, .int ac_29, .int ag_29, .int pn_29, .int pt_29, .int ut_29, .int en_29, .int og_29, .int pw_29, .int hd_29, .int tn_29, .int tk_29, .int ar_29, .int dn_29, .int e0_29, .int e1_29]))]) [0] (by decide) rfl
              have hK9 := hK.sub (tys' := []) [] rfl
              exact W.zret (v := 0) hx hb hr (by first | rfl | decide) (fun t ht hW => ⟨⟨0, (ac_29, ag_29, pn_29, pt_29, ut_29, en_29, og_29, pw_29, hd_29, tn_29, tk_29, ar_29, dn_29, e0_29, e1_29), rfl, (by first | (simp only [mm_turn, mm_t0, mm_t9, mm_er, mm_setog, tt_seq_p, if_neg c_1, e_19, if_pos c_20, if_neg c_22, if_neg c_23, e_29, if_neg c_30, (hZ.trans hlp.symm), reduceIte, eq_self, tt_n10]; done) | (simp only [mm_turn, mm_t0, mm_t9, mm_er, mm_setog, tt_seq_p, c_1, e_19, c_20, c_22, c_23, e_29, c_30, (hZ.trans hlp.symm), reduceIte, eq_self, tt_n10]; done) | (simp [mm_turn, mm_t0, mm_t9, mm_er, mm_setog, tt_seq_p, c_1, e_19, c_20, c_22, c_23, e_29, c_30, (hZ.trans hlp.symm)]; done)), by rw [ht]; exact hP9, va_K.moved hW.alike hK9, hD9⟩, hS.F ht⟩) hS.2.2 dM_turn_90
        · refine lv_aload_n hx hb dM_turn_49 rfl (lv_at hl 1 rfl) ?_
          refine lv_dup hx hb dM_turn_50 rfl ?_
          refine va_get (D := (dC, dI)) (ci := 3) (v := .int e1_19) (C := RM) (T := TM) (N := 18) hx hb hts (by decide +kernel) hown hK hP 0 rfl rfl 17 (by decide) (hts (.fieldLink RM 52 "TornTryCounterModel" "erased1" "I") (by decide +kernel)) (fun _ h9 => h9) rfl dM_turn_51 ?_
          refine lv_iconst (v := 1) hx hb dM_turn_54 (by decide) ?_
          refine lv_iadd hx hb dM_turn_55 ?_
          refine va_put (D := (dC, dI)) (ci := 3) (v := .int (e1_19 + 1)) (ty := .int) (C := RM) (T := TM) (N := 18) hx hb hts (by decide +kernel) tyM tyM_ok nmM hown hK hP hD hS 0 rfl rfl 17 (by decide) (hts (.fieldLink RM 52 "TornTryCounterModel" "erased1" "I") (by decide +kernel)) (fun _ h9 => h9) rfl (by decide +kernel) rfl rfl (Nat.le_of_ble_eq_true rfl) dM_turn_56 (fun H locs hP hD hS => ?_)
          have hP : va_P (dC, dI) ttCl [(qm, .inr (3, [.int pl, .int ul, .int pk, .int ac_19, .int ag_19, .int pn_19, .int pt_19, .int ut_19, .int en_19, .int 0, .int pw_19, .int hd_19, .int tn_19, .int tk_19, .int ar_19, .int dn_19, .int e0_19, .int (e1_19 + 1)]))] H := hP
          have hD : va_D A [(qm, .inr (3, [.int pl, .int ul, .int pk, .int ac_19, .int ag_19, .int pn_19, .int pt_19, .int ut_19, .int en_19, .int 0, .int pw_19, .int hd_19, .int tn_19, .int tk_19, .int ar_19, .int dn_19, .int e0_19, .int (e1_19 + 1)]))] := hD
          refine lv_goto (tgt := 72) hx hb dM_turn_59 (by decide) ?_
          refine lv_iconst (v := 0) hx hb dM_turn_72 (by decide) ?_
          refine lv_istore (lv' := [(4, .int 0), (0, .ref qm), (1, .int p1), (2, .int a1), (3, .int c1)]) hx hb dM_turn_73 hl (by decide) rfl (fun ls hl => ?_)
          refine W.widen (k := 0) (n := 0) (by omega) (by omega) ?_
          obtain ⟨Z, hZ⟩ : ∃ z, mm_lp 6 (ac_19, ag_19, pn_19, pt_19, ut_19, en_19, 0, pw_19, hd_19, tn_19, tk_19, ar_19, dn_19, e0_19, e1_19 + 1) = z := ⟨_, rfl⟩
          refine tt_rec (pc := 75) (I := fun n H locs ls => ∃ (i : Nat) (ac_z ag_z pn_z pt_z ut_z en_z og_z pw_z hd_z tn_z tk_z ar_z dn_z e0_z e1_z : Int32), i + n = 6 ∧ mm_lp n (ac_z, ag_z, pn_z, pt_z, ut_z, en_z, og_z, pw_z, hd_z, tn_z, tk_z, ar_z, dn_z, e0_z, e1_z) = Z ∧ va_P (dC, dI) ttCl [(qm, .inr (3, [.int pl, .int ul, .int pk, .int ac_z, .int ag_z, .int pn_z, .int pt_z, .int ut_z, .int en_z, .int og_z, .int pw_z, .int hd_z, .int tn_z, .int tk_z, .int ar_z, .int dn_z, .int e0_z, .int e1_z]))] H ∧ va_D A [(qm, .inr (3, [.int pl, .int ul, .int pk, .int ac_z, .int ag_z, .int pn_z, .int pt_z, .int ut_z, .int en_z, .int og_z, .int pw_z, .int hd_z, .int tn_z, .int tk_z, .int ar_z, .int dn_z, .int e0_z, .int e1_z]))] ∧ va_S A s.heap H locs ∧ lv_has ls 5 [(0, .ref qm), (1, .int p1), (2, .int a1), (3, .int c1), (4, .int (nI i))]) ?_ 6 ⟨0, ac_19, ag_19, pn_19, pt_19, ut_19, en_19, 0, pw_19, hd_19, tn_19, tk_19, ar_19, dn_19, e0_19, e1_19 + 1, rfl, hZ, hP, hD, hS, lv_sub hl [1, 2, 3, 4, 0] rfl⟩
          intro n H locs ls ih hI
          obtain ⟨i, ac_z, ag_z, pn_z, pt_z, ut_z, en_z, og_z, pw_z, hd_z, tn_z, tk_z, ar_z, dn_z, e0_z, e1_z, hi, hlp, hP, hD, hS, hl⟩ := hI
          refine lv_iload hx hb dM_turn_75 (lv_at hl 4 rfl) ?_
          refine lv_bipush (v := 6) hx hb dM_turn_77 (by decide) ?_
          refine lv_icmp_ge (tgt := 97) hx hb dM_turn_79 (by decide) (fun c_31 => ?_) (fun c_31 => ?_)
          · have hie : i = 6 := (tt_c6 i (by omega)).1 c_31
            obtain rfl : n = 0 := by omega
            simp only [mm_lp] at hlp
            refine lv_aload_n hx hb dM_turn_97 rfl (lv_at hl 0 rfl) ?_
            have hPc := hP.sub (ws' := [(qm, .inr (3, [.int pl, .int ul, .int pk, .int ac_z, .int ag_z, .int pn_z, .int pt_z, .int ut_z, .int en_z, .int og_z, .int pw_z, .int hd_z, .int tn_z, .int tk_z, .int ar_z, .int dn_z, .int e0_z, .int e1_z]))]) [0] rfl
            have hDc := hD.sub (ws' := [(qm, .inr (3, [.int pl, .int ul, .int pk, .int ac_z, .int ag_z, .int pn_z, .int pt_z, .int ut_z, .int en_z, .int og_z, .int pw_z, .int hd_z, .int tn_z, .int tk_z, .int ar_z, .int dn_z, .int e0_z, .int e1_z]))]) [0] (by decide) rfl
            have hKc := hK.sub (tys' := []) [] rfl
            have hFc := va_free (wc := [(qm, .inr (3, [.int pl, .int ul, .int pk, .int ac_z, .int ag_z, .int pn_z, .int pt_z, .int ut_z, .int en_z, .int og_z, .int pw_z, .int hd_z, .int tn_z, .int tk_z, .int ar_z, .int dn_z, .int e0_z, .int e1_z]))]) hD hS hA [0] rfl
            refine va_calli (va_runV (As := []) (rest := []) ⟨hx, hb, hml, hown, hts⟩ (c_M_operate l dC dI qm H.size pk pl ul ac_z ag_z pn_z pt_z ut_z en_z og_z pw_z hd_z tn_z tk_z ar_z dn_z e0_z e1_z) (cwV 0 hts gM_turn_M_operate rfl rfl rfl (by decide +kernel) ⟨Nat.le_of_ble_eq_true rfl, Nat.le_of_ble_eq_true rfl⟩) ⟨fun a U g mk q => by obtain ⟨q0, q1, qP, qK, qD⟩ := q; exact ⟨q0, q1, qP, va_K.moved (u := U) (U := U.calling g mk a) (Vm.Alike.refl U.vm) qK, qD⟩, va_recv hKc hPc (ci := 3) (q0 := 0) rfl rfl, fun U hU hW => ⟨rfl, by rw [hU], by rw [hU]; exact hPc, va_K.moved hW.alike hKc, hDc.weaken (fun _ _ _ _ => trivial)⟩⟩ rfl rfl hl.1 rfl (lv_room (Nat.le_of_ble_eq_true rfl)) dM_turn_98 ⟨(Nat.zero_le _), (Nat.zero_le _)⟩) hS (fun q _ h => hFc q h) hFc (fun r_32 u t H locs ht hvm hw hB hz1 hk1 hS => ?_)
            obtain ⟨ac_32, ag_32, pn_32, pt_32, ut_32, en_32, og_32, pw_32, hd_32, tn_32, tk_32, ar_32, dn_32, e0_32, e1_32⟩ := u
            obtain ⟨hP1, hK1, hD1⟩ := hB
            have e_32 : mm_op (ac_z, ag_z, pn_z, pt_z, ut_z, en_z, og_z, pw_z, hd_z, tn_z, tk_z, ar_z, dn_z, e0_z, e1_z) = (r_32, (ac_32, ag_32, pn_32, pt_32, ut_32, en_32, og_32, pw_32, hd_32, tn_32, tk_32, ar_32, dn_32, e0_32, e1_32)) := hw
            rw [ht] at hP1
            obtain ⟨hP, hD⟩ := va_join (wr := []) (w1 := [(qm, .inr (3, [.int pl, .int ul, .int pk, .int ac_32, .int ag_32, .int pn_32, .int pt_32, .int ut_32, .int en_32, .int og_32, .int pw_32, .int hd_32, .int tn_32, .int tk_32, .int ar_32, .int dn_32, .int e0_32, .int e1_32]))]) hP hD [0] [] rfl rfl (by decide) (by decide) hk1 hFc hP1 hD1
            have hP : va_P (dC, dI) ttCl [(qm, .inr (3, [.int pl, .int ul, .int pk, .int ac_32, .int ag_32, .int pn_32, .int pt_32, .int ut_32, .int en_32, .int og_32, .int pw_32, .int hd_32, .int tn_32, .int tk_32, .int ar_32, .int dn_32, .int e0_32, .int e1_32]))] H := hP
            have hD : va_D A [(qm, .inr (3, [.int pl, .int ul, .int pk, .int ac_32, .int ag_32, .int pn_32, .int pt_32, .int ut_32, .int en_32, .int og_32, .int pw_32, .int hd_32, .int tn_32, .int tk_32, .int ar_32, .int dn_32, .int e0_32, .int e1_32]))] := hD
            refine lv_istore (lv' := [(4, .int r_32), (0, .ref qm), (1, .int p1), (2, .int a1), (3, .int c1)]) hx hb dM_turn_101 hl (by decide) rfl (fun ls hl => ?_)
            refine lv_iload hx hb dM_turn_103 (lv_at hl 0 rfl) ?_
            refine lv_sipush (v := 165) hx hb dM_turn_105 (by decide) ?_
            have hPc := hP.sub (ws' := []) [] rfl
            have hDc := hD.sub (ws' := []) [] (by decide) rfl
            have hKc := hK.sub (tys' := []) [] rfl
            have hFc := va_free (wc := []) hD hS hA [] rfl
            refine va_calli (va_runS (As := [.int r_32, .int 165]) (rest := []) ⟨hx, hb, hml, hown, hts⟩ (c_M_all l dC dI H.size r_32 165) (va_cwS 2 hts gM_turn_M_all rfl rfl rfl (by decide +kernel) ⟨Nat.le_of_ble_eq_true rfl, Nat.le_of_ble_eq_true rfl⟩) ⟨fun a U g mk q => by obtain ⟨q0, q1, qP, qK, qD⟩ := q; exact ⟨q0, q1, qP, va_K.moved (u := U) (U := U.calling g mk a) (Vm.Alike.refl U.vm) qK, qD⟩, fun U hU hW => ⟨rfl, by rw [hU], by rw [hU]; exact hPc, va_K.moved hW.alike hKc, hDc.weaken (fun _ _ _ _ => trivial)⟩⟩ rfl rfl hl.1 rfl (lv_room (Nat.le_of_ble_eq_true rfl)) dM_turn_108 ⟨(Nat.zero_le _), (Nat.zero_le _)⟩) hS (fun q _ h => hFc q h) hFc (fun r_33 u t H locs ht hvm hw hB hz1 hk1 hS => ?_)
            have hw : mm_all r_32 165 = r_33 := hw.symm
            subst hw
            obtain ⟨hP1, hK1, hD1⟩ := hB
            rw [ht] at hP1
            obtain ⟨hP, hD⟩ := va_join (wr := [(qm, .inr (3, [.int pl, .int ul, .int pk, .int ac_32, .int ag_32, .int pn_32, .int pt_32, .int ut_32, .int en_32, .int og_32, .int pw_32, .int hd_32, .int tn_32, .int tk_32, .int ar_32, .int dn_32, .int e0_32, .int e1_32]))]) (w1 := []) hP hD [] [0] rfl rfl (by decide) (by decide) hk1 hFc hP1 hD1
            have hP : va_P (dC, dI) ttCl [(qm, .inr (3, [.int pl, .int ul, .int pk, .int ac_32, .int ag_32, .int pn_32, .int pt_32, .int ut_32, .int en_32, .int og_32, .int pw_32, .int hd_32, .int tn_32, .int tk_32, .int ar_32, .int dn_32, .int e0_32, .int e1_32]))] H := hP
            have hD : va_D A [(qm, .inr (3, [.int pl, .int ul, .int pk, .int ac_32, .int ag_32, .int pn_32, .int pt_32, .int ut_32, .int en_32, .int og_32, .int pw_32, .int hd_32, .int tn_32, .int tk_32, .int ar_32, .int dn_32, .int e0_32, .int e1_32]))] := hD
            refine lv_if_eq (tgt := 164) hx hb dM_turn_111 (by decide) (fun c_34 => ?_) (fun c_34 => ?_)
            · refine lv_iload hx hb dM_turn_164 (lv_at hl 0 rfl) ?_
              refine lv_if_ge (tgt := 173) hx hb dM_turn_166 (by decide) (fun c_35 => ?_) (fun c_35 => ?_)
              · refine lv_iconst (v := 0) hx hb dM_turn_173 (by decide) ?_
                have hP9 := hP.sub (ws' := [(qm, .inr (3, [.int pl, .int ul, .int pk, .int ac_32, .int ag_32, .int pn_32, .int pt_32, .int ut_32, .int en_32, .int og_32, .int pw_32, .int hd_32, .int tn_32, .int tk_32, .int ar_32, .int dn_32, .int e0_32, .int e1_32]))]) [0] rfl
                have hD9 := hD.sub (ws' := [(qm, .inr (3, [.int pl, .int ul, .int pk, .int ac_32, .int ag_32, .int pn_32, .int pt_32, .int ut_32, .int en_32, .int og_32, .int pw_32, .int hd_32, .int tn_32, .int tk_32, .int ar_32, .int dn_32, .int e0_32, .int e1_32]))]) [0] (by decide) rfl
                have hK9 := hK.sub (tys' := []) [] rfl
                exact W.zret (v := 0) hx hb hr (by first | rfl | decide) (fun t ht hW => ⟨⟨0, (ac_32, ag_32, pn_32, pt_32, ut_32, en_32, og_32, pw_32, hd_32, tn_32, tk_32, ar_32, dn_32, e0_32, e1_32), rfl, (by first | (simp only [mm_turn, mm_t0, mm_t9, mm_er, mm_setog, tt_seq_p, if_neg c_1, e_19, if_pos c_20, if_pos c_22, if_pos c_31, (hZ.trans hlp.symm), e_32, if_pos c_34, if_pos c_35, reduceIte, eq_self, tt_n10]; done) | (simp only [mm_turn, mm_t0, mm_t9, mm_er, mm_setog, tt_seq_p, c_1, e_19, c_20, c_22, c_31, (hZ.trans hlp.symm), e_32, c_34, c_35, reduceIte, eq_self, tt_n10]; done) | (simp [mm_turn, mm_t0, mm_t9, mm_er, mm_setog, tt_seq_p, c_1, e_19, c_20, c_22, c_31, (hZ.trans hlp.symm), e_32, c_34, c_35]; done)), by rw [ht]; exact hP9, va_K.moved hW.alike hK9, hD9⟩, hS.F ht⟩) hS.2.2 dM_turn_174
              · refine lv_iconst (v := 1) hx hb dM_turn_169 (by decide) ?_
                refine lv_goto (tgt := 174) hx hb dM_turn_170 (by decide) ?_
                have hP9 := hP.sub (ws' := [(qm, .inr (3, [.int pl, .int ul, .int pk, .int ac_32, .int ag_32, .int pn_32, .int pt_32, .int ut_32, .int en_32, .int og_32, .int pw_32, .int hd_32, .int tn_32, .int tk_32, .int ar_32, .int dn_32, .int e0_32, .int e1_32]))]) [0] rfl
                have hD9 := hD.sub (ws' := [(qm, .inr (3, [.int pl, .int ul, .int pk, .int ac_32, .int ag_32, .int pn_32, .int pt_32, .int ut_32, .int en_32, .int og_32, .int pw_32, .int hd_32, .int tn_32, .int tk_32, .int ar_32, .int dn_32, .int e0_32, .int e1_32]))]) [0] (by decide) rfl
                have hK9 := hK.sub (tys' := []) [] rfl
                exact W.zret (v := 1) hx hb hr (by first | rfl | decide) (fun t ht hW => ⟨⟨1, (ac_32, ag_32, pn_32, pt_32, ut_32, en_32, og_32, pw_32, hd_32, tn_32, tk_32, ar_32, dn_32, e0_32, e1_32), rfl, (by first | (simp only [mm_turn, mm_t0, mm_t9, mm_er, mm_setog, tt_seq_p, if_neg c_1, e_19, if_pos c_20, if_pos c_22, if_pos c_31, (hZ.trans hlp.symm), e_32, if_pos c_34, if_neg c_35, reduceIte, eq_self, tt_n10]; done) | (simp only [mm_turn, mm_t0, mm_t9, mm_er, mm_setog, tt_seq_p, c_1, e_19, c_20, c_22, c_31, (hZ.trans hlp.symm), e_32, c_34, c_35, reduceIte, eq_self, tt_n10]; done) | (simp [mm_turn, mm_t0, mm_t9, mm_er, mm_setog, tt_seq_p, c_1, e_19, c_20, c_22, c_31, (hZ.trans hlp.symm), e_32, c_34, c_35]; done)), by rw [ht]; exact hP9, va_K.moved hW.alike hK9, hD9⟩, hS.F ht⟩) hS.2.2 dM_turn_174
            · refine lv_aload_n hx hb dM_turn_114 rfl (lv_at hl 1 rfl) ?_
              refine lv_iconst (v := 1) hx hb dM_turn_115 (by decide) ?_
              refine lv_aload_n hx hb dM_turn_116 rfl (lv_at hl 1 rfl) ?_
              refine va_get (D := (dC, dI)) (ci := 3) (v := .int ac_32) (C := RM) (T := TM) (N := 18) hx hb hts (by decide +kernel) hown hK hP 0 rfl rfl 3 (by decide) (hts (.fieldLink RM 49 "TornTryCounterModel" "active" "I") (by decide +kernel)) (fun _ h9 => h9) rfl dM_turn_117 ?_
              refine lv_isub hx hb dM_turn_120 ?_
              refine va_put (D := (dC, dI)) (ci := 3) (v := .int (1 - ac_32)) (ty := .int) (C := RM) (T := TM) (N := 18) hx hb hts (by decide +kernel) tyM tyM_ok nmM hown hK hP hD hS 0 rfl rfl 3 (by decide) (hts (.fieldLink RM 49 "TornTryCounterModel" "active" "I") (by decide +kernel)) (fun _ h9 => h9) rfl (by decide +kernel) rfl rfl (Nat.le_of_ble_eq_true rfl) dM_turn_121 (fun H locs hP hD hS => ?_)
              have hP : va_P (dC, dI) ttCl [(qm, .inr (3, [.int pl, .int ul, .int pk, .int (1 - ac_32), .int ag_32, .int pn_32, .int pt_32, .int ut_32, .int en_32, .int og_32, .int pw_32, .int hd_32, .int tn_32, .int tk_32, .int ar_32, .int dn_32, .int e0_32, .int e1_32]))] H := hP
              have hD : va_D A [(qm, .inr (3, [.int pl, .int ul, .int pk, .int (1 - ac_32), .int ag_32, .int pn_32, .int pt_32, .int ut_32, .int en_32, .int og_32, .int pw_32, .int hd_32, .int tn_32, .int tk_32, .int ar_32, .int dn_32, .int e0_32, .int e1_32]))] := hD
              refine lv_aload_n hx hb dM_turn_124 rfl (lv_at hl 1 rfl) ?_
              refine lv_aload_n hx hb dM_turn_125 rfl (lv_at hl 1 rfl) ?_
              refine va_get (D := (dC, dI)) (ci := 3) (v := .int ag_32) (C := RM) (T := TM) (N := 18) hx hb hts (by decide +kernel) hown hK hP 0 rfl rfl 4 (by decide) (hts (.fieldLink RM 62 "TornTryCounterModel" "age" "I") (by decide +kernel)) (fun _ h9 => h9) rfl dM_turn_126 ?_
              refine lv_iconst (v := 1) hx hb dM_turn_129 (by decide) ?_
              refine lv_iadd hx hb dM_turn_130 ?_
              refine lv_sipush (v := 256) hx hb dM_turn_131 (by decide) ?_
              refine lv_irem hx hb dM_turn_134 (by decide) ?_
              refine va_put (D := (dC, dI)) (ci := 3) (v := .int ((ag_32 + 1) - (ag_32 + 1) / 256 * 256)) (ty := .int) (C := RM) (T := TM) (N := 18) hx hb hts (by decide +kernel) tyM tyM_ok nmM hown hK hP hD hS 0 rfl rfl 4 (by decide) (hts (.fieldLink RM 62 "TornTryCounterModel" "age" "I") (by decide +kernel)) (fun _ h9 => h9) rfl (by decide +kernel) rfl rfl (Nat.le_of_ble_eq_true rfl) dM_turn_135 (fun H locs hP hD hS => ?_)
              have hP : va_P (dC, dI) ttCl [(qm, .inr (3, [.int pl, .int ul, .int pk, .int (1 - ac_32), .int ((ag_32 + 1) - (ag_32 + 1) / 256 * 256), .int pn_32, .int pt_32, .int ut_32, .int en_32, .int og_32, .int pw_32, .int hd_32, .int tn_32, .int tk_32, .int ar_32, .int dn_32, .int e0_32, .int e1_32]))] H := hP
              have hD : va_D A [(qm, .inr (3, [.int pl, .int ul, .int pk, .int (1 - ac_32), .int ((ag_32 + 1) - (ag_32 + 1) / 256 * 256), .int pn_32, .int pt_32, .int ut_32, .int en_32, .int og_32, .int pw_32, .int hd_32, .int tn_32, .int tk_32, .int ar_32, .int dn_32, .int e0_32, .int e1_32]))] := hD
              refine lv_aload_n hx hb dM_turn_138 rfl (lv_at hl 1 rfl) ?_
              refine lv_iload_n hx hb dM_turn_139 rfl (lv_at hl 2 rfl) ?_
              refine va_put (D := (dC, dI)) (ci := 3) (v := .int p1) (ty := .int) (C := RM) (T := TM) (N := 18) hx hb hts (by decide +kernel) tyM tyM_ok nmM hown hK hP hD hS 0 rfl rfl 5 (by decide) (hts (.fieldLink RM 18 "TornTryCounterModel" "pinNumber" "I") (by decide +kernel)) (fun _ h9 => h9) rfl (by decide +kernel) rfl rfl (Nat.le_of_ble_eq_true rfl) dM_turn_140 (fun H locs hP hD hS => ?_)
              have hP : va_P (dC, dI) ttCl [(qm, .inr (3, [.int pl, .int ul, .int pk, .int (1 - ac_32), .int ((ag_32 + 1) - (ag_32 + 1) / 256 * 256), .int p1, .int pt_32, .int ut_32, .int en_32, .int og_32, .int pw_32, .int hd_32, .int tn_32, .int tk_32, .int ar_32, .int dn_32, .int e0_32, .int e1_32]))] H := hP
              have hD : va_D A [(qm, .inr (3, [.int pl, .int ul, .int pk, .int (1 - ac_32), .int ((ag_32 + 1) - (ag_32 + 1) / 256 * 256), .int p1, .int pt_32, .int ut_32, .int en_32, .int og_32, .int pw_32, .int hd_32, .int tn_32, .int tk_32, .int ar_32, .int dn_32, .int e0_32, .int e1_32]))] := hD
              refine lv_aload_n hx hb dM_turn_143 rfl (lv_at hl 1 rfl) ?_
              refine lv_iload_n hx hb dM_turn_144 rfl (lv_at hl 3 rfl) ?_
              refine va_put (D := (dC, dI)) (ci := 3) (v := .int a1) (ty := .int) (C := RM) (T := TM) (N := 18) hx hb hts (by decide +kernel) tyM tyM_ok nmM hown hK hP hD hS 0 rfl rfl 6 (by decide) (hts (.fieldLink RM 65 "TornTryCounterModel" "pinTries" "I") (by decide +kernel)) (fun _ h9 => h9) rfl (by decide +kernel) rfl rfl (Nat.le_of_ble_eq_true rfl) dM_turn_145 (fun H locs hP hD hS => ?_)
              have hP : va_P (dC, dI) ttCl [(qm, .inr (3, [.int pl, .int ul, .int pk, .int (1 - ac_32), .int ((ag_32 + 1) - (ag_32 + 1) / 256 * 256), .int p1, .int a1, .int ut_32, .int en_32, .int og_32, .int pw_32, .int hd_32, .int tn_32, .int tk_32, .int ar_32, .int dn_32, .int e0_32, .int e1_32]))] H := hP
              have hD : va_D A [(qm, .inr (3, [.int pl, .int ul, .int pk, .int (1 - ac_32), .int ((ag_32 + 1) - (ag_32 + 1) / 256 * 256), .int p1, .int a1, .int ut_32, .int en_32, .int og_32, .int pw_32, .int hd_32, .int tn_32, .int tk_32, .int ar_32, .int dn_32, .int e0_32, .int e1_32]))] := hD
              refine lv_aload_n hx hb dM_turn_148 rfl (lv_at hl 1 rfl) ?_
              refine lv_iload_n hx hb dM_turn_149 rfl (lv_at hl 4 rfl) ?_
              refine va_put (D := (dC, dI)) (ci := 3) (v := .int c1) (ty := .int) (C := RM) (T := TM) (N := 18) hx hb hts (by decide +kernel) tyM tyM_ok nmM hown hK hP hD hS 0 rfl rfl 7 (by decide) (hts (.fieldLink RM 68 "TornTryCounterModel" "pukTries" "I") (by decide +kernel)) (fun _ h9 => h9) rfl (by decide +kernel) rfl rfl (Nat.le_of_ble_eq_true rfl) dM_turn_150 (fun H locs hP hD hS => ?_)
              have hP : va_P (dC, dI) ttCl [(qm, .inr (3, [.int pl, .int ul, .int pk, .int (1 - ac_32), .int ((ag_32 + 1) - (ag_32 + 1) / 256 * 256), .int p1, .int a1, .int c1, .int en_32, .int og_32, .int pw_32, .int hd_32, .int tn_32, .int tk_32, .int ar_32, .int dn_32, .int e0_32, .int e1_32]))] H := hP
              have hD : va_D A [(qm, .inr (3, [.int pl, .int ul, .int pk, .int (1 - ac_32), .int ((ag_32 + 1) - (ag_32 + 1) / 256 * 256), .int p1, .int a1, .int c1, .int en_32, .int og_32, .int pw_32, .int hd_32, .int tn_32, .int tk_32, .int ar_32, .int dn_32, .int e0_32, .int e1_32]))] := hD
              refine lv_aload_n hx hb dM_turn_153 rfl (lv_at hl 1 rfl) ?_
              refine lv_bipush (v := 10) hx hb dM_turn_154 (by decide) ?_
              refine va_put (D := (dC, dI)) (ci := 3) (v := .int 10) (ty := .int) (C := RM) (T := TM) (N := 18) hx hb hts (by decide +kernel) tyM tyM_ok nmM hown hK hP hD hS 0 rfl rfl 8 (by decide) (hts (.fieldLink RM 7 "TornTryCounterModel" "entries" "I") (by decide +kernel)) (fun _ h9 => h9) rfl (by decide +kernel) rfl rfl (Nat.le_of_ble_eq_true rfl) dM_turn_156 (fun H locs hP hD hS => ?_)
              have hP : va_P (dC, dI) ttCl [(qm, .inr (3, [.int pl, .int ul, .int pk, .int (1 - ac_32), .int ((ag_32 + 1) - (ag_32 + 1) / 256 * 256), .int p1, .int a1, .int c1, .int 10, .int og_32, .int pw_32, .int hd_32, .int tn_32, .int tk_32, .int ar_32, .int dn_32, .int e0_32, .int e1_32]))] H := hP
              have hD : va_D A [(qm, .inr (3, [.int pl, .int ul, .int pk, .int (1 - ac_32), .int ((ag_32 + 1) - (ag_32 + 1) / 256 * 256), .int p1, .int a1, .int c1, .int 10, .int og_32, .int pw_32, .int hd_32, .int tn_32, .int tk_32, .int ar_32, .int dn_32, .int e0_32, .int e1_32]))] := hD
              refine lv_aload_n hx hb dM_turn_159 rfl (lv_at hl 1 rfl) ?_
              refine lv_iconst (v := 1) hx hb dM_turn_160 (by decide) ?_
              refine va_put (D := (dC, dI)) (ci := 3) (v := .int 1) (ty := .boolean) (C := RM) (T := TM) (N := 18) hx hb hts (by decide +kernel) tyM tyM_ok nmM hown hK hP hD hS 0 rfl rfl 9 (by decide) (hts (.fieldLink RM 42 "TornTryCounterModel" "otherGood" "Z") (by decide +kernel)) (fun _ h9 => h9) rfl (by decide +kernel) rfl rfl (Nat.le_of_ble_eq_true rfl) dM_turn_161 (fun H locs hP hD hS => ?_)
              have hP : va_P (dC, dI) ttCl [(qm, .inr (3, [.int pl, .int ul, .int pk, .int (1 - ac_32), .int ((ag_32 + 1) - (ag_32 + 1) / 256 * 256), .int p1, .int a1, .int c1, .int 10, .int 1, .int pw_32, .int hd_32, .int tn_32, .int tk_32, .int ar_32, .int dn_32, .int e0_32, .int e1_32]))] H := hP
              have hD : va_D A [(qm, .inr (3, [.int pl, .int ul, .int pk, .int (1 - ac_32), .int ((ag_32 + 1) - (ag_32 + 1) / 256 * 256), .int p1, .int a1, .int c1, .int 10, .int 1, .int pw_32, .int hd_32, .int tn_32, .int tk_32, .int ar_32, .int dn_32, .int e0_32, .int e1_32]))] := hD
              refine lv_iload hx hb dM_turn_164 (lv_at hl 0 rfl) ?_
              refine lv_if_ge (tgt := 173) hx hb dM_turn_166 (by decide) (fun c_36 => ?_) (fun c_36 => ?_)
              · refine lv_iconst (v := 0) hx hb dM_turn_173 (by decide) ?_
                have hP9 := hP.sub (ws' := [(qm, .inr (3, [.int pl, .int ul, .int pk, .int (1 - ac_32), .int ((ag_32 + 1) - (ag_32 + 1) / 256 * 256), .int p1, .int a1, .int c1, .int 10, .int 1, .int pw_32, .int hd_32, .int tn_32, .int tk_32, .int ar_32, .int dn_32, .int e0_32, .int e1_32]))]) [0] rfl
                have hD9 := hD.sub (ws' := [(qm, .inr (3, [.int pl, .int ul, .int pk, .int (1 - ac_32), .int ((ag_32 + 1) - (ag_32 + 1) / 256 * 256), .int p1, .int a1, .int c1, .int 10, .int 1, .int pw_32, .int hd_32, .int tn_32, .int tk_32, .int ar_32, .int dn_32, .int e0_32, .int e1_32]))]) [0] (by decide) rfl
                have hK9 := hK.sub (tys' := []) [] rfl
                exact W.zret (v := 0) hx hb hr (by first | rfl | decide) (fun t ht hW => ⟨⟨0, (1 - ac_32, (ag_32 + 1) - (ag_32 + 1) / 256 * 256, p1, a1, c1, 10, 1, pw_32, hd_32, tn_32, tk_32, ar_32, dn_32, e0_32, e1_32), rfl, (by first | (simp only [mm_turn, mm_t0, mm_t9, mm_er, mm_setog, tt_seq_p, if_neg c_1, e_19, if_pos c_20, if_pos c_22, if_pos c_31, (hZ.trans hlp.symm), e_32, if_neg c_34, if_pos c_36, reduceIte, eq_self, tt_n10]; done) | (simp only [mm_turn, mm_t0, mm_t9, mm_er, mm_setog, tt_seq_p, c_1, e_19, c_20, c_22, c_31, (hZ.trans hlp.symm), e_32, c_34, c_36, reduceIte, eq_self, tt_n10]; done) | (simp [mm_turn, mm_t0, mm_t9, mm_er, mm_setog, tt_seq_p, c_1, e_19, c_20, c_22, c_31, (hZ.trans hlp.symm), e_32, c_34, c_36]; done)), by rw [ht]; exact hP9, va_K.moved hW.alike hK9, hD9⟩, hS.F ht⟩) hS.2.2 dM_turn_174
              · refine lv_iconst (v := 1) hx hb dM_turn_169 (by decide) ?_
                refine lv_goto (tgt := 174) hx hb dM_turn_170 (by decide) ?_
                have hP9 := hP.sub (ws' := [(qm, .inr (3, [.int pl, .int ul, .int pk, .int (1 - ac_32), .int ((ag_32 + 1) - (ag_32 + 1) / 256 * 256), .int p1, .int a1, .int c1, .int 10, .int 1, .int pw_32, .int hd_32, .int tn_32, .int tk_32, .int ar_32, .int dn_32, .int e0_32, .int e1_32]))]) [0] rfl
                have hD9 := hD.sub (ws' := [(qm, .inr (3, [.int pl, .int ul, .int pk, .int (1 - ac_32), .int ((ag_32 + 1) - (ag_32 + 1) / 256 * 256), .int p1, .int a1, .int c1, .int 10, .int 1, .int pw_32, .int hd_32, .int tn_32, .int tk_32, .int ar_32, .int dn_32, .int e0_32, .int e1_32]))]) [0] (by decide) rfl
                have hK9 := hK.sub (tys' := []) [] rfl
                exact W.zret (v := 1) hx hb hr (by first | rfl | decide) (fun t ht hW => ⟨⟨1, (1 - ac_32, (ag_32 + 1) - (ag_32 + 1) / 256 * 256, p1, a1, c1, 10, 1, pw_32, hd_32, tn_32, tk_32, ar_32, dn_32, e0_32, e1_32), rfl, (by first | (simp only [mm_turn, mm_t0, mm_t9, mm_er, mm_setog, tt_seq_p, if_neg c_1, e_19, if_pos c_20, if_pos c_22, if_pos c_31, (hZ.trans hlp.symm), e_32, if_neg c_34, if_neg c_36, reduceIte, eq_self, tt_n10]; done) | (simp only [mm_turn, mm_t0, mm_t9, mm_er, mm_setog, tt_seq_p, c_1, e_19, c_20, c_22, c_31, (hZ.trans hlp.symm), e_32, c_34, c_36, reduceIte, eq_self, tt_n10]; done) | (simp [mm_turn, mm_t0, mm_t9, mm_er, mm_setog, tt_seq_p, c_1, e_19, c_20, c_22, c_31, (hZ.trans hlp.symm), e_32, c_34, c_36]; done)), by rw [ht]; exact hP9, va_K.moved hW.alike hK9, hD9⟩, hS.F ht⟩) hS.2.2 dM_turn_174
          · have hlt : i < 6 := (tt_c6 i (by omega)).2 c_31
            obtain ⟨n, rfl⟩ : ∃ k, n = k + 1 := ⟨n - 1, by omega⟩
            refine lv_aload_n hx hb dM_turn_82 rfl (lv_at hl 0 rfl) ?_
            have hPc := hP.sub (ws' := [(qm, .inr (3, [.int pl, .int ul, .int pk, .int ac_z, .int ag_z, .int pn_z, .int pt_z, .int ut_z, .int en_z, .int og_z, .int pw_z, .int hd_z, .int tn_z, .int tk_z, .int ar_z, .int dn_z, .int e0_z, .int e1_z]))]) [0] rfl
            have hDc := hD.sub (ws' := [(qm, .inr (3, [.int pl, .int ul, .int pk, .int ac_z, .int ag_z, .int pn_z, .int pt_z, .int ut_z, .int en_z, .int og_z, .int pw_z, .int hd_z, .int tn_z, .int tk_z, .int ar_z, .int dn_z, .int e0_z, .int e1_z]))]) [0] (by decide) rfl
            have hKc := hK.sub (tys' := []) [] rfl
            have hFc := va_free (wc := [(qm, .inr (3, [.int pl, .int ul, .int pk, .int ac_z, .int ag_z, .int pn_z, .int pt_z, .int ut_z, .int en_z, .int og_z, .int pw_z, .int hd_z, .int tn_z, .int tk_z, .int ar_z, .int dn_z, .int e0_z, .int e1_z]))]) hD hS hA [0] rfl
            refine va_calli (va_runV (As := []) (rest := []) ⟨hx, hb, hml, hown, hts⟩ (c_M_operate l dC dI qm H.size pk pl ul ac_z ag_z pn_z pt_z ut_z en_z og_z pw_z hd_z tn_z tk_z ar_z dn_z e0_z e1_z) (cwV 0 hts gM_turn_M_operate rfl rfl rfl (by decide +kernel) ⟨Nat.le_of_ble_eq_true rfl, Nat.le_of_ble_eq_true rfl⟩) ⟨fun a U g mk q => by obtain ⟨q0, q1, qP, qK, qD⟩ := q; exact ⟨q0, q1, qP, va_K.moved (u := U) (U := U.calling g mk a) (Vm.Alike.refl U.vm) qK, qD⟩, va_recv hKc hPc (ci := 3) (q0 := 0) rfl rfl, fun U hU hW => ⟨rfl, by rw [hU], by rw [hU]; exact hPc, va_K.moved hW.alike hKc, hDc.weaken (fun _ _ _ _ => trivial)⟩⟩ rfl rfl hl.1 rfl (lv_room (Nat.le_of_ble_eq_true rfl)) dM_turn_83 ⟨(Nat.zero_le _), (Nat.zero_le _)⟩) hS (fun q _ h => hFc q h) hFc (fun r_37 u t H locs ht hvm hw hB hz1 hk1 hS => ?_)
            obtain ⟨ac_37, ag_37, pn_37, pt_37, ut_37, en_37, og_37, pw_37, hd_37, tn_37, tk_37, ar_37, dn_37, e0_37, e1_37⟩ := u
            obtain ⟨hP1, hK1, hD1⟩ := hB
            have e_37 : mm_op (ac_z, ag_z, pn_z, pt_z, ut_z, en_z, og_z, pw_z, hd_z, tn_z, tk_z, ar_z, dn_z, e0_z, e1_z) = (r_37, (ac_37, ag_37, pn_37, pt_37, ut_37, en_37, og_37, pw_37, hd_37, tn_37, tk_37, ar_37, dn_37, e0_37, e1_37)) := hw
            rw [ht] at hP1
            obtain ⟨hP, hD⟩ := va_join (wr := []) (w1 := [(qm, .inr (3, [.int pl, .int ul, .int pk, .int ac_37, .int ag_37, .int pn_37, .int pt_37, .int ut_37, .int en_37, .int og_37, .int pw_37, .int hd_37, .int tn_37, .int tk_37, .int ar_37, .int dn_37, .int e0_37, .int e1_37]))]) hP hD [0] [] rfl rfl (by decide) (by decide) hk1 hFc hP1 hD1
            have hP : va_P (dC, dI) ttCl [(qm, .inr (3, [.int pl, .int ul, .int pk, .int ac_37, .int ag_37, .int pn_37, .int pt_37, .int ut_37, .int en_37, .int og_37, .int pw_37, .int hd_37, .int tn_37, .int tk_37, .int ar_37, .int dn_37, .int e0_37, .int e1_37]))] H := hP
            have hD : va_D A [(qm, .inr (3, [.int pl, .int ul, .int pk, .int ac_37, .int ag_37, .int pn_37, .int pt_37, .int ut_37, .int en_37, .int og_37, .int pw_37, .int hd_37, .int tn_37, .int tk_37, .int ar_37, .int dn_37, .int e0_37, .int e1_37]))] := hD
            refine lv_if_lt (tgt := 91) hx hb dM_turn_86 (by decide) (fun c_38 => ?_) (fun c_38 => ?_)
            · simp only [mm_lp, e_37, c_38, reduceIte] at hlp
              refine lv_iinc (v := (nI i) + 1) (lv' := [(4, .int ((nI i) + 1)), (0, .ref qm), (1, .int p1), (2, .int a1), (3, .int c1)]) hx hb dM_turn_91 hl (k := 4) rfl rfl (by decide) rfl (fun ls hl => ?_)
              refine lv_goto (tgt := 75) hx hb dM_turn_94 (by decide) ?_
              refine ih n (by omega) _ _ _ ⟨i + 1, ac_37, ag_37, pn_37, pt_37, ut_37, en_37, og_37, pw_37, hd_37, tn_37, tk_37, ar_37, dn_37, e0_37, e1_37, by omega, hlp, hP.sub [0] rfl, hD.sub [0] (by decide) rfl, hS, ?_⟩
              rw [show nI (i + 1) = nI i + 1 from (nI_1 i).symm]; exact lv_sub hl [1, 2, 3, 4, 0] rfl
            · simp only [mm_lp, e_37, c_38, reduceIte] at hlp
              refine lv_iconst (v := 0) hx hb dM_turn_89 (by decide) ?_
              have hP9 := hP.sub (ws' := [(qm, .inr (3, [.int pl, .int ul, .int pk, .int ac_37, .int ag_37, .int pn_37, .int pt_37, .int ut_37, .int en_37, .int og_37, .int pw_37, .int hd_37, .int tn_37, .int tk_37, .int ar_37, .int dn_37, .int e0_37, .int e1_37]))]) [0] rfl
              have hD9 := hD.sub (ws' := [(qm, .inr (3, [.int pl, .int ul, .int pk, .int ac_37, .int ag_37, .int pn_37, .int pt_37, .int ut_37, .int en_37, .int og_37, .int pw_37, .int hd_37, .int tn_37, .int tk_37, .int ar_37, .int dn_37, .int e0_37, .int e1_37]))]) [0] (by decide) rfl
              have hK9 := hK.sub (tys' := []) [] rfl
              exact W.zret (v := 0) hx hb hr (by first | rfl | decide) (fun t ht hW => ⟨⟨0, (ac_37, ag_37, pn_37, pt_37, ut_37, en_37, og_37, pw_37, hd_37, tn_37, tk_37, ar_37, dn_37, e0_37, e1_37), rfl, (by first | (simp only [mm_turn, mm_t0, mm_t9, mm_er, mm_setog, tt_seq_p, if_neg c_1, e_19, if_pos c_20, if_pos c_22, if_neg c_31, e_37, if_neg c_38, (hZ.trans hlp.symm), reduceIte, eq_self, tt_n10]; done) | (simp only [mm_turn, mm_t0, mm_t9, mm_er, mm_setog, tt_seq_p, c_1, e_19, c_20, c_22, c_31, e_37, c_38, (hZ.trans hlp.symm), reduceIte, eq_self, tt_n10]; done) | (simp [mm_turn, mm_t0, mm_t9, mm_er, mm_setog, tt_seq_p, c_1, e_19, c_20, c_22, c_31, e_37, c_38, (hZ.trans hlp.symm)]; done)), by rw [ht]; exact hP9, va_K.moved hW.alike hK9, hD9⟩, hS.F ht⟩) hS.2.2 dM_turn_90
      · exact absurd c_20 c_21
    · refine lv_iload hx hb dM_turn_19 (lv_at hl 0 rfl) ?_
      refine lv_bipush (v := 90) hx hb dM_turn_21 (by decide) ?_
      refine lv_iand hx hb dM_turn_23 ?_
      refine lv_if_ne (tgt := 31) hx hb dM_turn_24 (by decide) (fun c_39 => ?_) (fun c_39 => ?_)
      · refine lv_iconst (v := 0) hx hb dM_turn_31 (by decide) ?_
        refine va_put (D := (dC, dI)) (ci := 3) (v := .int 0) (ty := .boolean) (C := RM) (T := TM) (N := 18) hx hb hts (by decide +kernel) tyM tyM_ok nmM hown hK hP hD hS 0 rfl rfl 9 (by decide) (hts (.fieldLink RM 42 "TornTryCounterModel" "otherGood" "Z") (by decide +kernel)) (fun _ h9 => h9) rfl (by decide +kernel) rfl rfl (Nat.le_of_ble_eq_true rfl) dM_turn_32 (fun H locs hP hD hS => ?_)
        have hP : va_P (dC, dI) ttCl [(qm, .inr (3, [.int pl, .int ul, .int pk, .int ac_19, .int ag_19, .int pn_19, .int pt_19, .int ut_19, .int en_19, .int 0, .int pw_19, .int hd_19, .int tn_19, .int tk_19, .int ar_19, .int dn_19, .int e0_19, .int e1_19]))] H := hP
        have hD : va_D A [(qm, .inr (3, [.int pl, .int ul, .int pk, .int ac_19, .int ag_19, .int pn_19, .int pt_19, .int ut_19, .int en_19, .int 0, .int pw_19, .int hd_19, .int tn_19, .int tk_19, .int ar_19, .int dn_19, .int e0_19, .int e1_19]))] := hD
        refine lv_iload hx hb dM_turn_35 (lv_at hl 0 rfl) ?_
        refine lv_if_lt (tgt := 42) hx hb dM_turn_37 (by decide) (fun c_40 => ?_) (fun c_40 => ?_)
        · exact absurd c_40 c_20
        · refine lv_iconst (v := 0) hx hb dM_turn_40 (by decide) ?_
          have hP9 := hP.sub (ws' := [(qm, .inr (3, [.int pl, .int ul, .int pk, .int ac_19, .int ag_19, .int pn_19, .int pt_19, .int ut_19, .int en_19, .int 0, .int pw_19, .int hd_19, .int tn_19, .int tk_19, .int ar_19, .int dn_19, .int e0_19, .int e1_19]))]) [0] rfl
          have hD9 := hD.sub (ws' := [(qm, .inr (3, [.int pl, .int ul, .int pk, .int ac_19, .int ag_19, .int pn_19, .int pt_19, .int ut_19, .int en_19, .int 0, .int pw_19, .int hd_19, .int tn_19, .int tk_19, .int ar_19, .int dn_19, .int e0_19, .int e1_19]))]) [0] (by decide) rfl
          have hK9 := hK.sub (tys' := []) [] rfl
          exact W.zret (v := 0) hx hb hr (by first | rfl | decide) (fun t ht hW => ⟨⟨0, (ac_19, ag_19, pn_19, pt_19, ut_19, en_19, 0, pw_19, hd_19, tn_19, tk_19, ar_19, dn_19, e0_19, e1_19), rfl, (by first | (simp only [mm_turn, mm_t0, mm_t9, mm_er, mm_setog, tt_seq_p, if_neg c_1, e_19, if_neg c_20, if_neg c_39, reduceIte, eq_self, tt_n10]; done) | (simp only [mm_turn, mm_t0, mm_t9, mm_er, mm_setog, tt_seq_p, c_1, e_19, c_20, c_39, reduceIte, eq_self, tt_n10]; done) | (simp [mm_turn, mm_t0, mm_t9, mm_er, mm_setog, tt_seq_p, c_1, e_19, c_20, c_39]; done)), by rw [ht]; exact hP9, va_K.moved hW.alike hK9, hD9⟩, hS.F ht⟩) hS.2.2 dM_turn_41
      · refine lv_iconst (v := 1) hx hb dM_turn_27 (by decide) ?_
        refine lv_goto (tgt := 32) hx hb dM_turn_28 (by decide) ?_
        refine va_put (D := (dC, dI)) (ci := 3) (v := .int 1) (ty := .boolean) (C := RM) (T := TM) (N := 18) hx hb hts (by decide +kernel) tyM tyM_ok nmM hown hK hP hD hS 0 rfl rfl 9 (by decide) (hts (.fieldLink RM 42 "TornTryCounterModel" "otherGood" "Z") (by decide +kernel)) (fun _ h9 => h9) rfl (by decide +kernel) rfl rfl (Nat.le_of_ble_eq_true rfl) dM_turn_32 (fun H locs hP hD hS => ?_)
        have hP : va_P (dC, dI) ttCl [(qm, .inr (3, [.int pl, .int ul, .int pk, .int ac_19, .int ag_19, .int pn_19, .int pt_19, .int ut_19, .int en_19, .int 1, .int pw_19, .int hd_19, .int tn_19, .int tk_19, .int ar_19, .int dn_19, .int e0_19, .int e1_19]))] H := hP
        have hD : va_D A [(qm, .inr (3, [.int pl, .int ul, .int pk, .int ac_19, .int ag_19, .int pn_19, .int pt_19, .int ut_19, .int en_19, .int 1, .int pw_19, .int hd_19, .int tn_19, .int tk_19, .int ar_19, .int dn_19, .int e0_19, .int e1_19]))] := hD
        refine lv_iload hx hb dM_turn_35 (lv_at hl 0 rfl) ?_
        refine lv_if_lt (tgt := 42) hx hb dM_turn_37 (by decide) (fun c_41 => ?_) (fun c_41 => ?_)
        · exact absurd c_41 c_20
        · refine lv_iconst (v := 0) hx hb dM_turn_40 (by decide) ?_
          have hP9 := hP.sub (ws' := [(qm, .inr (3, [.int pl, .int ul, .int pk, .int ac_19, .int ag_19, .int pn_19, .int pt_19, .int ut_19, .int en_19, .int 1, .int pw_19, .int hd_19, .int tn_19, .int tk_19, .int ar_19, .int dn_19, .int e0_19, .int e1_19]))]) [0] rfl
          have hD9 := hD.sub (ws' := [(qm, .inr (3, [.int pl, .int ul, .int pk, .int ac_19, .int ag_19, .int pn_19, .int pt_19, .int ut_19, .int en_19, .int 1, .int pw_19, .int hd_19, .int tn_19, .int tk_19, .int ar_19, .int dn_19, .int e0_19, .int e1_19]))]) [0] (by decide) rfl
          have hK9 := hK.sub (tys' := []) [] rfl
          exact W.zret (v := 0) hx hb hr (by first | rfl | decide) (fun t ht hW => ⟨⟨0, (ac_19, ag_19, pn_19, pt_19, ut_19, en_19, 1, pw_19, hd_19, tn_19, tk_19, ar_19, dn_19, e0_19, e1_19), rfl, (by first | (simp only [mm_turn, mm_t0, mm_t9, mm_er, mm_setog, tt_seq_p, if_neg c_1, e_19, if_neg c_20, if_pos c_39, reduceIte, eq_self, tt_n10]; done) | (simp only [mm_turn, mm_t0, mm_t9, mm_er, mm_setog, tt_seq_p, c_1, e_19, c_20, c_39, reduceIte, eq_self, tt_n10]; done) | (simp [mm_turn, mm_t0, mm_t9, mm_er, mm_setog, tt_seq_p, c_1, e_19, c_20, c_39]; done)), by rw [ht]; exact hP9, va_K.moved hW.alike hK9, hD9⟩, hS.F ht⟩) hS.2.2 dM_turn_41
