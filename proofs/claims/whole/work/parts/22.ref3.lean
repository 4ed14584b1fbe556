set_option maxHeartbeats 4000000 in
set_option maxRecDepth 100000 in
theorem c_M_arm (l : Launch) (dC : Nat → ClassId) (dI : Nat → Nat → Nat) (qm : Nat) (sz : Nat) (pk pl ul ac ag pn pt ut en og pw hd tn tk ar dn e0 e1 : Int32) (n x : Int32) : Met l yM_arm wsM_arm ({ frames := 0, cells := 0, slots := 0, locals := 0 }) (va_Pc [.ref qm, .int n, .int x] (fun U => U.heap.size = sz ∧ va_P (dC, dI) ttCl [(qm, .inr (3, [.int pl, .int ul, .int pk, .int ac, .int ag, .int pn, .int pt, .int ut, .int en, .int og, .int pw, .int hd, .int tn, .int tk, .int ar, .int dn, .int e0, .int e1]))] U.heap ∧ va_K (dC, dI) ttCl [] U ∧ va_D (fun _ => True) [(qm, .inr (3, [.int pl, .int ul, .int pk, .int ac, .int ag, .int pn, .int pt, .int ut, .int en, .int og, .int pw, .int hd, .int tn, .int tk, .int ar, .int dn, .int e0, .int e1]))])) (va_Qi (fun (r : Int32) (u : tt_M) => mm_arm (ac, ag, pn, pt, ut, en, og, pw, hd, tn, tk, ar, dn, e0, e1) n x = (r, u)) (fun (u : tt_M) (t : State) => at_M dC dI (va_A [(qm, .inr (3, [.int pl, .int ul, .int pk, .int ac, .int ag, .int pn, .int pt, .int ut, .int en, .int og, .int pw, .int hd, .int tn, .int tk, .int ar, .int dn, .int e0, .int e1]))] sz) qm pk pl ul u t) (va_A [(qm, .inr (3, [.int pl, .int ul, .int pk, .int ac, .int ag, .int pn, .int pt, .int ut, .int en, .int og, .int pw, .int hd, .int tn, .int tk, .int ar, .int dn, .int e0, .int e1]))] sz)) 0 0 (va_A [(qm, .inr (3, [.int pl, .int ul, .int pk, .int ac, .int ag, .int pn, .int pt, .int ut, .int en, .int og, .int pw, .int hd, .int tn, .int tk, .int ar, .int dn, .int e0, .int e1]))] sz) := by
  refine Met.ofW (cc := cM_arm) (maxL := 3) (ret := (some .boolean)) (by decide) rfl ?_
  intro p e s m args below meth c s₁ B hml hv
  obtain ⟨rfl, hsz, hP, hK, hD0⟩ := hv
  have hx := B.exec
  have hb := B.bytes
  have hr := B.returns
  have hts := atoms_spec (ws := wsM_arm) B.pre
  have hown : s.vm.findClass RM = some m.cls := findClass_of_methodNamed B.named
  have hlocks := B.notSynchronized
  subst hsz
  have hD := hD0.self (sz := s.heap.size)
  generalize hAe : va_A [(qm, .inr (3, [.int pl, .int ul, .int pk, .int ac, .int ag, .int pn, .int pt, .int ut, .int en, .int og, .int pw, .int hd, .int tn, .int tk, .int ar, .int dn, .int e0, .int e1]))] s.heap.size = A at hD ⊢
  have hA : ∀ q : Nat, s.heap.size ≤ q → A q := fun q h => by rw [← hAe]; exact Or.inr h
  have hS : va_S A s.heap s.heap [] := va_S.rf
  have hP : va_P (dC, dI) ttCl [(qm, .inr (3, [.int pl, .int ul, .int pk, .int ac, .int ag, .int pn, .int pt, .int ut, .int en, .int og, .int pw, .int hd, .int tn, .int tk, .int ar, .int dn, .int e0, .int e1]))] s.heap := hP
  have hl := lv_entry ([.ref qm, .int n, .int x]) (n := 3) (Nat.le_of_ble_eq_true rfl)
  rw [lg_entry_eq]
  generalize (lg_sl ([.ref qm, .int n, .int x]) ++ List.replicate (3 - (lg_sl ([.ref qm, .int n, .int x])).length) Slot.unset).toArray = ls at hl ⊢
  have hl : lv_has ls 3 [(0, .ref qm), (1, .int n), (2, .int x)] := hl
  refine lv_iload_n hx hb dM_arm_0 rfl (lv_at hl 1 rfl) ?_
  refine lv_if_lt (tgt := 34) hx hb dM_arm_1 (by decide) (fun c_1 => ?_) (fun c_1 => ?_)
  · refine lv_iconst (v := 0) hx hb dM_arm_34 (by decide) ?_
    have hP9 := hP.sub (ws' := [(qm, .inr (3, [.int pl, .int ul, .int pk, .int ac, .int ag, .int pn, .int pt, .int ut, .int en, .int og, .int pw, .int hd, .int tn, .int tk, .int ar, .int dn, .int e0, .int e1]))]) [0] rfl
    have hD9 := hD.sub (ws' := [(qm, .inr (3, [.int pl, .int ul, .int pk, .int ac, .int ag, .int pn, .int pt, .int ut, .int en, .int og, .int pw, .int hd, .int tn, .int tk, .int ar, .int dn, .int e0, .int e1]))]) [0] (by decide) rfl
    have hK9 := hK.sub (tys' := []) [] rfl
    exact W.zret (v := 0) hx hb hr (by first | rfl | decide) (fun t ht hW => ⟨⟨0, (ac, ag, pn, pt, ut, en, og, pw, hd, tn, tk, ar, dn, e0, e1), rfl, (by first | (simp only [mm_arm, if_pos c_1, reduceIte, eq_self, tt_n10]; done) | (simp only [mm_arm, c_1, reduceIte, eq_self, tt_n10]; done) | (simp [mm_arm, c_1]; done)), by rw [ht]; exact hP9, va_K.moved hW.alike hK9, hD9⟩, hS.F ht⟩) hS.2.2 dM_arm_35
  · refine lv_iload_n hx hb dM_arm_4 rfl (lv_at hl 1 rfl) ?_
    refine lv_bipush (v := 30) hx hb dM_arm_5 (by decide) ?_
    refine lv_icmp_gt (tgt := 34) hx hb dM_arm_7 (by decide) (fun c_2 => ?_) (fun c_2 => ?_)
    · refine lv_iconst (v := 0) hx hb dM_arm_34 (by decide) ?_
      have hP9 := hP.sub (ws' := [(qm, .inr (3, [.int pl, .int ul, .int pk, .int ac, .int ag, .int pn, .int pt, .int ut, .int en, .int og, .int pw, .int hd, .int tn, .int tk, .int ar, .int dn, .int e0, .int e1]))]) [0] rfl
      have hD9 := hD.sub (ws' := [(qm, .inr (3, [.int pl, .int ul, .int pk, .int ac, .int ag, .int pn, .int pt, .int ut, .int en, .int og, .int pw, .int hd, .int tn, .int tk, .int ar, .int dn, .int e0, .int e1]))]) [0] (by decide) rfl
      have hK9 := hK.sub (tys' := []) [] rfl
      exact W.zret (v := 0) hx hb hr (by first | rfl | decide) (fun t ht hW => ⟨⟨0, (ac, ag, pn, pt, ut, en, og, pw, hd, tn, tk, ar, dn, e0, e1), rfl, (by first | (simp only [mm_arm, if_neg c_1, if_pos c_2, reduceIte, eq_self, tt_n10]; done) | (simp only [mm_arm, c_1, c_2, reduceIte, eq_self, tt_n10]; done) | (simp [mm_arm, c_1, c_2]; done)), by rw [ht]; exact hP9, va_K.moved hW.alike hK9, hD9⟩, hS.F ht⟩) hS.2.2 dM_arm_35
    · refine lv_iload_n hx hb dM_arm_10 rfl (lv_at hl 2 rfl) ?_
      refine lv_if_lt (tgt := 34) hx hb dM_arm_11 (by decide) (fun c_3 => ?_) (fun c_3 => ?_)
      · refine lv_iconst (v := 0) hx hb dM_arm_34 (by decide) ?_
        have hP9 := hP.sub (ws' := [(qm, .inr (3, [.int pl, .int ul, .int pk, .int ac, .int ag, .int pn, .int pt, .int ut, .int en, .int og, .int pw, .int hd, .int tn, .int tk, .int ar, .int dn, .int e0, .int e1]))]) [0] rfl
        have hD9 := hD.sub (ws' := [(qm, .inr (3, [.int pl, .int ul, .int pk, .int ac, .int ag, .int pn, .int pt, .int ut, .int en, .int og, .int pw, .int hd, .int tn, .int tk, .int ar, .int dn, .int e0, .int e1]))]) [0] (by decide) rfl
        have hK9 := hK.sub (tys' := []) [] rfl
        exact W.zret (v := 0) hx hb hr (by first | rfl | decide) (fun t ht hW => ⟨⟨0, (ac, ag, pn, pt, ut, en, og, pw, hd, tn, tk, ar, dn, e0, e1), rfl, (by first | (simp only [mm_arm, if_neg c_1, if_neg c_2, if_pos c_3, reduceIte, eq_self, tt_n10]; done) | (simp only [mm_arm, c_1, c_2, c_3, reduceIte, eq_self, tt_n10]; done) | (simp [mm_arm, c_1, c_2, c_3]; done)), by rw [ht]; exact hP9, va_K.moved hW.alike hK9, hD9⟩, hS.F ht⟩) hS.2.2 dM_arm_35
      · refine lv_iload_n hx hb dM_arm_14 rfl (lv_at hl 2 rfl) ?_
        refine lv_sipush (v := 255) hx hb dM_arm_15 (by decide) ?_
        refine lv_icmp_gt (tgt := 34) hx hb dM_arm_18 (by decide) (fun c_4 => ?_) (fun c_4 => ?_)
        · refine lv_iconst (v := 0) hx hb dM_arm_34 (by decide) ?_
          have hP9 := hP.sub (ws' := [(qm, .inr (3, [.int pl, .int ul, .int pk, .int ac, .int ag, .int pn, .int pt, .int ut, .int en, .int og, .int pw, .int hd, .int tn, .int tk, .int ar, .int dn, .int e0, .int e1]))]) [0] rfl
          have hD9 := hD.sub (ws' := [(qm, .inr (3, [.int pl, .int ul, .int pk, .int ac, .int ag, .int pn, .int pt, .int ut, .int en, .int og, .int pw, .int hd, .int tn, .int tk, .int ar, .int dn, .int e0, .int e1]))]) [0] (by decide) rfl
          have hK9 := hK.sub (tys' := []) [] rfl
          exact W.zret (v := 0) hx hb hr (by first | rfl | decide) (fun t ht hW => ⟨⟨0, (ac, ag, pn, pt, ut, en, og, pw, hd, tn, tk, ar, dn, e0, e1), rfl, (by first | (simp only [mm_arm, if_neg c_1, if_neg c_2, if_neg c_3, if_pos c_4, reduceIte, eq_self, tt_n10]; done) | (simp only [mm_arm, c_1, c_2, c_3, c_4, reduceIte, eq_self, tt_n10]; done) | (simp [mm_arm, c_1, c_2, c_3, c_4]; done)), by rw [ht]; exact hP9, va_K.moved hW.alike hK9, hD9⟩, hS.F ht⟩) hS.2.2 dM_arm_35
        · refine lv_iload_n hx hb dM_arm_21 rfl (lv_at hl 1 rfl) ?_
          refine lv_if_eq (tgt := 36) hx hb dM_arm_22 (by decide) (fun c_5 => ?_) (fun c_5 => ?_)
          · refine lv_aload_n hx hb dM_arm_36 rfl (lv_at hl 0 rfl) ?_
            refine lv_iload_n hx hb dM_arm_37 rfl (lv_at hl 1 rfl) ?_
            refine lv_if_ne (tgt := 48) hx hb dM_arm_38 (by decide) (fun c_6 => ?_) (fun c_6 => ?_)
            · exact absurd c_5 c_6
            · refine lv_aload_n hx hb dM_arm_41 rfl (lv_at hl 0 rfl) ?_
              refine va_get (D := (dC, dI)) (ci := 3) (v := .int ar) (C := RM) (T := TM) (N := 18) hx hb hts (by decide +kernel) hown hK hP 0 rfl rfl 14 (by decide) (hts (.fieldLink RM 83 "TornTryCounterModel" "arms" "I") (by decide +kernel)) (fun _ h9 => h9) rfl dM_arm_42 ?_
              refine lv_goto (tgt := 54) hx hb dM_arm_45 (by decide) ?_
              refine va_put (D := (dC, dI)) (ci := 3) (v := .int ar) (ty := .int) (C := RM) (T := TM) (N := 18) hx hb hts (by decide +kernel) tyM tyM_ok nmM hown hK hP hD hS 0 rfl rfl 14 (by decide) (hts (.fieldLink RM 83 "TornTryCounterModel" "arms" "I") (by decide +kernel)) (fun _ h9 => h9) rfl (by decide +kernel) rfl rfl (Nat.le_of_ble_eq_true rfl) dM_arm_54 (fun H locs hP hD hS => ?_)
              have hP : va_P (dC, dI) ttCl [(qm, .inr (3, [.int pl, .int ul, .int pk, .int ac, .int ag, .int pn, .int pt, .int ut, .int en, .int og, .int pw, .int hd, .int tn, .int tk, .int ar, .int dn, .int e0, .int e1]))] H := hP
              have hD : va_D A [(qm, .inr (3, [.int pl, .int ul, .int pk, .int ac, .int ag, .int pn, .int pt, .int ut, .int en, .int og, .int pw, .int hd, .int tn, .int tk, .int ar, .int dn, .int e0, .int e1]))] := hD
              refine lv_aload_n hx hb dM_arm_57 rfl (lv_at hl 0 rfl) ?_
              refine lv_iload_n hx hb dM_arm_58 rfl (lv_at hl 1 rfl) ?_
              refine va_put (D := (dC, dI)) (ci := 3) (v := .int n) (ty := .int) (C := RM) (T := TM) (N := 18) hx hb hts (by decide +kernel) tyM tyM_ok nmM hown hK hP hD hS 0 rfl rfl 12 (by decide) (hts (.fieldLink RM 33 "TornTryCounterModel" "torn" "I") (by decide +kernel)) (fun _ h9 => h9) rfl (by decide +kernel) rfl rfl (Nat.le_of_ble_eq_true rfl) dM_arm_59 (fun H locs hP hD hS => ?_)
              have hP : va_P (dC, dI) ttCl [(qm, .inr (3, [.int pl, .int ul, .int pk, .int ac, .int ag, .int pn, .int pt, .int ut, .int en, .int og, .int pw, .int hd, .int n, .int tk, .int ar, .int dn, .int e0, .int e1]))] H := hP
              have hD : va_D A [(qm, .inr (3, [.int pl, .int ul, .int pk, .int ac, .int ag, .int pn, .int pt, .int ut, .int en, .int og, .int pw, .int hd, .int n, .int tk, .int ar, .int dn, .int e0, .int e1]))] := hD
              refine lv_aload_n hx hb dM_arm_62 rfl (lv_at hl 0 rfl) ?_
              refine lv_iload_n hx hb dM_arm_63 rfl (lv_at hl 2 rfl) ?_
              refine va_put (D := (dC, dI)) (ci := 3) (v := .int x) (ty := .int) (C := RM) (T := TM) (N := 18) hx hb hts (by decide +kernel) tyM tyM_ok nmM hown hK hP hD hS 0 rfl rfl 13 (by decide) (hts (.fieldLink RM 39 "TornTryCounterModel" "tornMask" "I") (by decide +kernel)) (fun _ h9 => h9) rfl (by decide +kernel) rfl rfl (Nat.le_of_ble_eq_true rfl) dM_arm_64 (fun H locs hP hD hS => ?_)
              have hP : va_P (dC, dI) ttCl [(qm, .inr (3, [.int pl, .int ul, .int pk, .int ac, .int ag, .int pn, .int pt, .int ut, .int en, .int og, .int pw, .int hd, .int n, .int x, .int ar, .int dn, .int e0, .int e1]))] H := hP
              have hD : va_D A [(qm, .inr (3, [.int pl, .int ul, .int pk, .int ac, .int ag, .int pn, .int pt, .int ut, .int en, .int og, .int pw, .int hd, .int n, .int x, .int ar, .int dn, .int e0, .int e1]))] := hD
              refine lv_iconst (v := 1) hx hb dM_arm_67 (by decide) ?_
              have hP9 := hP.sub (ws' := [(qm, .inr (3, [.int pl, .int ul, .int pk, .int ac, .int ag, .int pn, .int pt, .int ut, .int en, .int og, .int pw, .int hd, .int n, .int x, .int ar, .int dn, .int e0, .int e1]))]) [0] rfl
              have hD9 := hD.sub (ws' := [(qm, .inr (3, [.int pl, .int ul, .int pk, .int ac, .int ag, .int pn, .int pt, .int ut, .int en, .int og, .int pw, .int hd, .int n, .int x, .int ar, .int dn, .int e0, .int e1]))]) [0] (by decide) rfl
              have hK9 := hK.sub (tys' := []) [] rfl
              exact W.zret (v := 1) hx hb hr (by first | rfl | decide) (fun t ht hW => ⟨⟨1, (ac, ag, pn, pt, ut, en, og, pw, hd, n, x, ar, dn, e0, e1), rfl, (by first | (simp only [mm_arm, if_neg c_1, if_neg c_2, if_neg c_3, if_neg c_4, if_pos c_5, reduceIte, eq_self, tt_n10]; done) | (simp only [mm_arm, c_1, c_2, c_3, c_4, c_5, reduceIte, eq_self, tt_n10]; done) | (simp [mm_arm, c_1, c_2, c_3, c_4, c_5]; done)), by rw [ht]; exact hP9, va_K.moved hW.alike hK9, hD9⟩, hS.F ht⟩) hS.2.2 dM_arm_68
          · refine lv_aload_n hx hb dM_arm_25 rfl (lv_at hl 0 rfl) ?_
            refine va_get (D := (dC, dI)) (ci := 3) (v := .int ar) (C := RM) (T := TM) (N := 18) hx hb hts (by decide +kernel) hown hK hP 0 rfl rfl 14 (by decide) (hts (.fieldLink RM 83 "TornTryCounterModel" "arms" "I") (by decide +kernel)) (fun _ h9 => h9) rfl dM_arm_26 ?_
            refine lv_bipush (v := 40) hx hb dM_arm_29 (by decide) ?_
            refine lv_icmp_ne (tgt := 36) hx hb dM_arm_31 (by decide) (fun c_7 => ?_) (fun c_7 => ?_)
            · refine lv_aload_n hx hb dM_arm_36 rfl (lv_at hl 0 rfl) ?_
              refine lv_iload_n hx hb dM_arm_37 rfl (lv_at hl 1 rfl) ?_
              refine lv_if_ne (tgt := 48) hx hb dM_arm_38 (by decide) (fun c_8 => ?_) (fun c_8 => ?_)
              · refine lv_aload_n hx hb dM_arm_48 rfl (lv_at hl 0 rfl) ?_
                refine va_get (D := (dC, dI)) (ci := 3) (v := .int ar) (C := RM) (T := TM) (N := 18) hx hb hts (by decide +kernel) hown hK hP 0 rfl rfl 14 (by decide) (hts (.fieldLink RM 83 "TornTryCounterModel" "arms" "I") (by decide +kernel)) (fun _ h9 => h9) rfl dM_arm_49 ?_
                refine lv_iconst (v := 1) hx hb dM_arm_52 (by decide) ?_
                refine lv_iadd hx hb dM_arm_53 ?_
                refine va_put (D := (dC, dI)) (ci := 3) (v := .int (ar + 1)) (ty := .int) (C := RM) (T := TM) (N := 18) hx hb hts (by decide +kernel) tyM tyM_ok nmM hown hK hP hD hS 0 rfl rfl 14 (by decide) (hts (.fieldLink RM 83 "TornTryCounterModel" "arms" "I") (by decide +kernel)) (fun _ h9 => h9) rfl (by decide +kernel) rfl rfl (Nat.le_of_ble_eq_true rfl) dM_arm_54 (fun H locs hP hD hS => ?_)
                have hP : va_P (dC, dI) ttCl [(qm, .inr (3, [.int pl, .int ul, .int pk, .int ac, .int ag, .int pn, .int pt, .int ut, .int en, .int og, .int pw, .int hd, .int tn, .int tk, .int (ar + 1), .int dn, .int e0, .int e1]))] H := hP
                have hD : va_D A [(qm, .inr (3, [.int pl, .int ul, .int pk, .int ac, .int ag, .int pn, .int pt, .int ut, .int en, .int og, .int pw, .int hd, .int tn, .int tk, .int (ar + 1), .int dn, .int e0, .int e1]))] := hD
                refine lv_aload_n hx hb dM_arm_57 rfl (lv_at hl 0 rfl) ?_
                refine lv_iload_n hx hb dM_arm_58 rfl (lv_at hl 1 rfl) ?_
                refine va_put (D := (dC, dI)) (ci := 3) (v := .int n) (ty := .int) (C := RM) (T := TM) (N := 18) hx hb hts (by decide +kernel) tyM tyM_ok nmM hown hK hP hD hS 0 rfl rfl 12 (by decide) (hts (.fieldLink RM 33 "TornTryCounterModel" "torn" "I") (by decide +kernel)) (fun _ h9 => h9) rfl (by decide +kernel) rfl rfl (Nat.le_of_ble_eq_true rfl) dM_arm_59 (fun H locs hP hD hS => ?_)
                have hP : va_P (dC, dI) ttCl [(qm, .inr (3, [.int pl, .int ul, .int pk, .int ac, .int ag, .int pn, .int pt, .int ut, .int en, .int og, .int pw, .int hd, .int n, .int tk, .int (ar + 1), .int dn, .int e0, .int e1]))] H := hP
                have hD : va_D A [(qm, .inr (3, [.int pl, .int ul, .int pk, .int ac, .int ag, .int pn, .int pt, .int ut, .int en, .int og, .int pw, .int hd, .int n, .int tk, .int (ar + 1), .int dn, .int e0, .int e1]))] := hD
                refine lv_aload_n hx hb dM_arm_62 rfl (lv_at hl 0 rfl) ?_
                refine lv_iload_n hx hb dM_arm_63 rfl (lv_at hl 2 rfl) ?_
                refine va_put (D := (dC, dI)) (ci := 3) (v := .int x) (ty := .int) (C := RM) (T := TM) (N := 18) hx hb hts (by decide +kernel) tyM tyM_ok nmM hown hK hP hD hS 0 rfl rfl 13 (by decide) (hts (.fieldLink RM 39 "TornTryCounterModel" "tornMask" "I") (by decide +kernel)) (fun _ h9 => h9) rfl (by decide +kernel) rfl rfl (Nat.le_of_ble_eq_true rfl) dM_arm_64 (fun H locs hP hD hS => ?_)
                have hP : va_P (dC, dI) ttCl [(qm, .inr (3, [.int pl, .int ul, .int pk, .int ac, .int ag, .int pn, .int pt, .int ut, .int en, .int og, .int pw, .int hd, .int n, .int x, .int (ar + 1), .int dn, .int e0, .int e1]))] H := hP
                have hD : va_D A [(qm, .inr (3, [.int pl, .int ul, .int pk, .int ac, .int ag, .int pn, .int pt, .int ut, .int en, .int og, .int pw, .int hd, .int n, .int x, .int (ar + 1), .int dn, .int e0, .int e1]))] := hD
                refine lv_iconst (v := 1) hx hb dM_arm_67 (by decide) ?_
                have hP9 := hP.sub (ws' := [(qm, .inr (3, [.int pl, .int ul, .int pk, .int ac, .int ag, .int pn, .int pt, .int ut, .int en, .int og, .int pw, .int hd, .int n, .int x, .int (ar + 1), .int dn, .int e0, .int e1]))]) [0] rfl
                have hD9 := hD.sub (ws' := [(qm, .inr (3, [.int pl, .int ul, .int pk, .int ac, .int ag, .int pn, .int pt, .int ut, .int en, .int og, .int pw, .int hd, .int n, .int x, .int (ar + 1), .int dn, .int e0, .int e1]))]) [0] (by decide) rfl
                have hK9 := hK.sub (tys' := []) [] rfl
                exact W.zret (v := 1) hx hb hr (by first | rfl | decide) (fun t ht hW => ⟨⟨1, (ac, ag, pn, pt, ut, en, og, pw, hd, n, x, ar + 1, dn, e0, e1), rfl, (by first | (simp only [mm_arm, if_neg c_1, if_neg c_2, if_neg c_3, if_neg c_4, if_neg c_5, if_neg c_7, reduceIte, eq_self, tt_n10]; done) | (simp only [mm_arm, c_1, c_2, c_3, c_4, c_5, c_7, reduceIte, eq_self, tt_n10]; done) | (simp [mm_arm, c_1, c_2, c_3, c_4, c_5, c_7]; done)), by rw [ht]; exact hP9, va_K.moved hW.alike hK9, hD9⟩, hS.F ht⟩) hS.2.2 dM_arm_68
              · exact absurd c_8 c_5
            · refine lv_iconst (v := 0) hx hb dM_arm_34 (by decide) ?_
              have hP9 := hP.sub (ws' := [(qm, .inr (3, [.int pl, .int ul, .int pk, .int ac, .int ag, .int pn, .int pt, .int ut, .int en, .int og, .int pw, .int hd, .int tn, .int tk, .int ar, .int dn, .int e0, .int e1]))]) [0] rfl
              have hD9 := hD.sub (ws' := [(qm, .inr (3, [.int pl, .int ul, .int pk, .int ac, .int ag, .int pn, .int pt, .int ut, .int en, .int og, .int pw, .int hd, .int tn, .int tk, .int ar, .int dn, .int e0, .int e1]))]) [0] (by decide) rfl
              have hK9 := hK.sub (tys' := []) [] rfl
              exact W.zret (v := 0) hx hb hr (by first | rfl | decide) (fun t ht hW => ⟨⟨0, (ac, ag, pn, pt, ut, en, og, pw, hd, tn, tk, ar, dn, e0, e1), rfl, (by first | (simp only [mm_arm, if_neg c_1, if_neg c_2, if_neg c_3, if_neg c_4, if_neg c_5, if_pos c_7, reduceIte, eq_self, tt_n10]; done) | (simp only [mm_arm, c_1, c_2, c_3, c_4, c_5, c_7, reduceIte, eq_self, tt_n10]; done) | (simp [mm_arm, c_1, c_2, c_3, c_4, c_5, c_7]; done)), by rw [ht]; exact hP9, va_K.moved hW.alike hK9, hD9⟩, hS.F ht⟩) hS.2.2 dM_arm_35
set_option maxHeartbeats 4000000 in
set_option maxRecDepth 100000 in
theorem c_M_cut (l : Launch) (dC : Nat → ClassId) (dI : Nat → Nat → Nat) (qm : Nat) (sz : Nat) (pk pl ul ac ag pn pt ut en og pw hd tn tk ar dn e0 e1 : Int32) (hz : narrow .boolean (.int pw) = .int pw) : Met l yM_cut wsM_cut ({ frames := 0, cells := 0, slots := 0, locals := 0 }) (va_Pc [.ref qm] (fun U => U.heap.size = sz ∧ va_P (dC, dI) ttCl [(qm, .inr (3, [.int pl, .int ul, .int pk, .int ac, .int ag, .int pn, .int pt, .int ut, .int en, .int og, .int pw, .int hd, .int tn, .int tk, .int ar, .int dn, .int e0, .int e1]))] U.heap ∧ va_K (dC, dI) ttCl [] U ∧ va_D (fun _ => True) [(qm, .inr (3, [.int pl, .int ul, .int pk, .int ac, .int ag, .int pn, .int pt, .int ut, .int en, .int og, .int pw, .int hd, .int tn, .int tk, .int ar, .int dn, .int e0, .int e1]))])) (va_Qi (fun (r : Int32) (u : tt_M) => mm_cut (ac, ag, pn, pt, ut, en, og, pw, hd, tn, tk, ar, dn, e0, e1) = (r, u)) (fun (u : tt_M) (t : State) => at_M dC dI (va_A [(qm, .inr (3, [.int pl, .int ul, .int pk, .int ac, .int ag, .int pn, .int pt, .int ut, .int en, .int og, .int pw, .int hd, .int tn, .int tk, .int ar, .int dn, .int e0, .int e1]))] sz) qm pk pl ul u t) (va_A [(qm, .inr (3, [.int pl, .int ul, .int pk, .int ac, .int ag, .int pn, .int pt, .int ut, .int en, .int og, .int pw, .int hd, .int tn, .int tk, .int ar, .int dn, .int e0, .int e1]))] sz)) 0 0 (va_A [(qm, .inr (3, [.int pl, .int ul, .int pk, .int ac, .int ag, .int pn, .int pt, .int ut, .int en, .int og, .int pw, .int hd, .int tn, .int tk, .int ar, .int dn, .int e0, .int e1]))] sz) := by
  refine Met.ofW (cc := cM_cut) (maxL := 2) (ret := (some .boolean)) (by decide) rfl ?_
  intro p e s m args below meth c s₁ B hml hv
  obtain ⟨rfl, hsz, hP, hK, hD0⟩ := hv
  have hx := B.exec
  have hb := B.bytes
  have hr := B.returns
  have hts := atoms_spec (ws := wsM_cut) B.pre
  have hown : s.vm.findClass RM = some m.cls := findClass_of_methodNamed B.named
  have hlocks := B.notSynchronized
  subst hsz
  have hD := hD0.self (sz := s.heap.size)
  generalize hAe : va_A [(qm, .inr (3, [.int pl, .int ul, .int pk, .int ac, .int ag, .int pn, .int pt, .int ut, .int en, .int og, .int pw, .int hd, .int tn, .int tk, .int ar, .int dn, .int e0, .int e1]))] s.heap.size = A at hD ⊢
  have hA : ∀ q : Nat, s.heap.size ≤ q → A q := fun q h => by rw [← hAe]; exact Or.inr h
  have hS : va_S A s.heap s.heap [] := va_S.rf
  have hP : va_P (dC, dI) ttCl [(qm, .inr (3, [.int pl, .int ul, .int pk, .int ac, .int ag, .int pn, .int pt, .int ut, .int en, .int og, .int pw, .int hd, .int tn, .int tk, .int ar, .int dn, .int e0, .int e1]))] s.heap := hP
  have hl := lv_entry ([.ref qm]) (n := 2) (Nat.le_of_ble_eq_true rfl)
  rw [lg_entry_eq]
  generalize (lg_sl ([.ref qm]) ++ List.replicate (2 - (lg_sl ([.ref qm])).length) Slot.unset).toArray = ls at hl ⊢
  have hl : lv_has ls 2 [(0, .ref qm)] := hl
  refine lv_aload_n hx hb dM_cut_0 rfl (lv_at hl 0 rfl) ?_
  refine va_get (D := (dC, dI)) (ci := 3) (v := .int pw) (C := RM) (T := TM) (N := 18) hx hb hts (by decide +kernel) hown hK hP 0 rfl rfl 10 (by decide) (hts (.fieldLink RM 13 "TornTryCounterModel" "power" "Z") (by decide +kernel)) (fun _ h9 => h9) rfl dM_cut_1 ?_
  refine lv_istore_n (lv' := [(1, .int pw), (0, .ref qm)]) hx hb dM_cut_4 rfl hl (by decide) rfl (fun ls hl => ?_)
  refine lv_aload_n hx hb dM_cut_5 rfl (lv_at hl 1 rfl) ?_
  refine lv_iconst (v := 0) hx hb dM_cut_6 (by decide) ?_
  refine va_put (D := (dC, dI)) (ci := 3) (v := .int 0) (ty := .boolean) (C := RM) (T := TM) (N := 18) hx hb hts (by decide +kernel) tyM tyM_ok nmM hown hK hP hD hS 0 rfl rfl 10 (by decide) (hts (.fieldLink RM 13 "TornTryCounterModel" "power" "Z") (by decide +kernel)) (fun _ h9 => h9) rfl (by decide +kernel) rfl rfl (Nat.le_of_ble_eq_true rfl) dM_cut_7 (fun H locs hP hD hS => ?_)
  have hP : va_P (dC, dI) ttCl [(qm, .inr (3, [.int pl, .int ul, .int pk, .int ac, .int ag, .int pn, .int pt, .int ut, .int en, .int og, .int 0, .int hd, .int tn, .int tk, .int ar, .int dn, .int e0, .int e1]))] H := hP
  have hD : va_D A [(qm, .inr (3, [.int pl, .int ul, .int pk, .int ac, .int ag, .int pn, .int pt, .int ut, .int en, .int og, .int 0, .int hd, .int tn, .int tk, .int ar, .int dn, .int e0, .int e1]))] := hD
  refine lv_aload_n hx hb dM_cut_10 rfl (lv_at hl 1 rfl) ?_
  refine lv_iconst (v := 0) hx hb dM_cut_11 (by decide) ?_
  refine va_put (D := (dC, dI)) (ci := 3) (v := .int 0) (ty := .boolean) (C := RM) (T := TM) (N := 18) hx hb hts (by decide +kernel) tyM tyM_ok nmM hown hK hP hD hS 0 rfl rfl 11 (by decide) (hts (.fieldLink RM 36 "TornTryCounterModel" "holder" "Z") (by decide +kernel)) (fun _ h9 => h9) rfl (by decide +kernel) rfl rfl (Nat.le_of_ble_eq_true rfl) dM_cut_12 (fun H locs hP hD hS => ?_)
  have hP : va_P (dC, dI) ttCl [(qm, .inr (3, [.int pl, .int ul, .int pk, .int ac, .int ag, .int pn, .int pt, .int ut, .int en, .int og, .int 0, .int 0, .int tn, .int tk, .int ar, .int dn, .int e0, .int e1]))] H := hP
  have hD : va_D A [(qm, .inr (3, [.int pl, .int ul, .int pk, .int ac, .int ag, .int pn, .int pt, .int ut, .int en, .int og, .int 0, .int 0, .int tn, .int tk, .int ar, .int dn, .int e0, .int e1]))] := hD
  refine lv_iload_n hx hb dM_cut_15 rfl (lv_at hl 0 rfl) ?_
  have hP9 := hP.sub (ws' := [(qm, .inr (3, [.int pl, .int ul, .int pk, .int ac, .int ag, .int pn, .int pt, .int ut, .int en, .int og, .int 0, .int 0, .int tn, .int tk, .int ar, .int dn, .int e0, .int e1]))]) [0] rfl
  have hD9 := hD.sub (ws' := [(qm, .inr (3, [.int pl, .int ul, .int pk, .int ac, .int ag, .int pn, .int pt, .int ut, .int en, .int og, .int 0, .int 0, .int tn, .int tk, .int ar, .int dn, .int e0, .int e1]))]) [0] (by decide) rfl
  have hK9 := hK.sub (tys' := []) [] rfl
  exact W.zret (v := pw) hx hb hr hz (fun t ht hW => ⟨⟨pw, (ac, ag, pn, pt, ut, en, og, 0, 0, tn, tk, ar, dn, e0, e1), rfl, (by first | (simp only [mm_cut, reduceIte, eq_self, tt_n10]; done) | (simp only [mm_cut, reduceIte, eq_self, tt_n10]; done) | (simp [mm_cut]; done)), by rw [ht]; exact hP9, va_K.moved hW.alike hK9, hD9⟩, hS.F ht⟩) hS.2.2 dM_cut_16
set_option maxHeartbeats 4000000 in
set_option maxRecDepth 100000 in
theorem c_M_start (l : Launch) (dC : Nat → ClassId) (dI : Nat → Nat → Nat) (qm : Nat) (sz : Nat) (pk pl ul ac ag pn pt ut en og pw hd tn tk ar dn e0 e1 : Int32) : Met l yM_start wsM_start ({ frames := 0, cells := 0, slots := 0, locals := 0 }) (va_Pc [.ref qm] (fun U => U.heap.size = sz ∧ va_P (dC, dI) ttCl [(qm, .inr (3, [.int pl, .int ul, .int pk, .int ac, .int ag, .int pn, .int pt, .int ut, .int en, .int og, .int pw, .int hd, .int tn, .int tk, .int ar, .int dn, .int e0, .int e1]))] U.heap ∧ va_K (dC, dI) ttCl [] U ∧ va_D (fun _ => True) [(qm, .inr (3, [.int pl, .int ul, .int pk, .int ac, .int ag, .int pn, .int pt, .int ut, .int en, .int og, .int pw, .int hd, .int tn, .int tk, .int ar, .int dn, .int e0, .int e1]))])) (va_Qi (fun (r : Int32) (u : tt_M) => mm_start (ac, ag, pn, pt, ut, en, og, pw, hd, tn, tk, ar, dn, e0, e1) = (r, u)) (fun (u : tt_M) (t : State) => at_M dC dI (va_A [(qm, .inr (3, [.int pl, .int ul, .int pk, .int ac, .int ag, .int pn, .int pt, .int ut, .int en, .int og, .int pw, .int hd, .int tn, .int tk, .int ar, .int dn, .int e0, .int e1]))] sz) qm pk pl ul u t) (va_A [(qm, .inr (3, [.int pl, .int ul, .int pk, .int ac, .int ag, .int pn, .int pt, .int ut, .int en, .int og, .int pw, .int hd, .int tn, .int tk, .int ar, .int dn, .int e0, .int e1]))] sz)) 0 0 (va_A [(qm, .inr (3, [.int pl, .int ul, .int pk, .int ac, .int ag, .int pn, .int pt, .int ut, .int en, .int og, .int pw, .int hd, .int tn, .int tk, .int ar, .int dn, .int e0, .int e1]))] sz) := by
  refine Met.ofW (cc := cM_start) (maxL := 2) (ret := (some .boolean)) (by decide) rfl ?_
  intro p e s m args below meth c s₁ B hml hv
  obtain ⟨rfl, hsz, hP, hK, hD0⟩ := hv
  have hx := B.exec
  have hb := B.bytes
  have hr := B.returns
  have hts := atoms_spec (ws := wsM_start) B.pre
  have hown : s.vm.findClass RM = some m.cls := findClass_of_methodNamed B.named
  have hlocks := B.notSynchronized
  subst hsz
  have hD := hD0.self (sz := s.heap.size)
  generalize hAe : va_A [(qm, .inr (3, [.int pl, .int ul, .int pk, .int ac, .int ag, .int pn, .int pt, .int ut, .int en, .int og, .int pw, .int hd, .int tn, .int tk, .int ar, .int dn, .int e0, .int e1]))] s.heap.size = A at hD ⊢
  have hA : ∀ q : Nat, s.heap.size ≤ q → A q := fun q h => by rw [← hAe]; exact Or.inr h
  have hS : va_S A s.heap s.heap [] := va_S.rf
  have hP : va_P (dC, dI) ttCl [(qm, .inr (3, [.int pl, .int ul, .int pk, .int ac, .int ag, .int pn, .int pt, .int ut, .int en, .int og, .int pw, .int hd, .int tn, .int tk, .int ar, .int dn, .int e0, .int e1]))] s.heap := hP
  have hl := lv_entry ([.ref qm]) (n := 2) (Nat.le_of_ble_eq_true rfl)
  rw [lg_entry_eq]
  generalize (lg_sl ([.ref qm]) ++ List.replicate (2 - (lg_sl ([.ref qm])).length) Slot.unset).toArray = ls at hl ⊢
  have hl : lv_has ls 2 [(0, .ref qm)] := hl
  refine lv_aload_n hx hb dM_start_0 rfl (lv_at hl 0 rfl) ?_
  refine va_get (D := (dC, dI)) (ci := 3) (v := .int pw) (C := RM) (T := TM) (N := 18) hx hb hts (by decide +kernel) hown hK hP 0 rfl rfl 10 (by decide) (hts (.fieldLink RM 13 "TornTryCounterModel" "power" "Z") (by decide +kernel)) (fun _ h9 => h9) rfl dM_start_1 ?_
  refine lv_istore_n (lv' := [(1, .int pw), (0, .ref qm)]) hx hb dM_start_4 rfl hl (by decide) rfl (fun ls hl => ?_)
  refine lv_aload_n hx hb dM_start_5 rfl (lv_at hl 1 rfl) ?_
  refine lv_iconst (v := 1) hx hb dM_start_6 (by decide) ?_
  refine va_put (D := (dC, dI)) (ci := 3) (v := .int 1) (ty := .boolean) (C := RM) (T := TM) (N := 18) hx hb hts (by decide +kernel) tyM tyM_ok nmM hown hK hP hD hS 0 rfl rfl 10 (by decide) (hts (.fieldLink RM 13 "TornTryCounterModel" "power" "Z") (by decide +kernel)) (fun _ h9 => h9) rfl (by decide +kernel) rfl rfl (Nat.le_of_ble_eq_true rfl) dM_start_7 (fun H locs hP hD hS => ?_)
  have hP : va_P (dC, dI) ttCl [(qm, .inr (3, [.int pl, .int ul, .int pk, .int ac, .int ag, .int pn, .int pt, .int ut, .int en, .int og, .int 1, .int hd, .int tn, .int tk, .int ar, .int dn, .int e0, .int e1]))] H := hP
  have hD : va_D A [(qm, .inr (3, [.int pl, .int ul, .int pk, .int ac, .int ag, .int pn, .int pt, .int ut, .int en, .int og, .int 1, .int hd, .int tn, .int tk, .int ar, .int dn, .int e0, .int e1]))] := hD
  refine lv_iload_n hx hb dM_start_10 rfl (lv_at hl 0 rfl) ?_
  refine lv_if_ne (tgt := 18) hx hb dM_start_11 (by decide) (fun c_1 => ?_) (fun c_1 => ?_)
  · refine lv_iconst (v := 0) hx hb dM_start_18 (by decide) ?_
    have hP9 := hP.sub (ws' := [(qm, .inr (3, [.int pl, .int ul, .int pk, .int ac, .int ag, .int pn, .int pt, .int ut, .int en, .int og, .int 1, .int hd, .int tn, .int tk, .int ar, .int dn, .int e0, .int e1]))]) [0] rfl
    have hD9 := hD.sub (ws' := [(qm, .inr (3, [.int pl, .int ul, .int pk, .int ac, .int ag, .int pn, .int pt, .int ut, .int en, .int og, .int 1, .int hd, .int tn, .int tk, .int ar, .int dn, .int e0, .int e1]))]) [0] (by decide) rfl
    have hK9 := hK.sub (tys' := []) [] rfl
    exact W.zret (v := 0) hx hb hr (by first | rfl | decide) (fun t ht hW => ⟨⟨0, (ac, ag, pn, pt, ut, en, og, 1, hd, tn, tk, ar, dn, e0, e1), rfl, (by first | (simp only [mm_start, if_neg c_1, reduceIte, eq_self, tt_n10]; done) | (simp only [mm_start, c_1, reduceIte, eq_self, tt_n10]; done) | (simp [mm_start, c_1]; done)), by rw [ht]; exact hP9, va_K.moved hW.alike hK9, hD9⟩, hS.F ht⟩) hS.2.2 dM_start_19
  · refine lv_iconst (v := 1) hx hb dM_start_14 (by decide) ?_
    refine lv_goto (tgt := 19) hx hb dM_start_15 (by decide) ?_
    have hP9 := hP.sub (ws' := [(qm, .inr (3, [.int pl, .int ul, .int pk, .int ac, .int ag, .int pn, .int pt, .int ut, .int en, .int og, .int 1, .int hd, .int tn, .int tk, .int ar, .int dn, .int e0, .int e1]))]) [0] rfl
    have hD9 := hD.sub (ws' := [(qm, .inr (3, [.int pl, .int ul, .int pk, .int ac, .int ag, .int pn, .int pt, .int ut, .int en, .int og, .int 1, .int hd, .int tn, .int tk, .int ar, .int dn, .int e0, .int e1]))]) [0] (by decide) rfl
    have hK9 := hK.sub (tys' := []) [] rfl
    exact W.zret (v := 1) hx hb hr (by first | rfl | decide) (fun t ht hW => ⟨⟨1, (ac, ag, pn, pt, ut, en, og, 1, hd, tn, tk, ar, dn, e0, e1), rfl, (by first | (simp only [mm_start, if_pos c_1, reduceIte, eq_self, tt_n10]; done) | (simp only [mm_start, c_1, reduceIte, eq_self, tt_n10]; done) | (simp [mm_start, c_1]; done)), by rw [ht]; exact hP9, va_K.moved hW.alike hK9, hD9⟩, hS.F ht⟩) hS.2.2 dM_start_19
set_option maxHeartbeats 4000000 in
set_option maxRecDepth 100000 in
theorem c_M_in (l : Launch) (dC : Nat → ClassId) (dI : Nat → Nat → Nat) (qm : Nat) (sz : Nat) (pk pl ul ac ag pn pt ut en og pw hd tn tk ar dn e0 e1 : Int32) (hz : narrow .boolean (.int hd) = .int hd) : Met l yM_in wsM_in ({ frames := 0, cells := 0, slots := 0, locals := 0 }) (va_Pc [.ref qm] (fun U => U.heap.size = sz ∧ va_P (dC, dI) ttCl [(qm, .inr (3, [.int pl, .int ul, .int pk, .int ac, .int ag, .int pn, .int pt, .int ut, .int en, .int og, .int pw, .int hd, .int tn, .int tk, .int ar, .int dn, .int e0, .int e1]))] U.heap ∧ va_K (dC, dI) ttCl [] U ∧ va_D (fun _ => True) [(qm, .inr (3, [.int pl, .int ul, .int pk, .int ac, .int ag, .int pn, .int pt, .int ut, .int en, .int og, .int pw, .int hd, .int tn, .int tk, .int ar, .int dn, .int e0, .int e1]))])) (va_Qi (fun (r : Int32) (_ : Unit) => r = hd) (fun (_ : Unit) (t : State) => at_M dC dI (va_A [(qm, .inr (3, [.int pl, .int ul, .int pk, .int ac, .int ag, .int pn, .int pt, .int ut, .int en, .int og, .int pw, .int hd, .int tn, .int tk, .int ar, .int dn, .int e0, .int e1]))] sz) qm pk pl ul (ac, ag, pn, pt, ut, en, og, pw, hd, tn, tk, ar, dn, e0, e1) t) (va_A [(qm, .inr (3, [.int pl, .int ul, .int pk, .int ac, .int ag, .int pn, .int pt, .int ut, .int en, .int og, .int pw, .int hd, .int tn, .int tk, .int ar, .int dn, .int e0, .int e1]))] sz)) 0 0 (va_A [(qm, .inr (3, [.int pl, .int ul, .int pk, .int ac, .int ag, .int pn, .int pt, .int ut, .int en, .int og, .int pw, .int hd, .int tn, .int tk, .int ar, .int dn, .int e0, .int e1]))] sz) := by
  refine Met.ofW (cc := cM_in) (maxL := 1) (ret := (some .boolean)) (by decide) rfl ?_
  intro p e s m args below meth c s₁ B hml hv
  obtain ⟨rfl, hsz, hP, hK, hD0⟩ := hv
  have hx := B.exec
  have hb := B.bytes
  have hr := B.returns
  have hts := atoms_spec (ws := wsM_in) B.pre
  have hown : s.vm.findClass RM = some m.cls := findClass_of_methodNamed B.named
  have hlocks := B.notSynchronized
  subst hsz
  have hD := hD0.self (sz := s.heap.size)
  generalize hAe : va_A [(qm, .inr (3, [.int pl, .int ul, .int pk, .int ac, .int ag, .int pn, .int pt, .int ut, .int en, .int og, .int pw, .int hd, .int tn, .int tk, .int ar, .int dn, .int e0, .int e1]))] s.heap.size = A at hD ⊢
  have hA : ∀ q : Nat, s.heap.size ≤ q → A q := fun q h => by rw [← hAe]; exact Or.inr h
  have hS : va_S A s.heap s.heap [] := va_S.rf
  have hP : va_P (dC, dI) ttCl [(qm, .inr (3, [.int pl, .int ul, .int pk, .int ac, .int ag, .int pn, .int pt, .int ut, .int en, .int og, .int pw, .int hd, .int tn, .int tk, .int ar, .int dn, .int e0, .int e1]))] s.heap := hP
  have hl := lv_entry ([.ref qm]) (n := 1) (Nat.le_of_ble_eq_true rfl)
  rw [lg_entry_eq]
  generalize (lg_sl ([.ref qm]) ++ List.replicate (1 - (lg_sl ([.ref qm])).length) Slot.unset).toArray = ls at hl ⊢
  have hl : lv_has ls 1 [(0, .ref qm)] := hl
  refine lv_aload_n hx hb dM_in_0 rfl (lv_at hl 0 rfl) ?_
  refine va_get (D := (dC, dI)) (ci := 3) (v := .int hd) (C := RM) (T := TM) (N := 18) hx hb hts (by decide +kernel) hown hK hP 0 rfl rfl 11 (by decide) (hts (.fieldLink RM 36 "TornTryCounterModel" "holder" "Z") (by decide +kernel)) (fun _ h9 => h9) rfl dM_in_1 ?_
  have hP9 := hP.sub (ws' := [(qm, .inr (3, [.int pl, .int ul, .int pk, .int ac, .int ag, .int pn, .int pt, .int ut, .int en, .int og, .int pw, .int hd, .int tn, .int tk, .int ar, .int dn, .int e0, .int e1]))]) [0] rfl
  have hD9 := hD.sub (ws' := [(qm, .inr (3, [.int pl, .int ul, .int pk, .int ac, .int ag, .int pn, .int pt, .int ut, .int en, .int og, .int pw, .int hd, .int tn, .int tk, .int ar, .int dn, .int e0, .int e1]))]) [0] (by decide) rfl
  have hK9 := hK.sub (tys' := []) [] rfl
  exact W.zret (v := hd) hx hb hr hz (fun t ht hW => ⟨⟨hd, (), rfl, rfl, by rw [ht]; exact hP9, va_K.moved hW.alike hK9, hD9⟩, hS.F ht⟩) hS.2.2 dM_in_4
set_option maxHeartbeats 4000000 in
set_option maxRecDepth 100000 in
theorem c_M_up (l : Launch) (dC : Nat → ClassId) (dI : Nat → Nat → Nat) (qm : Nat) (sz : Nat) (pk pl ul ac ag pn pt ut en og pw hd tn tk ar dn e0 e1 : Int32) (hz : narrow .boolean (.int pw) = .int pw) : Met l yM_up wsM_up ({ frames := 0, cells := 0, slots := 0, locals := 0 }) (va_Pc [.ref qm] (fun U => U.heap.size = sz ∧ va_P (dC, dI) ttCl [(qm, .inr (3, [.int pl, .int ul, .int pk, .int ac, .int ag, .int pn, .int pt, .int ut, .int en, .int og, .int pw, .int hd, .int tn, .int tk, .int ar, .int dn, .int e0, .int e1]))] U.heap ∧ va_K (dC, dI) ttCl [] U ∧ va_D (fun _ => True) [(qm, .inr (3, [.int pl, .int ul, .int pk, .int ac, .int ag, .int pn, .int pt, .int ut, .int en, .int og, .int pw, .int hd, .int tn, .int tk, .int ar, .int dn, .int e0, .int e1]))])) (va_Qi (fun (r : Int32) (_ : Unit) => r = pw) (fun (_ : Unit) (t : State) => at_M dC dI (va_A [(qm, .inr (3, [.int pl, .int ul, .int pk, .int ac, .int ag, .int pn, .int pt, .int ut, .int en, .int og, .int pw, .int hd, .int tn, .int tk, .int ar, .int dn, .int e0, .int e1]))] sz) qm pk pl ul (ac, ag, pn, pt, ut, en, og, pw, hd, tn, tk, ar, dn, e0, e1) t) (va_A [(qm, .inr (3, [.int pl, .int ul, .int pk, .int ac, .int ag, .int pn, .int pt, .int ut, .int en, .int og, .int pw, .int hd, .int tn, .int tk, .int ar, .int dn, .int e0, .int e1]))] sz)) 0 0 (va_A [(qm, .inr (3, [.int pl, .int ul, .int pk, .int ac, .int ag, .int pn, .int pt, .int ut, .int en, .int og, .int pw, .int hd, .int tn, .int tk, .int ar, .int dn, .int e0, .int e1]))] sz) := by
  refine Met.ofW (cc := cM_up) (maxL := 1) (ret := (some .boolean)) (by decide) rfl ?_
  intro p e s m args below meth c s₁ B hml hv
  obtain ⟨rfl, hsz, hP, hK, hD0⟩ := hv
  have hx := B.exec
  have hb := B.bytes
  have hr := B.returns
  have hts := atoms_spec (ws := wsM_up) B.pre
  have hown : s.vm.findClass RM = some m.cls := findClass_of_methodNamed B.named
  have hlocks := B.notSynchronized
  subst hsz
  have hD := hD0.self (sz := s.heap.size)
  generalize hAe : va_A [(qm, .inr (3, [.int pl, .int ul, .int pk, .int ac, .int ag, .int pn, .int pt, .int ut, .int en, .int og, .int pw, .int hd, .int tn, .int tk, .int ar, .int dn, .int e0, .int e1]))] s.heap.size = A at hD ⊢
  have hA : ∀ q : Nat, s.heap.size ≤ q → A q := fun q h => by rw [← hAe]; exact Or.inr h
  have hS : va_S A s.heap s.heap [] := va_S.rf
  have hP : va_P (dC, dI) ttCl [(qm, .inr (3, [.int pl, .int ul, .int pk, .int ac, .int ag, .int pn, .int pt, .int ut, .int en, .int og, .int pw, .int hd, .int tn, .int tk, .int ar, .int dn, .int e0, .int e1]))] s.heap := hP
  have hl := lv_entry ([.ref qm]) (n := 1) (Nat.le_of_ble_eq_true rfl)
  rw [lg_entry_eq]
  generalize (lg_sl ([.ref qm]) ++ List.replicate (1 - (lg_sl ([.ref qm])).length) Slot.unset).toArray = ls at hl ⊢
  have hl : lv_has ls 1 [(0, .ref qm)] := hl
  refine lv_aload_n hx hb dM_up_0 rfl (lv_at hl 0 rfl) ?_
  refine va_get (D := (dC, dI)) (ci := 3) (v := .int pw) (C := RM) (T := TM) (N := 18) hx hb hts (by decide +kernel) hown hK hP 0 rfl rfl 10 (by decide) (hts (.fieldLink RM 13 "TornTryCounterModel" "power" "Z") (by decide +kernel)) (fun _ h9 => h9) rfl dM_up_1 ?_
  have hP9 := hP.sub (ws' := [(qm, .inr (3, [.int pl, .int ul, .int pk, .int ac, .int ag, .int pn, .int pt, .int ut, .int en, .int og, .int pw, .int hd, .int tn, .int tk, .int ar, .int dn, .int e0, .int e1]))]) [0] rfl
  have hD9 := hD.sub (ws' := [(qm, .inr (3, [.int pl, .int ul, .int pk, .int ac, .int ag, .int pn, .int pt, .int ut, .int en, .int og, .int pw, .int hd, .int tn, .int tk, .int ar, .int dn, .int e0, .int e1]))]) [0] (by decide) rfl
  have hK9 := hK.sub (tys' := []) [] rfl
  exact W.zret (v := pw) hx hb hr hz (fun t ht hW => ⟨⟨pw, (), rfl, rfl, by rw [ht]; exact hP9, va_K.moved hW.alike hK9, hD9⟩, hS.F ht⟩) hS.2.2 dM_up_4
set_option maxHeartbeats 4000000 in
set_option maxRecDepth 100000 in
theorem c_M_tries (l : Launch) (dC : Nat → ClassId) (dI : Nat → Nat → Nat) (qm : Nat) (sz : Nat) (pk pl ul ac ag pn pt ut en og pw hd tn tk ar dn e0 e1 : Int32) : Met l yM_tries wsM_tries ({ frames := 0, cells := 0, slots := 0, locals := 0 }) (va_Pc [.ref qm] (fun U => U.heap.size = sz ∧ va_P (dC, dI) ttCl [(qm, .inr (3, [.int pl, .int ul, .int pk, .int ac, .int ag, .int pn, .int pt, .int ut, .int en, .int og, .int pw, .int hd, .int tn, .int tk, .int ar, .int dn, .int e0, .int e1]))] U.heap ∧ va_K (dC, dI) ttCl [] U ∧ va_D (fun _ => True) [(qm, .inr (3, [.int pl, .int ul, .int pk, .int ac, .int ag, .int pn, .int pt, .int ut, .int en, .int og, .int pw, .int hd, .int tn, .int tk, .int ar, .int dn, .int e0, .int e1]))])) (va_Qi (fun (r : Int32) (_ : Unit) => r = if pl ≤ pt then 0 else pl - pt) (fun (_ : Unit) (t : State) => at_M dC dI (va_A [(qm, .inr (3, [.int pl, .int ul, .int pk, .int ac, .int ag, .int pn, .int pt, .int ut, .int en, .int og, .int pw, .int hd, .int tn, .int tk, .int ar, .int dn, .int e0, .int e1]))] sz) qm pk pl ul (ac, ag, pn, pt, ut, en, og, pw, hd, tn, tk, ar, dn, e0, e1) t) (va_A [(qm, .inr (3, [.int pl, .int ul, .int pk, .int ac, .int ag, .int pn, .int pt, .int ut, .int en, .int og, .int pw, .int hd, .int tn, .int tk, .int ar, .int dn, .int e0, .int e1]))] sz)) 0 0 (va_A [(qm, .inr (3, [.int pl, .int ul, .int pk, .int ac, .int ag, .int pn, .int pt, .int ut, .int en, .int og, .int pw, .int hd, .int tn, .int tk, .int ar, .int dn, .int e0, .int e1]))] sz) := by
  refine Met.ofW (cc := cM_tries) (maxL := 1) (ret := (some .int)) (by decide) rfl ?_
  intro p e s m args below meth c s₁ B hml hv
  obtain ⟨rfl, hsz, hP, hK, hD0⟩ := hv
  have hx := B.exec
  have hb := B.bytes
  have hr := B.returns
  have hts := atoms_spec (ws := wsM_tries) B.pre
  have hown : s.vm.findClass RM = some m.cls := findClass_of_methodNamed B.named
  have hlocks := B.notSynchronized
  subst hsz
  have hD := hD0.self (sz := s.heap.size)
  generalize hAe : va_A [(qm, .inr (3, [.int pl, .int ul, .int pk, .int ac, .int ag, .int pn, .int pt, .int ut, .int en, .int og, .int pw, .int hd, .int tn, .int tk, .int ar, .int dn, .int e0, .int e1]))] s.heap.size = A at hD ⊢
  have hA : ∀ q : Nat, s.heap.size ≤ q → A q := fun q h => by rw [← hAe]; exact Or.inr h
  have hS : va_S A s.heap s.heap [] := va_S.rf
  have hP : va_P (dC, dI) ttCl [(qm, .inr (3, [.int pl, .int ul, .int pk, .int ac, .int ag, .int pn, .int pt, .int ut, .int en, .int og, .int pw, .int hd, .int tn, .int tk, .int ar, .int dn, .int e0, .int e1]))] s.heap := hP
  have hl := lv_entry ([.ref qm]) (n := 1) (Nat.le_of_ble_eq_true rfl)
  rw [lg_entry_eq]
  generalize (lg_sl ([.ref qm]) ++ List.replicate (1 - (lg_sl ([.ref qm])).length) Slot.unset).toArray = ls at hl ⊢
  have hl : lv_has ls 1 [(0, .ref qm)] := hl
  refine lv_aload_n hx hb dM_tries_0 rfl (lv_at hl 0 rfl) ?_
  refine va_get (D := (dC, dI)) (ci := 3) (v := .int pt) (C := RM) (T := TM) (N := 18) hx hb hts (by decide +kernel) hown hK hP 0 rfl rfl 6 (by decide) (hts (.fieldLink RM 65 "TornTryCounterModel" "pinTries" "I") (by decide +kernel)) (fun _ h9 => h9) rfl dM_tries_1 ?_
  refine lv_aload_n hx hb dM_tries_4 rfl (lv_at hl 0 rfl) ?_
  refine va_get (D := (dC, dI)) (ci := 3) (v := .int pl) (C := RM) (T := TM) (N := 18) hx hb hts (by decide +kernel) hown hK hP 0 rfl rfl 0 (by decide) (hts (.fieldLink RM 24 "TornTryCounterModel" "pinLimit" "I") (by decide +kernel)) (fun _ h9 => h9) rfl dM_tries_5 ?_
  refine lv_icmp_ge (tgt := 23) hx hb dM_tries_8 (by decide) (fun c_1 => ?_) (fun c_1 => ?_)
  · refine lv_iconst (v := 0) hx hb dM_tries_23 (by decide) ?_
    have hP9 := hP.sub (ws' := [(qm, .inr (3, [.int pl, .int ul, .int pk, .int ac, .int ag, .int pn, .int pt, .int ut, .int en, .int og, .int pw, .int hd, .int tn, .int tk, .int ar, .int dn, .int e0, .int e1]))]) [0] rfl
    have hD9 := hD.sub (ws' := [(qm, .inr (3, [.int pl, .int ul, .int pk, .int ac, .int ag, .int pn, .int pt, .int ut, .int en, .int og, .int pw, .int hd, .int tn, .int tk, .int ar, .int dn, .int e0, .int e1]))]) [0] (by decide) rfl
    have hK9 := hK.sub (tys' := []) [] rfl
    exact W.iret (v := 0) hx hb hr (fun t ht hW => ⟨⟨0, (), rfl, (by first | (simp only [if_pos c_1, reduceIte, eq_self, tt_n10]; done) | (simp only [c_1, reduceIte, eq_self, tt_n10]; done) | (simp [c_1]; done)), by rw [ht]; exact hP9, va_K.moved hW.alike hK9, hD9⟩, hS.F ht⟩) hS.2.2 dM_tries_24
  · refine lv_aload_n hx hb dM_tries_11 rfl (lv_at hl 0 rfl) ?_
    refine va_get (D := (dC, dI)) (ci := 3) (v := .int pl) (C := RM) (T := TM) (N := 18) hx hb hts (by decide +kernel) hown hK hP 0 rfl rfl 0 (by decide) (hts (.fieldLink RM 24 "TornTryCounterModel" "pinLimit" "I") (by decide +kernel)) (fun _ h9 => h9) rfl dM_tries_12 ?_
    refine lv_aload_n hx hb dM_tries_15 rfl (lv_at hl 0 rfl) ?_
    refine va_get (D := (dC, dI)) (ci := 3) (v := .int pt) (C := RM) (T := TM) (N := 18) hx hb hts (by decide +kernel) hown hK hP 0 rfl rfl 6 (by decide) (hts (.fieldLink RM 65 "TornTryCounterModel" "pinTries" "I") (by decide +kernel)) (fun _ h9 => h9) rfl dM_tries_16 ?_
    refine lv_isub hx hb dM_tries_19 ?_
    refine lv_goto (tgt := 24) hx hb dM_tries_20 (by decide) ?_
    have hP9 := hP.sub (ws' := [(qm, .inr (3, [.int pl, .int ul, .int pk, .int ac, .int ag, .int pn, .int pt, .int ut, .int en, .int og, .int pw, .int hd, .int tn, .int tk, .int ar, .int dn, .int e0, .int e1]))]) [0] rfl
    have hD9 := hD.sub (ws' := [(qm, .inr (3, [.int pl, .int ul, .int pk, .int ac, .int ag, .int pn, .int pt, .int ut, .int en, .int og, .int pw, .int hd, .int tn, .int tk, .int ar, .int dn, .int e0, .int e1]))]) [0] (by decide) rfl
    have hK9 := hK.sub (tys' := []) [] rfl
    exact W.iret (v := pl - pt) hx hb hr (fun t ht hW => ⟨⟨pl - pt, (), rfl, (by first | (simp only [if_neg c_1, reduceIte, eq_self, tt_n10]; done) | (simp only [c_1, reduceIte, eq_self, tt_n10]; done) | (simp [c_1]; done)), by rw [ht]; exact hP9, va_K.moved hW.alike hK9, hD9⟩, hS.F ht⟩) hS.2.2 dM_tries_24
set_option maxHeartbeats 4000000 in
set_option maxRecDepth 100000 in
theorem c_M_puks (l : Launch) (dC : Nat → ClassId) (dI : Nat → Nat → Nat) (qm : Nat) (sz : Nat) (pk pl ul ac ag pn pt ut en og pw hd tn tk ar dn e0 e1 : Int32) : Met l yM_puks wsM_puks ({ frames := 0, cells := 0, slots := 0, locals := 0 }) (va_Pc [.ref qm] (fun U => U.heap.size = sz ∧ va_P (dC, dI) ttCl [(qm, .inr (3, [.int pl, .int ul, .int pk, .int ac, .int ag, .int pn, .int pt, .int ut, .int en, .int og, .int pw, .int hd, .int tn, .int tk, .int ar, .int dn, .int e0, .int e1]))] U.heap ∧ va_K (dC, dI) ttCl [] U ∧ va_D (fun _ => True) [(qm, .inr (3, [.int pl, .int ul, .int pk, .int ac, .int ag, .int pn, .int pt, .int ut, .int en, .int og, .int pw, .int hd, .int tn, .int tk, .int ar, .int dn, .int e0, .int e1]))])) (va_Qi (fun (r : Int32) (_ : Unit) => r = if ul ≤ ut then 0 else ul - ut) (fun (_ : Unit) (t : State) => at_M dC dI (va_A [(qm, .inr (3, [.int pl, .int ul, .int pk, .int ac, .int ag, .int pn, .int pt, .int ut, .int en, .int og, .int pw, .int hd, .int tn, .int tk, .int ar, .int dn, .int e0, .int e1]))] sz) qm pk pl ul (ac, ag, pn, pt, ut, en, og, pw, hd, tn, tk, ar, dn, e0, e1) t) (va_A [(qm, .inr (3, [.int pl, .int ul, .int pk, .int ac, .int ag, .int pn, .int pt, .int ut, .int en, .int og, .int pw, .int hd, .int tn, .int tk, .int ar, .int dn, .int e0, .int e1]))] sz)) 0 0 (va_A [(qm, .inr (3, [.int pl, .int ul, .int pk, .int ac, .int ag, .int pn, .int pt, .int ut, .int en, .int og, .int pw, .int hd, .int tn, .int tk, .int ar, .int dn, .int e0, .int e1]))] sz) := by
  refine Met.ofW (cc := cM_puks) (maxL := 1) (ret := (some .int)) (by decide) rfl ?_
  intro p e s m args below meth c s₁ B hml hv
  obtain ⟨rfl, hsz, hP, hK, hD0⟩ := hv
  have hx := B.exec
  have hb := B.bytes
  have hr := B.returns
  have hts := atoms_spec (ws := wsM_puks) B.pre
  have hown : s.vm.findClass RM = some m.cls := findClass_of_methodNamed B.named
  have hlocks := B.notSynchronized
  subst hsz
  have hD := hD0.self (sz := s.heap.size)
  generalize hAe : va_A [(qm, .inr (3, [.int pl, .int ul, .int pk, .int ac, .int ag, .int pn, .int pt, .int ut, .int en, .int og, .int pw, .int hd, .int tn, .int tk, .int ar, .int dn, .int e0, .int e1]))] s.heap.size = A at hD ⊢
  have hA : ∀ q : Nat, s.heap.size ≤ q → A q := fun q h => by rw [← hAe]; exact Or.inr h
  have hS : va_S A s.heap s.heap [] := va_S.rf
  have hP : va_P (dC, dI) ttCl [(qm, .inr (3, [.int pl, .int ul, .int pk, .int ac, .int ag, .int pn, .int pt, .int ut, .int en, .int og, .int pw, .int hd, .int tn, .int tk, .int ar, .int dn, .int e0, .int e1]))] s.heap := hP
  have hl := lv_entry ([.ref qm]) (n := 1) (Nat.le_of_ble_eq_true rfl)
  rw [lg_entry_eq]
  generalize (lg_sl ([.ref qm]) ++ List.replicate (1 - (lg_sl ([.ref qm])).length) Slot.unset).toArray = ls at hl ⊢
  have hl : lv_has ls 1 [(0, .ref qm)] := hl
  refine lv_aload_n hx hb dM_puks_0 rfl (lv_at hl 0 rfl) ?_
  refine va_get (D := (dC, dI)) (ci := 3) (v := .int ut) (C := RM) (T := TM) (N := 18) hx hb hts (by decide +kernel) hown hK hP 0 rfl rfl 7 (by decide) (hts (.fieldLink RM 68 "TornTryCounterModel" "pukTries" "I") (by decide +kernel)) (fun _ h9 => h9) rfl dM_puks_1 ?_
  refine lv_aload_n hx hb dM_puks_4 rfl (lv_at hl 0 rfl) ?_
  refine va_get (D := (dC, dI)) (ci := 3) (v := .int ul) (C := RM) (T := TM) (N := 18) hx hb hts (by decide +kernel) hown hK hP 0 rfl rfl 1 (by decide) (hts (.fieldLink RM 27 "TornTryCounterModel" "pukLimit" "I") (by decide +kernel)) (fun _ h9 => h9) rfl dM_puks_5 ?_
  refine lv_icmp_ge (tgt := 23) hx hb dM_puks_8 (by decide) (fun c_1 => ?_) (fun c_1 => ?_)
  · refine lv_iconst (v := 0) hx hb dM_puks_23 (by decide) ?_
    have hP9 := hP.sub (ws' := [(qm, .inr (3, [.int pl, .int ul, .int pk, .int ac, .int ag, .int pn, .int pt, .int ut, .int en, .int og, .int pw, .int hd, .int tn, .int tk, .int ar, .int dn, .int e0, .int e1]))]) [0] rfl
    have hD9 := hD.sub (ws' := [(qm, .inr (3, [.int pl, .int ul, .int pk, .int ac, .int ag, .int pn, .int pt, .int ut, .int en, .int og, .int pw, .int hd, .int tn, .int tk, .int ar, .int dn, .int e0, .int e1]))]) [0] (by decide) rfl
    have hK9 := hK.sub (tys' := []) [] rfl
    exact W.iret (v := 0) hx hb hr (fun t ht hW => ⟨⟨0, (), rfl, (by first | (simp only [if_pos c_1, reduceIte, eq_self, tt_n10]; done) | (simp only [c_1, reduceIte, eq_self, tt_n10]; done) | (simp [c_1]; done)), by rw [ht]; exact hP9, va_K.moved hW.alike hK9, hD9⟩, hS.F ht⟩) hS.2.2 dM_puks_24
  · refine lv_aload_n hx hb dM_puks_11 rfl (lv_at hl 0 rfl) ?_
    refine va_get (D := (dC, dI)) (ci := 3) (v := .int ul) (C := RM) (T := TM) (N := 18) hx hb hts (by decide +kernel) hown hK hP 0 rfl rfl 1 (by decide) (hts (.fieldLink RM 27 "TornTryCounterModel" "pukLimit" "I") (by decide +kernel)) (fun _ h9 => h9) rfl dM_puks_12 ?_
    refine lv_aload_n hx hb dM_puks_15 rfl (lv_at hl 0 rfl) ?_
    refine va_get (D := (dC, dI)) (ci := 3) (v := .int ut) (C := RM) (T := TM) (N := 18) hx hb hts (by decide +kernel) hown hK hP 0 rfl rfl 7 (by decide) (hts (.fieldLink RM 68 "TornTryCounterModel" "pukTries" "I") (by decide +kernel)) (fun _ h9 => h9) rfl dM_puks_16 ?_
    refine lv_isub hx hb dM_puks_19 ?_
    refine lv_goto (tgt := 24) hx hb dM_puks_20 (by decide) ?_
    have hP9 := hP.sub (ws' := [(qm, .inr (3, [.int pl, .int ul, .int pk, .int ac, .int ag, .int pn, .int pt, .int ut, .int en, .int og, .int pw, .int hd, .int tn, .int tk, .int ar, .int dn, .int e0, .int e1]))]) [0] rfl
    have hD9 := hD.sub (ws' := [(qm, .inr (3, [.int pl, .int ul, .int pk, .int ac, .int ag, .int pn, .int pt, .int ut, .int en, .int og, .int pw, .int hd, .int tn, .int tk, .int ar, .int dn, .int e0, .int e1]))]) [0] (by decide) rfl
    have hK9 := hK.sub (tys' := []) [] rfl
    exact W.iret (v := ul - ut) hx hb hr (fun t ht hW => ⟨⟨ul - ut, (), rfl, (by first | (simp only [if_neg c_1, reduceIte, eq_self, tt_n10]; done) | (simp only [c_1, reduceIte, eq_self, tt_n10]; done) | (simp [c_1]; done)), by rw [ht]; exact hP9, va_K.moved hW.alike hK9, hD9⟩, hS.F ht⟩) hS.2.2 dM_puks_24
set_option maxHeartbeats 4000000 in
set_option maxRecDepth 100000 in
theorem c_M_page (l : Launch) (dC : Nat → ClassId) (dI : Nat → Nat → Nat) (qm : Nat) (sz : Nat) (pk pl ul ac ag pn pt ut en og pw hd tn tk ar dn e0 e1 : Int32) : Met l yM_page wsM_page ({ frames := 0, cells := 0, slots := 0, locals := 0 }) (va_Pc [.ref qm] (fun U => U.heap.size = sz ∧ va_P (dC, dI) ttCl [(qm, .inr (3, [.int pl, .int ul, .int pk, .int ac, .int ag, .int pn, .int pt, .int ut, .int en, .int og, .int pw, .int hd, .int tn, .int tk, .int ar, .int dn, .int e0, .int e1]))] U.heap ∧ va_K (dC, dI) ttCl [] U ∧ va_D (fun _ => True) [(qm, .inr (3, [.int pl, .int ul, .int pk, .int ac, .int ag, .int pn, .int pt, .int ut, .int en, .int og, .int pw, .int hd, .int tn, .int tk, .int ar, .int dn, .int e0, .int e1]))])) (va_Qi (fun (r : Int32) (_ : Unit) => r = ac) (fun (_ : Unit) (t : State) => at_M dC dI (va_A [(qm, .inr (3, [.int pl, .int ul, .int pk, .int ac, .int ag, .int pn, .int pt, .int ut, .int en, .int og, .int pw, .int hd, .int tn, .int tk, .int ar, .int dn, .int e0, .int e1]))] sz) qm pk pl ul (ac, ag, pn, pt, ut, en, og, pw, hd, tn, tk, ar, dn, e0, e1) t) (va_A [(qm, .inr (3, [.int pl, .int ul, .int pk, .int ac, .int ag, .int pn, .int pt, .int ut, .int en, .int og, .int pw, .int hd, .int tn, .int tk, .int ar, .int dn, .int e0, .int e1]))] sz)) 0 0 (va_A [(qm, .inr (3, [.int pl, .int ul, .int pk, .int ac, .int ag, .int pn, .int pt, .int ut, .int en, .int og, .int pw, .int hd, .int tn, .int tk, .int ar, .int dn, .int e0, .int e1]))] sz) := by
  refine Met.ofW (cc := cM_page) (maxL := 1) (ret := (some .int)) (by decide) rfl ?_
  intro p e s m args below meth c s₁ B hml hv
  obtain ⟨rfl, hsz, hP, hK, hD0⟩ := hv
  have hx := B.exec
  have hb := B.bytes
  have hr := B.returns
  have hts := atoms_spec (ws := wsM_page) B.pre
  have hown : s.vm.findClass RM = some m.cls := findClass_of_methodNamed B.named
  have hlocks := B.notSynchronized
  subst hsz
  have hD := hD0.self (sz := s.heap.size)
  generalize hAe : va_A [(qm, .inr (3, [.int pl, .int ul, .int pk, .int ac, .int ag, .int pn, .int pt, .int ut, .int en, .int og, .int pw, .int hd, .int tn, .int tk, .int ar, .int dn, .int e0, .int e1]))] s.heap.size = A at hD ⊢
  have hA : ∀ q : Nat, s.heap.size ≤ q → A q := fun q h => by rw [← hAe]; exact Or.inr h
  have hS : va_S A s.heap s.heap [] := va_S.rf
  have hP : va_P (dC, dI) ttCl [(qm, .inr (3, [.int pl, .int ul, .int pk, .int ac, .int ag, .int pn, .int pt, .int ut, .int en, .int og, .int pw, .int hd, .int tn, .int tk, .int ar, .int dn, .int e0, .int e1]))] s.heap := hP
  have hl := lv_entry ([.ref qm]) (n := 1) (Nat.le_of_ble_eq_true rfl)
  rw [lg_entry_eq]
  generalize (lg_sl ([.ref qm]) ++ List.replicate (1 - (lg_sl ([.ref qm])).length) Slot.unset).toArray = ls at hl ⊢
  have hl : lv_has ls 1 [(0, .ref qm)] := hl
  refine lv_aload_n hx hb dM_page_0 rfl (lv_at hl 0 rfl) ?_
  refine va_get (D := (dC, dI)) (ci := 3) (v := .int ac) (C := RM) (T := TM) (N := 18) hx hb hts (by decide +kernel) hown hK hP 0 rfl rfl 3 (by decide) (hts (.fieldLink RM 49 "TornTryCounterModel" "active" "I") (by decide +kernel)) (fun _ h9 => h9) rfl dM_page_1 ?_
  have hP9 := hP.sub (ws' := [(qm, .inr (3, [.int pl, .int ul, .int pk, .int ac, .int ag, .int pn, .int pt, .int ut, .int en, .int og, .int pw, .int hd, .int tn, .int tk, .int ar, .int dn, .int e0, .int e1]))]) [0] rfl
  have hD9 := hD.sub (ws' := [(qm, .inr (3, [.int pl, .int ul, .int pk, .int ac, .int ag, .int pn, .int pt, .int ut, .int en, .int og, .int pw, .int hd, .int tn, .int tk, .int ar, .int dn, .int e0, .int e1]))]) [0] (by decide) rfl
  have hK9 := hK.sub (tys' := []) [] rfl
  exact W.iret (v := ac) hx hb hr (fun t ht hW => ⟨⟨ac, (), rfl, rfl, by rw [ht]; exact hP9, va_K.moved hW.alike hK9, hD9⟩, hS.F ht⟩) hS.2.2 dM_page_4
set_option maxHeartbeats 4000000 in
set_option maxRecDepth 100000 in
theorem c_M_generation (l : Launch) (dC : Nat → ClassId) (dI : Nat → Nat → Nat) (qm : Nat) (sz : Nat) (pk pl ul ac ag pn pt ut en og pw hd tn tk ar dn e0 e1 : Int32) : Met l yM_generation wsM_generation ({ frames := 0, cells := 0, slots := 0, locals := 0 }) (va_Pc [.ref qm] (fun U => U.heap.size = sz ∧ va_P (dC, dI) ttCl [(qm, .inr (3, [.int pl, .int ul, .int pk, .int ac, .int ag, .int pn, .int pt, .int ut, .int en, .int og, .int pw, .int hd, .int tn, .int tk, .int ar, .int dn, .int e0, .int e1]))] U.heap ∧ va_K (dC, dI) ttCl [] U ∧ va_D (fun _ => True) [(qm, .inr (3, [.int pl, .int ul, .int pk, .int ac, .int ag, .int pn, .int pt, .int ut, .int en, .int og, .int pw, .int hd, .int tn, .int tk, .int ar, .int dn, .int e0, .int e1]))])) (va_Qi (fun (r : Int32) (_ : Unit) => r = ag) (fun (_ : Unit) (t : State) => at_M dC dI (va_A [(qm, .inr (3, [.int pl, .int ul, .int pk, .int ac, .int ag, .int pn, .int pt, .int ut, .int en, .int og, .int pw, .int hd, .int tn, .int tk, .int ar, .int dn, .int e0, .int e1]))] sz) qm pk pl ul (ac, ag, pn, pt, ut, en, og, pw, hd, tn, tk, ar, dn, e0, e1) t) (va_A [(qm, .inr (3, [.int pl, .int ul, .int pk, .int ac, .int ag, .int pn, .int pt, .int ut, .int en, .int og, .int pw, .int hd, .int tn, .int tk, .int ar, .int dn, .int e0, .int e1]))] sz)) 0 0 (va_A [(qm, .inr (3, [.int pl, .int ul, .int pk, .int ac, .int ag, .int pn, .int pt, .int ut, .int en, .int og, .int pw, .int hd, .int tn, .int tk, .int ar, .int dn, .int e0, .int e1]))] sz) := by
  refine Met.ofW (cc := cM_generation) (maxL := 1) (ret := (some .int)) (by decide) rfl ?_
  intro p e s m args below meth c s₁ B hml hv
  obtain ⟨rfl, hsz, hP, hK, hD0⟩ := hv
  have hx := B.exec
  have hb := B.bytes
  have hr := B.returns
  have hts := atoms_spec (ws := wsM_generation) B.pre
  have hown : s.vm.findClass RM = some m.cls := findClass_of_methodNamed B.named
  have hlocks := B.notSynchronized
  subst hsz
  have hD := hD0.self (sz := s.heap.size)
  generalize hAe : va_A [(qm, .inr (3, [.int pl, .int ul, .int pk, .int ac, .int ag, .int pn, .int pt, .int ut, .int en, .int og, .int pw, .int hd, .int tn, .int tk, .int ar, .int dn, .int e0, .int e1]))] s.heap.size = A at hD ⊢
  have hA : ∀ q : Nat, s.heap.size ≤ q → A q := fun q h => by rw [← hAe]; exact Or.inr h
  have hS : va_S A s.heap s.heap [] := va_S.rf
  have hP : va_P (dC, dI) ttCl [(qm, .inr (3, [.int pl, .int ul, .int pk, .int ac, .int ag, .int pn, .int pt, .int ut, .int en, .int og, .int pw, .int hd, .int tn, .int tk, .int ar, .int dn, .int e0, .int e1]))] s.heap := hP
  have hl := lv_entry ([.ref qm]) (n := 1) (Nat.le_of_ble_eq_true rfl)
  rw [lg_entry_eq]
  generalize (lg_sl ([.ref qm]) ++ List.replicate (1 - (lg_sl ([.ref qm])).length) Slot.unset).toArray = ls at hl ⊢
  have hl : lv_has ls 1 [(0, .ref qm)] := hl
  refine lv_aload_n hx hb dM_generation_0 rfl (lv_at hl 0 rfl) ?_
  refine va_get (D := (dC, dI)) (ci := 3) (v := .int ag) (C := RM) (T := TM) (N := 18) hx hb hts (by decide +kernel) hown hK hP 0 rfl rfl 4 (by decide) (hts (.fieldLink RM 62 "TornTryCounterModel" "age" "I") (by decide +kernel)) (fun _ h9 => h9) rfl dM_generation_1 ?_
  have hP9 := hP.sub (ws' := [(qm, .inr (3, [.int pl, .int ul, .int pk, .int ac, .int ag, .int pn, .int pt, .int ut, .int en, .int og, .int pw, .int hd, .int tn, .int tk, .int ar, .int dn, .int e0, .int e1]))]) [0] rfl
  have hD9 := hD.sub (ws' := [(qm, .inr (3, [.int pl, .int ul, .int pk, .int ac, .int ag, .int pn, .int pt, .int ut, .int en, .int og, .int pw, .int hd, .int tn, .int tk, .int ar, .int dn, .int e0, .int e1]))]) [0] (by decide) rfl
  have hK9 := hK.sub (tys' := []) [] rfl
  exact W.iret (v := ag) hx hb hr (fun t ht hW => ⟨⟨ag, (), rfl, rfl, by rw [ht]; exact hP9, va_K.moved hW.alike hK9, hD9⟩, hS.F ht⟩) hS.2.2 dM_generation_4
set_option maxHeartbeats 4000000 in
set_option maxRecDepth 100000 in
theorem c_M_free (l : Launch) (dC : Nat → ClassId) (dI : Nat → Nat → Nat) (qm : Nat) (sz : Nat) (pk pl ul ac ag pn pt ut en og pw hd tn tk ar dn e0 e1 : Int32) : Met l yM_free wsM_free ({ frames := 0, cells := 0, slots := 0, locals := 0 }) (va_Pc [.ref qm] (fun U => U.heap.size = sz ∧ va_P (dC, dI) ttCl [(qm, .inr (3, [.int pl, .int ul, .int pk, .int ac, .int ag, .int pn, .int pt, .int ut, .int en, .int og, .int pw, .int hd, .int tn, .int tk, .int ar, .int dn, .int e0, .int e1]))] U.heap ∧ va_K (dC, dI) ttCl [] U ∧ va_D (fun _ => True) [(qm, .inr (3, [.int pl, .int ul, .int pk, .int ac, .int ag, .int pn, .int pt, .int ut, .int en, .int og, .int pw, .int hd, .int tn, .int tk, .int ar, .int dn, .int e0, .int e1]))])) (va_Qi (fun (r : Int32) (_ : Unit) => r = en) (fun (_ : Unit) (t : State) => at_M dC dI (va_A [(qm, .inr (3, [.int pl, .int ul, .int pk, .int ac, .int ag, .int pn, .int pt, .int ut, .int en, .int og, .int pw, .int hd, .int tn, .int tk, .int ar, .int dn, .int e0, .int e1]))] sz) qm pk pl ul (ac, ag, pn, pt, ut, en, og, pw, hd, tn, tk, ar, dn, e0, e1) t) (va_A [(qm, .inr (3, [.int pl, .int ul, .int pk, .int ac, .int ag, .int pn, .int pt, .int ut, .int en, .int og, .int pw, .int hd, .int tn, .int tk, .int ar, .int dn, .int e0, .int e1]))] sz)) 0 0 (va_A [(qm, .inr (3, [.int pl, .int ul, .int pk, .int ac, .int ag, .int pn, .int pt, .int ut, .int en, .int og, .int pw, .int hd, .int tn, .int tk, .int ar, .int dn, .int e0, .int e1]))] sz) := by
  refine Met.ofW (cc := cM_free) (maxL := 1) (ret := (some .int)) (by decide) rfl ?_
  intro p e s m args below meth c s₁ B hml hv
  obtain ⟨rfl, hsz, hP, hK, hD0⟩ := hv
  have hx := B.exec
  have hb := B.bytes
  have hr := B.returns
  have hts := atoms_spec (ws := wsM_free) B.pre
  have hown : s.vm.findClass RM = some m.cls := findClass_of_methodNamed B.named
  have hlocks := B.notSynchronized
  subst hsz
  have hD := hD0.self (sz := s.heap.size)
  generalize hAe : va_A [(qm, .inr (3, [.int pl, .int ul, .int pk, .int ac, .int ag, .int pn, .int pt, .int ut, .int en, .int og, .int pw, .int hd, .int tn, .int tk, .int ar, .int dn, .int e0, .int e1]))] s.heap.size = A at hD ⊢
  have hA : ∀ q : Nat, s.heap.size ≤ q → A q := fun q h => by rw [← hAe]; exact Or.inr h
  have hS : va_S A s.heap s.heap [] := va_S.rf
  have hP : va_P (dC, dI) ttCl [(qm, .inr (3, [.int pl, .int ul, .int pk, .int ac, .int ag, .int pn, .int pt, .int ut, .int en, .int og, .int pw, .int hd, .int tn, .int tk, .int ar, .int dn, .int e0, .int e1]))] s.heap := hP
  have hl := lv_entry ([.ref qm]) (n := 1) (Nat.le_of_ble_eq_true rfl)
  rw [lg_entry_eq]
  generalize (lg_sl ([.ref qm]) ++ List.replicate (1 - (lg_sl ([.ref qm])).length) Slot.unset).toArray = ls at hl ⊢
  have hl : lv_has ls 1 [(0, .ref qm)] := hl
  refine lv_aload_n hx hb dM_free_0 rfl (lv_at hl 0 rfl) ?_
  refine va_get (D := (dC, dI)) (ci := 3) (v := .int en) (C := RM) (T := TM) (N := 18) hx hb hts (by decide +kernel) hown hK hP 0 rfl rfl 8 (by decide) (hts (.fieldLink RM 7 "TornTryCounterModel" "entries" "I") (by decide +kernel)) (fun _ h9 => h9) rfl dM_free_1 ?_
  have hP9 := hP.sub (ws' := [(qm, .inr (3, [.int pl, .int ul, .int pk, .int ac, .int ag, .int pn, .int pt, .int ut, .int en, .int og, .int pw, .int hd, .int tn, .int tk, .int ar, .int dn, .int e0, .int e1]))]) [0] rfl
  have hD9 := hD.sub (ws' := [(qm, .inr (3, [.int pl, .int ul, .int pk, .int ac, .int ag, .int pn, .int pt, .int ut, .int en, .int og, .int pw, .int hd, .int tn, .int tk, .int ar, .int dn, .int e0, .int e1]))]) [0] (by decide) rfl
  have hK9 := hK.sub (tys' := []) [] rfl
  exact W.iret (v := en) hx hb hr (fun t ht hW => ⟨⟨en, (), rfl, rfl, by rw [ht]; exact hP9, va_K.moved hW.alike hK9, hD9⟩, hS.F ht⟩) hS.2.2 dM_free_4
set_option maxHeartbeats 4000000 in
set_option maxRecDepth 100000 in
theorem c_M_operations (l : Launch) (dC : Nat → ClassId) (dI : Nat → Nat → Nat) (qm : Nat) (sz : Nat) (pk pl ul ac ag pn pt ut en og pw hd tn tk ar dn e0 e1 : Int32) : Met l yM_operations wsM_operations ({ frames := 0, cells := 0, slots := 0, locals := 0 }) (va_Pc [.ref qm] (fun U => U.heap.size = sz ∧ va_P (dC, dI) ttCl [(qm, .inr (3, [.int pl, .int ul, .int pk, .int ac, .int ag, .int pn, .int pt, .int ut, .int en, .int og, .int pw, .int hd, .int tn, .int tk, .int ar, .int dn, .int e0, .int e1]))] U.heap ∧ va_K (dC, dI) ttCl [] U ∧ va_D (fun _ => True) [(qm, .inr (3, [.int pl, .int ul, .int pk, .int ac, .int ag, .int pn, .int pt, .int ut, .int en, .int og, .int pw, .int hd, .int tn, .int tk, .int ar, .int dn, .int e0, .int e1]))])) (va_Qi (fun (r : Int32) (_ : Unit) => r = dn) (fun (_ : Unit) (t : State) => at_M dC dI (va_A [(qm, .inr (3, [.int pl, .int ul, .int pk, .int ac, .int ag, .int pn, .int pt, .int ut, .int en, .int og, .int pw, .int hd, .int tn, .int tk, .int ar, .int dn, .int e0, .int e1]))] sz) qm pk pl ul (ac, ag, pn, pt, ut, en, og, pw, hd, tn, tk, ar, dn, e0, e1) t) (va_A [(qm, .inr (3, [.int pl, .int ul, .int pk, .int ac, .int ag, .int pn, .int pt, .int ut, .int en, .int og, .int pw, .int hd, .int tn, .int tk, .int ar, .int dn, .int e0, .int e1]))] sz)) 0 0 (va_A [(qm, .inr (3, [.int pl, .int ul, .int pk, .int ac, .int ag, .int pn, .int pt, .int ut, .int en, .int og, .int pw, .int hd, .int tn, .int tk, .int ar, .int dn, .int e0, .int e1]))] sz) := by
  refine Met.ofW (cc := cM_operations) (maxL := 1) (ret := (some .int)) (by decide) rfl ?_
  intro p e s m args below meth c s₁ B hml hv
  obtain ⟨rfl, hsz, hP, hK, hD0⟩ := hv
  have hx := B.exec
  have hb := B.bytes
  have hr := B.returns
  have hts := atoms_spec (ws := wsM_operations) B.pre
  have hown : s.vm.findClass RM = some m.cls := findClass_of_methodNamed B.named
  have hlocks := B.notSynchronized
  subst hsz
  have hD := hD0.self (sz := s.heap.size)
  generalize hAe : va_A [(qm, .inr (3, [.int pl, .int ul, .int pk, .int ac, .int ag, .int pn, .int pt, .int ut, .int en, .int og, .int pw, .int hd, .int tn, .int tk, .int ar, .int dn, .int e0, .int e1]))] s.heap.size = A at hD ⊢
  have hA : ∀ q : Nat, s.heap.size ≤ q → A q := fun q h => by rw [← hAe]; exact Or.inr h
  have hS : va_S A s.heap s.heap [] := va_S.rf
  have hP : va_P (dC, dI) ttCl [(qm, .inr (3, [.int pl, .int ul, .int pk, .int ac, .int ag, .int pn, .int pt, .int ut, .int en, .int og, .int pw, .int hd, .int tn, .int tk, .int ar, .int dn, .int e0, .int e1]))] s.heap := hP
  have hl := lv_entry ([.ref qm]) (n := 1) (Nat.le_of_ble_eq_true rfl)
  rw [lg_entry_eq]
  generalize (lg_sl ([.ref qm]) ++ List.replicate (1 - (lg_sl ([.ref qm])).length) Slot.unset).toArray = ls at hl ⊢
  have hl : lv_has ls 1 [(0, .ref qm)] := hl
  refine lv_aload_n hx hb dM_operations_0 rfl (lv_at hl 0 rfl) ?_
  refine va_get (D := (dC, dI)) (ci := 3) (v := .int dn) (C := RM) (T := TM) (N := 18) hx hb hts (by decide +kernel) hown hK hP 0 rfl rfl 15 (by decide) (hts (.fieldLink RM 30 "TornTryCounterModel" "done" "I") (by decide +kernel)) (fun _ h9 => h9) rfl dM_operations_1 ?_
  have hP9 := hP.sub (ws' := [(qm, .inr (3, [.int pl, .int ul, .int pk, .int ac, .int ag, .int pn, .int pt, .int ut, .int en, .int og, .int pw, .int hd, .int tn, .int tk, .int ar, .int dn, .int e0, .int e1]))]) [0] rfl
  have hD9 := hD.sub (ws' := [(qm, .inr (3, [.int pl, .int ul, .int pk, .int ac, .int ag, .int pn, .int pt, .int ut, .int en, .int og, .int pw, .int hd, .int tn, .int tk, .int ar, .int dn, .int e0, .int e1]))]) [0] (by decide) rfl
  have hK9 := hK.sub (tys' := []) [] rfl
  exact W.iret (v := dn) hx hb hr (fun t ht hW => ⟨⟨dn, (), rfl, rfl, by rw [ht]; exact hP9, va_K.moved hW.alike hK9, hD9⟩, hS.F ht⟩) hS.2.2 dM_operations_4
set_option maxHeartbeats 4000000 in
set_option maxRecDepth 100000 in
theorem c_M_erased (l : Launch) (dC : Nat → ClassId) (dI : Nat → Nat → Nat) (qm : Nat) (sz : Nat) (pk pl ul ac ag pn pt ut en og pw hd tn tk ar dn e0 e1 : Int32) (pg : Int32) : Met l yM_erased wsM_erased ({ frames := 0, cells := 0, slots := 0, locals := 0 }) (va_Pc [.ref qm, .int pg] (fun U => U.heap.size = sz ∧ va_P (dC, dI) ttCl [(qm, .inr (3, [.int pl, .int ul, .int pk, .int ac, .int ag, .int pn, .int pt, .int ut, .int en, .int og, .int pw, .int hd, .int tn, .int tk, .int ar, .int dn, .int e0, .int e1]))] U.heap ∧ va_K (dC, dI) ttCl [] U ∧ va_D (fun _ => True) [(qm, .inr (3, [.int pl, .int ul, .int pk, .int ac, .int ag, .int pn, .int pt, .int ut, .int en, .int og, .int pw, .int hd, .int tn, .int tk, .int ar, .int dn, .int e0, .int e1]))])) (va_Qi (fun (r : Int32) (_ : Unit) => r = if pg = 0 then e0 else if pg = 1 then e1 else 0) (fun (_ : Unit) (t : State) => at_M dC dI (va_A [(qm, .inr (3, [.int pl, .int ul, .int pk, .int ac, .int ag, .int pn, .int pt, .int ut, .int en, .int og, .int pw, .int hd, .int tn, .int tk, .int ar, .int dn, .int e0, .int e1]))] sz) qm pk pl ul (ac, ag, pn, pt, ut, en, og, pw, hd, tn, tk, ar, dn, e0, e1) t) (va_A [(qm, .inr (3, [.int pl, .int ul, .int pk, .int ac, .int ag, .int pn, .int pt, .int ut, .int en, .int og, .int pw, .int hd, .int tn, .int tk, .int ar, .int dn, .int e0, .int e1]))] sz)) 0 0 (va_A [(qm, .inr (3, [.int pl, .int ul, .int pk, .int ac, .int ag, .int pn, .int pt, .int ut, .int en, .int og, .int pw, .int hd, .int tn, .int tk, .int ar, .int dn, .int e0, .int e1]))] sz) := by
  refine Met.ofW (cc := cM_erased) (maxL := 2) (ret := (some .int)) (by decide) rfl ?_
  intro p e s m args below meth c s₁ B hml hv
  obtain ⟨rfl, hsz, hP, hK, hD0⟩ := hv
  have hx := B.exec
  have hb := B.bytes
  have hr := B.returns
  have hts := atoms_spec (ws := wsM_erased) B.pre
  have hown : s.vm.findClass RM = some m.cls := findClass_of_methodNamed B.named
  have hlocks := B.notSynchronized
  subst hsz
  have hD := hD0.self (sz := s.heap.size)
  generalize hAe : va_A [(qm, .inr (3, [.int pl, .int ul, .int pk, .int ac, .int ag, .int pn, .int pt, .int ut, .int en, .int og, .int pw, .int hd, .int tn, .int tk, .int ar, .int dn, .int e0, .int e1]))] s.heap.size = A at hD ⊢
  have hA : ∀ q : Nat, s.heap.size ≤ q → A q := fun q h => by rw [← hAe]; exact Or.inr h
  have hS : va_S A s.heap s.heap [] := va_S.rf
  have hP : va_P (dC, dI) ttCl [(qm, .inr (3, [.int pl, .int ul, .int pk, .int ac, .int ag, .int pn, .int pt, .int ut, .int en, .int og, .int pw, .int hd, .int tn, .int tk, .int ar, .int dn, .int e0, .int e1]))] s.heap := hP
  have hl := lv_entry ([.ref qm, .int pg]) (n := 2) (Nat.le_of_ble_eq_true rfl)
  rw [lg_entry_eq]
  generalize (lg_sl ([.ref qm, .int pg]) ++ List.replicate (2 - (lg_sl ([.ref qm, .int pg])).length) Slot.unset).toArray = ls at hl ⊢
  have hl : lv_has ls 2 [(0, .ref qm), (1, .int pg)] := hl
  refine lv_iload_n hx hb dM_erased_0 rfl (lv_at hl 1 rfl) ?_
  refine lv_if_ne (tgt := 11) hx hb dM_erased_1 (by decide) (fun c_1 => ?_) (fun c_1 => ?_)
  · refine lv_iload_n hx hb dM_erased_11 rfl (lv_at hl 1 rfl) ?_
    refine lv_iconst (v := 1) hx hb dM_erased_12 (by decide) ?_
    refine lv_icmp_ne (tgt := 23) hx hb dM_erased_13 (by decide) (fun c_2 => ?_) (fun c_2 => ?_)
    · refine lv_iconst (v := 0) hx hb dM_erased_23 (by decide) ?_
      have hP9 := hP.sub (ws' := [(qm, .inr (3, [.int pl, .int ul, .int pk, .int ac, .int ag, .int pn, .int pt, .int ut, .int en, .int og, .int pw, .int hd, .int tn, .int tk, .int ar, .int dn, .int e0, .int e1]))]) [0] rfl
      have hD9 := hD.sub (ws' := [(qm, .inr (3, [.int pl, .int ul, .int pk, .int ac, .int ag, .int pn, .int pt, .int ut, .int en, .int og, .int pw, .int hd, .int tn, .int tk, .int ar, .int dn, .int e0, .int e1]))]) [0] (by decide) rfl
      have hK9 := hK.sub (tys' := []) [] rfl
      exact W.iret (v := 0) hx hb hr (fun t ht hW => ⟨⟨0, (), rfl, (by first | (simp only [if_neg c_1, if_neg c_2, reduceIte, eq_self, tt_n10]; done) | (simp only [c_1, c_2, reduceIte, eq_self, tt_n10]; done) | (simp [c_1, c_2]; done)), by rw [ht]; exact hP9, va_K.moved hW.alike hK9, hD9⟩, hS.F ht⟩) hS.2.2 dM_erased_24
    · refine lv_aload_n hx hb dM_erased_16 rfl (lv_at hl 0 rfl) ?_
      refine va_get (D := (dC, dI)) (ci := 3) (v := .int e1) (C := RM) (T := TM) (N := 18) hx hb hts (by decide +kernel) hown hK hP 0 rfl rfl 17 (by decide) (hts (.fieldLink RM 52 "TornTryCounterModel" "erased1" "I") (by decide +kernel)) (fun _ h9 => h9) rfl dM_erased_17 ?_
      refine lv_goto (tgt := 24) hx hb dM_erased_20 (by decide) ?_
      have hP9 := hP.sub (ws' := [(qm, .inr (3, [.int pl, .int ul, .int pk, .int ac, .int ag, .int pn, .int pt, .int ut, .int en, .int og, .int pw, .int hd, .int tn, .int tk, .int ar, .int dn, .int e0, .int e1]))]) [0] rfl
      have hD9 := hD.sub (ws' := [(qm, .inr (3, [.int pl, .int ul, .int pk, .int ac, .int ag, .int pn, .int pt, .int ut, .int en, .int og, .int pw, .int hd, .int tn, .int tk, .int ar, .int dn, .int e0, .int e1]))]) [0] (by decide) rfl
      have hK9 := hK.sub (tys' := []) [] rfl
      exact W.iret (v := e1) hx hb hr (fun t ht hW => ⟨⟨e1, (), rfl, (by first | (simp only [if_neg c_1, if_pos c_2, reduceIte, eq_self, tt_n10]; done) | (simp only [c_1, c_2, reduceIte, eq_self, tt_n10]; done) | (simp [c_1, c_2]; done)), by rw [ht]; exact hP9, va_K.moved hW.alike hK9, hD9⟩, hS.F ht⟩) hS.2.2 dM_erased_24
  · refine lv_aload_n hx hb dM_erased_4 rfl (lv_at hl 0 rfl) ?_
    refine va_get (D := (dC, dI)) (ci := 3) (v := .int e0) (C := RM) (T := TM) (N := 18) hx hb hts (by decide +kernel) hown hK hP 0 rfl rfl 16 (by decide) (hts (.fieldLink RM 55 "TornTryCounterModel" "erased0" "I") (by decide +kernel)) (fun _ h9 => h9) rfl dM_erased_5 ?_
    refine lv_goto (tgt := 24) hx hb dM_erased_8 (by decide) ?_
    have hP9 := hP.sub (ws' := [(qm, .inr (3, [.int pl, .int ul, .int pk, .int ac, .int ag, .int pn, .int pt, .int ut, .int en, .int og, .int pw, .int hd, .int tn, .int tk, .int ar, .int dn, .int e0, .int e1]))]) [0] rfl
    have hD9 := hD.sub (ws' := [(qm, .inr (3, [.int pl, .int ul, .int pk, .int ac, .int ag, .int pn, .int pt, .int ut, .int en, .int og, .int pw, .int hd, .int tn, .int tk, .int ar, .int dn, .int e0, .int e1]))]) [0] (by decide) rfl
    have hK9 := hK.sub (tys' := []) [] rfl
    exact W.iret (v := e0) hx hb hr (fun t ht hW => ⟨⟨e0, (), rfl, (by first | (simp only [if_pos c_1, reduceIte, eq_self, tt_n10]; done) | (simp only [c_1, reduceIte, eq_self, tt_n10]; done) | (simp [c_1]; done)), by rw [ht]; exact hP9, va_K.moved hW.alike hK9, hD9⟩, hS.F ht⟩) hS.2.2 dM_erased_24
