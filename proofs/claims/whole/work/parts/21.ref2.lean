set_option maxHeartbeats 4000000 in
set_option maxRecDepth 100000 in
theorem c_M_mark (l : Launch) (dC : Nat → ClassId) (dI : Nat → Nat → Nat) (qm : Nat) (sz : Nat) (pk pl ul ac ag pn pt ut en og pw hd tn tk ar dn e0 e1 : Int32) (k : Int32) : Met l yM_mark wsM_mark ({ frames := 2, cells := 0, slots := 0, locals := 45 }) (va_Pc [.ref qm, .int k] (fun U => U.heap.size = sz ∧ va_P (dC, dI) ttCl [(qm, .inr (3, [.int pl, .int ul, .int pk, .int ac, .int ag, .int pn, .int pt, .int ut, .int en, .int og, .int pw, .int hd, .int tn, .int tk, .int ar, .int dn, .int e0, .int e1]))] U.heap ∧ va_K (dC, dI) ttCl [] U ∧ va_D (fun _ => True) [(qm, .inr (3, [.int pl, .int ul, .int pk, .int ac, .int ag, .int pn, .int pt, .int ut, .int en, .int og, .int pw, .int hd, .int tn, .int tk, .int ar, .int dn, .int e0, .int e1]))])) (va_Qi (fun (r : Int32) (u : tt_M) => mm_mark (ac, ag, pn, pt, ut, en, og, pw, hd, tn, tk, ar, dn, e0, e1) k = (r, u)) (fun (u : tt_M) (t : State) => at_M dC dI (va_A [(qm, .inr (3, [.int pl, .int ul, .int pk, .int ac, .int ag, .int pn, .int pt, .int ut, .int en, .int og, .int pw, .int hd, .int tn, .int tk, .int ar, .int dn, .int e0, .int e1]))] sz) qm pk pl ul u t) (va_A [(qm, .inr (3, [.int pl, .int ul, .int pk, .int ac, .int ag, .int pn, .int pt, .int ut, .int en, .int og, .int pw, .int hd, .int tn, .int tk, .int ar, .int dn, .int e0, .int e1]))] sz)) 0 0 (va_A [(qm, .inr (3, [.int pl, .int ul, .int pk, .int ac, .int ag, .int pn, .int pt, .int ut, .int en, .int og, .int pw, .int hd, .int tn, .int tk, .int ar, .int dn, .int e0, .int e1]))] sz) := by
  refine Met.ofW (cc := cM_mark) (maxL := 3) (ret := (some .boolean)) (by decide) rfl ?_
  intro p e s m args below meth c s₁ B hml hv
  obtain ⟨rfl, hsz, hP, hK, hD0⟩ := hv
  have hx := B.exec
  have hb := B.bytes
  have hr := B.returns
  have hts := atoms_spec (ws := wsM_mark) B.pre
  have hown : s.vm.findClass RM = some m.cls := findClass_of_methodNamed B.named
  have hlocks := B.notSynchronized
  subst hsz
  have hD := hD0.self (sz := s.heap.size)
  generalize hAe : va_A [(qm, .inr (3, [.int pl, .int ul, .int pk, .int ac, .int ag, .int pn, .int pt, .int ut, .int en, .int og, .int pw, .int hd, .int tn, .int tk, .int ar, .int dn, .int e0, .int e1]))] s.heap.size = A at hD ⊢
  have hA : ∀ q : Nat, s.heap.size ≤ q → A q := fun q h => by rw [← hAe]; exact Or.inr h
  have hS : va_S A s.heap s.heap [] := va_S.rf
  have hP : va_P (dC, dI) ttCl [(qm, .inr (3, [.int pl, .int ul, .int pk, .int ac, .int ag, .int pn, .int pt, .int ut, .int en, .int og, .int pw, .int hd, .int tn, .int tk, .int ar, .int dn, .int e0, .int e1]))] s.heap := hP
  have hl := lv_entry ([.ref qm, .int k]) (n := 3) (Nat.le_of_ble_eq_true rfl)
  rw [lg_entry_eq]
  generalize (lg_sl ([.ref qm, .int k]) ++ List.replicate (3 - (lg_sl ([.ref qm, .int k])).length) Slot.unset).toArray = ls at hl ⊢
  have hl : lv_has ls 3 [(0, .ref qm), (1, .int k)] := hl
  refine lv_aload_n hx hb dM_mark_0 rfl (lv_at hl 0 rfl) ?_
  refine va_get (D := (dC, dI)) (ci := 3) (v := .int en) (C := RM) (T := TM) (N := 18) hx hb hts (by decide +kernel) hown hK hP 0 rfl rfl 8 (by decide) (hts (.fieldLink RM 7 "TornTryCounterModel" "entries" "I") (by decide +kernel)) (fun _ h9 => h9) rfl dM_mark_1 ?_
  refine lv_if_ne (tgt := 28) hx hb dM_mark_4 (by decide) (fun c_1 => ?_) (fun c_1 => ?_)
  · refine lv_aload_n hx hb dM_mark_28 rfl (lv_at hl 0 rfl) ?_
    have hPc := hP.sub (ws' := [(qm, .inr (3, [.int pl, .int ul, .int pk, .int ac, .int ag, .int pn, .int pt, .int ut, .int en, .int og, .int pw, .int hd, .int tn, .int tk, .int ar, .int dn, .int e0, .int e1]))]) [0] rfl
    have hDc := hD.sub (ws' := [(qm, .inr (3, [.int pl, .int ul, .int pk, .int ac, .int ag, .int pn, .int pt, .int ut, .int en, .int og, .int pw, .int hd, .int tn, .int tk, .int ar, .int dn, .int e0, .int e1]))]) [0] (by decide) rfl
    have hKc := hK.sub (tys' := []) [] rfl
    have hFc := va_free (wc := [(qm, .inr (3, [.int pl, .int ul, .int pk, .int ac, .int ag, .int pn, .int pt, .int ut, .int en, .int og, .int pw, .int hd, .int tn, .int tk, .int ar, .int dn, .int e0, .int e1]))]) hD hS hA [0] rfl
    refine va_calli (va_runV (As := []) (rest := []) ⟨hx, hb, hml, hown, hts⟩ (c_M_operate l dC dI qm s.heap.size pk pl ul ac ag pn pt ut en og pw hd tn tk ar dn e0 e1) (cwV 0 hts gM_mark_M_operate rfl rfl rfl (by decide +kernel) ⟨Nat.le_of_ble_eq_true rfl, Nat.le_of_ble_eq_true rfl⟩) ⟨fun a U g mk q => by obtain ⟨q0, q1, qP, qK, qD⟩ := q; exact ⟨q0, q1, qP, va_K.moved (u := U) (U := U.calling g mk a) (Vm.Alike.refl U.vm) qK, qD⟩, va_recv hKc hPc (ci := 3) (q0 := 0) rfl rfl, fun U hU hW => ⟨rfl, by rw [hU], by rw [hU]; exact hPc, va_K.moved hW.alike hKc, hDc.weaken (fun _ _ _ _ => trivial)⟩⟩ rfl rfl hl.1 rfl (lv_room (Nat.le_of_ble_eq_true rfl)) dM_mark_29 ⟨(Nat.zero_le _), (Nat.zero_le _)⟩) hS (fun q _ h => hFc q h) hFc (fun r_2 u t H locs ht hvm hw hB hz1 hk1 hS => ?_)
    obtain ⟨ac_2, ag_2, pn_2, pt_2, ut_2, en_2, og_2, pw_2, hd_2, tn_2, tk_2, ar_2, dn_2, e0_2, e1_2⟩ := u
    obtain ⟨hP1, hK1, hD1⟩ := hB
    have e_2 : mm_op (ac, ag, pn, pt, ut, en, og, pw, hd, tn, tk, ar, dn, e0, e1) = (r_2, (ac_2, ag_2, pn_2, pt_2, ut_2, en_2, og_2, pw_2, hd_2, tn_2, tk_2, ar_2, dn_2, e0_2, e1_2)) := hw
    rw [ht] at hP1
    obtain ⟨hP, hD⟩ := va_join (wr := []) (w1 := [(qm, .inr (3, [.int pl, .int ul, .int pk, .int ac_2, .int ag_2, .int pn_2, .int pt_2, .int ut_2, .int en_2, .int og_2, .int pw_2, .int hd_2, .int tn_2, .int tk_2, .int ar_2, .int dn_2, .int e0_2, .int e1_2]))]) hP hD [0] [] rfl rfl (by decide) (by decide) hk1 hFc hP1 hD1
    have hP : va_P (dC, dI) ttCl [(qm, .inr (3, [.int pl, .int ul, .int pk, .int ac_2, .int ag_2, .int pn_2, .int pt_2, .int ut_2, .int en_2, .int og_2, .int pw_2, .int hd_2, .int tn_2, .int tk_2, .int ar_2, .int dn_2, .int e0_2, .int e1_2]))] H := hP
    have hD : va_D A [(qm, .inr (3, [.int pl, .int ul, .int pk, .int ac_2, .int ag_2, .int pn_2, .int pt_2, .int ut_2, .int en_2, .int og_2, .int pw_2, .int hd_2, .int tn_2, .int tk_2, .int ar_2, .int dn_2, .int e0_2, .int e1_2]))] := hD
    refine lv_istore_n (lv' := [(2, .int r_2), (0, .ref qm), (1, .int k)]) hx hb dM_mark_32 rfl hl (by decide) rfl (fun ls hl => ?_)
    refine lv_iload_n hx hb dM_mark_33 rfl (lv_at hl 0 rfl) ?_
    refine lv_iload_n hx hb dM_mark_34 rfl (lv_at hl 2 rfl) ?_
    refine lv_if_eq (tgt := 43) hx hb dM_mark_35 (by decide) (fun c_3 => ?_) (fun c_3 => ?_)
    · refine lv_iconst (v := 1) hx hb dM_mark_43 (by decide) ?_
      have hPc := hP.sub (ws' := []) [] rfl
      have hDc := hD.sub (ws' := []) [] (by decide) rfl
      have hKc := hK.sub (tys' := []) [] rfl
      have hFc := va_free (wc := []) hD hS hA [] rfl
      refine va_calli (va_runS (As := [.int r_2, .int 1]) (rest := []) ⟨hx, hb, hml, hown, hts⟩ (c_M_all l dC dI H.size r_2 1) (va_cwS 2 hts gM_mark_M_all rfl rfl rfl (by decide +kernel) ⟨Nat.le_of_ble_eq_true rfl, Nat.le_of_ble_eq_true rfl⟩) ⟨fun a U g mk q => by obtain ⟨q0, q1, qP, qK, qD⟩ := q; exact ⟨q0, q1, qP, va_K.moved (u := U) (U := U.calling g mk a) (Vm.Alike.refl U.vm) qK, qD⟩, fun U hU hW => ⟨rfl, by rw [hU], by rw [hU]; exact hPc, va_K.moved hW.alike hKc, hDc.weaken (fun _ _ _ _ => trivial)⟩⟩ rfl rfl hl.1 rfl (lv_room (Nat.le_of_ble_eq_true rfl)) dM_mark_44 ⟨(Nat.zero_le _), (Nat.zero_le _)⟩) hS (fun q _ h => hFc q h) hFc (fun r_4 u t H locs ht hvm hw hB hz1 hk1 hS => ?_)
      have hw : mm_all r_2 1 = r_4 := hw.symm
      subst hw
      obtain ⟨hP1, hK1, hD1⟩ := hB
      rw [ht] at hP1
      obtain ⟨hP, hD⟩ := va_join (wr := [(qm, .inr (3, [.int pl, .int ul, .int pk, .int ac_2, .int ag_2, .int pn_2, .int pt_2, .int ut_2, .int en_2, .int og_2, .int pw_2, .int hd_2, .int tn_2, .int tk_2, .int ar_2, .int dn_2, .int e0_2, .int e1_2]))]) (w1 := []) hP hD [] [0] rfl rfl (by decide) (by decide) hk1 hFc hP1 hD1
      have hP : va_P (dC, dI) ttCl [(qm, .inr (3, [.int pl, .int ul, .int pk, .int ac_2, .int ag_2, .int pn_2, .int pt_2, .int ut_2, .int en_2, .int og_2, .int pw_2, .int hd_2, .int tn_2, .int tk_2, .int ar_2, .int dn_2, .int e0_2, .int e1_2]))] H := hP
      have hD : va_D A [(qm, .inr (3, [.int pl, .int ul, .int pk, .int ac_2, .int ag_2, .int pn_2, .int pt_2, .int ut_2, .int en_2, .int og_2, .int pw_2, .int hd_2, .int tn_2, .int tk_2, .int ar_2, .int dn_2, .int e0_2, .int e1_2]))] := hD
      refine lv_if_eq (tgt := 102) hx hb dM_mark_47 (by decide) (fun c_5 => ?_) (fun c_5 => ?_)
      · refine lv_iload_n hx hb dM_mark_102 rfl (lv_at hl 0 rfl) ?_
        refine lv_if_ge (tgt := 110) hx hb dM_mark_103 (by decide) (fun c_6 => ?_) (fun c_6 => ?_)
        · refine lv_iconst (v := 0) hx hb dM_mark_110 (by decide) ?_
          have hP9 := hP.sub (ws' := [(qm, .inr (3, [.int pl, .int ul, .int pk, .int ac_2, .int ag_2, .int pn_2, .int pt_2, .int ut_2, .int en_2, .int og_2, .int pw_2, .int hd_2, .int tn_2, .int tk_2, .int ar_2, .int dn_2, .int e0_2, .int e1_2]))]) [0] rfl
          have hD9 := hD.sub (ws' := [(qm, .inr (3, [.int pl, .int ul, .int pk, .int ac_2, .int ag_2, .int pn_2, .int pt_2, .int ut_2, .int en_2, .int og_2, .int pw_2, .int hd_2, .int tn_2, .int tk_2, .int ar_2, .int dn_2, .int e0_2, .int e1_2]))]) [0] (by decide) rfl
          have hK9 := hK.sub (tys' := []) [] rfl
          exact W.zret (v := 0) hx hb hr (by first | rfl | decide) (fun t ht hW => ⟨⟨0, (ac_2, ag_2, pn_2, pt_2, ut_2, en_2, og_2, pw_2, hd_2, tn_2, tk_2, ar_2, dn_2, e0_2, e1_2), rfl, (by first | (simp only [mm_mark, mm_m1, tt_seq_p, if_neg c_1, e_2, if_pos c_3, if_pos c_5, if_pos c_6, reduceIte, eq_self, tt_n10]; done) | (simp only [mm_mark, mm_m1, tt_seq_p, c_1, e_2, c_3, c_5, c_6, reduceIte, eq_self, tt_n10]; done) | (simp [mm_mark, mm_m1, tt_seq_p, c_1, e_2, c_3, c_5, c_6]; done)), by rw [ht]; exact hP9, va_K.moved hW.alike hK9, hD9⟩, hS.F ht⟩) hS.2.2 dM_mark_111
        · refine lv_iconst (v := 1) hx hb dM_mark_106 (by decide) ?_
          refine lv_goto (tgt := 111) hx hb dM_mark_107 (by decide) ?_
          have hP9 := hP.sub (ws' := [(qm, .inr (3, [.int pl, .int ul, .int pk, .int ac_2, .int ag_2, .int pn_2, .int pt_2, .int ut_2, .int en_2, .int og_2, .int pw_2, .int hd_2, .int tn_2, .int tk_2, .int ar_2, .int dn_2, .int e0_2, .int e1_2]))]) [0] rfl
          have hD9 := hD.sub (ws' := [(qm, .inr (3, [.int pl, .int ul, .int pk, .int ac_2, .int ag_2, .int pn_2, .int pt_2, .int ut_2, .int en_2, .int og_2, .int pw_2, .int hd_2, .int tn_2, .int tk_2, .int ar_2, .int dn_2, .int e0_2, .int e1_2]))]) [0] (by decide) rfl
          have hK9 := hK.sub (tys' := []) [] rfl
          exact W.zret (v := 1) hx hb hr (by first | rfl | decide) (fun t ht hW => ⟨⟨1, (ac_2, ag_2, pn_2, pt_2, ut_2, en_2, og_2, pw_2, hd_2, tn_2, tk_2, ar_2, dn_2, e0_2, e1_2), rfl, (by first | (simp only [mm_mark, mm_m1, tt_seq_p, if_neg c_1, e_2, if_pos c_3, if_pos c_5, if_neg c_6, reduceIte, eq_self, tt_n10]; done) | (simp only [mm_mark, mm_m1, tt_seq_p, c_1, e_2, c_3, c_5, c_6, reduceIte, eq_self, tt_n10]; done) | (simp [mm_mark, mm_m1, tt_seq_p, c_1, e_2, c_3, c_5, c_6]; done)), by rw [ht]; exact hP9, va_K.moved hW.alike hK9, hD9⟩, hS.F ht⟩) hS.2.2 dM_mark_111
      · refine lv_aload_n hx hb dM_mark_50 rfl (lv_at hl 1 rfl) ?_
        refine lv_dup hx hb dM_mark_51 rfl ?_
        refine va_get (D := (dC, dI)) (ci := 3) (v := .int en_2) (C := RM) (T := TM) (N := 18) hx hb hts (by decide +kernel) hown hK hP 0 rfl rfl 8 (by decide) (hts (.fieldLink RM 7 "TornTryCounterModel" "entries" "I") (by decide +kernel)) (fun _ h9 => h9) rfl dM_mark_52 ?_
        refine lv_iconst (v := 1) hx hb dM_mark_55 (by decide) ?_
        refine lv_isub hx hb dM_mark_56 ?_
        refine va_put (D := (dC, dI)) (ci := 3) (v := .int (en_2 - 1)) (ty := .int) (C := RM) (T := TM) (N := 18) hx hb hts (by decide +kernel) tyM tyM_ok nmM hown hK hP hD hS 0 rfl rfl 8 (by decide) (hts (.fieldLink RM 7 "TornTryCounterModel" "entries" "I") (by decide +kernel)) (fun _ h9 => h9) rfl (by decide +kernel) rfl rfl (Nat.le_of_ble_eq_true rfl) dM_mark_57 (fun H locs hP hD hS => ?_)
        have hP : va_P (dC, dI) ttCl [(qm, .inr (3, [.int pl, .int ul, .int pk, .int ac_2, .int ag_2, .int pn_2, .int pt_2, .int ut_2, .int (en_2 - 1), .int og_2, .int pw_2, .int hd_2, .int tn_2, .int tk_2, .int ar_2, .int dn_2, .int e0_2, .int e1_2]))] H := hP
        have hD : va_D A [(qm, .inr (3, [.int pl, .int ul, .int pk, .int ac_2, .int ag_2, .int pn_2, .int pt_2, .int ut_2, .int (en_2 - 1), .int og_2, .int pw_2, .int hd_2, .int tn_2, .int tk_2, .int ar_2, .int dn_2, .int e0_2, .int e1_2]))] := hD
        refine lv_aload_n hx hb dM_mark_60 rfl (lv_at hl 1 rfl) ?_
        refine lv_iload_n hx hb dM_mark_61 rfl (lv_at hl 2 rfl) ?_
        refine lv_if_eq (tgt := 72) hx hb dM_mark_62 (by decide) (fun c_7 => ?_) (fun c_7 => ?_)
        · refine lv_aload_n hx hb dM_mark_72 rfl (lv_at hl 1 rfl) ?_
          refine va_get (D := (dC, dI)) (ci := 3) (v := .int pt_2) (C := RM) (T := TM) (N := 18) hx hb hts (by decide +kernel) hown hK hP 0 rfl rfl 6 (by decide) (hts (.fieldLink RM 65 "TornTryCounterModel" "pinTries" "I") (by decide +kernel)) (fun _ h9 => h9) rfl dM_mark_73 ?_
          refine lv_iconst (v := 1) hx hb dM_mark_76 (by decide) ?_
          refine lv_iadd hx hb dM_mark_77 ?_
          refine va_put (D := (dC, dI)) (ci := 3) (v := .int (pt_2 + 1)) (ty := .int) (C := RM) (T := TM) (N := 18) hx hb hts (by decide +kernel) tyM tyM_ok nmM hown hK hP hD hS 0 rfl rfl 6 (by decide) (hts (.fieldLink RM 65 "TornTryCounterModel" "pinTries" "I") (by decide +kernel)) (fun _ h9 => h9) rfl (by decide +kernel) rfl rfl (Nat.le_of_ble_eq_true rfl) dM_mark_78 (fun H locs hP hD hS => ?_)
          have hP : va_P (dC, dI) ttCl [(qm, .inr (3, [.int pl, .int ul, .int pk, .int ac_2, .int ag_2, .int pn_2, .int (pt_2 + 1), .int ut_2, .int (en_2 - 1), .int og_2, .int pw_2, .int hd_2, .int tn_2, .int tk_2, .int ar_2, .int dn_2, .int e0_2, .int e1_2]))] H := hP
          have hD : va_D A [(qm, .inr (3, [.int pl, .int ul, .int pk, .int ac_2, .int ag_2, .int pn_2, .int (pt_2 + 1), .int ut_2, .int (en_2 - 1), .int og_2, .int pw_2, .int hd_2, .int tn_2, .int tk_2, .int ar_2, .int dn_2, .int e0_2, .int e1_2]))] := hD
          refine lv_aload_n hx hb dM_mark_81 rfl (lv_at hl 1 rfl) ?_
          refine lv_iload_n hx hb dM_mark_82 rfl (lv_at hl 2 rfl) ?_
          refine lv_if_eq (tgt := 95) hx hb dM_mark_83 (by decide) (fun c_8 => ?_) (fun c_8 => ?_)
          · refine lv_aload_n hx hb dM_mark_95 rfl (lv_at hl 1 rfl) ?_
            refine va_get (D := (dC, dI)) (ci := 3) (v := .int ut_2) (C := RM) (T := TM) (N := 18) hx hb hts (by decide +kernel) hown hK hP 0 rfl rfl 7 (by decide) (hts (.fieldLink RM 68 "TornTryCounterModel" "pukTries" "I") (by decide +kernel)) (fun _ h9 => h9) rfl dM_mark_96 ?_
            refine va_put (D := (dC, dI)) (ci := 3) (v := .int ut_2) (ty := .int) (C := RM) (T := TM) (N := 18) hx hb hts (by decide +kernel) tyM tyM_ok nmM hown hK hP hD hS 0 rfl rfl 7 (by decide) (hts (.fieldLink RM 68 "TornTryCounterModel" "pukTries" "I") (by decide +kernel)) (fun _ h9 => h9) rfl (by decide +kernel) rfl rfl (Nat.le_of_ble_eq_true rfl) dM_mark_99 (fun H locs hP hD hS => ?_)
            have hP : va_P (dC, dI) ttCl [(qm, .inr (3, [.int pl, .int ul, .int pk, .int ac_2, .int ag_2, .int pn_2, .int (pt_2 + 1), .int ut_2, .int (en_2 - 1), .int og_2, .int pw_2, .int hd_2, .int tn_2, .int tk_2, .int ar_2, .int dn_2, .int e0_2, .int e1_2]))] H := hP
            have hD : va_D A [(qm, .inr (3, [.int pl, .int ul, .int pk, .int ac_2, .int ag_2, .int pn_2, .int (pt_2 + 1), .int ut_2, .int (en_2 - 1), .int og_2, .int pw_2, .int hd_2, .int tn_2, .int tk_2, .int ar_2, .int dn_2, .int e0_2, .int e1_2]))] := hD
            refine lv_iload_n hx hb dM_mark_102 rfl (lv_at hl 0 rfl) ?_
            refine lv_if_ge (tgt := 110) hx hb dM_mark_103 (by decide) (fun c_9 => ?_) (fun c_9 => ?_)
            · refine lv_iconst (v := 0) hx hb dM_mark_110 (by decide) ?_
              have hP9 := hP.sub (ws' := [(qm, .inr (3, [.int pl, .int ul, .int pk, .int ac_2, .int ag_2, .int pn_2, .int (pt_2 + 1), .int ut_2, .int (en_2 - 1), .int og_2, .int pw_2, .int hd_2, .int tn_2, .int tk_2, .int ar_2, .int dn_2, .int e0_2, .int e1_2]))]) [0] rfl
              have hD9 := hD.sub (ws' := [(qm, .inr (3, [.int pl, .int ul, .int pk, .int ac_2, .int ag_2, .int pn_2, .int (pt_2 + 1), .int ut_2, .int (en_2 - 1), .int og_2, .int pw_2, .int hd_2, .int tn_2, .int tk_2, .int ar_2, .int dn_2, .int e0_2, .int e1_2]))]) [0] (by decide) rfl
              have hK9 := hK.sub (tys' := []) [] rfl
              exact W.zret (v := 0) hx hb hr (by first | rfl | decide) (fun t ht hW => ⟨⟨0, (ac_2, ag_2, pn_2, pt_2 + 1, ut_2, en_2 - 1, og_2, pw_2, hd_2, tn_2, tk_2, ar_2, dn_2, e0_2, e1_2), rfl, (by first | (simp only [mm_mark, mm_m1, tt_seq_p, if_neg c_1, e_2, if_pos c_3, if_neg c_5, if_pos c_9, reduceIte, eq_self, tt_n10]; done) | (simp only [mm_mark, mm_m1, tt_seq_p, c_1, e_2, c_3, c_5, c_9, reduceIte, eq_self, tt_n10]; done) | (simp [mm_mark, mm_m1, tt_seq_p, c_1, e_2, c_3, c_5, c_9]; done)), by rw [ht]; exact hP9, va_K.moved hW.alike hK9, hD9⟩, hS.F ht⟩) hS.2.2 dM_mark_111
            · refine lv_iconst (v := 1) hx hb dM_mark_106 (by decide) ?_
              refine lv_goto (tgt := 111) hx hb dM_mark_107 (by decide) ?_
              have hP9 := hP.sub (ws' := [(qm, .inr (3, [.int pl, .int ul, .int pk, .int ac_2, .int ag_2, .int pn_2, .int (pt_2 + 1), .int ut_2, .int (en_2 - 1), .int og_2, .int pw_2, .int hd_2, .int tn_2, .int tk_2, .int ar_2, .int dn_2, .int e0_2, .int e1_2]))]) [0] rfl
              have hD9 := hD.sub (ws' := [(qm, .inr (3, [.int pl, .int ul, .int pk, .int ac_2, .int ag_2, .int pn_2, .int (pt_2 + 1), .int ut_2, .int (en_2 - 1), .int og_2, .int pw_2, .int hd_2, .int tn_2, .int tk_2, .int ar_2, .int dn_2, .int e0_2, .int e1_2]))]) [0] (by decide) rfl
              have hK9 := hK.sub (tys' := []) [] rfl
              exact W.zret (v := 1) hx hb hr (by first | rfl | decide) (fun t ht hW => ⟨⟨1, (ac_2, ag_2, pn_2, pt_2 + 1, ut_2, en_2 - 1, og_2, pw_2, hd_2, tn_2, tk_2, ar_2, dn_2, e0_2, e1_2), rfl, (by first | (simp only [mm_mark, mm_m1, tt_seq_p, if_neg c_1, e_2, if_pos c_3, if_neg c_5, if_neg c_9, reduceIte, eq_self, tt_n10]; done) | (simp only [mm_mark, mm_m1, tt_seq_p, c_1, e_2, c_3, c_5, c_9, reduceIte, eq_self, tt_n10]; done) | (simp [mm_mark, mm_m1, tt_seq_p, c_1, e_2, c_3, c_5, c_9]; done)), by rw [ht]; exact hP9, va_K.moved hW.alike hK9, hD9⟩, hS.F ht⟩) hS.2.2 dM_mark_111
          · exact absurd c_3 c_8
        · exact absurd c_3 c_7
    · refine lv_bipush (v := 16) hx hb dM_mark_38 (by decide) ?_
      refine lv_goto (tgt := 44) hx hb dM_mark_40 (by decide) ?_
      have hPc := hP.sub (ws' := []) [] rfl
      have hDc := hD.sub (ws' := []) [] (by decide) rfl
      have hKc := hK.sub (tys' := []) [] rfl
      have hFc := va_free (wc := []) hD hS hA [] rfl
      refine va_calli (va_runS (As := [.int r_2, .int 16]) (rest := []) ⟨hx, hb, hml, hown, hts⟩ (c_M_all l dC dI H.size r_2 16) (va_cwS 2 hts gM_mark_M_all rfl rfl rfl (by decide +kernel) ⟨Nat.le_of_ble_eq_true rfl, Nat.le_of_ble_eq_true rfl⟩) ⟨fun a U g mk q => by obtain ⟨q0, q1, qP, qK, qD⟩ := q; exact ⟨q0, q1, qP, va_K.moved (u := U) (U := U.calling g mk a) (Vm.Alike.refl U.vm) qK, qD⟩, fun U hU hW => ⟨rfl, by rw [hU], by rw [hU]; exact hPc, va_K.moved hW.alike hKc, hDc.weaken (fun _ _ _ _ => trivial)⟩⟩ rfl rfl hl.1 rfl (lv_room (Nat.le_of_ble_eq_true rfl)) dM_mark_44 ⟨(Nat.zero_le _), (Nat.zero_le _)⟩) hS (fun q _ h => hFc q h) hFc (fun r_10 u t H locs ht hvm hw hB hz1 hk1 hS => ?_)
      have hw : mm_all r_2 16 = r_10 := hw.symm
      subst hw
      obtain ⟨hP1, hK1, hD1⟩ := hB
      rw [ht] at hP1
      obtain ⟨hP, hD⟩ := va_join (wr := [(qm, .inr (3, [.int pl, .int ul, .int pk, .int ac_2, .int ag_2, .int pn_2, .int pt_2, .int ut_2, .int en_2, .int og_2, .int pw_2, .int hd_2, .int tn_2, .int tk_2, .int ar_2, .int dn_2, .int e0_2, .int e1_2]))]) (w1 := []) hP hD [] [0] rfl rfl (by decide) (by decide) hk1 hFc hP1 hD1
      have hP : va_P (dC, dI) ttCl [(qm, .inr (3, [.int pl, .int ul, .int pk, .int ac_2, .int ag_2, .int pn_2, .int pt_2, .int ut_2, .int en_2, .int og_2, .int pw_2, .int hd_2, .int tn_2, .int tk_2, .int ar_2, .int dn_2, .int e0_2, .int e1_2]))] H := hP
      have hD : va_D A [(qm, .inr (3, [.int pl, .int ul, .int pk, .int ac_2, .int ag_2, .int pn_2, .int pt_2, .int ut_2, .int en_2, .int og_2, .int pw_2, .int hd_2, .int tn_2, .int tk_2, .int ar_2, .int dn_2, .int e0_2, .int e1_2]))] := hD
      refine lv_if_eq (tgt := 102) hx hb dM_mark_47 (by decide) (fun c_11 => ?_) (fun c_11 => ?_)
      · refine lv_iload_n hx hb dM_mark_102 rfl (lv_at hl 0 rfl) ?_
        refine lv_if_ge (tgt := 110) hx hb dM_mark_103 (by decide) (fun c_12 => ?_) (fun c_12 => ?_)
        · refine lv_iconst (v := 0) hx hb dM_mark_110 (by decide) ?_
          have hP9 := hP.sub (ws' := [(qm, .inr (3, [.int pl, .int ul, .int pk, .int ac_2, .int ag_2, .int pn_2, .int pt_2, .int ut_2, .int en_2, .int og_2, .int pw_2, .int hd_2, .int tn_2, .int tk_2, .int ar_2, .int dn_2, .int e0_2, .int e1_2]))]) [0] rfl
          have hD9 := hD.sub (ws' := [(qm, .inr (3, [.int pl, .int ul, .int pk, .int ac_2, .int ag_2, .int pn_2, .int pt_2, .int ut_2, .int en_2, .int og_2, .int pw_2, .int hd_2, .int tn_2, .int tk_2, .int ar_2, .int dn_2, .int e0_2, .int e1_2]))]) [0] (by decide) rfl
          have hK9 := hK.sub (tys' := []) [] rfl
          exact W.zret (v := 0) hx hb hr (by first | rfl | decide) (fun t ht hW => ⟨⟨0, (ac_2, ag_2, pn_2, pt_2, ut_2, en_2, og_2, pw_2, hd_2, tn_2, tk_2, ar_2, dn_2, e0_2, e1_2), rfl, (by first | (simp only [mm_mark, mm_m1, tt_seq_p, if_neg c_1, e_2, if_neg c_3, if_pos c_11, if_pos c_12, reduceIte, eq_self, tt_n10]; done) | (simp only [mm_mark, mm_m1, tt_seq_p, c_1, e_2, c_3, c_11, c_12, reduceIte, eq_self, tt_n10]; done) | (simp [mm_mark, mm_m1, tt_seq_p, c_1, e_2, c_3, c_11, c_12]; done)), by rw [ht]; exact hP9, va_K.moved hW.alike hK9, hD9⟩, hS.F ht⟩) hS.2.2 dM_mark_111
        · refine lv_iconst (v := 1) hx hb dM_mark_106 (by decide) ?_
          refine lv_goto (tgt := 111) hx hb dM_mark_107 (by decide) ?_
          have hP9 := hP.sub (ws' := [(qm, .inr (3, [.int pl, .int ul, .int pk, .int ac_2, .int ag_2, .int pn_2, .int pt_2, .int ut_2, .int en_2, .int og_2, .int pw_2, .int hd_2, .int tn_2, .int tk_2, .int ar_2, .int dn_2, .int e0_2, .int e1_2]))]) [0] rfl
          have hD9 := hD.sub (ws' := [(qm, .inr (3, [.int pl, .int ul, .int pk, .int ac_2, .int ag_2, .int pn_2, .int pt_2, .int ut_2, .int en_2, .int og_2, .int pw_2, .int hd_2, .int tn_2, .int tk_2, .int ar_2, .int dn_2, .int e0_2, .int e1_2]))]) [0] (by decide) rfl
          have hK9 := hK.sub (tys' := []) [] rfl
          exact W.zret (v := 1) hx hb hr (by first | rfl | decide) (fun t ht hW => ⟨⟨1, (ac_2, ag_2, pn_2, pt_2, ut_2, en_2, og_2, pw_2, hd_2, tn_2, tk_2, ar_2, dn_2, e0_2, e1_2), rfl, (by first | (simp only [mm_mark, mm_m1, tt_seq_p, if_neg c_1, e_2, if_neg c_3, if_pos c_11, if_neg c_12, reduceIte, eq_self, tt_n10]; done) | (simp only [mm_mark, mm_m1, tt_seq_p, c_1, e_2, c_3, c_11, c_12, reduceIte, eq_self, tt_n10]; done) | (simp [mm_mark, mm_m1, tt_seq_p, c_1, e_2, c_3, c_11, c_12]; done)), by rw [ht]; exact hP9, va_K.moved hW.alike hK9, hD9⟩, hS.F ht⟩) hS.2.2 dM_mark_111
      · refine lv_aload_n hx hb dM_mark_50 rfl (lv_at hl 1 rfl) ?_
        refine lv_dup hx hb dM_mark_51 rfl ?_
        refine va_get (D := (dC, dI)) (ci := 3) (v := .int en_2) (C := RM) (T := TM) (N := 18) hx hb hts (by decide +kernel) hown hK hP 0 rfl rfl 8 (by decide) (hts (.fieldLink RM 7 "TornTryCounterModel" "entries" "I") (by decide +kernel)) (fun _ h9 => h9) rfl dM_mark_52 ?_
        refine lv_iconst (v := 1) hx hb dM_mark_55 (by decide) ?_
        refine lv_isub hx hb dM_mark_56 ?_
        refine va_put (D := (dC, dI)) (ci := 3) (v := .int (en_2 - 1)) (ty := .int) (C := RM) (T := TM) (N := 18) hx hb hts (by decide +kernel) tyM tyM_ok nmM hown hK hP hD hS 0 rfl rfl 8 (by decide) (hts (.fieldLink RM 7 "TornTryCounterModel" "entries" "I") (by decide +kernel)) (fun _ h9 => h9) rfl (by decide +kernel) rfl rfl (Nat.le_of_ble_eq_true rfl) dM_mark_57 (fun H locs hP hD hS => ?_)
        have hP : va_P (dC, dI) ttCl [(qm, .inr (3, [.int pl, .int ul, .int pk, .int ac_2, .int ag_2, .int pn_2, .int pt_2, .int ut_2, .int (en_2 - 1), .int og_2, .int pw_2, .int hd_2, .int tn_2, .int tk_2, .int ar_2, .int dn_2, .int e0_2, .int e1_2]))] H := hP
        have hD : va_D A [(qm, .inr (3, [.int pl, .int ul, .int pk, .int ac_2, .int ag_2, .int pn_2, .int pt_2, .int ut_2, .int (en_2 - 1), .int og_2, .int pw_2, .int hd_2, .int tn_2, .int tk_2, .int ar_2, .int dn_2, .int e0_2, .int e1_2]))] := hD
        refine lv_aload_n hx hb dM_mark_60 rfl (lv_at hl 1 rfl) ?_
        refine lv_iload_n hx hb dM_mark_61 rfl (lv_at hl 2 rfl) ?_
        refine lv_if_eq (tgt := 72) hx hb dM_mark_62 (by decide) (fun c_13 => ?_) (fun c_13 => ?_)
        · exact absurd c_13 c_3
        · refine lv_aload_n hx hb dM_mark_65 rfl (lv_at hl 1 rfl) ?_
          refine va_get (D := (dC, dI)) (ci := 3) (v := .int pt_2) (C := RM) (T := TM) (N := 18) hx hb hts (by decide +kernel) hown hK hP 0 rfl rfl 6 (by decide) (hts (.fieldLink RM 65 "TornTryCounterModel" "pinTries" "I") (by decide +kernel)) (fun _ h9 => h9) rfl dM_mark_66 ?_
          refine lv_goto (tgt := 78) hx hb dM_mark_69 (by decide) ?_
          refine va_put (D := (dC, dI)) (ci := 3) (v := .int pt_2) (ty := .int) (C := RM) (T := TM) (N := 18) hx hb hts (by decide +kernel) tyM tyM_ok nmM hown hK hP hD hS 0 rfl rfl 6 (by decide) (hts (.fieldLink RM 65 "TornTryCounterModel" "pinTries" "I") (by decide +kernel)) (fun _ h9 => h9) rfl (by decide +kernel) rfl rfl (Nat.le_of_ble_eq_true rfl) dM_mark_78 (fun H locs hP hD hS => ?_)
          have hP : va_P (dC, dI) ttCl [(qm, .inr (3, [.int pl, .int ul, .int pk, .int ac_2, .int ag_2, .int pn_2, .int pt_2, .int ut_2, .int (en_2 - 1), .int og_2, .int pw_2, .int hd_2, .int tn_2, .int tk_2, .int ar_2, .int dn_2, .int e0_2, .int e1_2]))] H := hP
          have hD : va_D A [(qm, .inr (3, [.int pl, .int ul, .int pk, .int ac_2, .int ag_2, .int pn_2, .int pt_2, .int ut_2, .int (en_2 - 1), .int og_2, .int pw_2, .int hd_2, .int tn_2, .int tk_2, .int ar_2, .int dn_2, .int e0_2, .int e1_2]))] := hD
          refine lv_aload_n hx hb dM_mark_81 rfl (lv_at hl 1 rfl) ?_
          refine lv_iload_n hx hb dM_mark_82 rfl (lv_at hl 2 rfl) ?_
          refine lv_if_eq (tgt := 95) hx hb dM_mark_83 (by decide) (fun c_14 => ?_) (fun c_14 => ?_)
          · exact absurd c_14 c_3
          · refine lv_aload_n hx hb dM_mark_86 rfl (lv_at hl 1 rfl) ?_
            refine va_get (D := (dC, dI)) (ci := 3) (v := .int ut_2) (C := RM) (T := TM) (N := 18) hx hb hts (by decide +kernel) hown hK hP 0 rfl rfl 7 (by decide) (hts (.fieldLink RM 68 "TornTryCounterModel" "pukTries" "I") (by decide +kernel)) (fun _ h9 => h9) rfl dM_mark_87 ?_
            refine lv_iconst (v := 1) hx hb dM_mark_90 (by decide) ?_
            refine lv_iadd hx hb dM_mark_91 ?_
            refine lv_goto (tgt := 99) hx hb dM_mark_92 (by decide) ?_
            refine va_put (D := (dC, dI)) (ci := 3) (v := .int (ut_2 + 1)) (ty := .int) (C := RM) (T := TM) (N := 18) hx hb hts (by decide +kernel) tyM tyM_ok nmM hown hK hP hD hS 0 rfl rfl 7 (by decide) (hts (.fieldLink RM 68 "TornTryCounterModel" "pukTries" "I") (by decide +kernel)) (fun _ h9 => h9) rfl (by decide +kernel) rfl rfl (Nat.le_of_ble_eq_true rfl) dM_mark_99 (fun H locs hP hD hS => ?_)
            have hP : va_P (dC, dI) ttCl [(qm, .inr (3, [.int pl, .int ul, .int pk, .int ac_2, .int ag_2, .int pn_2, .int pt_2, .int (ut_2 + 1), .int (en_2 - 1), .int og_2, .int pw_2, .int hd_2, .int tn_2, .int tk_2, .int ar_2, .int dn_2, .int e0_2, .int e1_2]))] H := hP
            have hD : va_D A [(qm, .inr (3, [.int pl, .int ul, .int pk, .int ac_2, .int ag_2, .int pn_2, .int pt_2, .int (ut_2 + 1), .int (en_2 - 1), .int og_2, .int pw_2, .int hd_2, .int tn_2, .int tk_2, .int ar_2, .int dn_2, .int e0_2, .int e1_2]))] := hD
            refine lv_iload_n hx hb dM_mark_102 rfl (lv_at hl 0 rfl) ?_
            refine lv_if_ge (tgt := 110) hx hb dM_mark_103 (by decide) (fun c_15 => ?_) (fun c_15 => ?_)
            · refine lv_iconst (v := 0) hx hb dM_mark_110 (by decide) ?_
              have hP9 := hP.sub (ws' := [(qm, .inr (3, [.int pl, .int ul, .int pk, .int ac_2, .int ag_2, .int pn_2, .int pt_2, .int (ut_2 + 1), .int (en_2 - 1), .int og_2, .int pw_2, .int hd_2, .int tn_2, .int tk_2, .int ar_2, .int dn_2, .int e0_2, .int e1_2]))]) [0] rfl
              have hD9 := hD.sub (ws' := [(qm, .inr (3, [.int pl, .int ul, .int pk, .int ac_2, .int ag_2, .int pn_2, .int pt_2, .int (ut_2 + 1), .int (en_2 - 1), .int og_2, .int pw_2, .int hd_2, .int tn_2, .int tk_2, .int ar_2, .int dn_2, .int e0_2, .int e1_2]))]) [0] (by decide) rfl
              have hK9 := hK.sub (tys' := []) [] rfl
              exact W.zret (v := 0) hx hb hr (by first | rfl | decide) (fun t ht hW => ⟨⟨0, (ac_2, ag_2, pn_2, pt_2, ut_2 + 1, en_2 - 1, og_2, pw_2, hd_2, tn_2, tk_2, ar_2, dn_2, e0_2, e1_2), rfl, (by first | (simp only [mm_mark, mm_m1, tt_seq_p, if_neg c_1, e_2, if_neg c_3, if_neg c_11, if_pos c_15, reduceIte, eq_self, tt_n10]; done) | (simp only [mm_mark, mm_m1, tt_seq_p, c_1, e_2, c_3, c_11, c_15, reduceIte, eq_self, tt_n10]; done) | (simp [mm_mark, mm_m1, tt_seq_p, c_1, e_2, c_3, c_11, c_15]; done)), by rw [ht]; exact hP9, va_K.moved hW.alike hK9, hD9⟩, hS.F ht⟩) hS.2.2 dM_mark_111
            · refine lv_iconst (v := 1) hx hb dM_mark_106 (by decide) ?_
              refine lv_goto (tgt := 111) hx hb dM_mark_107 (by decide) ?_
              have hP9 := hP.sub (ws' := [(qm, .inr (3, [.int pl, .int ul, .int pk, .int ac_2, .int ag_2, .int pn_2, .int pt_2, .int (ut_2 + 1), .int (en_2 - 1), .int og_2, .int pw_2, .int hd_2, .int tn_2, .int tk_2, .int ar_2, .int dn_2, .int e0_2, .int e1_2]))]) [0] rfl
              have hD9 := hD.sub (ws' := [(qm, .inr (3, [.int pl, .int ul, .int pk, .int ac_2, .int ag_2, .int pn_2, .int pt_2, .int (ut_2 + 1), .int (en_2 - 1), .int og_2, .int pw_2, .int hd_2, .int tn_2, .int tk_2, .int ar_2, .int dn_2, .int e0_2, .int e1_2]))]) [0] (by decide) rfl
              have hK9 := hK.sub (tys' := []) [] rfl
              exact W.zret (v := 1) hx hb hr (by first | rfl | decide) (fun t ht hW => ⟨⟨1, (ac_2, ag_2, pn_2, pt_2, ut_2 + 1, en_2 - 1, og_2, pw_2, hd_2, tn_2, tk_2, ar_2, dn_2, e0_2, e1_2), rfl, (by first | (simp only [mm_mark, mm_m1, tt_seq_p, if_neg c_1, e_2, if_neg c_3, if_neg c_11, if_neg c_15, reduceIte, eq_self, tt_n10]; done) | (simp only [mm_mark, mm_m1, tt_seq_p, c_1, e_2, c_3, c_11, c_15, reduceIte, eq_self, tt_n10]; done) | (simp [mm_mark, mm_m1, tt_seq_p, c_1, e_2, c_3, c_11, c_15]; done)), by rw [ht]; exact hP9, va_K.moved hW.alike hK9, hD9⟩, hS.F ht⟩) hS.2.2 dM_mark_111
  · refine lv_aload_n hx hb dM_mark_7 rfl (lv_at hl 0 rfl) ?_
    refine lv_aload_n hx hb dM_mark_8 rfl (lv_at hl 0 rfl) ?_
    refine va_get (D := (dC, dI)) (ci := 3) (v := .int pn) (C := RM) (T := TM) (N := 18) hx hb hts (by decide +kernel) hown hK hP 0 rfl rfl 5 (by decide) (hts (.fieldLink RM 18 "TornTryCounterModel" "pinNumber" "I") (by decide +kernel)) (fun _ h9 => h9) rfl dM_mark_9 ?_
    refine lv_aload_n hx hb dM_mark_12 rfl (lv_at hl 0 rfl) ?_
    refine va_get (D := (dC, dI)) (ci := 3) (v := .int pt) (C := RM) (T := TM) (N := 18) hx hb hts (by decide +kernel) hown hK hP 0 rfl rfl 6 (by decide) (hts (.fieldLink RM 65 "TornTryCounterModel" "pinTries" "I") (by decide +kernel)) (fun _ h9 => h9) rfl dM_mark_13 ?_
    refine lv_aload_n hx hb dM_mark_16 rfl (lv_at hl 0 rfl) ?_
    refine va_get (D := (dC, dI)) (ci := 3) (v := .int ut) (C := RM) (T := TM) (N := 18) hx hb hts (by decide +kernel) hown hK hP 0 rfl rfl 7 (by decide) (hts (.fieldLink RM 68 "TornTryCounterModel" "pukTries" "I") (by decide +kernel)) (fun _ h9 => h9) rfl dM_mark_17 ?_
    have hPc := hP.sub (ws' := [(qm, .inr (3, [.int pl, .int ul, .int pk, .int ac, .int ag, .int pn, .int pt, .int ut, .int en, .int og, .int pw, .int hd, .int tn, .int tk, .int ar, .int dn, .int e0, .int e1]))]) [0] rfl
    have hDc := hD.sub (ws' := [(qm, .inr (3, [.int pl, .int ul, .int pk, .int ac, .int ag, .int pn, .int pt, .int ut, .int en, .int og, .int pw, .int hd, .int tn, .int tk, .int ar, .int dn, .int e0, .int e1]))]) [0] (by decide) rfl
    have hKc := hK.sub (tys' := []) [] rfl
    have hFc := va_free (wc := [(qm, .inr (3, [.int pl, .int ul, .int pk, .int ac, .int ag, .int pn, .int pt, .int ut, .int en, .int og, .int pw, .int hd, .int tn, .int tk, .int ar, .int dn, .int e0, .int e1]))]) hD hS hA [0] rfl
    refine va_calli (va_runV (As := [.int pn, .int pt, .int ut]) (rest := []) ⟨hx, hb, hml, hown, hts⟩ (c_M_turn l dC dI qm s.heap.size pk pl ul ac ag pn pt ut en og pw hd tn tk ar dn e0 e1 pn pt ut) (cwV 3 hts gM_mark_M_turn rfl rfl rfl (by decide +kernel) ⟨Nat.le_of_ble_eq_true rfl, Nat.le_of_ble_eq_true rfl⟩) ⟨fun a U g mk q => by obtain ⟨q0, q1, qP, qK, qD⟩ := q; exact ⟨q0, q1, qP, va_K.moved (u := U) (U := U.calling g mk a) (Vm.Alike.refl U.vm) qK, qD⟩, va_recv hKc hPc (ci := 3) (q0 := 0) rfl rfl, fun U hU hW => ⟨rfl, by rw [hU], by rw [hU]; exact hPc, va_K.moved hW.alike hKc, hDc.weaken (fun _ _ _ _ => trivial)⟩⟩ rfl rfl hl.1 rfl (lv_room (Nat.le_of_ble_eq_true rfl)) dM_mark_20 ⟨(Nat.zero_le _), (Nat.zero_le _)⟩) hS (fun q _ h => hFc q h) hFc (fun r_16 u t H locs ht hvm hw hB hz1 hk1 hS => ?_)
    obtain ⟨ac_16, ag_16, pn_16, pt_16, ut_16, en_16, og_16, pw_16, hd_16, tn_16, tk_16, ar_16, dn_16, e0_16, e1_16⟩ := u
    obtain ⟨hP1, hK1, hD1⟩ := hB
    have e_16 : mm_turn (ac, ag, pn, pt, ut, en, og, pw, hd, tn, tk, ar, dn, e0, e1) pn pt ut = (r_16, (ac_16, ag_16, pn_16, pt_16, ut_16, en_16, og_16, pw_16, hd_16, tn_16, tk_16, ar_16, dn_16, e0_16, e1_16)) := hw
    rw [ht] at hP1
    obtain ⟨hP, hD⟩ := va_join (wr := []) (w1 := [(qm, .inr (3, [.int pl, .int ul, .int pk, .int ac_16, .int ag_16, .int pn_16, .int pt_16, .int ut_16, .int en_16, .int og_16, .int pw_16, .int hd_16, .int tn_16, .int tk_16, .int ar_16, .int dn_16, .int e0_16, .int e1_16]))]) hP hD [0] [] rfl rfl (by decide) (by decide) hk1 hFc hP1 hD1
    have hP : va_P (dC, dI) ttCl [(qm, .inr (3, [.int pl, .int ul, .int pk, .int ac_16, .int ag_16, .int pn_16, .int pt_16, .int ut_16, .int en_16, .int og_16, .int pw_16, .int hd_16, .int tn_16, .int tk_16, .int ar_16, .int dn_16, .int e0_16, .int e1_16]))] H := hP
    have hD : va_D A [(qm, .inr (3, [.int pl, .int ul, .int pk, .int ac_16, .int ag_16, .int pn_16, .int pt_16, .int ut_16, .int en_16, .int og_16, .int pw_16, .int hd_16, .int tn_16, .int tk_16, .int ar_16, .int dn_16, .int e0_16, .int e1_16]))] := hD
    refine lv_if_ne (tgt := 28) hx hb dM_mark_23 (by decide) (fun c_17 => ?_) (fun c_17 => ?_)
    · refine lv_aload_n hx hb dM_mark_28 rfl (lv_at hl 0 rfl) ?_
      have hPc := hP.sub (ws' := [(qm, .inr (3, [.int pl, .int ul, .int pk, .int ac_16, .int ag_16, .int pn_16, .int pt_16, .int ut_16, .int en_16, .int og_16, .int pw_16, .int hd_16, .int tn_16, .int tk_16, .int ar_16, .int dn_16, .int e0_16, .int e1_16]))]) [0] rfl
      have hDc := hD.sub (ws' := [(qm, .inr (3, [.int pl, .int ul, .int pk, .int ac_16, .int ag_16, .int pn_16, .int pt_16, .int ut_16, .int en_16, .int og_16, .int pw_16, .int hd_16, .int tn_16, .int tk_16, .int ar_16, .int dn_16, .int e0_16, .int e1_16]))]) [0] (by decide) rfl
      have hKc := hK.sub (tys' := []) [] rfl
      have hFc := va_free (wc := [(qm, .inr (3, [.int pl, .int ul, .int pk, .int ac_16, .int ag_16, .int pn_16, .int pt_16, .int ut_16, .int en_16, .int og_16, .int pw_16, .int hd_16, .int tn_16, .int tk_16, .int ar_16, .int dn_16, .int e0_16, .int e1_16]))]) hD hS hA [0] rfl
      refine va_calli (va_runV (As := []) (rest := []) ⟨hx, hb, hml, hown, hts⟩ (c_M_operate l dC dI qm H.size pk pl ul ac_16 ag_16 pn_16 pt_16 ut_16 en_16 og_16 pw_16 hd_16 tn_16 tk_16 ar_16 dn_16 e0_16 e1_16) (cwV 0 hts gM_mark_M_operate rfl rfl rfl (by decide +kernel) ⟨Nat.le_of_ble_eq_true rfl, Nat.le_of_ble_eq_true rfl⟩) ⟨fun a U g mk q => by obtain ⟨q0, q1, qP, qK, qD⟩ := q; exact ⟨q0, q1, qP, va_K.moved (u := U) (U := U.calling g mk a) (Vm.Alike.refl U.vm) qK, qD⟩, va_recv hKc hPc (ci := 3) (q0 := 0) rfl rfl, fun U hU hW => ⟨rfl, by rw [hU], by rw [hU]; exact hPc, va_K.moved hW.alike hKc, hDc.weaken (fun _ _ _ _ => trivial)⟩⟩ rfl rfl hl.1 rfl (lv_room (Nat.le_of_ble_eq_true rfl)) dM_mark_29 ⟨(Nat.zero_le _), (Nat.zero_le _)⟩) hS (fun q _ h => hFc q h) hFc (fun r_18 u t H locs ht hvm hw hB hz1 hk1 hS => ?_)
      obtain ⟨ac_18, ag_18, pn_18, pt_18, ut_18, en_18, og_18, pw_18, hd_18, tn_18, tk_18, ar_18, dn_18, e0_18, e1_18⟩ := u
      obtain ⟨hP1, hK1, hD1⟩ := hB
      have e_18 : mm_op (ac_16, ag_16, pn_16, pt_16, ut_16, en_16, og_16, pw_16, hd_16, tn_16, tk_16, ar_16, dn_16, e0_16, e1_16) = (r_18, (ac_18, ag_18, pn_18, pt_18, ut_18, en_18, og_18, pw_18, hd_18, tn_18, tk_18, ar_18, dn_18, e0_18, e1_18)) := hw
      rw [ht] at hP1
      obtain ⟨hP, hD⟩ := va_join (wr := []) (w1 := [(qm, .inr (3, [.int pl, .int ul, .int pk, .int ac_18, .int ag_18, .int pn_18, .int pt_18, .int ut_18, .int en_18, .int og_18, .int pw_18, .int hd_18, .int tn_18, .int tk_18, .int ar_18, .int dn_18, .int e0_18, .int e1_18]))]) hP hD [0] [] rfl rfl (by decide) (by decide) hk1 hFc hP1 hD1
      have hP : va_P (dC, dI) ttCl [(qm, .inr (3, [.int pl, .int ul, .int pk, .int ac_18, .int ag_18, .int pn_18, .int pt_18, .int ut_18, .int en_18, .int og_18, .int pw_18, .int hd_18, .int tn_18, .int tk_18, .int ar_18, .int dn_18, .int e0_18, .int e1_18]))] H := hP
      have hD : va_D A [(qm, .inr (3, [.int pl, .int ul, .int pk, .int ac_18, .int ag_18, .int pn_18, .int pt_18, .int ut_18, .int en_18, .int og_18, .int pw_18, .int hd_18, .int tn_18, .int tk_18, .int ar_18, .int dn_18, .int e0_18, .int e1_18]))] := hD
      refine lv_istore_n (lv' := [(2, .int r_18), (0, .ref qm), (1, .int k)]) hx hb dM_mark_32 rfl hl (by decide) rfl (fun ls hl => ?_)
      refine lv_iload_n hx hb dM_mark_33 rfl (lv_at hl 0 rfl) ?_
      refine lv_iload_n hx hb dM_mark_34 rfl (lv_at hl 2 rfl) ?_
      refine lv_if_eq (tgt := 43) hx hb dM_mark_35 (by decide) (fun c_19 => ?_) (fun c_19 => ?_)
      · refine lv_iconst (v := 1) hx hb dM_mark_43 (by decide) ?_
        have hPc := hP.sub (ws' := []) [] rfl
        have hDc := hD.sub (ws' := []) [] (by decide) rfl
        have hKc := hK.sub (tys' := []) [] rfl
        have hFc := va_free (wc := []) hD hS hA [] rfl
        refine va_calli (va_runS (As := [.int r_18, .int 1]) (rest := []) ⟨hx, hb, hml, hown, hts⟩ (c_M_all l dC dI H.size r_18 1) (va_cwS 2 hts gM_mark_M_all rfl rfl rfl (by decide +kernel) ⟨Nat.le_of_ble_eq_true rfl, Nat.le_of_ble_eq_true rfl⟩) ⟨fun a U g mk q => by obtain ⟨q0, q1, qP, qK, qD⟩ := q; exact ⟨q0, q1, qP, va_K.moved (u := U) (U := U.calling g mk a) (Vm.Alike.refl U.vm) qK, qD⟩, fun U hU hW => ⟨rfl, by rw [hU], by rw [hU]; exact hPc, va_K.moved hW.alike hKc, hDc.weaken (fun _ _ _ _ => trivial)⟩⟩ rfl rfl hl.1 rfl (lv_room (Nat.le_of_ble_eq_true rfl)) dM_mark_44 ⟨(Nat.zero_le _), (Nat.zero_le _)⟩) hS (fun q _ h => hFc q h) hFc (fun r_20 u t H locs ht hvm hw hB hz1 hk1 hS => ?_)
        have hw : mm_all r_18 1 = r_20 := hw.symm
        subst hw
        obtain ⟨hP1, hK1, hD1⟩ := hB
        rw [ht] at hP1
        obtain ⟨hP, hD⟩ := va_join (wr := [(qm, .inr (3, [.int pl, .int ul, .int pk, .int ac_18, .int ag_18, .int pn_18, .int pt_18, .int ut_18, .int en_18, .int og_18, .int pw_18, .int hd_18, .int tn_18, .int tk_18, .int ar_18, .int dn_18, .int e0_18, .int e1_18]))]) (w1 := []) hP hD [] [0] rfl rfl (by decide) (by decide) hk1 hFc hP1 hD1
        have hP : va_P (dC, dI) ttCl [(qm, .inr (3, [.int pl, .int ul, .int pk, .int ac_18, .int ag_18, .int pn_18, .int pt_18, .int ut_18, .int en_18, .int og_18, .int pw_18, .int hd_18, .int tn_18, .int tk_18, .int ar_18, .int dn_18, .int e0_18, .int e1_18]))] H := hP
        have hD : va_D A [(qm, .inr (3, [.int pl, .int ul, .int pk, .int ac_18, .int ag_18, .int pn_18, .int pt_18, .int ut_18, .int en_18, .int og_18, .int pw_18, .int hd_18, .int tn_18, .int tk_18, .int ar_18, .int dn_18, .int e0_18, .int e1_18]))] := hD
        refine lv_if_eq (tgt := 102) hx hb dM_mark_47 (by decide) (fun c_21 => ?_) (fun c_21 => ?_)
        · refine lv_iload_n hx hb dM_mark_102 rfl (lv_at hl 0 rfl) ?_
          refine lv_if_ge (tgt := 110) hx hb dM_mark_103 (by decide) (fun c_22 => ?_) (fun c_22 => ?_)
          · refine lv_iconst (v := 0) hx hb dM_mark_110 (by decide) ?_
            have hP9 := hP.sub (ws' := [(qm, .inr (3, [.int pl, .int ul, .int pk, .int ac_18, .int ag_18, .int pn_18, .int pt_18, .int ut_18, .int en_18, .int og_18, .int pw_18, .int hd_18, .int tn_18, .int tk_18, .int ar_18, .int dn_18, .int e0_18, .int e1_18]))]) [0] rfl
            have hD9 := hD.sub (ws' := [(qm, .inr (3, [.int pl, .int ul, .int pk, .int ac_18, .int ag_18, .int pn_18, .int pt_18, .int ut_18, .int en_18, .int og_18, .int pw_18, .int hd_18, .int tn_18, .int tk_18, .int ar_18, .int dn_18, .int e0_18, .int e1_18]))]) [0] (by decide) rfl
            have hK9 := hK.sub (tys' := []) [] rfl
            exact W.zret (v := 0) hx hb hr (by first | rfl | decide) (fun t ht hW => ⟨⟨0, (ac_18, ag_18, pn_18, pt_18, ut_18, en_18, og_18, pw_18, hd_18, tn_18, tk_18, ar_18, dn_18, e0_18, e1_18), rfl, (by first | (simp only [mm_mark, mm_m1, tt_seq_p, if_pos c_1, e_16, if_neg c_17, e_18, if_pos c_19, if_pos c_21, if_pos c_22, reduceIte, eq_self, tt_n10]; done) | (simp only [mm_mark, mm_m1, tt_seq_p, c_1, e_16, c_17, e_18, c_19, c_21, c_22, reduceIte, eq_self, tt_n10]; done) | (simp [mm_mark, mm_m1, tt_seq_p, c_1, e_16, c_17, e_18, c_19, c_21, c_22]; done)), by rw [ht]; exact hP9, va_K.moved hW.alike hK9, hD9⟩, hS.F ht⟩) hS.2.2 dM_mark_111
          · refine lv_iconst (v := 1) hx hb dM_mark_106 (by decide) ?_
            refine lv_goto (tgt := 111) hx hb dM_mark_107 (by decide) ?_
            have hP9 := hP.sub (ws' := [(qm, .inr (3, [.int pl, .int ul, .int pk, .int ac_18, .int ag_18, .int pn_18, .int pt_18, .int ut_18, .int en_18, .int og_18, .int pw_18, .int hd_18, .int tn_18, .int tk_18, .int ar_18, .int dn_18, .int e0_18, .int e1_18]))]) [0] rfl
            have hD9 := hD.sub (ws' := [(qm, .inr (3, [.int pl, .int ul, .int pk, .int ac_18, .int ag_18, .int pn_18, .int pt_18, .int ut_18, .int en_18, .int og_18, .int pw_18, .int hd_18, .int tn_18, .int tk_18, .int ar_18, .int dn_18, .int e0_18, .int e1_18]))]) [0] (by decide) rfl
            have hK9 := hK.sub (tys' := []) [] rfl
            exact W.zret (v := 1) hx hb hr (by first | rfl | decide) (fun t ht hW => ⟨⟨1, (ac_18, ag_18, pn_18, pt_18, ut_18, en_18, og_18, pw_18, hd_18, tn_18, tk_18, ar_18, dn_18, e0_18, e1_18), rfl, (by first | (simp only [mm_mark, mm_m1, tt_seq_p, if_pos c_1, e_16, if_neg c_17, e_18, if_pos c_19, if_pos c_21, if_neg c_22, reduceIte, eq_self, tt_n10]; done) | (simp only [mm_mark, mm_m1, tt_seq_p, c_1, e_16, c_17, e_18, c_19, c_21, c_22, reduceIte, eq_self, tt_n10]; done) | (simp [mm_mark, mm_m1, tt_seq_p, c_1, e_16, c_17, e_18, c_19, c_21, c_22]; done)), by rw [ht]; exact hP9, va_K.moved hW.alike hK9, hD9⟩, hS.F ht⟩) hS.2.2 dM_mark_111
        · refine lv_aload_n hx hb dM_mark_50 rfl (lv_at hl 1 rfl) ?_
          refine lv_dup hx hb dM_mark_51 rfl ?_
          refine va_get (D := (dC, dI)) (ci := 3) (v := .int en_18) (C := RM) (T := TM) (N := 18) hx hb hts (by decide +kernel) hown hK hP 0 rfl rfl 8 (by decide) (hts (.fieldLink RM 7 "TornTryCounterModel" "entries" "I") (by decide +kernel)) (fun _ h9 => h9) rfl dM_mark_52 ?_
          refine lv_iconst (v := 1) hx hb dM_mark_55 (by decide) ?_
          refine lv_isub hx hb dM_mark_56 ?_
          refine va_put (D := (dC, dI)) (ci := 3) (v := .int (en_18 - 1)) (ty := .int) (C := RM) (T := TM) (N := 18) hx hb hts (by decide +kernel) tyM tyM_ok nmM hown hK hP hD hS 0 rfl rfl 8 (by decide) (hts (.fieldLink RM 7 "TornTryCounterModel" "entries" "I") (by decide +kernel)) (fun _ h9 => h9) rfl (by decide +kernel) rfl rfl (Nat.le_of_ble_eq_true rfl) dM_mark_57 (fun H locs hP hD hS => ?_)
          have hP : va_P (dC, dI) ttCl [(qm, .inr (3, [.int pl, .int ul, .int pk, .int ac_18, .int ag_18, .int pn_18, .int pt_18, .int ut_18, .int (en_18 - 1), .int og_18, .int pw_18, .int hd_18, .int tn_18, .int tk_18, .int ar_18, .int dn_18, .int e0_18, .int e1_18]))] H := hP
          have hD : va_D A [(qm, .inr (3, [.int pl, .int ul, .int pk, .int ac_18, .int ag_18, .int pn_18, .int pt_18, .int ut_18, .int (en_18 - 1), .int og_18, .int pw_18, .int hd_18, .int tn_18, .int tk_18, .int ar_18, .int dn_18, .int e0_18, .int e1_18]))] := hD
          refine lv_aload_n hx hb dM_mark_60 rfl (lv_at hl 1 rfl) ?_
          refine lv_iload_n hx hb dM_mark_61 rfl (lv_at hl 2 rfl) ?_
          refine lv_if_eq (tgt := 72) hx hb dM_mark_62 (by decide) (fun c_23 => ?_) (fun c_23 => ?_)
          · refine lv_aload_n hx hb dM_mark_72 rfl (lv_at hl 1 rfl) ?_
            refine va_get (D := (dC, dI)) (ci := 3) (v := .int pt_18) (C := RM) (T := TM) (N := 18) hx hb hts (by decide +kernel) hown hK hP 0 rfl rfl 6 (by decide) (hts (.fieldLink RM 65 "TornTryCounterModel" "pinTries" "I") (by decide +kernel)) (fun _ h9 => h9) rfl dM_mark_73 ?_
            refine lv_iconst (v := 1) hx hb dM_mark_76 (by decide) ?_
            refine lv_iadd hx hb dM_mark_77 ?_
            refine va_put (D := (dC, dI)) (ci := 3) (v := .int (pt_18 + 1)) (ty := .int) (C := RM) (T := TM) (N := 18) hx hb hts (by decide +kernel) tyM tyM_ok nmM hown hK hP hD hS 0 rfl rfl 6 (by decide) (hts (.fieldLink RM 65 "TornTryCounterModel" "pinTries" "I") (by decide +kernel)) (fun _ h9 => h9) rfl (by decide +kernel) rfl rfl (Nat.le_of_ble_eq_true rfl) dM_mark_78 (fun H locs hP hD hS => ?_)
            have hP : va_P (dC, dI) ttCl [(qm, .inr (3, [.int pl, .int ul, .int pk, .int ac_18, .int ag_18, .int pn_18, .int (pt_18 + 1), .int ut_18, .int (en_18 - 1), .int og_18, .int pw_18, .int hd_18, .int tn_18, .int tk_18, .int ar_18, .int dn_18, .int e0_18, .int e1_18]))] H := hP
            have hD : va_D A [(qm, .inr (3, [.int pl, .int ul, .int pk, .int ac_18, .int ag_18, .int pn_18, .int (pt_18 + 1), .int ut_18, .int (en_18 - 1), .int og_18, .int pw_18, .int hd_18, .int tn_18, .int tk_18, .int ar_18, .int dn_18, .int e0_18, .int e1_18]))] := hD
            refine lv_aload_n hx hb dM_mark_81 rfl (lv_at hl 1 rfl) ?_
            refine lv_iload_n hx hb dM_mark_82 rfl (lv_at hl 2 rfl) ?_
            refine lv_if_eq (tgt := 95) hx hb dM_mark_83 (by decide) (fun c_24 => ?_) (fun c_24 => ?_)
            · refine lv_aload_n hx hb dM_mark_95 rfl (lv_at hl 1 rfl) ?_
              refine va_get (D := (dC, dI)) (ci := 3) (v := .int ut_18) (C := RM) (T := TM) (N := 18) hx hb hts (by decide +kernel) hown hK hP 0 rfl rfl 7 (by decide) (hts (.fieldLink RM 68 "TornTryCounterModel" "pukTries" "I") (by decide +kernel)) (fun _ h9 => h9) rfl dM_mark_96 ?_
              refine va_put (D := (dC, dI)) (ci := 3) (v := .int ut_18) (ty := .int) (C := RM) (T := TM) (N := 18) hx hb hts (by decide +kernel) tyM tyM_ok nmM hown hK hP hD hS 0 rfl rfl 7 (by decide) (hts (.fieldLink RM 68 "TornTryCounterModel" "pukTries" "I") (by decide +kernel)) (fun _ h9 => h9) rfl (by decide +kernel) rfl rfl (Nat.le_of_ble_eq_true rfl) dM_mark_99 (fun H locs hP hD hS => ?_)
              have hP : va_P (dC, dI) ttCl [(qm, .inr (3, [.int pl, .int ul, .int pk, .int ac_18, .int ag_18, .int pn_18, .int (pt_18 + 1), .int ut_18, .int (en_18 - 1), .int og_18, .int pw_18, .int hd_18, .int tn_18, .int tk_18, .int ar_18, .int dn_18, .int e0_18, .int e1_18]))] H := hP
              have hD : va_D A [(qm, .inr (3, [.int pl, .int ul, .int pk, .int ac_18, .int ag_18, .int pn_18, .int (pt_18 + 1), .int ut_18, .int (en_18 - 1), .int og_18, .int pw_18, .int hd_18, .int tn_18, .int tk_18, .int ar_18, .int dn_18, .int e0_18, .int e1_18]))] := hD
              refine lv_iload_n hx hb dM_mark_102 rfl (lv_at hl 0 rfl) ?_
              refine lv_if_ge (tgt := 110) hx hb dM_mark_103 (by decide) (fun c_25 => ?_) (fun c_25 => ?_)
              · refine lv_iconst (v := 0) hx hb dM_mark_110 (by decide) ?_
                have hP9 := hP.sub (ws' := [(qm, .inr (3, [.int pl, .int ul, .int pk, .int ac_18, .int ag_18, .int pn_18, .int (pt_18 + 1), .int ut_18, .int (en_18 - 1), .int og_18, .int pw_18, .int hd_18, .int tn_18, .int tk_18, .int ar_18, .int dn_18, .int e0_18, .int e1_18]))]) [0] rfl
                have hD9 := hD.sub (ws' := [(qm, .inr (3, [.int pl, .int ul, .int pk, .int ac_18, .int ag_18, .int pn_18, .int (pt_18 + 1), .int ut_18, .int (en_18 - 1), .int og_18, .int pw_18, .int hd_18, .int tn_18, .int tk_18, .int ar_18, .int dn_18, .int e0_18, .int e1_18]))]) [0] (by decide) rfl
                have hK9 := hK.sub (tys' := []) [] rfl
                exact W.zret (v := 0) hx hb hr (by first | rfl | decide) (fun t ht hW => ⟨⟨0, (ac_18, ag_18, pn_18, pt_18 + 1, ut_18, en_18 - 1, og_18, pw_18, hd_18, tn_18, tk_18, ar_18, dn_18, e0_18, e1_18), rfl, (by first | (simp only [mm_mark, mm_m1, tt_seq_p, if_pos c_1, e_16, if_neg c_17, e_18, if_pos c_19, if_neg c_21, if_pos c_25, reduceIte, eq_self, tt_n10]; done) | (simp only [mm_mark, mm_m1, tt_seq_p, c_1, e_16, c_17, e_18, c_19, c_21, c_25, reduceIte, eq_self, tt_n10]; done) | (simp [mm_mark, mm_m1, tt_seq_p, c_1, e_16, c_17, e_18, c_19, c_21, c_25]; done)), by rw [ht]; exact hP9, va_K.moved hW.alike hK9, hD9⟩, hS.F ht⟩) hS.2.2 dM_mark_111
              · refine lv_iconst (v := 1) hx hb dM_mark_106 (by decide) ?_
                refine lv_goto (tgt := 111) hx hb dM_mark_107 (by decide) ?_
                have hP9 := hP.sub (ws' := [(qm, .inr (3, [.int pl, .int ul, .int pk, .int ac_18, .int ag_18, .int pn_18, .int (pt_18 + 1), .int ut_18, .int (en_18 - 1), .int og_18, .int pw_18, .int hd_18, .int tn_18, .int tk_18, .int ar_18, .int dn_18, .int e0_18, .int e1_18]))]) [0] rfl
                have hD9 := hD.sub (ws' := [(qm, .inr (3, [.int pl, .int ul, .int pk, .int ac_18, .int ag_18, .int pn_18, .int (pt_18 + 1), .int ut_18, .int (en_18 - 1), .int og_18, .int pw_18, .int hd_18, .int tn_18, .int tk_18, .int ar_18, .int dn_18, .int e0_18, .int e1_18]))]) [0] (by decide) rfl
                have hK9 := hK.sub (tys' := []) [] rfl
                exact W.zret (v := 1) hx hb hr (by first | rfl | decide) (fun t ht hW => ⟨⟨1, (ac_18, ag_18, pn_18, pt_18 + 1, ut_18, en_18 - 1, og_18, pw_18, hd_18, tn_18, tk_18, ar_18, dn_18, e0_18, e1_18), rfl, (by first | (simp only [mm_mark, mm_m1, tt_seq_p, if_pos c_1, e_16, if_neg c_17, e_18, if_pos c_19, if_neg c_21, if_neg c_25, reduceIte, eq_self, tt_n10]; done) | (simp only [mm_mark, mm_m1, tt_seq_p, c_1, e_16, c_17, e_18, c_19, c_21, c_25, reduceIte, eq_self, tt_n10]; done) | (simp [mm_mark, mm_m1, tt_seq_p, c_1, e_16, c_17, e_18, c_19, c_21, c_25]; done)), by rw [ht]; exact hP9, va_K.moved hW.alike hK9, hD9⟩, hS.F ht⟩) hS.2.2 dM_mark_111
            · exact absurd c_19 c_24
          · exact absurd c_19 c_23
      · refine lv_bipush (v := 16) hx hb dM_mark_38 (by decide) ?_
        refine lv_goto (tgt := 44) hx hb dM_mark_40 (by decide) ?_
        have hPc := hP.sub (ws' := []) [] rfl
        have hDc := hD.sub (ws' := []) [] (by decide) rfl
        have hKc := hK.sub (tys' := []) [] rfl
        have hFc := va_free (wc := []) hD hS hA [] rfl
        refine va_calli (va_runS (As := [.int r_18, .int 16]) (rest := []) ⟨hx, hb, hml, hown, hts⟩ (c_M_all l dC dI H.size r_18 16) (va_cwS 2 hts gM_mark_M_all rfl rfl rfl (by decide +kernel) ⟨Nat.le_of_ble_eq_true rfl, Nat.le_of_ble_eq_true rfl⟩) ⟨fun a U g mk q => by obtain ⟨q0, q1, qP, qK, qD⟩ := q; exact ⟨q0, q1, qP, va_K.moved (u := U) (U := U.calling g mk a) (Vm.Alike.refl U.vm) qK, qD⟩, fun U hU hW => ⟨rfl, by rw [hU], by rw [hU]; exact hPc, va_K.moved hW.alike hKc, hDc.weaken (fun _ _ _ _ => trivial)⟩⟩ rfl rfl hl.1 rfl (lv_room (Nat.le_of_ble_eq_true rfl)) dM_mark_44 ⟨(Nat.zero_le _), (Nat.zero_le _)⟩) hS (fun q _ h => hFc q h) hFc (fun r_26 u t H locs ht hvm hw hB hz1 hk1 hS => ?_)
        have hw : mm_all r_18 16 = r_26 := hw.symm
        subst hw
        obtain ⟨hP1, hK1, hD1⟩ := hB
        rw [ht] at hP1
        obtain ⟨hP, hD⟩ := va_join (wr := [(qm, .inr (3, [.int pl, .int ul, .int pk, .int ac_18, .int ag_18, .int pn_18, .int pt_18, .int ut_18, .int en_18, .int og_18, .int pw_18, .int hd_18, .int tn_18, .int tk_18, .int ar_18, .int dn_18, .int e0_18, .int e1_18]))]) (w1 := []) hP hD [] [0] rfl rfl (by decide) (by decide) hk1 hFc hP1 hD1
        have hP : va_P (dC, dI) ttCl [(qm, .inr (3, [.int pl, .int ul, .int pk, .int ac_18, .int ag_18, .int pn_18, .int pt_18, .int ut_18, .int en_18, .int og_18, .int pw_18, .int hd_18, .int tn_18, .int tk_18, .int ar_18, .int dn_18, .int e0_18, .int e1_18]))] H := hP
        have hD : va_D A [(qm, .inr (3, [.int pl, .int ul, .int pk, .int ac_18, .int ag_18, .int pn_18, .int pt_18, .int ut_18, .int en_18, .int og_18, .int pw_18, .int hd_18, .int tn_18, .int tk_18, .int ar_18, .int dn_18, .int e0_18, .int e1_18]))] := hD
        refine lv_if_eq (tgt := 102) hx hb dM_mark_47 (by decide) (fun c_27 => ?_) (fun c_27 => ?_)
        · refine lv_iload_n hx hb dM_mark_102 rfl (lv_at hl 0 rfl) ?_
          refine lv_if_ge (tgt := 110) hx hb dM_mark_103 (by decide) (fun c_28 => ?_) (fun c_28 => ?_)
          · refine lv_iconst (v := 0) hx hb dM_mark_110 (by decide) ?_
            have hP9 := hP.sub (ws' := [(qm, .inr (3, [.int pl, .int ul, .int pk, .int ac_18, .int ag_18, .int pn_18, .int pt_18, .int ut_18, .int en_18, .int og_18, .int pw_18, .int hd_18, .int tn_18, .int tk_18, .int ar_18, .int dn_18, .int e0_18, .int e1_18]))]) [0] rfl
            have hD9 := hD.sub (ws' := [(qm, .inr (3, [.int pl, .int ul, .int pk, .int ac_18, .int ag_18, .int pn_18, .int pt_18, .int ut_18, .int en_18, .int og_18, .int pw_18, .int hd_18, .int tn_18, .int tk_18, .int ar_18, .int dn_18, .int e0_18, .int e1_18]))]) [0] (by decide) rfl
            have hK9 := hK.sub (tys' := []) [] rfl
            exact W.zret (v := 0) hx hb hr (by first | rfl | decide) (fun t ht hW => ⟨⟨0, (ac_18, ag_18, pn_18, pt_18, ut_18, en_18, og_18, pw_18, hd_18, tn_18, tk_18, ar_18, dn_18, e0_18, e1_18), rfl, (by first | (simp only [mm_mark, mm_m1, tt_seq_p, if_pos c_1, e_16, if_neg c_17, e_18, if_neg c_19, if_pos c_27, if_pos c_28, reduceIte, eq_self, tt_n10]; done) | (simp only [mm_mark, mm_m1, tt_seq_p, c_1, e_16, c_17, e_18, c_19, c_27, c_28, reduceIte, eq_self, tt_n10]; done) | (simp [mm_mark, mm_m1, tt_seq_p, c_1, e_16, c_17, e_18, c_19, c_27, c_28]; done)), by rw [ht]; exact hP9, va_K.moved hW.alike hK9, hD9⟩, hS.F ht⟩) hS.2.2 dM_mark_111
          · refine lv_iconst (v := 1) hx hb dM_mark_106 (by decide) ?_
            refine lv_goto (tgt := 111) hx hb dM_mark_107 (by decide) ?_
            have hP9 := hP.sub (ws' := [(qm, .inr (3, [.int pl, .int ul, .int pk, .int ac_18, .int ag_18, .int pn_18, .int pt_18, .int ut_18, .int en_18, .int og_18, .int pw_18, .int hd_18, .int tn_18, .int tk_18, .int ar_18, .int dn_18, .int e0_18, .int e1_18]))]) [0] rfl
            have hD9 := hD.sub (ws' := [(qm, .inr (3, [.int pl, .int ul, .int pk, .int ac_18, .int ag_18, .int pn_18, .int pt_18, .int ut_18, .int en_18, .int og_18, .int pw_18, .int hd_18, .int tn_18, .int tk_18, .int ar_18, .int dn_18, .int e0_18, .int e1_18]))]) [0] (by decide) rfl
            have hK9 := hK.sub (tys' := []) [] rfl
            exact W.zret (v := 1) hx hb hr (by first | rfl | decide) (fun t ht hW => ⟨⟨1, (ac_18, ag_18, pn_18, pt_18, ut_18, en_18, og_18, pw_18, hd_18, tn_18, tk_18, ar_18, dn_18, e0_18, e1_18), rfl, (by first | (simp only [mm_mark, mm_m1, tt_seq_p, if_pos c_1, e_16, if_neg c_17, e_18, if_neg c_19, if_pos c_27, if_neg c_28, reduceIte, eq_self, tt_n10]; done) | (simp only [mm_mark, mm_m1, tt_seq_p, c_1, e_16, c_17, e_18, c_19, c_27, c_28, reduceIte, eq_self, tt_n10]; done) | (simp [mm_mark, mm_m1, tt_seq_p, c_1, e_16, c_17, e_18, c_19, c_27, c_28]; done)), by rw [ht]; exact hP9, va_K.moved hW.alike hK9, hD9⟩, hS.F ht⟩) hS.2.2 dM_mark_111
        · refine lv_aload_n hx hb dM_mark_50 rfl (lv_at hl 1 rfl) ?_
          refine lv_dup hx hb dM_mark_51 rfl ?_
          refine va_get (D := (dC, dI)) (ci := 3) (v := .int en_18) (C := RM) (T := TM) (N := 18) hx hb hts (by decide +kernel) hown hK hP 0 rfl rfl 8 (by decide) (hts (.fieldLink RM 7 "TornTryCounterModel" "entries" "I") (by decide +kernel)) (fun _ h9 => h9) rfl dM_mark_52 ?_
          refine lv_iconst (v := 1) hx hb dM_mark_55 (by decide) ?_
          refine lv_isub hx hb dM_mark_56 ?_
          refine va_put (D := (dC, dI)) (ci := 3) (v := .int (en_18 - 1)) (ty := .int) (C := RM) (T := TM) (N := 18) hx hb hts (by decide +kernel) tyM tyM_ok nmM hown hK hP hD hS 0 rfl rfl 8 (by decide) (hts (.fieldLink RM 7 "TornTryCounterModel" "entries" "I") (by decide +kernel)) (fun _ h9 => h9) rfl (by decide +kernel) rfl rfl (Nat.le_of_ble_eq_true rfl) dM_mark_57 (fun H locs hP hD hS => ?_)
          have hP : va_P (dC, dI) ttCl [(qm, .inr (3, [.int pl, .int ul, .int pk, .int ac_18, .int ag_18, .int pn_18, .int pt_18, .int ut_18, .int (en_18 - 1), .int og_18, .int pw_18, .int hd_18, .int tn_18, .int tk_18, .int ar_18, .int dn_18, .int e0_18, .int e1_18]))] H := hP
          have hD : va_D A [(qm, .inr (3, [.int pl, .int ul, .int pk, .int ac_18, .int ag_18, .int pn_18, .int pt_18, .int ut_18, .int (en_18 - 1), .int og_18, .int pw_18, .int hd_18, .int tn_18, .int tk_18, .int ar_18, .int dn_18, .int e0_18, .int e1_18]))] := hD
          refine lv_aload_n hx hb dM_mark_60 rfl (lv_at hl 1 rfl) ?_
          refine lv_iload_n hx hb dM_mark_61 rfl (lv_at hl 2 rfl) ?_
          refine lv_if_eq (tgt := 72) hx hb dM_mark_62 (by decide) (fun c_29 => ?_) (fun c_29 => ?_)
          · exact absurd c_29 c_19
          · refine lv_aload_n hx hb dM_mark_65 rfl (lv_at hl 1 rfl) ?_
            refine va_get (D := (dC, dI)) (ci := 3) (v := .int pt_18) (C := RM) (T := TM) (N := 18) hx hb hts (by decide +kernel) hown hK hP 0 rfl rfl 6 (by decide) (hts (.fieldLink RM 65 "TornTryCounterModel" "pinTries" "I") (by decide +kernel)) (fun _ h9 => h9) rfl dM_mark_66 ?_
            refine lv_goto (tgt := 78) hx hb dM_mark_69 (by decide) ?_
            refine va_put (D := (dC, dI)) (ci := 3) (v := .int pt_18) (ty := .int) (C := RM) (T := TM) (N := 18) hx hb hts (by decide +kernel) tyM tyM_ok nmM hown hK hP hD hS 0 rfl rfl 6 (by decide) (hts (.fieldLink RM 65 "TornTryCounterModel" "pinTries" "I") (by decide +kernel)) (fun _ h9 => h9) rfl (by decide +kernel) rfl rfl (Nat.le_of_ble_eq_true rfl) dM_mark_78 (fun H locs hP hD hS => ?_)
            have hP : va_P (dC, dI) ttCl [(qm, .inr (3, [.int pl, .int ul, .int pk, .int ac_18, .int ag_18, .int pn_18, .int pt_18, .int ut_18, .int (en_18 - 1), .int og_18, .int pw_18, .int hd_18, .int tn_18, .int tk_18, .int ar_18, .int dn_18, .int e0_18, .int e1_18]))] H := hP
            have hD : va_D A [(qm, .inr (3, [.int pl, .int ul, .int pk, .int ac_18, .int ag_18, .int pn_18, .int pt_18, .int ut_18, .int (en_18 - 1), .int og_18, .int pw_18, .int hd_18, .int tn_18, .int tk_18, .int ar_18, .int dn_18, .int e0_18, .int e1_18]))] := hD
            refine lv_aload_n hx hb dM_mark_81 rfl (lv_at hl 1 rfl) ?_
            refine lv_iload_n hx hb dM_mark_82 rfl (lv_at hl 2 rfl) ?_
            refine lv_if_eq (tgt := 95) hx hb dM_mark_83 (by decide) (fun c_30 => ?_) (fun c_30 => ?_)
            · exact absurd c_30 c_19
            · refine lv_aload_n hx hb dM_mark_86 rfl (lv_at hl 1 rfl) ?_
              refine va_get (D := (dC, dI)) (ci := 3) (v := .int ut_18) (C := RM) (T := TM) (N := 18) hx hb hts (by decide +kernel) hown hK hP 0 rfl rfl 7 (by decide) (hts (.fieldLink RM 68 "TornTryCounterModel" "pukTries" "I") (by decide +kernel)) (fun _ h9 => h9) rfl dM_mark_87 ?_
              refine lv_iconst (v := 1) hx hb dM_mark_90 (by decide) ?_
              refine lv_iadd hx hb dM_mark_91 ?_
              refine lv_goto (tgt := 99) hx hb dM_mark_92 (by decide) ?_
              refine va_put (D := (dC, dI)) (ci := 3) (v := .int (ut_18 + 1)) (ty := .int) (C := RM) (T := TM) (N := 18) hx hb hts (by decide +kernel) tyM tyM_ok nmM hown hK hP hD hS 0 rfl rfl 7 (by decide) (hts (.fieldLink RM 68 "TornTryCounterModel" "pukTries" "I") (by decide +kernel)) (fun _ h9 => h9) rfl (by decide +kernel) rfl rfl (Nat.le_of_ble_eq_true rfl) dM_mark_99 (fun H locs hP hD hS => ?_)
              have hP : va_P (dC, dI) ttCl [(qm, .inr (3, [.int pl, .int ul, .int pk, .int ac_18, .int ag_18, .int pn_18, .int pt_18, .int (ut_18 + 1), .int (en_18 - 1), .int og_18, .int pw_18, .int hd_18, .int tn_18, .int tk_18, .int ar_18, .int dn_18, .int e0_18, .int e1_18]))] H := hP
              have hD : va_D A [(qm, .inr (3, [.int pl, .int ul, .int pk, .int ac_18, .int ag_18, .int pn_18, .int pt_18, .int (ut_18 + 1), .int (en_18 - 1), .int og_18, .int pw_18, .int hd_18, .int tn_18, .int tk_18, .int ar_18, .int dn_18, .int e0_18, .int e1_18]))] := hD
              refine lv_iload_n hx hb dM_mark_102 rfl (lv_at hl 0 rfl) ?_
              refine lv_if_ge (tgt := 110) hx hb dM_mark_103 (by decide) (fun c_31 => ?_) (fun c_31 => ?_)
              · refine lv_iconst (v := 0) hx hb dM_mark_110 (by decide) ?_
                have hP9 := hP.sub (ws' := [(qm, .inr (3, [.int pl, .int ul, .int pk, .int ac_18, .int ag_18, .int pn_18, .int pt_18, .int (ut_18 + 1), .int (en_18 - 1), .int og_18, .int pw_18, .int hd_18, .int tn_18, .int tk_18, .int ar_18, .int dn_18, .int e0_18, .int e1_18]))]) [0] rfl
                have hD9 := hD.sub (ws' := [(qm, .inr (3, [.int pl, .int ul, .int pk, .int ac_18, .int ag_18, .int pn_18, .int pt_18, .int (ut_18 + 1), .int (en_18 - 1), .int og_18, .int pw_18, .int hd_18, .int tn_18, .int tk_18, .int ar_18, .int dn_18, .int e0_18, .int e1_18]))]) [0] (by decide) rfl
                have hK9 := hK.sub (tys' := []) [] rfl
                exact W.zret (v := 0) hx hb hr (by first | rfl | decide) (fun t ht hW => ⟨⟨0, (ac_18, ag_18, pn_18, pt_18, ut_18 + 1, en_18 - 1, og_18, pw_18, hd_18, tn_18, tk_18, ar_18, dn_18, e0_18, e1_18), rfl, (by first | (simp only [mm_mark, mm_m1, tt_seq_p, if_pos c_1, e_16, if_neg c_17, e_18, if_neg c_19, if_neg c_27, if_pos c_31, reduceIte, eq_self, tt_n10]; done) | (simp only [mm_mark, mm_m1, tt_seq_p, c_1, e_16, c_17, e_18, c_19, c_27, c_31, reduceIte, eq_self, tt_n10]; done) | (simp [mm_mark, mm_m1, tt_seq_p, c_1, e_16, c_17, e_18, c_19, c_27, c_31]; done)), by rw [ht]; exact hP9, va_K.moved hW.alike hK9, hD9⟩, hS.F ht⟩) hS.2.2 dM_mark_111
              · refine lv_iconst (v := 1) hx hb dM_mark_106 (by decide) ?_
                refine lv_goto (tgt := 111) hx hb dM_mark_107 (by decide) ?_
                have hP9 := hP.sub (ws' := [(qm, .inr (3, [.int pl, .int ul, .int pk, .int ac_18, .int ag_18, .int pn_18, .int pt_18, .int (ut_18 + 1), .int (en_18 - 1), .int og_18, .int pw_18, .int hd_18, .int tn_18, .int tk_18, .int ar_18, .int dn_18, .int e0_18, .int e1_18]))]) [0] rfl
                have hD9 := hD.sub (ws' := [(qm, .inr (3, [.int pl, .int ul, .int pk, .int ac_18, .int ag_18, .int pn_18, .int pt_18, .int (ut_18 + 1), .int (en_18 - 1), .int og_18, .int pw_18, .int hd_18, .int tn_18, .int tk_18, .int ar_18, .int dn_18, .int e0_18, .int e1_18]))]) [0] (by decide) rfl
                have hK9 := hK.sub (tys' := []) [] rfl
                exact W.zret (v := 1) hx hb hr (by first | rfl | decide) (fun t ht hW => ⟨⟨1, (ac_18, ag_18, pn_18, pt_18, ut_18 + 1, en_18 - 1, og_18, pw_18, hd_18, tn_18, tk_18, ar_18, dn_18, e0_18, e1_18), rfl, (by first | (simp only [mm_mark, mm_m1, tt_seq_p, if_pos c_1, e_16, if_neg c_17, e_18, if_neg c_19, if_neg c_27, if_neg c_31, reduceIte, eq_self, tt_n10]; done) | (simp only [mm_mark, mm_m1, tt_seq_p, c_1, e_16, c_17, e_18, c_19, c_27, c_31, reduceIte, eq_self, tt_n10]; done) | (simp [mm_mark, mm_m1, tt_seq_p, c_1, e_16, c_17, e_18, c_19, c_27, c_31]; done)), by rw [ht]; exact hP9, va_K.moved hW.alike hK9, hD9⟩, hS.F ht⟩) hS.2.2 dM_mark_111
    · refine lv_iconst (v := 0) hx hb dM_mark_26 (by decide) ?_
      have hP9 := hP.sub (ws' := [(qm, .inr (3, [.int pl, .int ul, .int pk, .int ac_16, .int ag_16, .int pn_16, .int pt_16, .int ut_16, .int en_16, .int og_16, .int pw_16, .int hd_16, .int tn_16, .int tk_16, .int ar_16, .int dn_16, .int e0_16, .int e1_16]))]) [0] rfl
      have hD9 := hD.sub (ws' := [(qm, .inr (3, [.int pl, .int ul, .int pk, .int ac_16, .int ag_16, .int pn_16, .int pt_16, .int ut_16, .int en_16, .int og_16, .int pw_16, .int hd_16, .int tn_16, .int tk_16, .int ar_16, .int dn_16, .int e0_16, .int e1_16]))]) [0] (by decide) rfl
      have hK9 := hK.sub (tys' := []) [] rfl
      exact W.zret (v := 0) hx hb hr (by first | rfl | decide) (fun t ht hW => ⟨⟨0, (ac_16, ag_16, pn_16, pt_16, ut_16, en_16, og_16, pw_16, hd_16, tn_16, tk_16, ar_16, dn_16, e0_16, e1_16), rfl, (by first | (simp only [mm_mark, mm_m1, tt_seq_p, if_pos c_1, e_16, if_pos c_17, reduceIte, eq_self, tt_n10]; done) | (simp only [mm_mark, mm_m1, tt_seq_p, c_1, e_16, c_17, reduceIte, eq_self, tt_n10]; done) | (simp [mm_mark, mm_m1, tt_seq_p, c_1, e_16, c_17]; done)), by rw [ht]; exact hP9, va_K.moved hW.alike hK9, hD9⟩, hS.F ht⟩) hS.2.2 dM_mark_27
set_option maxHeartbeats 4000000 in
set_option maxRecDepth 100000 in
theorem c_M_attempt (l : Launch) (dC : Nat → ClassId) (dI : Nat → Nat → Nat) (qm : Nat) (sz : Nat) (pk pl ul ac ag pn pt ut en og pw hd tn tk ar dn e0 e1 : Int32) (n : Int32) : Met l yM_attempt wsM_attempt ({ frames := 3, cells := 0, slots := 0, locals := 67 }) (va_Pc [.ref qm, .int n] (fun U => U.heap.size = sz ∧ va_P (dC, dI) ttCl [(qm, .inr (3, [.int pl, .int ul, .int pk, .int ac, .int ag, .int pn, .int pt, .int ut, .int en, .int og, .int pw, .int hd, .int tn, .int tk, .int ar, .int dn, .int e0, .int e1]))] U.heap ∧ va_K (dC, dI) ttCl [] U ∧ va_D (fun _ => True) [(qm, .inr (3, [.int pl, .int ul, .int pk, .int ac, .int ag, .int pn, .int pt, .int ut, .int en, .int og, .int pw, .int hd, .int tn, .int tk, .int ar, .int dn, .int e0, .int e1]))])) (va_Qi (fun (r : Int32) (u : tt_M) => mm_att pl (ac, ag, pn, pt, ut, en, og, pw, hd, tn, tk, ar, dn, e0, e1) n = (r, u)) (fun (u : tt_M) (t : State) => at_M dC dI (va_A [(qm, .inr (3, [.int pl, .int ul, .int pk, .int ac, .int ag, .int pn, .int pt, .int ut, .int en, .int og, .int pw, .int hd, .int tn, .int tk, .int ar, .int dn, .int e0, .int e1]))] sz) qm pk pl ul u t) (va_A [(qm, .inr (3, [.int pl, .int ul, .int pk, .int ac, .int ag, .int pn, .int pt, .int ut, .int en, .int og, .int pw, .int hd, .int tn, .int tk, .int ar, .int dn, .int e0, .int e1]))] sz)) 0 0 (va_A [(qm, .inr (3, [.int pl, .int ul, .int pk, .int ac, .int ag, .int pn, .int pt, .int ut, .int en, .int og, .int pw, .int hd, .int tn, .int tk, .int ar, .int dn, .int e0, .int e1]))] sz) := by
  refine Met.ofW (cc := cM_attempt) (maxL := 3) (ret := (some .int)) (by decide) rfl ?_
  intro p e s m args below meth c s₁ B hml hv
  obtain ⟨rfl, hsz, hP, hK, hD0⟩ := hv
  have hx := B.exec
  have hb := B.bytes
  have hr := B.returns
  have hts := atoms_spec (ws := wsM_attempt) B.pre
  have hown : s.vm.findClass RM = some m.cls := findClass_of_methodNamed B.named
  have hlocks := B.notSynchronized
  subst hsz
  have hD := hD0.self (sz := s.heap.size)
  generalize hAe : va_A [(qm, .inr (3, [.int pl, .int ul, .int pk, .int ac, .int ag, .int pn, .int pt, .int ut, .int en, .int og, .int pw, .int hd, .int tn, .int tk, .int ar, .int dn, .int e0, .int e1]))] s.heap.size = A at hD ⊢
  have hA : ∀ q : Nat, s.heap.size ≤ q → A q := fun q h => by rw [← hAe]; exact Or.inr h
  have hS : va_S A s.heap s.heap [] := va_S.rf
  have hP : va_P (dC, dI) ttCl [(qm, .inr (3, [.int pl, .int ul, .int pk, .int ac, .int ag, .int pn, .int pt, .int ut, .int en, .int og, .int pw, .int hd, .int tn, .int tk, .int ar, .int dn, .int e0, .int e1]))] s.heap := hP
  have hl := lv_entry ([.ref qm, .int n]) (n := 3) (Nat.le_of_ble_eq_true rfl)
  rw [lg_entry_eq]
  generalize (lg_sl ([.ref qm, .int n]) ++ List.replicate (3 - (lg_sl ([.ref qm, .int n])).length) Slot.unset).toArray = ls at hl ⊢
  have hl : lv_has ls 3 [(0, .ref qm), (1, .int n)] := hl
  refine lv_aload_n hx hb dM_attempt_0 rfl (lv_at hl 0 rfl) ?_
  refine va_get (D := (dC, dI)) (ci := 3) (v := .int pw) (C := RM) (T := TM) (N := 18) hx hb hts (by decide +kernel) hown hK hP 0 rfl rfl 10 (by decide) (hts (.fieldLink RM 13 "TornTryCounterModel" "power" "Z") (by decide +kernel)) (fun _ h9 => h9) rfl dM_attempt_1 ?_
  refine lv_if_ne (tgt := 9) hx hb dM_attempt_4 (by decide) (fun c_1 => ?_) (fun c_1 => ?_)
  · refine lv_aload_n hx hb dM_attempt_9 rfl (lv_at hl 0 rfl) ?_
    refine va_get (D := (dC, dI)) (ci := 3) (v := .int pt) (C := RM) (T := TM) (N := 18) hx hb hts (by decide +kernel) hown hK hP 0 rfl rfl 6 (by decide) (hts (.fieldLink RM 65 "TornTryCounterModel" "pinTries" "I") (by decide +kernel)) (fun _ h9 => h9) rfl dM_attempt_10 ?_
    refine lv_aload_n hx hb dM_attempt_13 rfl (lv_at hl 0 rfl) ?_
    refine va_get (D := (dC, dI)) (ci := 3) (v := .int pl) (C := RM) (T := TM) (N := 18) hx hb hts (by decide +kernel) hown hK hP 0 rfl rfl 0 (by decide) (hts (.fieldLink RM 24 "TornTryCounterModel" "pinLimit" "I") (by decide +kernel)) (fun _ h9 => h9) rfl dM_attempt_14 ?_
    refine lv_icmp_lt (tgt := 23) hx hb dM_attempt_17 (by decide) (fun c_2 => ?_) (fun c_2 => ?_)
    · refine lv_aload_n hx hb dM_attempt_23 rfl (lv_at hl 0 rfl) ?_
      refine lv_iconst (v := 0) hx hb dM_attempt_24 (by decide) ?_
      refine va_put (D := (dC, dI)) (ci := 3) (v := .int 0) (ty := .boolean) (C := RM) (T := TM) (N := 18) hx hb hts (by decide +kernel) tyM tyM_ok nmM hown hK hP hD hS 0 rfl rfl 11 (by decide) (hts (.fieldLink RM 36 "TornTryCounterModel" "holder" "Z") (by decide +kernel)) (fun _ h9 => h9) rfl (by decide +kernel) rfl rfl (Nat.le_of_ble_eq_true rfl) dM_attempt_25 (fun H locs hP hD hS => ?_)
      have hP : va_P (dC, dI) ttCl [(qm, .inr (3, [.int pl, .int ul, .int pk, .int ac, .int ag, .int pn, .int pt, .int ut, .int en, .int og, .int pw, .int 0, .int tn, .int tk, .int ar, .int dn, .int e0, .int e1]))] H := hP
      have hD : va_D A [(qm, .inr (3, [.int pl, .int ul, .int pk, .int ac, .int ag, .int pn, .int pt, .int ut, .int en, .int og, .int pw, .int 0, .int tn, .int tk, .int ar, .int dn, .int e0, .int e1]))] := hD
      refine lv_aload_n hx hb dM_attempt_28 rfl (lv_at hl 0 rfl) ?_
      refine lv_iconst (v := 0) hx hb dM_attempt_29 (by decide) ?_
      have hPc := hP.sub (ws' := [(qm, .inr (3, [.int pl, .int ul, .int pk, .int ac, .int ag, .int pn, .int pt, .int ut, .int en, .int og, .int pw, .int 0, .int tn, .int tk, .int ar, .int dn, .int e0, .int e1]))]) [0] rfl
      have hDc := hD.sub (ws' := [(qm, .inr (3, [.int pl, .int ul, .int pk, .int ac, .int ag, .int pn, .int pt, .int ut, .int en, .int og, .int pw, .int 0, .int tn, .int tk, .int ar, .int dn, .int e0, .int e1]))]) [0] (by decide) rfl
      have hKc := hK.sub (tys' := []) [] rfl
      have hFc := va_free (wc := [(qm, .inr (3, [.int pl, .int ul, .int pk, .int ac, .int ag, .int pn, .int pt, .int ut, .int en, .int og, .int pw, .int 0, .int tn, .int tk, .int ar, .int dn, .int e0, .int e1]))]) hD hS hA [0] rfl
      refine va_calli (va_runV (As := [.int 0]) (rest := []) ⟨hx, hb, hml, hown, hts⟩ (c_M_mark l dC dI qm H.size pk pl ul ac ag pn pt ut en og pw 0 tn tk ar dn e0 e1 0) (cwV 1 hts gM_attempt_M_mark rfl rfl rfl (by decide +kernel) ⟨Nat.le_of_ble_eq_true rfl, Nat.le_of_ble_eq_true rfl⟩) ⟨fun a U g mk q => by obtain ⟨q0, q1, qP, qK, qD⟩ := q; exact ⟨q0, q1, qP, va_K.moved (u := U) (U := U.calling g mk a) (Vm.Alike.refl U.vm) qK, qD⟩, va_recv hKc hPc (ci := 3) (q0 := 0) rfl rfl, fun U hU hW => ⟨rfl, by rw [hU], by rw [hU]; exact hPc, va_K.moved hW.alike hKc, hDc.weaken (fun _ _ _ _ => trivial)⟩⟩ rfl rfl hl.1 rfl (lv_room (Nat.le_of_ble_eq_true rfl)) dM_attempt_30 ⟨(Nat.zero_le _), (Nat.zero_le _)⟩) hS (fun q _ h => hFc q h) hFc (fun r_3 u t H locs ht hvm hw hB hz1 hk1 hS => ?_)
      obtain ⟨ac_3, ag_3, pn_3, pt_3, ut_3, en_3, og_3, pw_3, hd_3, tn_3, tk_3, ar_3, dn_3, e0_3, e1_3⟩ := u
      obtain ⟨hP1, hK1, hD1⟩ := hB
      have e_3 : mm_mark (ac, ag, pn, pt, ut, en, og, pw, 0, tn, tk, ar, dn, e0, e1) 0 = (r_3, (ac_3, ag_3, pn_3, pt_3, ut_3, en_3, og_3, pw_3, hd_3, tn_3, tk_3, ar_3, dn_3, e0_3, e1_3)) := hw
      rw [ht] at hP1
      obtain ⟨hP, hD⟩ := va_join (wr := []) (w1 := [(qm, .inr (3, [.int pl, .int ul, .int pk, .int ac_3, .int ag_3, .int pn_3, .int pt_3, .int ut_3, .int en_3, .int og_3, .int pw_3, .int hd_3, .int tn_3, .int tk_3, .int ar_3, .int dn_3, .int e0_3, .int e1_3]))]) hP hD [0] [] rfl rfl (by decide) (by decide) hk1 hFc hP1 hD1
      have hP : va_P (dC, dI) ttCl [(qm, .inr (3, [.int pl, .int ul, .int pk, .int ac_3, .int ag_3, .int pn_3, .int pt_3, .int ut_3, .int en_3, .int og_3, .int pw_3, .int hd_3, .int tn_3, .int tk_3, .int ar_3, .int dn_3, .int e0_3, .int e1_3]))] H := hP
      have hD : va_D A [(qm, .inr (3, [.int pl, .int ul, .int pk, .int ac_3, .int ag_3, .int pn_3, .int pt_3, .int ut_3, .int en_3, .int og_3, .int pw_3, .int hd_3, .int tn_3, .int tk_3, .int ar_3, .int dn_3, .int e0_3, .int e1_3]))] := hD
      refine lv_if_ne (tgt := 39) hx hb dM_attempt_33 (by decide) (fun c_4 => ?_) (fun c_4 => ?_)
      · refine lv_iload_n hx hb dM_attempt_39 rfl (lv_at hl 1 rfl) ?_
        refine lv_ldc (v := 65535) hx hb hown (hts (.constant RM 17 65535) (by decide +kernel)) dM_attempt_40 ?_
        refine lv_iand hx hb dM_attempt_42 ?_
        refine lv_aload_n hx hb dM_attempt_43 rfl (lv_at hl 0 rfl) ?_
        refine va_get (D := (dC, dI)) (ci := 3) (v := .int pn_3) (C := RM) (T := TM) (N := 18) hx hb hts (by decide +kernel) hown hK hP 0 rfl rfl 5 (by decide) (hts (.fieldLink RM 18 "TornTryCounterModel" "pinNumber" "I") (by decide +kernel)) (fun _ h9 => h9) rfl dM_attempt_44 ?_
        refine lv_icmp_eq (tgt := 52) hx hb dM_attempt_47 (by decide) (fun c_5 => ?_) (fun c_5 => ?_)
        · refine lv_aload_n hx hb dM_attempt_52 rfl (lv_at hl 0 rfl) ?_
          have hPc := hP.sub (ws' := [(qm, .inr (3, [.int pl, .int ul, .int pk, .int ac_3, .int ag_3, .int pn_3, .int pt_3, .int ut_3, .int en_3, .int og_3, .int pw_3, .int hd_3, .int tn_3, .int tk_3, .int ar_3, .int dn_3, .int e0_3, .int e1_3]))]) [0] rfl
          have hDc := hD.sub (ws' := [(qm, .inr (3, [.int pl, .int ul, .int pk, .int ac_3, .int ag_3, .int pn_3, .int pt_3, .int ut_3, .int en_3, .int og_3, .int pw_3, .int hd_3, .int tn_3, .int tk_3, .int ar_3, .int dn_3, .int e0_3, .int e1_3]))]) [0] (by decide) rfl
          have hKc := hK.sub (tys' := []) [] rfl
          have hFc := va_free (wc := [(qm, .inr (3, [.int pl, .int ul, .int pk, .int ac_3, .int ag_3, .int pn_3, .int pt_3, .int ut_3, .int en_3, .int og_3, .int pw_3, .int hd_3, .int tn_3, .int tk_3, .int ar_3, .int dn_3, .int e0_3, .int e1_3]))]) hD hS hA [0] rfl
          refine va_calli (va_runV (As := []) (rest := []) ⟨hx, hb, hml, hown, hts⟩ (c_M_operate l dC dI qm H.size pk pl ul ac_3 ag_3 pn_3 pt_3 ut_3 en_3 og_3 pw_3 hd_3 tn_3 tk_3 ar_3 dn_3 e0_3 e1_3) (cwV 0 hts gM_attempt_M_operate rfl rfl rfl (by decide +kernel) ⟨Nat.le_of_ble_eq_true rfl, Nat.le_of_ble_eq_true rfl⟩) ⟨fun a U g mk q => by obtain ⟨q0, q1, qP, qK, qD⟩ := q; exact ⟨q0, q1, qP, va_K.moved (u := U) (U := U.calling g mk a) (Vm.Alike.refl U.vm) qK, qD⟩, va_recv hKc hPc (ci := 3) (q0 := 0) rfl rfl, fun U hU hW => ⟨rfl, by rw [hU], by rw [hU]; exact hPc, va_K.moved hW.alike hKc, hDc.weaken (fun _ _ _ _ => trivial)⟩⟩ rfl rfl hl.1 rfl (lv_room (Nat.le_of_ble_eq_true rfl)) dM_attempt_53 ⟨(Nat.zero_le _), (Nat.zero_le _)⟩) hS (fun q _ h => hFc q h) hFc (fun r_6 u t H locs ht hvm hw hB hz1 hk1 hS => ?_)
          obtain ⟨ac_6, ag_6, pn_6, pt_6, ut_6, en_6, og_6, pw_6, hd_6, tn_6, tk_6, ar_6, dn_6, e0_6, e1_6⟩ := u
          obtain ⟨hP1, hK1, hD1⟩ := hB
          have e_6 : mm_op (ac_3, ag_3, pn_3, pt_3, ut_3, en_3, og_3, pw_3, hd_3, tn_3, tk_3, ar_3, dn_3, e0_3, e1_3) = (r_6, (ac_6, ag_6, pn_6, pt_6, ut_6, en_6, og_6, pw_6, hd_6, tn_6, tk_6, ar_6, dn_6, e0_6, e1_6)) := hw
          rw [ht] at hP1
          obtain ⟨hP, hD⟩ := va_join (wr := []) (w1 := [(qm, .inr (3, [.int pl, .int ul, .int pk, .int ac_6, .int ag_6, .int pn_6, .int pt_6, .int ut_6, .int en_6, .int og_6, .int pw_6, .int hd_6, .int tn_6, .int tk_6, .int ar_6, .int dn_6, .int e0_6, .int e1_6]))]) hP hD [0] [] rfl rfl (by decide) (by decide) hk1 hFc hP1 hD1
          have hP : va_P (dC, dI) ttCl [(qm, .inr (3, [.int pl, .int ul, .int pk, .int ac_6, .int ag_6, .int pn_6, .int pt_6, .int ut_6, .int en_6, .int og_6, .int pw_6, .int hd_6, .int tn_6, .int tk_6, .int ar_6, .int dn_6, .int e0_6, .int e1_6]))] H := hP
          have hD : va_D A [(qm, .inr (3, [.int pl, .int ul, .int pk, .int ac_6, .int ag_6, .int pn_6, .int pt_6, .int ut_6, .int en_6, .int og_6, .int pw_6, .int hd_6, .int tn_6, .int tk_6, .int ar_6, .int dn_6, .int e0_6, .int e1_6]))] := hD
          refine lv_istore_n (lv' := [(2, .int r_6), (0, .ref qm), (1, .int n)]) hx hb dM_attempt_56 rfl hl (by decide) rfl (fun ls hl => ?_)
          refine lv_aload_n hx hb dM_attempt_57 rfl (lv_at hl 1 rfl) ?_
          refine lv_iload_n hx hb dM_attempt_58 rfl (lv_at hl 0 rfl) ?_
          refine lv_iconst (v := 2) hx hb dM_attempt_59 (by decide) ?_
          have hPc := hP.sub (ws' := []) [] rfl
          have hDc := hD.sub (ws' := []) [] (by decide) rfl
          have hKc := hK.sub (tys' := []) [] rfl
          have hFc := va_free (wc := []) hD hS hA [] rfl
          refine va_calli (va_runS (As := [.int r_6, .int 2]) (rest := [.ref qm]) ⟨hx, hb, hml, hown, hts⟩ (c_M_all l dC dI H.size r_6 2) (va_cwS 2 hts gM_attempt_M_all rfl rfl rfl (by decide +kernel) ⟨Nat.le_of_ble_eq_true rfl, Nat.le_of_ble_eq_true rfl⟩) ⟨fun a U g mk q => by obtain ⟨q0, q1, qP, qK, qD⟩ := q; exact ⟨q0, q1, qP, va_K.moved (u := U) (U := U.calling g mk a) (Vm.Alike.refl U.vm) qK, qD⟩, fun U hU hW => ⟨rfl, by rw [hU], by rw [hU]; exact hPc, va_K.moved hW.alike hKc, hDc.weaken (fun _ _ _ _ => trivial)⟩⟩ rfl rfl hl.1 rfl (lv_room (Nat.le_of_ble_eq_true rfl)) dM_attempt_60 ⟨(Nat.zero_le _), (Nat.zero_le _)⟩) hS (fun q _ h => hFc q h) hFc (fun r_7 u t H locs ht hvm hw hB hz1 hk1 hS => ?_)
          have hw : mm_all r_6 2 = r_7 := hw.symm
          subst hw
          obtain ⟨hP1, hK1, hD1⟩ := hB
          rw [ht] at hP1
          obtain ⟨hP, hD⟩ := va_join (wr := [(qm, .inr (3, [.int pl, .int ul, .int pk, .int ac_6, .int ag_6, .int pn_6, .int pt_6, .int ut_6, .int en_6, .int og_6, .int pw_6, .int hd_6, .int tn_6, .int tk_6, .int ar_6, .int dn_6, .int e0_6, .int e1_6]))]) (w1 := []) hP hD [] [0] rfl rfl (by decide) (by decide) hk1 hFc hP1 hD1
          have hP : va_P (dC, dI) ttCl [(qm, .inr (3, [.int pl, .int ul, .int pk, .int ac_6, .int ag_6, .int pn_6, .int pt_6, .int ut_6, .int en_6, .int og_6, .int pw_6, .int hd_6, .int tn_6, .int tk_6, .int ar_6, .int dn_6, .int e0_6, .int e1_6]))] H := hP
          have hD : va_D A [(qm, .inr (3, [.int pl, .int ul, .int pk, .int ac_6, .int ag_6, .int pn_6, .int pt_6, .int ut_6, .int en_6, .int og_6, .int pw_6, .int hd_6, .int tn_6, .int tk_6, .int ar_6, .int dn_6, .int e0_6, .int e1_6]))] := hD
          refine lv_if_eq (tgt := 70) hx hb dM_attempt_63 (by decide) (fun c_8 => ?_) (fun c_8 => ?_)
          · refine lv_aload_n hx hb dM_attempt_70 rfl (lv_at hl 1 rfl) ?_
            refine va_get (D := (dC, dI)) (ci := 3) (v := .int pt_6) (C := RM) (T := TM) (N := 18) hx hb hts (by decide +kernel) hown hK hP 0 rfl rfl 6 (by decide) (hts (.fieldLink RM 65 "TornTryCounterModel" "pinTries" "I") (by decide +kernel)) (fun _ h9 => h9) rfl dM_attempt_71 ?_
            refine va_put (D := (dC, dI)) (ci := 3) (v := .int pt_6) (ty := .int) (C := RM) (T := TM) (N := 18) hx hb hts (by decide +kernel) tyM tyM_ok nmM hown hK hP hD hS 0 rfl rfl 6 (by decide) (hts (.fieldLink RM 65 "TornTryCounterModel" "pinTries" "I") (by decide +kernel)) (fun _ h9 => h9) rfl (by decide +kernel) rfl rfl (Nat.le_of_ble_eq_true rfl) dM_attempt_74 (fun H locs hP hD hS => ?_)
            have hP : va_P (dC, dI) ttCl [(qm, .inr (3, [.int pl, .int ul, .int pk, .int ac_6, .int ag_6, .int pn_6, .int pt_6, .int ut_6, .int en_6, .int og_6, .int pw_6, .int hd_6, .int tn_6, .int tk_6, .int ar_6, .int dn_6, .int e0_6, .int e1_6]))] H := hP
            have hD : va_D A [(qm, .inr (3, [.int pl, .int ul, .int pk, .int ac_6, .int ag_6, .int pn_6, .int pt_6, .int ut_6, .int en_6, .int og_6, .int pw_6, .int hd_6, .int tn_6, .int tk_6, .int ar_6, .int dn_6, .int e0_6, .int e1_6]))] := hD
            refine lv_iload_n hx hb dM_attempt_77 rfl (lv_at hl 0 rfl) ?_
            refine lv_if_ge (tgt := 85) hx hb dM_attempt_78 (by decide) (fun c_9 => ?_) (fun c_9 => ?_)
            · refine lv_bipush (v := (-3)) hx hb dM_attempt_85 (by decide) ?_
              have hP9 := hP.sub (ws' := [(qm, .inr (3, [.int pl, .int ul, .int pk, .int ac_6, .int ag_6, .int pn_6, .int pt_6, .int ut_6, .int en_6, .int og_6, .int pw_6, .int hd_6, .int tn_6, .int tk_6, .int ar_6, .int dn_6, .int e0_6, .int e1_6]))]) [0] rfl
              have hD9 := hD.sub (ws' := [(qm, .inr (3, [.int pl, .int ul, .int pk, .int ac_6, .int ag_6, .int pn_6, .int pt_6, .int ut_6, .int en_6, .int og_6, .int pw_6, .int hd_6, .int tn_6, .int tk_6, .int ar_6, .int dn_6, .int e0_6, .int e1_6]))]) [0] (by decide) rfl
              have hK9 := hK.sub (tys' := []) [] rfl
              exact W.iret (v := (-3)) hx hb hr (fun t ht hW => ⟨⟨(-3), (ac_6, ag_6, pn_6, pt_6, ut_6, en_6, og_6, pw_6, hd_6, tn_6, tk_6, ar_6, dn_6, e0_6, e1_6), rfl, (by first | (simp only [mm_att, mm_a9, if_neg c_1, if_pos c_2, e_3, if_neg c_4, if_pos c_5, e_6, if_pos c_8, if_pos c_9, reduceIte, eq_self, tt_n10]; done) | (simp only [mm_att, mm_a9, c_1, c_2, e_3, c_4, c_5, e_6, c_8, c_9, reduceIte, eq_self, tt_n10]; done) | (simp [mm_att, mm_a9, c_1, c_2, e_3, c_4, c_5, e_6, c_8, c_9]; done)), by rw [ht]; exact hP9, va_K.moved hW.alike hK9, hD9⟩, hS.F ht⟩) hS.2.2 dM_attempt_87
            · refine lv_iconst (v := 1) hx hb dM_attempt_81 (by decide) ?_
              refine lv_goto (tgt := 87) hx hb dM_attempt_82 (by decide) ?_
              have hP9 := hP.sub (ws' := [(qm, .inr (3, [.int pl, .int ul, .int pk, .int ac_6, .int ag_6, .int pn_6, .int pt_6, .int ut_6, .int en_6, .int og_6, .int pw_6, .int hd_6, .int tn_6, .int tk_6, .int ar_6, .int dn_6, .int e0_6, .int e1_6]))]) [0] rfl
              have hD9 := hD.sub (ws' := [(qm, .inr (3, [.int pl, .int ul, .int pk, .int ac_6, .int ag_6, .int pn_6, .int pt_6, .int ut_6, .int en_6, .int og_6, .int pw_6, .int hd_6, .int tn_6, .int tk_6, .int ar_6, .int dn_6, .int e0_6, .int e1_6]))]) [0] (by decide) rfl
              have hK9 := hK.sub (tys' := []) [] rfl
              exact W.iret (v := 1) hx hb hr (fun t ht hW => ⟨⟨1, (ac_6, ag_6, pn_6, pt_6, ut_6, en_6, og_6, pw_6, hd_6, tn_6, tk_6, ar_6, dn_6, e0_6, e1_6), rfl, (by first | (simp only [mm_att, mm_a9, if_neg c_1, if_pos c_2, e_3, if_neg c_4, if_pos c_5, e_6, if_pos c_8, if_neg c_9, reduceIte, eq_self, tt_n10]; done) | (simp only [mm_att, mm_a9, c_1, c_2, e_3, c_4, c_5, e_6, c_8, c_9, reduceIte, eq_self, tt_n10]; done) | (simp [mm_att, mm_a9, c_1, c_2, e_3, c_4, c_5, e_6, c_8, c_9]; done)), by rw [ht]; exact hP9, va_K.moved hW.alike hK9, hD9⟩, hS.F ht⟩) hS.2.2 dM_attempt_87
          · refine lv_iconst (v := 0) hx hb dM_attempt_66 (by decide) ?_
            refine lv_goto (tgt := 74) hx hb dM_attempt_67 (by decide) ?_
            refine va_put (D := (dC, dI)) (ci := 3) (v := .int 0) (ty := .int) (C := RM) (T := TM) (N := 18) hx hb hts (by decide +kernel) tyM tyM_ok nmM hown hK hP hD hS 0 rfl rfl 6 (by decide) (hts (.fieldLink RM 65 "TornTryCounterModel" "pinTries" "I") (by decide +kernel)) (fun _ h9 => h9) rfl (by decide +kernel) rfl rfl (Nat.le_of_ble_eq_true rfl) dM_attempt_74 (fun H locs hP hD hS => ?_)
            have hP : va_P (dC, dI) ttCl [(qm, .inr (3, [.int pl, .int ul, .int pk, .int ac_6, .int ag_6, .int pn_6, .int 0, .int ut_6, .int en_6, .int og_6, .int pw_6, .int hd_6, .int tn_6, .int tk_6, .int ar_6, .int dn_6, .int e0_6, .int e1_6]))] H := hP
            have hD : va_D A [(qm, .inr (3, [.int pl, .int ul, .int pk, .int ac_6, .int ag_6, .int pn_6, .int 0, .int ut_6, .int en_6, .int og_6, .int pw_6, .int hd_6, .int tn_6, .int tk_6, .int ar_6, .int dn_6, .int e0_6, .int e1_6]))] := hD
            refine lv_iload_n hx hb dM_attempt_77 rfl (lv_at hl 0 rfl) ?_
            refine lv_if_ge (tgt := 85) hx hb dM_attempt_78 (by decide) (fun c_10 => ?_) (fun c_10 => ?_)
            · refine lv_bipush (v := (-3)) hx hb dM_attempt_85 (by decide) ?_
              have hP9 := hP.sub (ws' := [(qm, .inr (3, [.int pl, .int ul, .int pk, .int ac_6, .int ag_6, .int pn_6, .int 0, .int ut_6, .int en_6, .int og_6, .int pw_6, .int hd_6, .int tn_6, .int tk_6, .int ar_6, .int dn_6, .int e0_6, .int e1_6]))]) [0] rfl
              have hD9 := hD.sub (ws' := [(qm, .inr (3, [.int pl, .int ul, .int pk, .int ac_6, .int ag_6, .int pn_6, .int 0, .int ut_6, .int en_6, .int og_6, .int pw_6, .int hd_6, .int tn_6, .int tk_6, .int ar_6, .int dn_6, .int e0_6, .int e1_6]))]) [0] (by decide) rfl
              have hK9 := hK.sub (tys' := []) [] rfl
              exact W.iret (v := (-3)) hx hb hr (fun t ht hW => ⟨⟨(-3), (ac_6, ag_6, pn_6, 0, ut_6, en_6, og_6, pw_6, hd_6, tn_6, tk_6, ar_6, dn_6, e0_6, e1_6), rfl, (by first | (simp only [mm_att, mm_a9, if_neg c_1, if_pos c_2, e_3, if_neg c_4, if_pos c_5, e_6, if_neg c_8, if_pos c_10, reduceIte, eq_self, tt_n10]; done) | (simp only [mm_att, mm_a9, c_1, c_2, e_3, c_4, c_5, e_6, c_8, c_10, reduceIte, eq_self, tt_n10]; done) | (simp [mm_att, mm_a9, c_1, c_2, e_3, c_4, c_5, e_6, c_8, c_10]; done)), by rw [ht]; exact hP9, va_K.moved hW.alike hK9, hD9⟩, hS.F ht⟩) hS.2.2 dM_attempt_87
            · refine lv_iconst (v := 1) hx hb dM_attempt_81 (by decide) ?_
              refine lv_goto (tgt := 87) hx hb dM_attempt_82 (by decide) ?_
              have hP9 := hP.sub (ws' := [(qm, .inr (3, [.int pl, .int ul, .int pk, .int ac_6, .int ag_6, .int pn_6, .int 0, .int ut_6, .int en_6, .int og_6, .int pw_6, .int hd_6, .int tn_6, .int tk_6, .int ar_6, .int dn_6, .int e0_6, .int e1_6]))]) [0] rfl
              have hD9 := hD.sub (ws' := [(qm, .inr (3, [.int pl, .int ul, .int pk, .int ac_6, .int ag_6, .int pn_6, .int 0, .int ut_6, .int en_6, .int og_6, .int pw_6, .int hd_6, .int tn_6, .int tk_6, .int ar_6, .int dn_6, .int e0_6, .int e1_6]))]) [0] (by decide) rfl
              have hK9 := hK.sub (tys' := []) [] rfl
              exact W.iret (v := 1) hx hb hr (fun t ht hW => ⟨⟨1, (ac_6, ag_6, pn_6, 0, ut_6, en_6, og_6, pw_6, hd_6, tn_6, tk_6, ar_6, dn_6, e0_6, e1_6), rfl, (by first | (simp only [mm_att, mm_a9, if_neg c_1, if_pos c_2, e_3, if_neg c_4, if_pos c_5, e_6, if_neg c_8, if_neg c_10, reduceIte, eq_self, tt_n10]; done) | (simp only [mm_att, mm_a9, c_1, c_2, e_3, c_4, c_5, e_6, c_8, c_10, reduceIte, eq_self, tt_n10]; done) | (simp [mm_att, mm_a9, c_1, c_2, e_3, c_4, c_5, e_6, c_8, c_10]; done)), by rw [ht]; exact hP9, va_K.moved hW.alike hK9, hD9⟩, hS.F ht⟩) hS.2.2 dM_attempt_87
        · refine lv_iconst (v := 0) hx hb dM_attempt_50 (by decide) ?_
          have hP9 := hP.sub (ws' := [(qm, .inr (3, [.int pl, .int ul, .int pk, .int ac_3, .int ag_3, .int pn_3, .int pt_3, .int ut_3, .int en_3, .int og_3, .int pw_3, .int hd_3, .int tn_3, .int tk_3, .int ar_3, .int dn_3, .int e0_3, .int e1_3]))]) [0] rfl
          have hD9 := hD.sub (ws' := [(qm, .inr (3, [.int pl, .int ul, .int pk, .int ac_3, .int ag_3, .int pn_3, .int pt_3, .int ut_3, .int en_3, .int og_3, .int pw_3, .int hd_3, .int tn_3, .int tk_3, .int ar_3, .int dn_3, .int e0_3, .int e1_3]))]) [0] (by decide) rfl
          have hK9 := hK.sub (tys' := []) [] rfl
          exact W.iret (v := 0) hx hb hr (fun t ht hW => ⟨⟨0, (ac_3, ag_3, pn_3, pt_3, ut_3, en_3, og_3, pw_3, hd_3, tn_3, tk_3, ar_3, dn_3, e0_3, e1_3), rfl, (by first | (simp only [mm_att, mm_a9, if_neg c_1, if_pos c_2, e_3, if_neg c_4, if_neg c_5, reduceIte, eq_self, tt_n10]; done) | (simp only [mm_att, mm_a9, c_1, c_2, e_3, c_4, c_5, reduceIte, eq_self, tt_n10]; done) | (simp [mm_att, mm_a9, c_1, c_2, e_3, c_4, c_5]; done)), by rw [ht]; exact hP9, va_K.moved hW.alike hK9, hD9⟩, hS.F ht⟩) hS.2.2 dM_attempt_51
      · refine lv_bipush (v := (-3)) hx hb dM_attempt_36 (by decide) ?_
        have hP9 := hP.sub (ws' := [(qm, .inr (3, [.int pl, .int ul, .int pk, .int ac_3, .int ag_3, .int pn_3, .int pt_3, .int ut_3, .int en_3, .int og_3, .int pw_3, .int hd_3, .int tn_3, .int tk_3, .int ar_3, .int dn_3, .int e0_3, .int e1_3]))]) [0] rfl
        have hD9 := hD.sub (ws' := [(qm, .inr (3, [.int pl, .int ul, .int pk, .int ac_3, .int ag_3, .int pn_3, .int pt_3, .int ut_3, .int en_3, .int og_3, .int pw_3, .int hd_3, .int tn_3, .int tk_3, .int ar_3, .int dn_3, .int e0_3, .int e1_3]))]) [0] (by decide) rfl
        have hK9 := hK.sub (tys' := []) [] rfl
        exact W.iret (v := (-3)) hx hb hr (fun t ht hW => ⟨⟨(-3), (ac_3, ag_3, pn_3, pt_3, ut_3, en_3, og_3, pw_3, hd_3, tn_3, tk_3, ar_3, dn_3, e0_3, e1_3), rfl, (by first | (simp only [mm_att, mm_a9, if_neg c_1, if_pos c_2, e_3, if_pos c_4, reduceIte, eq_self, tt_n10]; done) | (simp only [mm_att, mm_a9, c_1, c_2, e_3, c_4, reduceIte, eq_self, tt_n10]; done) | (simp [mm_att, mm_a9, c_1, c_2, e_3, c_4]; done)), by rw [ht]; exact hP9, va_K.moved hW.alike hK9, hD9⟩, hS.F ht⟩) hS.2.2 dM_attempt_38
    · refine lv_bipush (v := (-2)) hx hb dM_attempt_20 (by decide) ?_
      have hP9 := hP.sub (ws' := [(qm, .inr (3, [.int pl, .int ul, .int pk, .int ac, .int ag, .int pn, .int pt, .int ut, .int en, .int og, .int pw, .int hd, .int tn, .int tk, .int ar, .int dn, .int e0, .int e1]))]) [0] rfl
      have hD9 := hD.sub (ws' := [(qm, .inr (3, [.int pl, .int ul, .int pk, .int ac, .int ag, .int pn, .int pt, .int ut, .int en, .int og, .int pw, .int hd, .int tn, .int tk, .int ar, .int dn, .int e0, .int e1]))]) [0] (by decide) rfl
      have hK9 := hK.sub (tys' := []) [] rfl
      exact W.iret (v := (-2)) hx hb hr (fun t ht hW => ⟨⟨(-2), (ac, ag, pn, pt, ut, en, og, pw, hd, tn, tk, ar, dn, e0, e1), rfl, (by first | (simp only [mm_att, mm_a9, if_neg c_1, if_neg c_2, reduceIte, eq_self, tt_n10]; done) | (simp only [mm_att, mm_a9, c_1, c_2, reduceIte, eq_self, tt_n10]; done) | (simp [mm_att, mm_a9, c_1, c_2]; done)), by rw [ht]; exact hP9, va_K.moved hW.alike hK9, hD9⟩, hS.F ht⟩) hS.2.2 dM_attempt_22
  · refine lv_iconst (v := (-1)) hx hb dM_attempt_7 (by decide) ?_
    have hP9 := hP.sub (ws' := [(qm, .inr (3, [.int pl, .int ul, .int pk, .int ac, .int ag, .int pn, .int pt, .int ut, .int en, .int og, .int pw, .int hd, .int tn, .int tk, .int ar, .int dn, .int e0, .int e1]))]) [0] rfl
    have hD9 := hD.sub (ws' := [(qm, .inr (3, [.int pl, .int ul, .int pk, .int ac, .int ag, .int pn, .int pt, .int ut, .int en, .int og, .int pw, .int hd, .int tn, .int tk, .int ar, .int dn, .int e0, .int e1]))]) [0] (by decide) rfl
    have hK9 := hK.sub (tys' := []) [] rfl
    exact W.iret (v := (-1)) hx hb hr (fun t ht hW => ⟨⟨(-1), (ac, ag, pn, pt, ut, en, og, pw, hd, tn, tk, ar, dn, e0, e1), rfl, (by first | (simp only [mm_att, mm_a9, if_pos c_1, reduceIte, eq_self, tt_n10]; done) | (simp only [mm_att, mm_a9, c_1, reduceIte, eq_self, tt_n10]; done) | (simp [mm_att, mm_a9, c_1]; done)), by rw [ht]; exact hP9, va_K.moved hW.alike hK9, hD9⟩, hS.F ht⟩) hS.2.2 dM_attempt_8
set_option maxHeartbeats 4000000 in
set_option maxRecDepth 100000 in
theorem c_M_verify (l : Launch) (dC : Nat → ClassId) (dI : Nat → Nat → Nat) (qm : Nat) (sz : Nat) (pk pl ul ac ag pn pt ut en og pw hd tn tk ar dn e0 e1 : Int32) (n : Int32) : Met l yM_verify wsM_verify ({ frames := 4, cells := 0, slots := 0, locals := 89 }) (va_Pc [.ref qm, .int n] (fun U => U.heap.size = sz ∧ va_P (dC, dI) ttCl [(qm, .inr (3, [.int pl, .int ul, .int pk, .int ac, .int ag, .int pn, .int pt, .int ut, .int en, .int og, .int pw, .int hd, .int tn, .int tk, .int ar, .int dn, .int e0, .int e1]))] U.heap ∧ va_K (dC, dI) ttCl [] U ∧ va_D (fun _ => True) [(qm, .inr (3, [.int pl, .int ul, .int pk, .int ac, .int ag, .int pn, .int pt, .int ut, .int en, .int og, .int pw, .int hd, .int tn, .int tk, .int ar, .int dn, .int e0, .int e1]))])) (va_Qi (fun (r : Int32) (u : tt_M) => mm_verify pl (ac, ag, pn, pt, ut, en, og, pw, hd, tn, tk, ar, dn, e0, e1) n = (r, u)) (fun (u : tt_M) (t : State) => at_M dC dI (va_A [(qm, .inr (3, [.int pl, .int ul, .int pk, .int ac, .int ag, .int pn, .int pt, .int ut, .int en, .int og, .int pw, .int hd, .int tn, .int tk, .int ar, .int dn, .int e0, .int e1]))] sz) qm pk pl ul u t) (va_A [(qm, .inr (3, [.int pl, .int ul, .int pk, .int ac, .int ag, .int pn, .int pt, .int ut, .int en, .int og, .int pw, .int hd, .int tn, .int tk, .int ar, .int dn, .int e0, .int e1]))] sz)) 0 0 (va_A [(qm, .inr (3, [.int pl, .int ul, .int pk, .int ac, .int ag, .int pn, .int pt, .int ut, .int en, .int og, .int pw, .int hd, .int tn, .int tk, .int ar, .int dn, .int e0, .int e1]))] sz) := by
  refine Met.ofW (cc := cM_verify) (maxL := 3) (ret := (some .int)) (by decide) rfl ?_
  intro p e s m args below meth c s₁ B hml hv
  obtain ⟨rfl, hsz, hP, hK, hD0⟩ := hv
  have hx := B.exec
  have hb := B.bytes
  have hr := B.returns
  have hts := atoms_spec (ws := wsM_verify) B.pre
  have hown : s.vm.findClass RM = some m.cls := findClass_of_methodNamed B.named
  have hlocks := B.notSynchronized
  subst hsz
  have hD := hD0.self (sz := s.heap.size)
  generalize hAe : va_A [(qm, .inr (3, [.int pl, .int ul, .int pk, .int ac, .int ag, .int pn, .int pt, .int ut, .int en, .int og, .int pw, .int hd, .int tn, .int tk, .int ar, .int dn, .int e0, .int e1]))] s.heap.size = A at hD ⊢
  have hA : ∀ q : Nat, s.heap.size ≤ q → A q := fun q h => by rw [← hAe]; exact Or.inr h
  have hS : va_S A s.heap s.heap [] := va_S.rf
  have hP : va_P (dC, dI) ttCl [(qm, .inr (3, [.int pl, .int ul, .int pk, .int ac, .int ag, .int pn, .int pt, .int ut, .int en, .int og, .int pw, .int hd, .int tn, .int tk, .int ar, .int dn, .int e0, .int e1]))] s.heap := hP
  have hl := lv_entry ([.ref qm, .int n]) (n := 3) (Nat.le_of_ble_eq_true rfl)
  rw [lg_entry_eq]
  generalize (lg_sl ([.ref qm, .int n]) ++ List.replicate (3 - (lg_sl ([.ref qm, .int n])).length) Slot.unset).toArray = ls at hl ⊢
  have hl : lv_has ls 3 [(0, .ref qm), (1, .int n)] := hl
  refine lv_aload_n hx hb dM_verify_0 rfl (lv_at hl 0 rfl) ?_
  refine lv_iload_n hx hb dM_verify_1 rfl (lv_at hl 1 rfl) ?_
  have hPc := hP.sub (ws' := [(qm, .inr (3, [.int pl, .int ul, .int pk, .int ac, .int ag, .int pn, .int pt, .int ut, .int en, .int og, .int pw, .int hd, .int tn, .int tk, .int ar, .int dn, .int e0, .int e1]))]) [0] rfl
  have hDc := hD.sub (ws' := [(qm, .inr (3, [.int pl, .int ul, .int pk, .int ac, .int ag, .int pn, .int pt, .int ut, .int en, .int og, .int pw, .int hd, .int tn, .int tk, .int ar, .int dn, .int e0, .int e1]))]) [0] (by decide) rfl
  have hKc := hK.sub (tys' := []) [] rfl
  have hFc := va_free (wc := [(qm, .inr (3, [.int pl, .int ul, .int pk, .int ac, .int ag, .int pn, .int pt, .int ut, .int en, .int og, .int pw, .int hd, .int tn, .int tk, .int ar, .int dn, .int e0, .int e1]))]) hD hS hA [0] rfl
  refine va_calli (va_runV (As := [.int n]) (rest := []) ⟨hx, hb, hml, hown, hts⟩ (c_M_attempt l dC dI qm s.heap.size pk pl ul ac ag pn pt ut en og pw hd tn tk ar dn e0 e1 n) (cwV 1 hts gM_verify_M_attempt rfl rfl rfl (by decide +kernel) ⟨Nat.le_of_ble_eq_true rfl, Nat.le_of_ble_eq_true rfl⟩) ⟨fun a U g mk q => by obtain ⟨q0, q1, qP, qK, qD⟩ := q; exact ⟨q0, q1, qP, va_K.moved (u := U) (U := U.calling g mk a) (Vm.Alike.refl U.vm) qK, qD⟩, va_recv hKc hPc (ci := 3) (q0 := 0) rfl rfl, fun U hU hW => ⟨rfl, by rw [hU], by rw [hU]; exact hPc, va_K.moved hW.alike hKc, hDc.weaken (fun _ _ _ _ => trivial)⟩⟩ rfl rfl hl.1 rfl (lv_room (Nat.le_of_ble_eq_true rfl)) dM_verify_2 ⟨(Nat.zero_le _), (Nat.zero_le _)⟩) hS (fun q _ h => hFc q h) hFc (fun r_1 u t H locs ht hvm hw hB hz1 hk1 hS => ?_)
  obtain ⟨ac_1, ag_1, pn_1, pt_1, ut_1, en_1, og_1, pw_1, hd_1, tn_1, tk_1, ar_1, dn_1, e0_1, e1_1⟩ := u
  obtain ⟨hP1, hK1, hD1⟩ := hB
  have e_1 : mm_att pl (ac, ag, pn, pt, ut, en, og, pw, hd, tn, tk, ar, dn, e0, e1) n = (r_1, (ac_1, ag_1, pn_1, pt_1, ut_1, en_1, og_1, pw_1, hd_1, tn_1, tk_1, ar_1, dn_1, e0_1, e1_1)) := hw
  rw [ht] at hP1
  obtain ⟨hP, hD⟩ := va_join (wr := []) (w1 := [(qm, .inr (3, [.int pl, .int ul, .int pk, .int ac_1, .int ag_1, .int pn_1, .int pt_1, .int ut_1, .int en_1, .int og_1, .int pw_1, .int hd_1, .int tn_1, .int tk_1, .int ar_1, .int dn_1, .int e0_1, .int e1_1]))]) hP hD [0] [] rfl rfl (by decide) (by decide) hk1 hFc hP1 hD1
  have hP : va_P (dC, dI) ttCl [(qm, .inr (3, [.int pl, .int ul, .int pk, .int ac_1, .int ag_1, .int pn_1, .int pt_1, .int ut_1, .int en_1, .int og_1, .int pw_1, .int hd_1, .int tn_1, .int tk_1, .int ar_1, .int dn_1, .int e0_1, .int e1_1]))] H := hP
  have hD : va_D A [(qm, .inr (3, [.int pl, .int ul, .int pk, .int ac_1, .int ag_1, .int pn_1, .int pt_1, .int ut_1, .int en_1, .int og_1, .int pw_1, .int hd_1, .int tn_1, .int tk_1, .int ar_1, .int dn_1, .int e0_1, .int e1_1]))] := hD
  refine lv_istore_n (lv' := [(2, .int r_1), (0, .ref qm), (1, .int n)]) hx hb dM_verify_5 rfl hl (by decide) rfl (fun ls hl => ?_)
  refine lv_aload_n hx hb dM_verify_6 rfl (lv_at hl 1 rfl) ?_
  refine lv_aload_n hx hb dM_verify_7 rfl (lv_at hl 1 rfl) ?_
  refine va_get (D := (dC, dI)) (ci := 3) (v := .int hd_1) (C := RM) (T := TM) (N := 18) hx hb hts (by decide +kernel) hown hK hP 0 rfl rfl 11 (by decide) (hts (.fieldLink RM 36 "TornTryCounterModel" "holder" "Z") (by decide +kernel)) (fun _ h9 => h9) rfl dM_verify_8 ?_
  refine lv_if_ne (tgt := 19) hx hb dM_verify_11 (by decide) (fun c_2 => ?_) (fun c_2 => ?_)
  · refine lv_iconst (v := 1) hx hb dM_verify_19 (by decide) ?_
    refine lv_goto (tgt := 24) hx hb dM_verify_20 (by decide) ?_
    refine va_put (D := (dC, dI)) (ci := 3) (v := .int 1) (ty := .boolean) (C := RM) (T := TM) (N := 18) hx hb hts (by decide +kernel) tyM tyM_ok nmM hown hK hP hD hS 0 rfl rfl 11 (by decide) (hts (.fieldLink RM 36 "TornTryCounterModel" "holder" "Z") (by decide +kernel)) (fun _ h9 => h9) rfl (by decide +kernel) rfl rfl (Nat.le_of_ble_eq_true rfl) dM_verify_24 (fun H locs hP hD hS => ?_)
    have hP : va_P (dC, dI) ttCl [(qm, .inr (3, [.int pl, .int ul, .int pk, .int ac_1, .int ag_1, .int pn_1, .int pt_1, .int ut_1, .int en_1, .int og_1, .int pw_1, .int 1, .int tn_1, .int tk_1, .int ar_1, .int dn_1, .int e0_1, .int e1_1]))] H := hP
    have hD : va_D A [(qm, .inr (3, [.int pl, .int ul, .int pk, .int ac_1, .int ag_1, .int pn_1, .int pt_1, .int ut_1, .int en_1, .int og_1, .int pw_1, .int 1, .int tn_1, .int tk_1, .int ar_1, .int dn_1, .int e0_1, .int e1_1]))] := hD
    refine lv_iload_n hx hb dM_verify_27 rfl (lv_at hl 0 rfl) ?_
    have hP9 := hP.sub (ws' := [(qm, .inr (3, [.int pl, .int ul, .int pk, .int ac_1, .int ag_1, .int pn_1, .int pt_1, .int ut_1, .int en_1, .int og_1, .int pw_1, .int 1, .int tn_1, .int tk_1, .int ar_1, .int dn_1, .int e0_1, .int e1_1]))]) [0] rfl
    have hD9 := hD.sub (ws' := [(qm, .inr (3, [.int pl, .int ul, .int pk, .int ac_1, .int ag_1, .int pn_1, .int pt_1, .int ut_1, .int en_1, .int og_1, .int pw_1, .int 1, .int tn_1, .int tk_1, .int ar_1, .int dn_1, .int e0_1, .int e1_1]))]) [0] (by decide) rfl
    have hK9 := hK.sub (tys' := []) [] rfl
    exact W.iret (v := r_1) hx hb hr (fun t ht hW => ⟨⟨r_1, (ac_1, ag_1, pn_1, pt_1, ut_1, en_1, og_1, pw_1, 1, tn_1, tk_1, ar_1, dn_1, e0_1, e1_1), rfl, (by first | (simp only [mm_verify, mm_or, e_1, if_neg c_2, reduceIte, eq_self, tt_n10]; done) | (simp only [mm_verify, mm_or, e_1, c_2, reduceIte, eq_self, tt_n10]; done) | (simp [mm_verify, mm_or, e_1, c_2]; done)), by rw [ht]; exact hP9, va_K.moved hW.alike hK9, hD9⟩, hS.F ht⟩) hS.2.2 dM_verify_28
  · refine lv_iload_n hx hb dM_verify_14 rfl (lv_at hl 0 rfl) ?_
    refine lv_iconst (v := 1) hx hb dM_verify_15 (by decide) ?_
    refine lv_icmp_ne (tgt := 23) hx hb dM_verify_16 (by decide) (fun c_3 => ?_) (fun c_3 => ?_)
    · refine lv_iconst (v := 0) hx hb dM_verify_23 (by decide) ?_
      refine va_put (D := (dC, dI)) (ci := 3) (v := .int 0) (ty := .boolean) (C := RM) (T := TM) (N := 18) hx hb hts (by decide +kernel) tyM tyM_ok nmM hown hK hP hD hS 0 rfl rfl 11 (by decide) (hts (.fieldLink RM 36 "TornTryCounterModel" "holder" "Z") (by decide +kernel)) (fun _ h9 => h9) rfl (by decide +kernel) rfl rfl (Nat.le_of_ble_eq_true rfl) dM_verify_24 (fun H locs hP hD hS => ?_)
      have hP : va_P (dC, dI) ttCl [(qm, .inr (3, [.int pl, .int ul, .int pk, .int ac_1, .int ag_1, .int pn_1, .int pt_1, .int ut_1, .int en_1, .int og_1, .int pw_1, .int 0, .int tn_1, .int tk_1, .int ar_1, .int dn_1, .int e0_1, .int e1_1]))] H := hP
      have hD : va_D A [(qm, .inr (3, [.int pl, .int ul, .int pk, .int ac_1, .int ag_1, .int pn_1, .int pt_1, .int ut_1, .int en_1, .int og_1, .int pw_1, .int 0, .int tn_1, .int tk_1, .int ar_1, .int dn_1, .int e0_1, .int e1_1]))] := hD
      refine lv_iload_n hx hb dM_verify_27 rfl (lv_at hl 0 rfl) ?_
      have hP9 := hP.sub (ws' := [(qm, .inr (3, [.int pl, .int ul, .int pk, .int ac_1, .int ag_1, .int pn_1, .int pt_1, .int ut_1, .int en_1, .int og_1, .int pw_1, .int 0, .int tn_1, .int tk_1, .int ar_1, .int dn_1, .int e0_1, .int e1_1]))]) [0] rfl
      have hD9 := hD.sub (ws' := [(qm, .inr (3, [.int pl, .int ul, .int pk, .int ac_1, .int ag_1, .int pn_1, .int pt_1, .int ut_1, .int en_1, .int og_1, .int pw_1, .int 0, .int tn_1, .int tk_1, .int ar_1, .int dn_1, .int e0_1, .int e1_1]))]) [0] (by decide) rfl
      have hK9 := hK.sub (tys' := []) [] rfl
      exact W.iret (v := r_1) hx hb hr (fun t ht hW => ⟨⟨r_1, (ac_1, ag_1, pn_1, pt_1, ut_1, en_1, og_1, pw_1, 0, tn_1, tk_1, ar_1, dn_1, e0_1, e1_1), rfl, (by first | (simp only [mm_verify, mm_or, e_1, if_pos c_2, if_neg c_3, reduceIte, eq_self, tt_n10]; done) | (simp only [mm_verify, mm_or, e_1, c_2, c_3, reduceIte, eq_self, tt_n10]; done) | (simp [mm_verify, mm_or, e_1, c_2, c_3]; done)), by rw [ht]; exact hP9, va_K.moved hW.alike hK9, hD9⟩, hS.F ht⟩) hS.2.2 dM_verify_28
    · refine lv_iconst (v := 1) hx hb dM_verify_19 (by decide) ?_
      refine lv_goto (tgt := 24) hx hb dM_verify_20 (by decide) ?_
      refine va_put (D := (dC, dI)) (ci := 3) (v := .int 1) (ty := .boolean) (C := RM) (T := TM) (N := 18) hx hb hts (by decide +kernel) tyM tyM_ok nmM hown hK hP hD hS 0 rfl rfl 11 (by decide) (hts (.fieldLink RM 36 "TornTryCounterModel" "holder" "Z") (by decide +kernel)) (fun _ h9 => h9) rfl (by decide +kernel) rfl rfl (Nat.le_of_ble_eq_true rfl) dM_verify_24 (fun H locs hP hD hS => ?_)
      have hP : va_P (dC, dI) ttCl [(qm, .inr (3, [.int pl, .int ul, .int pk, .int ac_1, .int ag_1, .int pn_1, .int pt_1, .int ut_1, .int en_1, .int og_1, .int pw_1, .int 1, .int tn_1, .int tk_1, .int ar_1, .int dn_1, .int e0_1, .int e1_1]))] H := hP
      have hD : va_D A [(qm, .inr (3, [.int pl, .int ul, .int pk, .int ac_1, .int ag_1, .int pn_1, .int pt_1, .int ut_1, .int en_1, .int og_1, .int pw_1, .int 1, .int tn_1, .int tk_1, .int ar_1, .int dn_1, .int e0_1, .int e1_1]))] := hD
      refine lv_iload_n hx hb dM_verify_27 rfl (lv_at hl 0 rfl) ?_
      have hP9 := hP.sub (ws' := [(qm, .inr (3, [.int pl, .int ul, .int pk, .int ac_1, .int ag_1, .int pn_1, .int pt_1, .int ut_1, .int en_1, .int og_1, .int pw_1, .int 1, .int tn_1, .int tk_1, .int ar_1, .int dn_1, .int e0_1, .int e1_1]))]) [0] rfl
      have hD9 := hD.sub (ws' := [(qm, .inr (3, [.int pl, .int ul, .int pk, .int ac_1, .int ag_1, .int pn_1, .int pt_1, .int ut_1, .int en_1, .int og_1, .int pw_1, .int 1, .int tn_1, .int tk_1, .int ar_1, .int dn_1, .int e0_1, .int e1_1]))]) [0] (by decide) rfl
      have hK9 := hK.sub (tys' := []) [] rfl
      exact W.iret (v := r_1) hx hb hr (fun t ht hW => ⟨⟨r_1, (ac_1, ag_1, pn_1, pt_1, ut_1, en_1, og_1, pw_1, 1, tn_1, tk_1, ar_1, dn_1, e0_1, e1_1), rfl, (by first | (simp only [mm_verify, mm_or, e_1, if_pos c_2, if_pos c_3, reduceIte, eq_self, tt_n10]; done) | (simp only [mm_verify, mm_or, e_1, c_2, c_3, reduceIte, eq_self, tt_n10]; done) | (simp [mm_verify, mm_or, e_1, c_2, c_3]; done)), by rw [ht]; exact hP9, va_K.moved hW.alike hK9, hD9⟩, hS.F ht⟩) hS.2.2 dM_verify_28
set_option maxHeartbeats 4000000 in
set_option maxRecDepth 100000 in
theorem c_M_change (l : Launch) (dC : Nat → ClassId) (dI : Nat → Nat → Nat) (qm : Nat) (sz : Nat) (pk pl ul ac ag pn pt ut en og pw hd tn tk ar dn e0 e1 : Int32) (n x : Int32) : Met l yM_change wsM_change ({ frames := 4, cells := 0, slots := 0, locals := 89 }) (va_Pc [.ref qm, .int n, .int x] (fun U => U.heap.size = sz ∧ va_P (dC, dI) ttCl [(qm, .inr (3, [.int pl, .int ul, .int pk, .int ac, .int ag, .int pn, .int pt, .int ut, .int en, .int og, .int pw, .int hd, .int tn, .int tk, .int ar, .int dn, .int e0, .int e1]))] U.heap ∧ va_K (dC, dI) ttCl [] U ∧ va_D (fun _ => True) [(qm, .inr (3, [.int pl, .int ul, .int pk, .int ac, .int ag, .int pn, .int pt, .int ut, .int en, .int og, .int pw, .int hd, .int tn, .int tk, .int ar, .int dn, .int e0, .int e1]))])) (va_Qi (fun (r : Int32) (u : tt_M) => mm_change pl (ac, ag, pn, pt, ut, en, og, pw, hd, tn, tk, ar, dn, e0, e1) n x = (r, u)) (fun (u : tt_M) (t : State) => at_M dC dI (va_A [(qm, .inr (3, [.int pl, .int ul, .int pk, .int ac, .int ag, .int pn, .int pt, .int ut, .int en, .int og, .int pw, .int hd, .int tn, .int tk, .int ar, .int dn, .int e0, .int e1]))] sz) qm pk pl ul u t) (va_A [(qm, .inr (3, [.int pl, .int ul, .int pk, .int ac, .int ag, .int pn, .int pt, .int ut, .int en, .int og, .int pw, .int hd, .int tn, .int tk, .int ar, .int dn, .int e0, .int e1]))] sz)) 0 0 (va_A [(qm, .inr (3, [.int pl, .int ul, .int pk, .int ac, .int ag, .int pn, .int pt, .int ut, .int en, .int og, .int pw, .int hd, .int tn, .int tk, .int ar, .int dn, .int e0, .int e1]))] sz) := by
  refine Met.ofW (cc := cM_change) (maxL := 4) (ret := (some .int)) (by decide) rfl ?_
  intro p e s m args below meth c s₁ B hml hv
  obtain ⟨rfl, hsz, hP, hK, hD0⟩ := hv
  have hx := B.exec
  have hb := B.bytes
  have hr := B.returns
  have hts := atoms_spec (ws := wsM_change) B.pre
  have hown : s.vm.findClass RM = some m.cls := findClass_of_methodNamed B.named
  have hlocks := B.notSynchronized
  subst hsz
  have hD := hD0.self (sz := s.heap.size)
  generalize hAe : va_A [(qm, .inr (3, [.int pl, .int ul, .int pk, .int ac, .int ag, .int pn, .int pt, .int ut, .int en, .int og, .int pw, .int hd, .int tn, .int tk, .int ar, .int dn, .int e0, .int e1]))] s.heap.size = A at hD ⊢
  have hA : ∀ q : Nat, s.heap.size ≤ q → A q := fun q h => by rw [← hAe]; exact Or.inr h
  have hS : va_S A s.heap s.heap [] := va_S.rf
  have hP : va_P (dC, dI) ttCl [(qm, .inr (3, [.int pl, .int ul, .int pk, .int ac, .int ag, .int pn, .int pt, .int ut, .int en, .int og, .int pw, .int hd, .int tn, .int tk, .int ar, .int dn, .int e0, .int e1]))] s.heap := hP
  have hl := lv_entry ([.ref qm, .int n, .int x]) (n := 4) (Nat.le_of_ble_eq_true rfl)
  rw [lg_entry_eq]
  generalize (lg_sl ([.ref qm, .int n, .int x]) ++ List.replicate (4 - (lg_sl ([.ref qm, .int n, .int x])).length) Slot.unset).toArray = ls at hl ⊢
  have hl : lv_has ls 4 [(0, .ref qm), (1, .int n), (2, .int x)] := hl
  refine lv_aload_n hx hb dM_change_0 rfl (lv_at hl 0 rfl) ?_
  refine lv_iload_n hx hb dM_change_1 rfl (lv_at hl 1 rfl) ?_
  have hPc := hP.sub (ws' := [(qm, .inr (3, [.int pl, .int ul, .int pk, .int ac, .int ag, .int pn, .int pt, .int ut, .int en, .int og, .int pw, .int hd, .int tn, .int tk, .int ar, .int dn, .int e0, .int e1]))]) [0] rfl
  have hDc := hD.sub (ws' := [(qm, .inr (3, [.int pl, .int ul, .int pk, .int ac, .int ag, .int pn, .int pt, .int ut, .int en, .int og, .int pw, .int hd, .int tn, .int tk, .int ar, .int dn, .int e0, .int e1]))]) [0] (by decide) rfl
  have hKc := hK.sub (tys' := []) [] rfl
  have hFc := va_free (wc := [(qm, .inr (3, [.int pl, .int ul, .int pk, .int ac, .int ag, .int pn, .int pt, .int ut, .int en, .int og, .int pw, .int hd, .int tn, .int tk, .int ar, .int dn, .int e0, .int e1]))]) hD hS hA [0] rfl
  refine va_calli (va_runV (As := [.int n]) (rest := []) ⟨hx, hb, hml, hown, hts⟩ (c_M_attempt l dC dI qm s.heap.size pk pl ul ac ag pn pt ut en og pw hd tn tk ar dn e0 e1 n) (cwV 1 hts gM_change_M_attempt rfl rfl rfl (by decide +kernel) ⟨Nat.le_of_ble_eq_true rfl, Nat.le_of_ble_eq_true rfl⟩) ⟨fun a U g mk q => by obtain ⟨q0, q1, qP, qK, qD⟩ := q; exact ⟨q0, q1, qP, va_K.moved (u := U) (U := U.calling g mk a) (Vm.Alike.refl U.vm) qK, qD⟩, va_recv hKc hPc (ci := 3) (q0 := 0) rfl rfl, fun U hU hW => ⟨rfl, by rw [hU], by rw [hU]; exact hPc, va_K.moved hW.alike hKc, hDc.weaken (fun _ _ _ _ => trivial)⟩⟩ rfl rfl hl.1 rfl (lv_room (Nat.le_of_ble_eq_true rfl)) dM_change_2 ⟨(Nat.zero_le _), (Nat.zero_le _)⟩) hS (fun q _ h => hFc q h) hFc (fun r_1 u t H locs ht hvm hw hB hz1 hk1 hS => ?_)
  obtain ⟨ac_1, ag_1, pn_1, pt_1, ut_1, en_1, og_1, pw_1, hd_1, tn_1, tk_1, ar_1, dn_1, e0_1, e1_1⟩ := u
  obtain ⟨hP1, hK1, hD1⟩ := hB
  have e_1 : mm_att pl (ac, ag, pn, pt, ut, en, og, pw, hd, tn, tk, ar, dn, e0, e1) n = (r_1, (ac_1, ag_1, pn_1, pt_1, ut_1, en_1, og_1, pw_1, hd_1, tn_1, tk_1, ar_1, dn_1, e0_1, e1_1)) := hw
  rw [ht] at hP1
  obtain ⟨hP, hD⟩ := va_join (wr := []) (w1 := [(qm, .inr (3, [.int pl, .int ul, .int pk, .int ac_1, .int ag_1, .int pn_1, .int pt_1, .int ut_1, .int en_1, .int og_1, .int pw_1, .int hd_1, .int tn_1, .int tk_1, .int ar_1, .int dn_1, .int e0_1, .int e1_1]))]) hP hD [0] [] rfl rfl (by decide) (by decide) hk1 hFc hP1 hD1
  have hP : va_P (dC, dI) ttCl [(qm, .inr (3, [.int pl, .int ul, .int pk, .int ac_1, .int ag_1, .int pn_1, .int pt_1, .int ut_1, .int en_1, .int og_1, .int pw_1, .int hd_1, .int tn_1, .int tk_1, .int ar_1, .int dn_1, .int e0_1, .int e1_1]))] H := hP
  have hD : va_D A [(qm, .inr (3, [.int pl, .int ul, .int pk, .int ac_1, .int ag_1, .int pn_1, .int pt_1, .int ut_1, .int en_1, .int og_1, .int pw_1, .int hd_1, .int tn_1, .int tk_1, .int ar_1, .int dn_1, .int e0_1, .int e1_1]))] := hD
  refine lv_istore_n (lv' := [(3, .int r_1), (0, .ref qm), (1, .int n), (2, .int x)]) hx hb dM_change_5 rfl hl (by decide) rfl (fun ls hl => ?_)
  refine lv_iload_n hx hb dM_change_6 rfl (lv_at hl 0 rfl) ?_
  refine lv_iconst (v := 1) hx hb dM_change_7 (by decide) ?_
  refine lv_icmp_ne (tgt := 30) hx hb dM_change_8 (by decide) (fun c_2 => ?_) (fun c_2 => ?_)
  · refine lv_aload_n hx hb dM_change_30 rfl (lv_at hl 1 rfl) ?_
    refine lv_aload_n hx hb dM_change_31 rfl (lv_at hl 1 rfl) ?_
    refine va_get (D := (dC, dI)) (ci := 3) (v := .int hd_1) (C := RM) (T := TM) (N := 18) hx hb hts (by decide +kernel) hown hK hP 0 rfl rfl 11 (by decide) (hts (.fieldLink RM 36 "TornTryCounterModel" "holder" "Z") (by decide +kernel)) (fun _ h9 => h9) rfl dM_change_32 ?_
    refine lv_if_ne (tgt := 43) hx hb dM_change_35 (by decide) (fun c_3 => ?_) (fun c_3 => ?_)
    · refine lv_iconst (v := 1) hx hb dM_change_43 (by decide) ?_
      refine lv_goto (tgt := 48) hx hb dM_change_44 (by decide) ?_
      refine va_put (D := (dC, dI)) (ci := 3) (v := .int 1) (ty := .boolean) (C := RM) (T := TM) (N := 18) hx hb hts (by decide +kernel) tyM tyM_ok nmM hown hK hP hD hS 0 rfl rfl 11 (by decide) (hts (.fieldLink RM 36 "TornTryCounterModel" "holder" "Z") (by decide +kernel)) (fun _ h9 => h9) rfl (by decide +kernel) rfl rfl (Nat.le_of_ble_eq_true rfl) dM_change_48 (fun H locs hP hD hS => ?_)
      have hP : va_P (dC, dI) ttCl [(qm, .inr (3, [.int pl, .int ul, .int pk, .int ac_1, .int ag_1, .int pn_1, .int pt_1, .int ut_1, .int en_1, .int og_1, .int pw_1, .int 1, .int tn_1, .int tk_1, .int ar_1, .int dn_1, .int e0_1, .int e1_1]))] H := hP
      have hD : va_D A [(qm, .inr (3, [.int pl, .int ul, .int pk, .int ac_1, .int ag_1, .int pn_1, .int pt_1, .int ut_1, .int en_1, .int og_1, .int pw_1, .int 1, .int tn_1, .int tk_1, .int ar_1, .int dn_1, .int e0_1, .int e1_1]))] := hD
      refine lv_iload_n hx hb dM_change_51 rfl (lv_at hl 0 rfl) ?_
      have hP9 := hP.sub (ws' := [(qm, .inr (3, [.int pl, .int ul, .int pk, .int ac_1, .int ag_1, .int pn_1, .int pt_1, .int ut_1, .int en_1, .int og_1, .int pw_1, .int 1, .int tn_1, .int tk_1, .int ar_1, .int dn_1, .int e0_1, .int e1_1]))]) [0] rfl
      have hD9 := hD.sub (ws' := [(qm, .inr (3, [.int pl, .int ul, .int pk, .int ac_1, .int ag_1, .int pn_1, .int pt_1, .int ut_1, .int en_1, .int og_1, .int pw_1, .int 1, .int tn_1, .int tk_1, .int ar_1, .int dn_1, .int e0_1, .int e1_1]))]) [0] (by decide) rfl
      have hK9 := hK.sub (tys' := []) [] rfl
      exact W.iret (v := r_1) hx hb hr (fun t ht hW => ⟨⟨r_1, (ac_1, ag_1, pn_1, pt_1, ut_1, en_1, og_1, pw_1, 1, tn_1, tk_1, ar_1, dn_1, e0_1, e1_1), rfl, (by first | (simp only [mm_change, mm_or, e_1, if_neg c_2, if_neg c_3, reduceIte, eq_self, tt_n10]; done) | (simp only [mm_change, mm_or, e_1, c_2, c_3, reduceIte, eq_self, tt_n10]; done) | (simp [mm_change, mm_or, e_1, c_2, c_3]; done)), by rw [ht]; exact hP9, va_K.moved hW.alike hK9, hD9⟩, hS.F ht⟩) hS.2.2 dM_change_52
    · refine lv_iload_n hx hb dM_change_38 rfl (lv_at hl 0 rfl) ?_
      refine lv_iconst (v := 1) hx hb dM_change_39 (by decide) ?_
      refine lv_icmp_ne (tgt := 47) hx hb dM_change_40 (by decide) (fun c_4 => ?_) (fun c_4 => ?_)
      · refine lv_iconst (v := 0) hx hb dM_change_47 (by decide) ?_
        refine va_put (D := (dC, dI)) (ci := 3) (v := .int 0) (ty := .boolean) (C := RM) (T := TM) (N := 18) hx hb hts (by decide +kernel) tyM tyM_ok nmM hown hK hP hD hS 0 rfl rfl 11 (by decide) (hts (.fieldLink RM 36 "TornTryCounterModel" "holder" "Z") (by decide +kernel)) (fun _ h9 => h9) rfl (by decide +kernel) rfl rfl (Nat.le_of_ble_eq_true rfl) dM_change_48 (fun H locs hP hD hS => ?_)
        have hP : va_P (dC, dI) ttCl [(qm, .inr (3, [.int pl, .int ul, .int pk, .int ac_1, .int ag_1, .int pn_1, .int pt_1, .int ut_1, .int en_1, .int og_1, .int pw_1, .int 0, .int tn_1, .int tk_1, .int ar_1, .int dn_1, .int e0_1, .int e1_1]))] H := hP
        have hD : va_D A [(qm, .inr (3, [.int pl, .int ul, .int pk, .int ac_1, .int ag_1, .int pn_1, .int pt_1, .int ut_1, .int en_1, .int og_1, .int pw_1, .int 0, .int tn_1, .int tk_1, .int ar_1, .int dn_1, .int e0_1, .int e1_1]))] := hD
        refine lv_iload_n hx hb dM_change_51 rfl (lv_at hl 0 rfl) ?_
        have hP9 := hP.sub (ws' := [(qm, .inr (3, [.int pl, .int ul, .int pk, .int ac_1, .int ag_1, .int pn_1, .int pt_1, .int ut_1, .int en_1, .int og_1, .int pw_1, .int 0, .int tn_1, .int tk_1, .int ar_1, .int dn_1, .int e0_1, .int e1_1]))]) [0] rfl
        have hD9 := hD.sub (ws' := [(qm, .inr (3, [.int pl, .int ul, .int pk, .int ac_1, .int ag_1, .int pn_1, .int pt_1, .int ut_1, .int en_1, .int og_1, .int pw_1, .int 0, .int tn_1, .int tk_1, .int ar_1, .int dn_1, .int e0_1, .int e1_1]))]) [0] (by decide) rfl
        have hK9 := hK.sub (tys' := []) [] rfl
        exact W.iret (v := r_1) hx hb hr (fun t ht hW => ⟨⟨r_1, (ac_1, ag_1, pn_1, pt_1, ut_1, en_1, og_1, pw_1, 0, tn_1, tk_1, ar_1, dn_1, e0_1, e1_1), rfl, (by first | (simp only [mm_change, mm_or, e_1, if_neg c_2, if_pos c_3, reduceIte, eq_self, tt_n10]; done) | (simp only [mm_change, mm_or, e_1, c_2, c_3, reduceIte, eq_self, tt_n10]; done) | (simp [mm_change, mm_or, e_1, c_2, c_3]; done)), by rw [ht]; exact hP9, va_K.moved hW.alike hK9, hD9⟩, hS.F ht⟩) hS.2.2 dM_change_52
      · exact absurd c_4 c_2
  · refine lv_aload_n hx hb dM_change_11 rfl (lv_at hl 1 rfl) ?_
    refine lv_iload_n hx hb dM_change_12 rfl (lv_at hl 3 rfl) ?_
    refine lv_ldc (v := 65535) hx hb hown (hts (.constant RM 17 65535) (by decide +kernel)) dM_change_13 ?_
    refine lv_iand hx hb dM_change_15 ?_
    refine lv_iconst (v := 0) hx hb dM_change_16 (by decide) ?_
    refine lv_aload_n hx hb dM_change_17 rfl (lv_at hl 1 rfl) ?_
    refine va_get (D := (dC, dI)) (ci := 3) (v := .int ut_1) (C := RM) (T := TM) (N := 18) hx hb hts (by decide +kernel) hown hK hP 0 rfl rfl 7 (by decide) (hts (.fieldLink RM 68 "TornTryCounterModel" "pukTries" "I") (by decide +kernel)) (fun _ h9 => h9) rfl dM_change_18 ?_
    have hPc := hP.sub (ws' := [(qm, .inr (3, [.int pl, .int ul, .int pk, .int ac_1, .int ag_1, .int pn_1, .int pt_1, .int ut_1, .int en_1, .int og_1, .int pw_1, .int hd_1, .int tn_1, .int tk_1, .int ar_1, .int dn_1, .int e0_1, .int e1_1]))]) [0] rfl
    have hDc := hD.sub (ws' := [(qm, .inr (3, [.int pl, .int ul, .int pk, .int ac_1, .int ag_1, .int pn_1, .int pt_1, .int ut_1, .int en_1, .int og_1, .int pw_1, .int hd_1, .int tn_1, .int tk_1, .int ar_1, .int dn_1, .int e0_1, .int e1_1]))]) [0] (by decide) rfl
    have hKc := hK.sub (tys' := []) [] rfl
    have hFc := va_free (wc := [(qm, .inr (3, [.int pl, .int ul, .int pk, .int ac_1, .int ag_1, .int pn_1, .int pt_1, .int ut_1, .int en_1, .int og_1, .int pw_1, .int hd_1, .int tn_1, .int tk_1, .int ar_1, .int dn_1, .int e0_1, .int e1_1]))]) hD hS hA [0] rfl
    refine va_calli (va_runV (As := [.int (x &&& 65535), .int 0, .int ut_1]) (rest := []) ⟨hx, hb, hml, hown, hts⟩ (c_M_turn l dC dI qm H.size pk pl ul ac_1 ag_1 pn_1 pt_1 ut_1 en_1 og_1 pw_1 hd_1 tn_1 tk_1 ar_1 dn_1 e0_1 e1_1 (x &&& 65535) 0 ut_1) (cwV 3 hts gM_change_M_turn rfl rfl rfl (by decide +kernel) ⟨Nat.le_of_ble_eq_true rfl, Nat.le_of_ble_eq_true rfl⟩) ⟨fun a U g mk q => by obtain ⟨q0, q1, qP, qK, qD⟩ := q; exact ⟨q0, q1, qP, va_K.moved (u := U) (U := U.calling g mk a) (Vm.Alike.refl U.vm) qK, qD⟩, va_recv hKc hPc (ci := 3) (q0 := 0) rfl rfl, fun U hU hW => ⟨rfl, by rw [hU], by rw [hU]; exact hPc, va_K.moved hW.alike hKc, hDc.weaken (fun _ _ _ _ => trivial)⟩⟩ rfl rfl hl.1 rfl (lv_room (Nat.le_of_ble_eq_true rfl)) dM_change_21 ⟨(Nat.zero_le _), (Nat.zero_le _)⟩) hS (fun q _ h => hFc q h) hFc (fun r_5 u t H locs ht hvm hw hB hz1 hk1 hS => ?_)
    obtain ⟨ac_5, ag_5, pn_5, pt_5, ut_5, en_5, og_5, pw_5, hd_5, tn_5, tk_5, ar_5, dn_5, e0_5, e1_5⟩ := u
    obtain ⟨hP1, hK1, hD1⟩ := hB
    have e_5 : mm_turn (ac_1, ag_1, pn_1, pt_1, ut_1, en_1, og_1, pw_1, hd_1, tn_1, tk_1, ar_1, dn_1, e0_1, e1_1) (x &&& 65535) 0 ut_1 = (r_5, (ac_5, ag_5, pn_5, pt_5, ut_5, en_5, og_5, pw_5, hd_5, tn_5, tk_5, ar_5, dn_5, e0_5, e1_5)) := hw
    rw [ht] at hP1
    obtain ⟨hP, hD⟩ := va_join (wr := []) (w1 := [(qm, .inr (3, [.int pl, .int ul, .int pk, .int ac_5, .int ag_5, .int pn_5, .int pt_5, .int ut_5, .int en_5, .int og_5, .int pw_5, .int hd_5, .int tn_5, .int tk_5, .int ar_5, .int dn_5, .int e0_5, .int e1_5]))]) hP hD [0] [] rfl rfl (by decide) (by decide) hk1 hFc hP1 hD1
    have hP : va_P (dC, dI) ttCl [(qm, .inr (3, [.int pl, .int ul, .int pk, .int ac_5, .int ag_5, .int pn_5, .int pt_5, .int ut_5, .int en_5, .int og_5, .int pw_5, .int hd_5, .int tn_5, .int tk_5, .int ar_5, .int dn_5, .int e0_5, .int e1_5]))] H := hP
    have hD : va_D A [(qm, .inr (3, [.int pl, .int ul, .int pk, .int ac_5, .int ag_5, .int pn_5, .int pt_5, .int ut_5, .int en_5, .int og_5, .int pw_5, .int hd_5, .int tn_5, .int tk_5, .int ar_5, .int dn_5, .int e0_5, .int e1_5]))] := hD
    refine lv_if_ne (tgt := 30) hx hb dM_change_24 (by decide) (fun c_6 => ?_) (fun c_6 => ?_)
    · refine lv_aload_n hx hb dM_change_30 rfl (lv_at hl 1 rfl) ?_
      refine lv_aload_n hx hb dM_change_31 rfl (lv_at hl 1 rfl) ?_
      refine va_get (D := (dC, dI)) (ci := 3) (v := .int hd_5) (C := RM) (T := TM) (N := 18) hx hb hts (by decide +kernel) hown hK hP 0 rfl rfl 11 (by decide) (hts (.fieldLink RM 36 "TornTryCounterModel" "holder" "Z") (by decide +kernel)) (fun _ h9 => h9) rfl dM_change_32 ?_
      refine lv_if_ne (tgt := 43) hx hb dM_change_35 (by decide) (fun c_7 => ?_) (fun c_7 => ?_)
      · refine lv_iconst (v := 1) hx hb dM_change_43 (by decide) ?_
        refine lv_goto (tgt := 48) hx hb dM_change_44 (by decide) ?_
        refine va_put (D := (dC, dI)) (ci := 3) (v := .int 1) (ty := .boolean) (C := RM) (T := TM) (N := 18) hx hb hts (by decide +kernel) tyM tyM_ok nmM hown hK hP hD hS 0 rfl rfl 11 (by decide) (hts (.fieldLink RM 36 "TornTryCounterModel" "holder" "Z") (by decide +kernel)) (fun _ h9 => h9) rfl (by decide +kernel) rfl rfl (Nat.le_of_ble_eq_true rfl) dM_change_48 (fun H locs hP hD hS => ?_)
        have hP : va_P (dC, dI) ttCl [(qm, .inr (3, [.int pl, .int ul, .int pk, .int ac_5, .int ag_5, .int pn_5, .int pt_5, .int ut_5, .int en_5, .int og_5, .int pw_5, .int 1, .int tn_5, .int tk_5, .int ar_5, .int dn_5, .int e0_5, .int e1_5]))] H := hP
        have hD : va_D A [(qm, .inr (3, [.int pl, .int ul, .int pk, .int ac_5, .int ag_5, .int pn_5, .int pt_5, .int ut_5, .int en_5, .int og_5, .int pw_5, .int 1, .int tn_5, .int tk_5, .int ar_5, .int dn_5, .int e0_5, .int e1_5]))] := hD
        refine lv_iload_n hx hb dM_change_51 rfl (lv_at hl 0 rfl) ?_
        have hP9 := hP.sub (ws' := [(qm, .inr (3, [.int pl, .int ul, .int pk, .int ac_5, .int ag_5, .int pn_5, .int pt_5, .int ut_5, .int en_5, .int og_5, .int pw_5, .int 1, .int tn_5, .int tk_5, .int ar_5, .int dn_5, .int e0_5, .int e1_5]))]) [0] rfl
        have hD9 := hD.sub (ws' := [(qm, .inr (3, [.int pl, .int ul, .int pk, .int ac_5, .int ag_5, .int pn_5, .int pt_5, .int ut_5, .int en_5, .int og_5, .int pw_5, .int 1, .int tn_5, .int tk_5, .int ar_5, .int dn_5, .int e0_5, .int e1_5]))]) [0] (by decide) rfl
        have hK9 := hK.sub (tys' := []) [] rfl
        exact W.iret (v := r_1) hx hb hr (fun t ht hW => ⟨⟨r_1, (ac_5, ag_5, pn_5, pt_5, ut_5, en_5, og_5, pw_5, 1, tn_5, tk_5, ar_5, dn_5, e0_5, e1_5), rfl, (by first | (simp only [mm_change, mm_or, e_1, if_pos c_2, e_5, if_neg c_6, if_neg c_7, reduceIte, eq_self, tt_n10]; done) | (simp only [mm_change, mm_or, e_1, c_2, e_5, c_6, c_7, reduceIte, eq_self, tt_n10]; done) | (simp [mm_change, mm_or, e_1, c_2, e_5, c_6, c_7]; done)), by rw [ht]; exact hP9, va_K.moved hW.alike hK9, hD9⟩, hS.F ht⟩) hS.2.2 dM_change_52
      · refine lv_iload_n hx hb dM_change_38 rfl (lv_at hl 0 rfl) ?_
        refine lv_iconst (v := 1) hx hb dM_change_39 (by decide) ?_
        refine lv_icmp_ne (tgt := 47) hx hb dM_change_40 (by decide) (fun c_8 => ?_) (fun c_8 => ?_)
        · exact absurd c_2 c_8
        · refine lv_iconst (v := 1) hx hb dM_change_43 (by decide) ?_
          refine lv_goto (tgt := 48) hx hb dM_change_44 (by decide) ?_
          refine va_put (D := (dC, dI)) (ci := 3) (v := .int 1) (ty := .boolean) (C := RM) (T := TM) (N := 18) hx hb hts (by decide +kernel) tyM tyM_ok nmM hown hK hP hD hS 0 rfl rfl 11 (by decide) (hts (.fieldLink RM 36 "TornTryCounterModel" "holder" "Z") (by decide +kernel)) (fun _ h9 => h9) rfl (by decide +kernel) rfl rfl (Nat.le_of_ble_eq_true rfl) dM_change_48 (fun H locs hP hD hS => ?_)
          have hP : va_P (dC, dI) ttCl [(qm, .inr (3, [.int pl, .int ul, .int pk, .int ac_5, .int ag_5, .int pn_5, .int pt_5, .int ut_5, .int en_5, .int og_5, .int pw_5, .int 1, .int tn_5, .int tk_5, .int ar_5, .int dn_5, .int e0_5, .int e1_5]))] H := hP
          have hD : va_D A [(qm, .inr (3, [.int pl, .int ul, .int pk, .int ac_5, .int ag_5, .int pn_5, .int pt_5, .int ut_5, .int en_5, .int og_5, .int pw_5, .int 1, .int tn_5, .int tk_5, .int ar_5, .int dn_5, .int e0_5, .int e1_5]))] := hD
          refine lv_iload_n hx hb dM_change_51 rfl (lv_at hl 0 rfl) ?_
          have hP9 := hP.sub (ws' := [(qm, .inr (3, [.int pl, .int ul, .int pk, .int ac_5, .int ag_5, .int pn_5, .int pt_5, .int ut_5, .int en_5, .int og_5, .int pw_5, .int 1, .int tn_5, .int tk_5, .int ar_5, .int dn_5, .int e0_5, .int e1_5]))]) [0] rfl
          have hD9 := hD.sub (ws' := [(qm, .inr (3, [.int pl, .int ul, .int pk, .int ac_5, .int ag_5, .int pn_5, .int pt_5, .int ut_5, .int en_5, .int og_5, .int pw_5, .int 1, .int tn_5, .int tk_5, .int ar_5, .int dn_5, .int e0_5, .int e1_5]))]) [0] (by decide) rfl
          have hK9 := hK.sub (tys' := []) [] rfl
          exact W.iret (v := r_1) hx hb hr (fun t ht hW => ⟨⟨r_1, (ac_5, ag_5, pn_5, pt_5, ut_5, en_5, og_5, pw_5, 1, tn_5, tk_5, ar_5, dn_5, e0_5, e1_5), rfl, (by first | (simp only [mm_change, mm_or, e_1, if_pos c_2, e_5, if_neg c_6, if_pos c_7, reduceIte, eq_self, tt_n10]; done) | (simp only [mm_change, mm_or, e_1, c_2, e_5, c_6, c_7, reduceIte, eq_self, tt_n10]; done) | (simp [mm_change, mm_or, e_1, c_2, e_5, c_6, c_7]; done)), by rw [ht]; exact hP9, va_K.moved hW.alike hK9, hD9⟩, hS.F ht⟩) hS.2.2 dM_change_52
    · refine lv_bipush (v := (-3)) hx hb dM_change_27 (by decide) ?_
      refine lv_istore_n (lv' := [(3, .int (-3)), (0, .ref qm), (1, .int n), (2, .int x)]) hx hb dM_change_29 rfl hl (by decide) rfl (fun ls hl => ?_)
      refine lv_aload_n hx hb dM_change_30 rfl (lv_at hl 1 rfl) ?_
      refine lv_aload_n hx hb dM_change_31 rfl (lv_at hl 1 rfl) ?_
      refine va_get (D := (dC, dI)) (ci := 3) (v := .int hd_5) (C := RM) (T := TM) (N := 18) hx hb hts (by decide +kernel) hown hK hP 0 rfl rfl 11 (by decide) (hts (.fieldLink RM 36 "TornTryCounterModel" "holder" "Z") (by decide +kernel)) (fun _ h9 => h9) rfl dM_change_32 ?_
      refine lv_if_ne (tgt := 43) hx hb dM_change_35 (by decide) (fun c_9 => ?_) (fun c_9 => ?_)
      · refine lv_iconst (v := 1) hx hb dM_change_43 (by decide) ?_
        refine lv_goto (tgt := 48) hx hb dM_change_44 (by decide) ?_
        refine va_put (D := (dC, dI)) (ci := 3) (v := .int 1) (ty := .boolean) (C := RM) (T := TM) (N := 18) hx hb hts (by decide +kernel) tyM tyM_ok nmM hown hK hP hD hS 0 rfl rfl 11 (by decide) (hts (.fieldLink RM 36 "TornTryCounterModel" "holder" "Z") (by decide +kernel)) (fun _ h9 => h9) rfl (by decide +kernel) rfl rfl (Nat.le_of_ble_eq_true rfl) dM_change_48 (fun H locs hP hD hS => ?_)
        have hP : va_P (dC, dI) ttCl [(qm, .inr (3, [.int pl, .int ul, .int pk, .int ac_5, .int ag_5, .int pn_5, .int pt_5, .int ut_5, .int en_5, .int og_5, .int pw_5, .int 1, .int tn_5, .int tk_5, .int ar_5, .int dn_5, .int e0_5, .int e1_5]))] H := hP
        have hD : va_D A [(qm, .inr (3, [.int pl, .int ul, .int pk, .int ac_5, .int ag_5, .int pn_5, .int pt_5, .int ut_5, .int en_5, .int og_5, .int pw_5, .int 1, .int tn_5, .int tk_5, .int ar_5, .int dn_5, .int e0_5, .int e1_5]))] := hD
        refine lv_iload_n hx hb dM_change_51 rfl (lv_at hl 0 rfl) ?_
        have hP9 := hP.sub (ws' := [(qm, .inr (3, [.int pl, .int ul, .int pk, .int ac_5, .int ag_5, .int pn_5, .int pt_5, .int ut_5, .int en_5, .int og_5, .int pw_5, .int 1, .int tn_5, .int tk_5, .int ar_5, .int dn_5, .int e0_5, .int e1_5]))]) [0] rfl
        have hD9 := hD.sub (ws' := [(qm, .inr (3, [.int pl, .int ul, .int pk, .int ac_5, .int ag_5, .int pn_5, .int pt_5, .int ut_5, .int en_5, .int og_5, .int pw_5, .int 1, .int tn_5, .int tk_5, .int ar_5, .int dn_5, .int e0_5, .int e1_5]))]) [0] (by decide) rfl
        have hK9 := hK.sub (tys' := []) [] rfl
        exact W.iret (v := (-3)) hx hb hr (fun t ht hW => ⟨⟨(-3), (ac_5, ag_5, pn_5, pt_5, ut_5, en_5, og_5, pw_5, 1, tn_5, tk_5, ar_5, dn_5, e0_5, e1_5), rfl, (by first | (simp only [mm_change, mm_or, e_1, if_pos c_2, e_5, if_pos c_6, if_neg c_9, reduceIte, eq_self, tt_n10]; done) | (simp only [mm_change, mm_or, e_1, c_2, e_5, c_6, c_9, reduceIte, eq_self, tt_n10]; done) | (simp [mm_change, mm_or, e_1, c_2, e_5, c_6, c_9]; done)), by rw [ht]; exact hP9, va_K.moved hW.alike hK9, hD9⟩, hS.F ht⟩) hS.2.2 dM_change_52
      · refine lv_iload_n hx hb dM_change_38 rfl (lv_at hl 0 rfl) ?_
        refine lv_iconst (v := 1) hx hb dM_change_39 (by decide) ?_
        refine lv_icmp_ne (tgt := 47) hx hb dM_change_40 (by decide) (fun c_10 => ?_) (fun c_10 => ?_)
        · refine lv_iconst (v := 0) hx hb dM_change_47 (by decide) ?_
          refine va_put (D := (dC, dI)) (ci := 3) (v := .int 0) (ty := .boolean) (C := RM) (T := TM) (N := 18) hx hb hts (by decide +kernel) tyM tyM_ok nmM hown hK hP hD hS 0 rfl rfl 11 (by decide) (hts (.fieldLink RM 36 "TornTryCounterModel" "holder" "Z") (by decide +kernel)) (fun _ h9 => h9) rfl (by decide +kernel) rfl rfl (Nat.le_of_ble_eq_true rfl) dM_change_48 (fun H locs hP hD hS => ?_)
          have hP : va_P (dC, dI) ttCl [(qm, .inr (3, [.int pl, .int ul, .int pk, .int ac_5, .int ag_5, .int pn_5, .int pt_5, .int ut_5, .int en_5, .int og_5, .int pw_5, .int 0, .int tn_5, .int tk_5, .int ar_5, .int dn_5, .int e0_5, .int e1_5]))] H := hP
          have hD : va_D A [(qm, .inr (3, [.int pl, .int ul, .int pk, .int ac_5, .int ag_5, .int pn_5, .int pt_5, .int ut_5, .int en_5, .int og_5, .int pw_5, .int 0, .int tn_5, .int tk_5, .int ar_5, .int dn_5, .int e0_5, .int e1_5]))] := hD
          refine lv_iload_n hx hb dM_change_51 rfl (lv_at hl 0 rfl) ?_
          have hP9 := hP.sub (ws' := [(qm, .inr (3, [.int pl, .int ul, .int pk, .int ac_5, .int ag_5, .int pn_5, .int pt_5, .int ut_5, .int en_5, .int og_5, .int pw_5, .int 0, .int tn_5, .int tk_5, .int ar_5, .int dn_5, .int e0_5, .int e1_5]))]) [0] rfl
          have hD9 := hD.sub (ws' := [(qm, .inr (3, [.int pl, .int ul, .int pk, .int ac_5, .int ag_5, .int pn_5, .int pt_5, .int ut_5, .int en_5, .int og_5, .int pw_5, .int 0, .int tn_5, .int tk_5, .int ar_5, .int dn_5, .int e0_5, .int e1_5]))]) [0] (by decide) rfl
          have hK9 := hK.sub (tys' := []) [] rfl
          exact W.iret (v := (-3)) hx hb hr (fun t ht hW => ⟨⟨(-3), (ac_5, ag_5, pn_5, pt_5, ut_5, en_5, og_5, pw_5, 0, tn_5, tk_5, ar_5, dn_5, e0_5, e1_5), rfl, (by first | (simp only [mm_change, mm_or, e_1, if_pos c_2, e_5, if_pos c_6, if_pos c_9, reduceIte, eq_self, tt_n10]; done) | (simp only [mm_change, mm_or, e_1, c_2, e_5, c_6, c_9, reduceIte, eq_self, tt_n10]; done) | (simp [mm_change, mm_or, e_1, c_2, e_5, c_6, c_9]; done)), by rw [ht]; exact hP9, va_K.moved hW.alike hK9, hD9⟩, hS.F ht⟩) hS.2.2 dM_change_52
        · exact absurd c_10 (by decide)
set_option maxHeartbeats 4000000 in
set_option maxRecDepth 100000 in
theorem c_M_unblock (l : Launch) (dC : Nat → ClassId) (dI : Nat → Nat → Nat) (qm : Nat) (sz : Nat) (pk pl ul ac ag pn pt ut en og pw hd tn tk ar dn e0 e1 : Int32) (n x : Int32) : Met l yM_unblock wsM_unblock ({ frames := 3, cells := 0, slots := 0, locals := 67 }) (va_Pc [.ref qm, .int n, .int x] (fun U => U.heap.size = sz ∧ va_P (dC, dI) ttCl [(qm, .inr (3, [.int pl, .int ul, .int pk, .int ac, .int ag, .int pn, .int pt, .int ut, .int en, .int og, .int pw, .int hd, .int tn, .int tk, .int ar, .int dn, .int e0, .int e1]))] U.heap ∧ va_K (dC, dI) ttCl [] U ∧ va_D (fun _ => True) [(qm, .inr (3, [.int pl, .int ul, .int pk, .int ac, .int ag, .int pn, .int pt, .int ut, .int en, .int og, .int pw, .int hd, .int tn, .int tk, .int ar, .int dn, .int e0, .int e1]))])) (va_Qi (fun (r : Int32) (u : tt_M) => mm_unblock pk ul (ac, ag, pn, pt, ut, en, og, pw, hd, tn, tk, ar, dn, e0, e1) n x = (r, u)) (fun (u : tt_M) (t : State) => at_M dC dI (va_A [(qm, .inr (3, [.int pl, .int ul, .int pk, .int ac, .int ag, .int pn, .int pt, .int ut, .int en, .int og, .int pw, .int hd, .int tn, .int tk, .int ar, .int dn, .int e0, .int e1]))] sz) qm pk pl ul u t) (va_A [(qm, .inr (3, [.int pl, .int ul, .int pk, .int ac, .int ag, .int pn, .int pt, .int ut, .int en, .int og, .int pw, .int hd, .int tn, .int tk, .int ar, .int dn, .int e0, .int e1]))] sz)) 0 0 (va_A [(qm, .inr (3, [.int pl, .int ul, .int pk, .int ac, .int ag, .int pn, .int pt, .int ut, .int en, .int og, .int pw, .int hd, .int tn, .int tk, .int ar, .int dn, .int e0, .int e1]))] sz) := by
  refine Met.ofW (cc := cM_unblock) (maxL := 3) (ret := (some .int)) (by decide) rfl ?_
  intro p e s m args below meth c s₁ B hml hv
  obtain ⟨rfl, hsz, hP, hK, hD0⟩ := hv
  have hx := B.exec
  have hb := B.bytes
  have hr := B.returns
  have hts := atoms_spec (ws := wsM_unblock) B.pre
  have hown : s.vm.findClass RM = some m.cls := findClass_of_methodNamed B.named
  have hlocks := B.notSynchronized
  subst hsz
  have hD := hD0.self (sz := s.heap.size)
  generalize hAe : va_A [(qm, .inr (3, [.int pl, .int ul, .int pk, .int ac, .int ag, .int pn, .int pt, .int ut, .int en, .int og, .int pw, .int hd, .int tn, .int tk, .int ar, .int dn, .int e0, .int e1]))] s.heap.size = A at hD ⊢
  have hA : ∀ q : Nat, s.heap.size ≤ q → A q := fun q h => by rw [← hAe]; exact Or.inr h
  have hS : va_S A s.heap s.heap [] := va_S.rf
  have hP : va_P (dC, dI) ttCl [(qm, .inr (3, [.int pl, .int ul, .int pk, .int ac, .int ag, .int pn, .int pt, .int ut, .int en, .int og, .int pw, .int hd, .int tn, .int tk, .int ar, .int dn, .int e0, .int e1]))] s.heap := hP
  have hl := lv_entry ([.ref qm, .int n, .int x]) (n := 3) (Nat.le_of_ble_eq_true rfl)
  rw [lg_entry_eq]
  generalize (lg_sl ([.ref qm, .int n, .int x]) ++ List.replicate (3 - (lg_sl ([.ref qm, .int n, .int x])).length) Slot.unset).toArray = ls at hl ⊢
  have hl : lv_has ls 3 [(0, .ref qm), (1, .int n), (2, .int x)] := hl
  refine lv_aload_n hx hb dM_unblock_0 rfl (lv_at hl 0 rfl) ?_
  refine va_get (D := (dC, dI)) (ci := 3) (v := .int pw) (C := RM) (T := TM) (N := 18) hx hb hts (by decide +kernel) hown hK hP 0 rfl rfl 10 (by decide) (hts (.fieldLink RM 13 "TornTryCounterModel" "power" "Z") (by decide +kernel)) (fun _ h9 => h9) rfl dM_unblock_1 ?_
  refine lv_if_ne (tgt := 9) hx hb dM_unblock_4 (by decide) (fun c_1 => ?_) (fun c_1 => ?_)
  · refine lv_aload_n hx hb dM_unblock_9 rfl (lv_at hl 0 rfl) ?_
    refine va_get (D := (dC, dI)) (ci := 3) (v := .int ut) (C := RM) (T := TM) (N := 18) hx hb hts (by decide +kernel) hown hK hP 0 rfl rfl 7 (by decide) (hts (.fieldLink RM 68 "TornTryCounterModel" "pukTries" "I") (by decide +kernel)) (fun _ h9 => h9) rfl dM_unblock_10 ?_
    refine lv_aload_n hx hb dM_unblock_13 rfl (lv_at hl 0 rfl) ?_
    refine va_get (D := (dC, dI)) (ci := 3) (v := .int ul) (C := RM) (T := TM) (N := 18) hx hb hts (by decide +kernel) hown hK hP 0 rfl rfl 1 (by decide) (hts (.fieldLink RM 27 "TornTryCounterModel" "pukLimit" "I") (by decide +kernel)) (fun _ h9 => h9) rfl dM_unblock_14 ?_
    refine lv_icmp_lt (tgt := 23) hx hb dM_unblock_17 (by decide) (fun c_2 => ?_) (fun c_2 => ?_)
    · refine lv_aload_n hx hb dM_unblock_23 rfl (lv_at hl 0 rfl) ?_
      refine lv_iconst (v := 0) hx hb dM_unblock_24 (by decide) ?_
      refine va_put (D := (dC, dI)) (ci := 3) (v := .int 0) (ty := .boolean) (C := RM) (T := TM) (N := 18) hx hb hts (by decide +kernel) tyM tyM_ok nmM hown hK hP hD hS 0 rfl rfl 11 (by decide) (hts (.fieldLink RM 36 "TornTryCounterModel" "holder" "Z") (by decide +kernel)) (fun _ h9 => h9) rfl (by decide +kernel) rfl rfl (Nat.le_of_ble_eq_true rfl) dM_unblock_25 (fun H locs hP hD hS => ?_)
      have hP : va_P (dC, dI) ttCl [(qm, .inr (3, [.int pl, .int ul, .int pk, .int ac, .int ag, .int pn, .int pt, .int ut, .int en, .int og, .int pw, .int 0, .int tn, .int tk, .int ar, .int dn, .int e0, .int e1]))] H := hP
      have hD : va_D A [(qm, .inr (3, [.int pl, .int ul, .int pk, .int ac, .int ag, .int pn, .int pt, .int ut, .int en, .int og, .int pw, .int 0, .int tn, .int tk, .int ar, .int dn, .int e0, .int e1]))] := hD
      refine lv_aload_n hx hb dM_unblock_28 rfl (lv_at hl 0 rfl) ?_
      refine lv_iconst (v := 1) hx hb dM_unblock_29 (by decide) ?_
      have hPc := hP.sub (ws' := [(qm, .inr (3, [.int pl, .int ul, .int pk, .int ac, .int ag, .int pn, .int pt, .int ut, .int en, .int og, .int pw, .int 0, .int tn, .int tk, .int ar, .int dn, .int e0, .int e1]))]) [0] rfl
      have hDc := hD.sub (ws' := [(qm, .inr (3, [.int pl, .int ul, .int pk, .int ac, .int ag, .int pn, .int pt, .int ut, .int en, .int og, .int pw, .int 0, .int tn, .int tk, .int ar, .int dn, .int e0, .int e1]))]) [0] (by decide) rfl
      have hKc := hK.sub (tys' := []) [] rfl
      have hFc := va_free (wc := [(qm, .inr (3, [.int pl, .int ul, .int pk, .int ac, .int ag, .int pn, .int pt, .int ut, .int en, .int og, .int pw, .int 0, .int tn, .int tk, .int ar, .int dn, .int e0, .int e1]))]) hD hS hA [0] rfl
      refine va_calli (va_runV (As := [.int 1]) (rest := []) ⟨hx, hb, hml, hown, hts⟩ (c_M_mark l dC dI qm H.size pk pl ul ac ag pn pt ut en og pw 0 tn tk ar dn e0 e1 1) (cwV 1 hts gM_unblock_M_mark rfl rfl rfl (by decide +kernel) ⟨Nat.le_of_ble_eq_true rfl, Nat.le_of_ble_eq_true rfl⟩) ⟨fun a U g mk q => by obtain ⟨q0, q1, qP, qK, qD⟩ := q; exact ⟨q0, q1, qP, va_K.moved (u := U) (U := U.calling g mk a) (Vm.Alike.refl U.vm) qK, qD⟩, va_recv hKc hPc (ci := 3) (q0 := 0) rfl rfl, fun U hU hW => ⟨rfl, by rw [hU], by rw [hU]; exact hPc, va_K.moved hW.alike hKc, hDc.weaken (fun _ _ _ _ => trivial)⟩⟩ rfl rfl hl.1 rfl (lv_room (Nat.le_of_ble_eq_true rfl)) dM_unblock_30 ⟨(Nat.zero_le _), (Nat.zero_le _)⟩) hS (fun q _ h => hFc q h) hFc (fun r_3 u t H locs ht hvm hw hB hz1 hk1 hS => ?_)
      obtain ⟨ac_3, ag_3, pn_3, pt_3, ut_3, en_3, og_3, pw_3, hd_3, tn_3, tk_3, ar_3, dn_3, e0_3, e1_3⟩ := u
      obtain ⟨hP1, hK1, hD1⟩ := hB
      have e_3 : mm_mark (ac, ag, pn, pt, ut, en, og, pw, 0, tn, tk, ar, dn, e0, e1) 1 = (r_3, (ac_3, ag_3, pn_3, pt_3, ut_3, en_3, og_3, pw_3, hd_3, tn_3, tk_3, ar_3, dn_3, e0_3, e1_3)) := hw
      rw [ht] at hP1
      obtain ⟨hP, hD⟩ := va_join (wr := []) (w1 := [(qm, .inr (3, [.int pl, .int ul, .int pk, .int ac_3, .int ag_3, .int pn_3, .int pt_3, .int ut_3, .int en_3, .int og_3, .int pw_3, .int hd_3, .int tn_3, .int tk_3, .int ar_3, .int dn_3, .int e0_3, .int e1_3]))]) hP hD [0] [] rfl rfl (by decide) (by decide) hk1 hFc hP1 hD1
      have hP : va_P (dC, dI) ttCl [(qm, .inr (3, [.int pl, .int ul, .int pk, .int ac_3, .int ag_3, .int pn_3, .int pt_3, .int ut_3, .int en_3, .int og_3, .int pw_3, .int hd_3, .int tn_3, .int tk_3, .int ar_3, .int dn_3, .int e0_3, .int e1_3]))] H := hP
      have hD : va_D A [(qm, .inr (3, [.int pl, .int ul, .int pk, .int ac_3, .int ag_3, .int pn_3, .int pt_3, .int ut_3, .int en_3, .int og_3, .int pw_3, .int hd_3, .int tn_3, .int tk_3, .int ar_3, .int dn_3, .int e0_3, .int e1_3]))] := hD
      refine lv_if_ne (tgt := 39) hx hb dM_unblock_33 (by decide) (fun c_4 => ?_) (fun c_4 => ?_)
      · refine lv_iload_n hx hb dM_unblock_39 rfl (lv_at hl 1 rfl) ?_
        refine lv_aload_n hx hb dM_unblock_40 rfl (lv_at hl 0 rfl) ?_
        refine va_get (D := (dC, dI)) (ci := 3) (v := .int pk) (C := RM) (T := TM) (N := 18) hx hb hts (by decide +kernel) hown hK hP 0 rfl rfl 2 (by decide) (hts (.fieldLink RM 21 "TornTryCounterModel" "pukNumber" "I") (by decide +kernel)) (fun _ h9 => h9) rfl dM_unblock_41 ?_
        refine lv_icmp_eq (tgt := 49) hx hb dM_unblock_44 (by decide) (fun c_5 => ?_) (fun c_5 => ?_)
        · refine lv_aload_n hx hb dM_unblock_49 rfl (lv_at hl 0 rfl) ?_
          refine lv_iload_n hx hb dM_unblock_50 rfl (lv_at hl 2 rfl) ?_
          refine lv_ldc (v := 65535) hx hb hown (hts (.constant RM 17 65535) (by decide +kernel)) dM_unblock_51 ?_
          refine lv_iand hx hb dM_unblock_53 ?_
          refine lv_iconst (v := 0) hx hb dM_unblock_54 (by decide) ?_
          refine lv_iconst (v := 0) hx hb dM_unblock_55 (by decide) ?_
          have hPc := hP.sub (ws' := [(qm, .inr (3, [.int pl, .int ul, .int pk, .int ac_3, .int ag_3, .int pn_3, .int pt_3, .int ut_3, .int en_3, .int og_3, .int pw_3, .int hd_3, .int tn_3, .int tk_3, .int ar_3, .int dn_3, .int e0_3, .int e1_3]))]) [0] rfl
          have hDc := hD.sub (ws' := [(qm, .inr (3, [.int pl, .int ul, .int pk, .int ac_3, .int ag_3, .int pn_3, .int pt_3, .int ut_3, .int en_3, .int og_3, .int pw_3, .int hd_3, .int tn_3, .int tk_3, .int ar_3, .int dn_3, .int e0_3, .int e1_3]))]) [0] (by decide) rfl
          have hKc := hK.sub (tys' := []) [] rfl
          have hFc := va_free (wc := [(qm, .inr (3, [.int pl, .int ul, .int pk, .int ac_3, .int ag_3, .int pn_3, .int pt_3, .int ut_3, .int en_3, .int og_3, .int pw_3, .int hd_3, .int tn_3, .int tk_3, .int ar_3, .int dn_3, .int e0_3, .int e1_3]))]) hD hS hA [0] rfl
          refine va_calli (va_runV (As := [.int (x &&& 65535), .int 0, .int 0]) (rest := []) ⟨hx, hb, hml, hown, hts⟩ (c_M_turn l dC dI qm H.size pk pl ul ac_3 ag_3 pn_3 pt_3 ut_3 en_3 og_3 pw_3 hd_3 tn_3 tk_3 ar_3 dn_3 e0_3 e1_3 (x &&& 65535) 0 0) (cwV 3 hts gM_unblock_M_turn rfl rfl rfl (by decide +kernel) ⟨Nat.le_of_ble_eq_true rfl, Nat.le_of_ble_eq_true rfl⟩) ⟨fun a U g mk q => by obtain ⟨q0, q1, qP, qK, qD⟩ := q; exact ⟨q0, q1, qP, va_K.moved (u := U) (U := U.calling g mk a) (Vm.Alike.refl U.vm) qK, qD⟩, va_recv hKc hPc (ci := 3) (q0 := 0) rfl rfl, fun U hU hW => ⟨rfl, by rw [hU], by rw [hU]; exact hPc, va_K.moved hW.alike hKc, hDc.weaken (fun _ _ _ _ => trivial)⟩⟩ rfl rfl hl.1 rfl (lv_room (Nat.le_of_ble_eq_true rfl)) dM_unblock_56 ⟨(Nat.zero_le _), (Nat.zero_le _)⟩) hS (fun q _ h => hFc q h) hFc (fun r_6 u t H locs ht hvm hw hB hz1 hk1 hS => ?_)
          obtain ⟨ac_6, ag_6, pn_6, pt_6, ut_6, en_6, og_6, pw_6, hd_6, tn_6, tk_6, ar_6, dn_6, e0_6, e1_6⟩ := u
          obtain ⟨hP1, hK1, hD1⟩ := hB
          have e_6 : mm_turn (ac_3, ag_3, pn_3, pt_3, ut_3, en_3, og_3, pw_3, hd_3, tn_3, tk_3, ar_3, dn_3, e0_3, e1_3) (x &&& 65535) 0 0 = (r_6, (ac_6, ag_6, pn_6, pt_6, ut_6, en_6, og_6, pw_6, hd_6, tn_6, tk_6, ar_6, dn_6, e0_6, e1_6)) := hw
          rw [ht] at hP1
          obtain ⟨hP, hD⟩ := va_join (wr := []) (w1 := [(qm, .inr (3, [.int pl, .int ul, .int pk, .int ac_6, .int ag_6, .int pn_6, .int pt_6, .int ut_6, .int en_6, .int og_6, .int pw_6, .int hd_6, .int tn_6, .int tk_6, .int ar_6, .int dn_6, .int e0_6, .int e1_6]))]) hP hD [0] [] rfl rfl (by decide) (by decide) hk1 hFc hP1 hD1
          have hP : va_P (dC, dI) ttCl [(qm, .inr (3, [.int pl, .int ul, .int pk, .int ac_6, .int ag_6, .int pn_6, .int pt_6, .int ut_6, .int en_6, .int og_6, .int pw_6, .int hd_6, .int tn_6, .int tk_6, .int ar_6, .int dn_6, .int e0_6, .int e1_6]))] H := hP
          have hD : va_D A [(qm, .inr (3, [.int pl, .int ul, .int pk, .int ac_6, .int ag_6, .int pn_6, .int pt_6, .int ut_6, .int en_6, .int og_6, .int pw_6, .int hd_6, .int tn_6, .int tk_6, .int ar_6, .int dn_6, .int e0_6, .int e1_6]))] := hD
          refine lv_if_eq (tgt := 66) hx hb dM_unblock_59 (by decide) (fun c_7 => ?_) (fun c_7 => ?_)
          · refine lv_bipush (v := (-3)) hx hb dM_unblock_66 (by decide) ?_
            have hP9 := hP.sub (ws' := [(qm, .inr (3, [.int pl, .int ul, .int pk, .int ac_6, .int ag_6, .int pn_6, .int pt_6, .int ut_6, .int en_6, .int og_6, .int pw_6, .int hd_6, .int tn_6, .int tk_6, .int ar_6, .int dn_6, .int e0_6, .int e1_6]))]) [0] rfl
            have hD9 := hD.sub (ws' := [(qm, .inr (3, [.int pl, .int ul, .int pk, .int ac_6, .int ag_6, .int pn_6, .int pt_6, .int ut_6, .int en_6, .int og_6, .int pw_6, .int hd_6, .int tn_6, .int tk_6, .int ar_6, .int dn_6, .int e0_6, .int e1_6]))]) [0] (by decide) rfl
            have hK9 := hK.sub (tys' := []) [] rfl
            exact W.iret (v := (-3)) hx hb hr (fun t ht hW => ⟨⟨(-3), (ac_6, ag_6, pn_6, pt_6, ut_6, en_6, og_6, pw_6, hd_6, tn_6, tk_6, ar_6, dn_6, e0_6, e1_6), rfl, (by first | (simp only [mm_unblock, if_neg c_1, if_pos c_2, e_3, if_neg c_4, if_pos c_5, e_6, if_pos c_7, reduceIte, eq_self, tt_n10]; done) | (simp only [mm_unblock, c_1, c_2, e_3, c_4, c_5, e_6, c_7, reduceIte, eq_self, tt_n10]; done) | (simp [mm_unblock, c_1, c_2, e_3, c_4, c_5, e_6, c_7]; done)), by rw [ht]; exact hP9, va_K.moved hW.alike hK9, hD9⟩, hS.F ht⟩) hS.2.2 dM_unblock_68
          · refine lv_iconst (v := 1) hx hb dM_unblock_62 (by decide) ?_
            refine lv_goto (tgt := 68) hx hb dM_unblock_63 (by decide) ?_
            have hP9 := hP.sub (ws' := [(qm, .inr (3, [.int pl, .int ul, .int pk, .int ac_6, .int ag_6, .int pn_6, .int pt_6, .int ut_6, .int en_6, .int og_6, .int pw_6, .int hd_6, .int tn_6, .int tk_6, .int ar_6, .int dn_6, .int e0_6, .int e1_6]))]) [0] rfl
            have hD9 := hD.sub (ws' := [(qm, .inr (3, [.int pl, .int ul, .int pk, .int ac_6, .int ag_6, .int pn_6, .int pt_6, .int ut_6, .int en_6, .int og_6, .int pw_6, .int hd_6, .int tn_6, .int tk_6, .int ar_6, .int dn_6, .int e0_6, .int e1_6]))]) [0] (by decide) rfl
            have hK9 := hK.sub (tys' := []) [] rfl
            exact W.iret (v := 1) hx hb hr (fun t ht hW => ⟨⟨1, (ac_6, ag_6, pn_6, pt_6, ut_6, en_6, og_6, pw_6, hd_6, tn_6, tk_6, ar_6, dn_6, e0_6, e1_6), rfl, (by first | (simp only [mm_unblock, if_neg c_1, if_pos c_2, e_3, if_neg c_4, if_pos c_5, e_6, if_neg c_7, reduceIte, eq_self, tt_n10]; done) | (simp only [mm_unblock, c_1, c_2, e_3, c_4, c_5, e_6, c_7, reduceIte, eq_self, tt_n10]; done) | (simp [mm_unblock, c_1, c_2, e_3, c_4, c_5, e_6, c_7]; done)), by rw [ht]; exact hP9, va_K.moved hW.alike hK9, hD9⟩, hS.F ht⟩) hS.2.2 dM_unblock_68
        · refine lv_iconst (v := 0) hx hb dM_unblock_47 (by decide) ?_
          have hP9 := hP.sub (ws' := [(qm, .inr (3, [.int pl, .int ul, .int pk, .int ac_3, .int ag_3, .int pn_3, .int pt_3, .int ut_3, .int en_3, .int og_3, .int pw_3, .int hd_3, .int tn_3, .int tk_3, .int ar_3, .int dn_3, .int e0_3, .int e1_3]))]) [0] rfl
          have hD9 := hD.sub (ws' := [(qm, .inr (3, [.int pl, .int ul, .int pk, .int ac_3, .int ag_3, .int pn_3, .int pt_3, .int ut_3, .int en_3, .int og_3, .int pw_3, .int hd_3, .int tn_3, .int tk_3, .int ar_3, .int dn_3, .int e0_3, .int e1_3]))]) [0] (by decide) rfl
          have hK9 := hK.sub (tys' := []) [] rfl
          exact W.iret (v := 0) hx hb hr (fun t ht hW => ⟨⟨0, (ac_3, ag_3, pn_3, pt_3, ut_3, en_3, og_3, pw_3, hd_3, tn_3, tk_3, ar_3, dn_3, e0_3, e1_3), rfl, (by first | (simp only [mm_unblock, if_neg c_1, if_pos c_2, e_3, if_neg c_4, if_neg c_5, reduceIte, eq_self, tt_n10]; done) | (simp only [mm_unblock, c_1, c_2, e_3, c_4, c_5, reduceIte, eq_self, tt_n10]; done) | (simp [mm_unblock, c_1, c_2, e_3, c_4, c_5]; done)), by rw [ht]; exact hP9, va_K.moved hW.alike hK9, hD9⟩, hS.F ht⟩) hS.2.2 dM_unblock_48
      · refine lv_bipush (v := (-3)) hx hb dM_unblock_36 (by decide) ?_
        have hP9 := hP.sub (ws' := [(qm, .inr (3, [.int pl, .int ul, .int pk, .int ac_3, .int ag_3, .int pn_3, .int pt_3, .int ut_3, .int en_3, .int og_3, .int pw_3, .int hd_3, .int tn_3, .int tk_3, .int ar_3, .int dn_3, .int e0_3, .int e1_3]))]) [0] rfl
        have hD9 := hD.sub (ws' := [(qm, .inr (3, [.int pl, .int ul, .int pk, .int ac_3, .int ag_3, .int pn_3, .int pt_3, .int ut_3, .int en_3, .int og_3, .int pw_3, .int hd_3, .int tn_3, .int tk_3, .int ar_3, .int dn_3, .int e0_3, .int e1_3]))]) [0] (by decide) rfl
        have hK9 := hK.sub (tys' := []) [] rfl
        exact W.iret (v := (-3)) hx hb hr (fun t ht hW => ⟨⟨(-3), (ac_3, ag_3, pn_3, pt_3, ut_3, en_3, og_3, pw_3, hd_3, tn_3, tk_3, ar_3, dn_3, e0_3, e1_3), rfl, (by first | (simp only [mm_unblock, if_neg c_1, if_pos c_2, e_3, if_pos c_4, reduceIte, eq_self, tt_n10]; done) | (simp only [mm_unblock, c_1, c_2, e_3, c_4, reduceIte, eq_self, tt_n10]; done) | (simp [mm_unblock, c_1, c_2, e_3, c_4]; done)), by rw [ht]; exact hP9, va_K.moved hW.alike hK9, hD9⟩, hS.F ht⟩) hS.2.2 dM_unblock_38
    · refine lv_bipush (v := (-2)) hx hb dM_unblock_20 (by decide) ?_
      have hP9 := hP.sub (ws' := [(qm, .inr (3, [.int pl, .int ul, .int pk, .int ac, .int ag, .int pn, .int pt, .int ut, .int en, .int og, .int pw, .int hd, .int tn, .int tk, .int ar, .int dn, .int e0, .int e1]))]) [0] rfl
      have hD9 := hD.sub (ws' := [(qm, .inr (3, [.int pl, .int ul, .int pk, .int ac, .int ag, .int pn, .int pt, .int ut, .int en, .int og, .int pw, .int hd, .int tn, .int tk, .int ar, .int dn, .int e0, .int e1]))]) [0] (by decide) rfl
      have hK9 := hK.sub (tys' := []) [] rfl
      exact W.iret (v := (-2)) hx hb hr (fun t ht hW => ⟨⟨(-2), (ac, ag, pn, pt, ut, en, og, pw, hd, tn, tk, ar, dn, e0, e1), rfl, (by first | (simp only [mm_unblock, if_neg c_1, if_neg c_2, reduceIte, eq_self, tt_n10]; done) | (simp only [mm_unblock, c_1, c_2, reduceIte, eq_self, tt_n10]; done) | (simp [mm_unblock, c_1, c_2]; done)), by rw [ht]; exact hP9, va_K.moved hW.alike hK9, hD9⟩, hS.F ht⟩) hS.2.2 dM_unblock_22
  · refine lv_iconst (v := (-1)) hx hb dM_unblock_7 (by decide) ?_
    have hP9 := hP.sub (ws' := [(qm, .inr (3, [.int pl, .int ul, .int pk, .int ac, .int ag, .int pn, .int pt, .int ut, .int en, .int og, .int pw, .int hd, .int tn, .int tk, .int ar, .int dn, .int e0, .int e1]))]) [0] rfl
    have hD9 := hD.sub (ws' := [(qm, .inr (3, [.int pl, .int ul, .int pk, .int ac, .int ag, .int pn, .int pt, .int ut, .int en, .int og, .int pw, .int hd, .int tn, .int tk, .int ar, .int dn, .int e0, .int e1]))]) [0] (by decide) rfl
    have hK9 := hK.sub (tys' := []) [] rfl
    exact W.iret (v := (-1)) hx hb hr (fun t ht hW => ⟨⟨(-1), (ac, ag, pn, pt, ut, en, og, pw, hd, tn, tk, ar, dn, e0, e1), rfl, (by first | (simp only [mm_unblock, if_pos c_1, reduceIte, eq_self, tt_n10]; done) | (simp only [mm_unblock, c_1, reduceIte, eq_self, tt_n10]; done) | (simp [mm_unblock, c_1]; done)), by rw [ht]; exact hP9, va_K.moved hW.alike hK9, hD9⟩, hS.F ht⟩) hS.2.2 dM_unblock_8
