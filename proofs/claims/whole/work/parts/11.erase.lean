set_option maxHeartbeats 4000000 in
set_option maxRecDepth 100000 in
theorem c_F_erase (l : Launch) (dC : Nat → ClassId) (dI : Nat → Nat → Nat) (cA cE : ClassId) (qf qb qe : Nat) (sz : Nat) (b g : Nat → Int32) (od ot tm : Int32) (pg : Int32) : Met l yX0_erase wsX0_erase ({ frames := 1, cells := 0, slots := 0, locals := 20 }) (va_Pc [.ref qf, .int pg] (fun U => U.heap.size = sz ∧ va_P (dC, dI) ttCl [(qf, .inr (0, [.ref qb, .ref qe, .int od, .int ot, .int tm])), (qb, .inl (cA, 32, .inl b)), (qe, .inl (cE, 2, .inl g))] U.heap ∧ va_K (dC, dI) ttCl [(cA, .int), (cE, .int)] U ∧ va_D (fun _ => True) [(qf, .inr (0, [.ref qb, .ref qe, .int od, .int ot, .int tm])), (qb, .inl (cA, 32, .inl b)), (qe, .inl (cE, 2, .inl g))])) (va_Qi (fun (r : Int32) (u : tt_F) => tt_erase (b, g, od, ot, tm) pg = (r, u)) (fun (u : tt_F) (t : State) => at_F dC dI cA cE (va_A [(qf, .inr (0, [.ref qb, .ref qe, .int od, .int ot, .int tm])), (qb, .inl (cA, 32, .inl b)), (qe, .inl (cE, 2, .inl g))] sz) qf qb qe u t) (va_A [(qf, .inr (0, [.ref qb, .ref qe, .int od, .int ot, .int tm])), (qb, .inl (cA, 32, .inl b)), (qe, .inl (cE, 2, .inl g))] sz)) 0 0 (va_A [(qf, .inr (0, [.ref qb, .ref qe, .int od, .int ot, .int tm])), (qb, .inl (cA, 32, .inl b)), (qe, .inl (cE, 2, .inl g))] sz) := by
  refine Met.ofW (cc := cX0_erase) (maxL := 5) (ret := (some .boolean)) (by decide) rfl ?_
  intro p e s m args below meth c s₁ B hml hv
  obtain ⟨rfl, hsz, hP, hK, hD0⟩ := hv
  have hx := B.exec
  have hb := B.bytes
  have hr := B.returns
  have hts := atoms_spec (ws := wsX0_erase) B.pre
  have hown : s.vm.findClass RX0 = some m.cls := findClass_of_methodNamed B.named
  have hlocks := B.notSynchronized
  subst hsz
  have hD := hD0.self (sz := s.heap.size)
  generalize hAe : va_A [(qf, .inr (0, [.ref qb, .ref qe, .int od, .int ot, .int tm])), (qb, .inl (cA, 32, .inl b)), (qe, .inl (cE, 2, .inl g))] s.heap.size = A at hD ⊢
  have hA : ∀ q : Nat, s.heap.size ≤ q → A q := fun q h => by rw [← hAe]; exact Or.inr h
  have hS : va_S A s.heap s.heap [] := va_S.rf
  have hP : va_P (dC, dI) ttCl [(qf, .inr (0, [.ref qb, .ref qe, .int od, .int ot, .int tm])), (qb, .inl (cA, 32, .inl b)), (qe, .inl (cE, 2, .inl g))] s.heap := hP
  have hl := lv_entry ([.ref qf, .int pg]) (n := 5) (Nat.le_of_ble_eq_true rfl)
  rw [lg_entry_eq]
  generalize (lg_sl ([.ref qf, .int pg]) ++ List.replicate (5 - (lg_sl ([.ref qf, .int pg])).length) Slot.unset).toArray = ls at hl ⊢
  have hl : lv_has ls 5 [(0, .ref qf), (1, .int pg)] := hl
  refine lv_aload_n hx hb dX0_erase_0 rfl (lv_at hl 0 rfl) ?_
  have hPc := hP.sub (ws' := [(qf, .inr (0, [.ref qb, .ref qe, .int od, .int ot, .int tm])), (qb, .inl (cA, 32, .inl b)), (qe, .inl (cE, 2, .inl g))]) [0, 1, 2] rfl
  have hDc := hD.sub (ws' := [(qf, .inr (0, [.ref qb, .ref qe, .int od, .int ot, .int tm])), (qb, .inl (cA, 32, .inl b)), (qe, .inl (cE, 2, .inl g))]) [0, 1, 2] (by decide) rfl
  have hKc := hK.sub (tys' := [(cA, .int), (cE, .int)]) [0, 1] rfl
  have hFc := va_free (wc := [(qf, .inr (0, [.ref qb, .ref qe, .int od, .int ot, .int tm])), (qb, .inl (cA, 32, .inl b)), (qe, .inl (cE, 2, .inl g))]) hD hS hA [0, 1, 2] rfl
  refine va_calli (va_runV (As := []) (rest := []) ⟨hx, hb, hml, hown, hts⟩ (c_F_countOperation l dC dI cA cE qf qb qe s.heap.size b g od ot tm) (cwV 0 hts gX0_erase_X0_countOperation rfl rfl rfl (by decide +kernel) ⟨Nat.le_of_ble_eq_true rfl, Nat.le_of_ble_eq_true rfl⟩) ⟨fun a U g mk q => by obtain ⟨q0, q1, qP, qK, qD⟩ := q; exact ⟨q0, q1, qP, va_K.moved (u := U) (U := U.calling g mk a) (Vm.Alike.refl U.vm) qK, qD⟩, va_recv hKc hPc (ci := 0) (q0 := 0) rfl rfl, fun U hU hW => ⟨rfl, by rw [hU], by rw [hU]; exact hPc, va_K.moved hW.alike hKc, hDc.weaken (fun _ _ _ _ => trivial)⟩⟩ rfl rfl hl.1 rfl (lv_room (Nat.le_of_ble_eq_true rfl)) dX0_erase_1 ⟨(Nat.zero_le _), (Nat.zero_le _)⟩) hS (fun q _ h => hFc q h) hFc (fun r_1 u t H locs ht hvm hw hB hz1 hk1 hS => ?_)
  obtain ⟨b_1, g_1, od_1, ot_1, tm_1⟩ := u
  obtain ⟨hP1, hK1, hD1⟩ := hB
  have e_1 : tt_cnt (b, g, od, ot, tm) = (r_1, (b_1, g_1, od_1, ot_1, tm_1)) := hw
  rw [ht] at hP1
  obtain ⟨hP, hD⟩ := va_join (wr := []) (w1 := [(qf, .inr (0, [.ref qb, .ref qe, .int od_1, .int ot_1, .int tm_1])), (qb, .inl (cA, 32, .inl b_1)), (qe, .inl (cE, 2, .inl g_1))]) hP hD [0, 1, 2] [] rfl rfl (by decide) (by decide) hk1 hFc hP1 hD1
  have hP : va_P (dC, dI) ttCl [(qf, .inr (0, [.ref qb, .ref qe, .int od_1, .int ot_1, .int tm_1])), (qb, .inl (cA, 32, .inl b_1)), (qe, .inl (cE, 2, .inl g_1))] H := hP
  have hD : va_D A [(qf, .inr (0, [.ref qb, .ref qe, .int od_1, .int ot_1, .int tm_1])), (qb, .inl (cA, 32, .inl b_1)), (qe, .inl (cE, 2, .inl g_1))] := hD
  refine lv_istore_n (lv' := [(2, .int r_1), (0, .ref qf), (1, .int pg)]) hx hb dX0_erase_4 rfl hl (by decide) rfl (fun ls hl => ?_)
  refine lv_iload_n hx hb dX0_erase_5 rfl (lv_at hl 0 rfl) ?_
  refine lv_if_eq (tgt := 16) hx hb dX0_erase_6 (by decide) (fun c_2 => ?_) (fun c_2 => ?_)
  · refine lv_sipush (v := 255) hx hb dX0_erase_16 (by decide) ?_
    refine lv_istore_n (lv' := [(3, .int 255), (2, .int r_1), (0, .ref qf), (1, .int pg)]) hx hb dX0_erase_19 rfl hl (by decide) rfl (fun ls hl => ?_)
    refine lv_iload_n hx hb dX0_erase_20 rfl (lv_at hl 3 rfl) ?_
    have hPc := hP.sub (ws' := []) [] rfl
    have hDc := hD.sub (ws' := []) [] (by decide) rfl
    have hKc := hK.sub (tys' := []) [] rfl
    have hFc := va_free (wc := []) hD hS hA [] rfl
    refine va_calli (va_runS (As := [.int pg]) (rest := []) ⟨hx, hb, hml, hown, hts⟩ (c_F_isPage l dC dI H.size pg) (va_cwS 1 hts gX0_erase_X0_isPage rfl rfl rfl (by decide +kernel) ⟨Nat.le_of_ble_eq_true rfl, Nat.le_of_ble_eq_true rfl⟩) ⟨fun a U g mk q => by obtain ⟨q0, q1, qP, qK, qD⟩ := q; exact ⟨q0, q1, qP, va_K.moved (u := U) (U := U.calling g mk a) (Vm.Alike.refl U.vm) qK, qD⟩, fun U hU hW => ⟨rfl, by rw [hU], by rw [hU]; exact hPc, va_K.moved hW.alike hKc, hDc.weaken (fun _ _ _ _ => trivial)⟩⟩ rfl rfl hl.1 rfl (lv_room (Nat.le_of_ble_eq_true rfl)) dX0_erase_21 ⟨(Nat.zero_le _), (Nat.zero_le _)⟩) hS (fun q _ h => hFc q h) hFc (fun r_3 u t H locs ht hvm hw hB hz1 hk1 hS => ?_)
    have hw : tt_ip pg = r_3 := hw.symm
    subst hw
    obtain ⟨hP1, hK1, hD1⟩ := hB
    rw [ht] at hP1
    obtain ⟨hP, hD⟩ := va_join (wr := [(qf, .inr (0, [.ref qb, .ref qe, .int od_1, .int ot_1, .int tm_1])), (qb, .inl (cA, 32, .inl b_1)), (qe, .inl (cE, 2, .inl g_1))]) (w1 := []) hP hD [] [0, 1, 2] rfl rfl (by decide) (by decide) hk1 hFc hP1 hD1
    have hP : va_P (dC, dI) ttCl [(qf, .inr (0, [.ref qb, .ref qe, .int od_1, .int ot_1, .int tm_1])), (qb, .inl (cA, 32, .inl b_1)), (qe, .inl (cE, 2, .inl g_1))] H := hP
    have hD : va_D A [(qf, .inr (0, [.ref qb, .ref qe, .int od_1, .int ot_1, .int tm_1])), (qb, .inl (cA, 32, .inl b_1)), (qe, .inl (cE, 2, .inl g_1))] := hD
    refine lv_if_eq (tgt := 81) hx hb dX0_erase_24 (by decide) (fun c_4 => ?_) (fun c_4 => ?_)
    · refine lv_iload_n hx hb dX0_erase_81 rfl (lv_at hl 1 rfl) ?_
      refine lv_if_ne (tgt := 89) hx hb dX0_erase_82 (by decide) (fun c_5 => ?_) (fun c_5 => ?_)
      · exact absurd c_2 c_5
      · refine lv_iconst (v := 1) hx hb dX0_erase_85 (by decide) ?_
        refine lv_goto (tgt := 90) hx hb dX0_erase_86 (by decide) ?_
        have hP9 := hP.sub (ws' := [(qf, .inr (0, [.ref qb, .ref qe, .int od_1, .int ot_1, .int tm_1])), (qb, .inl (cA, 32, .inl b_1)), (qe, .inl (cE, 2, .inl g_1))]) [0, 1, 2] rfl
        have hD9 := hD.sub (ws' := [(qf, .inr (0, [.ref qb, .ref qe, .int od_1, .int ot_1, .int tm_1])), (qb, .inl (cA, 32, .inl b_1)), (qe, .inl (cE, 2, .inl g_1))]) [0, 1, 2] (by decide) rfl
        have hK9 := hK.sub (tys' := [(cA, .int), (cE, .int)]) [0, 1] rfl
        exact W.zret (v := 1) hx hb hr (by first | rfl | decide) (fun t ht hW => ⟨⟨1, (b_1, g_1, od_1, ot_1, tm_1), rfl, (by first | (simp only [tt_erase, e_1, c_2, c_4, reduceIte, eq_self]; done) | (simp [tt_erase, e_1, c_2, c_4]; done)), by rw [ht]; exact hP9, va_K.moved hW.alike hK9, hD9⟩, hS.F ht⟩) hS.2.2 dX0_erase_90
    · refine lv_aload_n hx hb dX0_erase_27 rfl (lv_at hl 2 rfl) ?_
      refine va_get (D := (dC, dI)) (ci := 0) (v := .ref qe) (C := RX0) (T := TX0) (N := 5) hx hb hts (by decide +kernel) hown hK hP 0 rfl rfl 1 (by decide) (hts (.fieldLink RX0 13 "TornTryCounter$Flash" "erases" "[I") (by decide +kernel)) (fun _ h9 => h9) rfl dX0_erase_28 ?_
      refine lv_iload_n hx hb dX0_erase_31 rfl (lv_at hl 3 rfl) ?_
      refine lv_dup2_11 hx hb dX0_erase_32 rfl rfl ?_
      refine va_iald hx hb hK hP 2 1 rfl rfl (tt_inP c_4) dX0_erase_33 ?_
      refine lv_iconst (v := 1) hx hb dX0_erase_34 (by decide) ?_
      refine lv_iadd hx hb dX0_erase_35 ?_
      refine va_iast hx hb hK hP hD hS 2 1 rfl rfl (tt_inP c_4) dX0_erase_36 (fun H locs hP hD hS => ?_)
      have hP : va_P (dC, dI) ttCl [(qf, .inr (0, [.ref qb, .ref qe, .int od_1, .int ot_1, .int tm_1])), (qb, .inl (cA, 32, .inl b_1)), (qe, .inl (cE, 2, .inl (upd g_1 pg.toNatClampNeg ((g_1 pg.toNatClampNeg) + 1))))] H := hP
      have hD : va_D A [(qf, .inr (0, [.ref qb, .ref qe, .int od_1, .int ot_1, .int tm_1])), (qb, .inl (cA, 32, .inl b_1)), (qe, .inl (cE, 2, .inl (upd g_1 pg.toNatClampNeg ((g_1 pg.toNatClampNeg) + 1))))] := hD
      refine lv_iconst (v := 0) hx hb dX0_erase_37 (by decide) ?_
      refine lv_istore (lv' := [(4, .int 0), (3, .int 255), (2, .int r_1), (0, .ref qf), (1, .int pg)]) hx hb dX0_erase_38 hl (by decide) rfl (fun ls hl => ?_)
      refine W.widen (k := 0) (n := 0) (by omega) (by omega) ?_
      refine tt_rec (pc := 40) (I := fun n H locs ls => ∃ i : Nat, i + n = 16 ∧ va_P (dC, dI) ttCl [(qf, .inr (0, [.ref qb, .ref qe, .int od_1, .int ot_1, .int tm_1])), (qb, .inl (cA, 32, .inl (tt_er b_1 pg 255 i))), (qe, .inl (cE, 2, .inl (upd g_1 pg.toNatClampNeg ((g_1 pg.toNatClampNeg) + 1))))] H ∧ va_D A [(qf, .inr (0, [.ref qb, .ref qe, .int od_1, .int ot_1, .int tm_1])), (qb, .inl (cA, 32, .inl (tt_er b_1 pg 255 i))), (qe, .inl (cE, 2, .inl (upd g_1 pg.toNatClampNeg ((g_1 pg.toNatClampNeg) + 1))))] ∧ va_S A s.heap H locs ∧ lv_has ls 5 [(0, .ref qf), (1, .int pg), (2, .int r_1), (3, .int 255), (4, .int (nI i))]) ?_ 16 ⟨0, rfl, hP, hD, hS, lv_sub hl [3, 4, 2, 1, 0] rfl⟩
      intro n H locs ls ih hI
      obtain ⟨i, hi, hP, hD, hS, hl⟩ := hI
      refine lv_iload hx hb dX0_erase_40 (lv_at hl 4 rfl) ?_
      refine lv_bipush (v := 16) hx hb dX0_erase_42 (by decide) ?_
      refine lv_icmp_ge (tgt := 81) hx hb dX0_erase_44 (by decide) (fun c_6 => ?_) (fun c_6 => ?_)
      · have hie : i = 16 := (tt_c16 i (by omega)).1 c_6
        refine lv_iload_n hx hb dX0_erase_81 rfl (lv_at hl 2 rfl) ?_
        refine lv_if_ne (tgt := 89) hx hb dX0_erase_82 (by decide) (fun c_7 => ?_) (fun c_7 => ?_)
        · exact absurd c_2 c_7
        · refine lv_iconst (v := 1) hx hb dX0_erase_85 (by decide) ?_
          refine lv_goto (tgt := 90) hx hb dX0_erase_86 (by decide) ?_
          have hP9 := hP.sub (ws' := [(qf, .inr (0, [.ref qb, .ref qe, .int od_1, .int ot_1, .int tm_1])), (qb, .inl (cA, 32, .inl (tt_er b_1 pg 255 i))), (qe, .inl (cE, 2, .inl (upd g_1 pg.toNatClampNeg ((g_1 pg.toNatClampNeg) + 1))))]) [0, 1, 2] rfl
          have hD9 := hD.sub (ws' := [(qf, .inr (0, [.ref qb, .ref qe, .int od_1, .int ot_1, .int tm_1])), (qb, .inl (cA, 32, .inl (tt_er b_1 pg 255 i))), (qe, .inl (cE, 2, .inl (upd g_1 pg.toNatClampNeg ((g_1 pg.toNatClampNeg) + 1))))]) [0, 1, 2] (by decide) rfl
          have hK9 := hK.sub (tys' := [(cA, .int), (cE, .int)]) [0, 1] rfl
          exact W.zret (v := 1) hx hb hr (by first | rfl | decide) (fun t ht hW => ⟨⟨1, (tt_er b_1 pg 255 i, upd g_1 pg.toNatClampNeg ((g_1 pg.toNatClampNeg) + 1), od_1, ot_1, tm_1), rfl, (by first | (simp only [tt_erase, e_1, c_2, c_4, c_6, hie, reduceIte, eq_self]; done) | (simp [tt_erase, e_1, c_2, c_4, c_6, hie]; done)), by rw [ht]; exact hP9, va_K.moved hW.alike hK9, hD9⟩, hS.F ht⟩) hS.2.2 dX0_erase_90
      · have hlt : i < 16 := (tt_c16 i (by omega)).2 c_6
        refine lv_iload_n hx hb dX0_erase_47 rfl (lv_at hl 3 rfl) ?_
        refine lv_iload hx hb dX0_erase_48 (lv_at hl 4 rfl) ?_
        refine lv_bipush (v := 7) hx hb dX0_erase_50 (by decide) ?_
        refine lv_iand hx hb dX0_erase_52 ?_
        refine lv_ishr hx hb dX0_erase_53 ?_
        refine lv_iconst (v := 1) hx hb dX0_erase_54 (by decide) ?_
        refine lv_iand hx hb dX0_erase_55 ?_
        refine lv_iconst (v := 1) hx hb dX0_erase_56 (by decide) ?_
        refine lv_icmp_ne (tgt := 75) hx hb dX0_erase_57 (by decide) (fun c_8 => ?_) (fun c_8 => ?_)
        · refine lv_iinc (v := (nI i) + 1) (lv' := [(4, .int ((nI i) + 1)), (0, .ref qf), (1, .int pg), (2, .int r_1), (3, .int 255)]) hx hb dX0_erase_75 hl (k := 4) rfl rfl (by decide) rfl (fun ls hl => ?_)
          refine lv_goto (tgt := 40) hx hb dX0_erase_78 (by decide) ?_
          refine ih (n - 1) (by omega) _ _ _ ⟨i + 1, by omega, ?_, ?_, hS, ?_⟩
          · rw [show tt_er b_1 pg 255 (i + 1) = tt_er b_1 pg 255 i from (by simp only [tt_er, tt_er1, c_2, c_4, c_6, c_8, reduceIte])]; exact hP.sub [0, 1, 2] rfl
          · rw [show tt_er b_1 pg 255 (i + 1) = tt_er b_1 pg 255 i from (by simp only [tt_er, tt_er1, c_2, c_4, c_6, c_8, reduceIte])]; exact hD.sub [0, 1, 2] (by decide) rfl
          · rw [show nI (i + 1) = (nI i) + 1 from (nI_1 i).symm]; exact lv_sub hl [1, 2, 3, 4, 0] rfl
        · refine lv_aload_n hx hb dX0_erase_60 rfl (lv_at hl 0 rfl) ?_
          refine va_get (D := (dC, dI)) (ci := 0) (v := .ref qb) (C := RX0) (T := TX0) (N := 5) hx hb hts (by decide +kernel) hown hK hP 0 rfl rfl 0 (by decide) (hts (.fieldLink RX0 9 "TornTryCounter$Flash" "bytes" "[I") (by decide +kernel)) (fun _ h9 => h9) rfl dX0_erase_61 ?_
          refine lv_iload_n hx hb dX0_erase_64 rfl (lv_at hl 1 rfl) ?_
          refine lv_bipush (v := 16) hx hb dX0_erase_65 (by decide) ?_
          refine lv_imul hx hb dX0_erase_67 ?_
          refine lv_iload hx hb dX0_erase_68 (lv_at hl 4 rfl) ?_
          refine lv_iadd hx hb dX0_erase_70 ?_
          refine lv_sipush (v := 255) hx hb dX0_erase_71 (by decide) ?_
          refine va_iast hx hb hK hP hD hS 1 0 rfl rfl (tt_inE c_4 hlt) dX0_erase_74 (fun H locs hP hD hS => ?_)
          have hP : va_P (dC, dI) ttCl [(qf, .inr (0, [.ref qb, .ref qe, .int od_1, .int ot_1, .int tm_1])), (qb, .inl (cA, 32, .inl (upd (tt_er b_1 pg 255 i) ((pg * 16) + (nI i)).toNatClampNeg 255))), (qe, .inl (cE, 2, .inl (upd g_1 pg.toNatClampNeg ((g_1 pg.toNatClampNeg) + 1))))] H := hP
          have hD : va_D A [(qf, .inr (0, [.ref qb, .ref qe, .int od_1, .int ot_1, .int tm_1])), (qb, .inl (cA, 32, .inl (upd (tt_er b_1 pg 255 i) ((pg * 16) + (nI i)).toNatClampNeg 255))), (qe, .inl (cE, 2, .inl (upd g_1 pg.toNatClampNeg ((g_1 pg.toNatClampNeg) + 1))))] := hD
          refine lv_iinc (v := (nI i) + 1) (lv' := [(4, .int ((nI i) + 1)), (0, .ref qf), (1, .int pg), (2, .int r_1), (3, .int 255)]) hx hb dX0_erase_75 hl (k := 4) rfl rfl (by decide) rfl (fun ls hl => ?_)
          refine lv_goto (tgt := 40) hx hb dX0_erase_78 (by decide) ?_
          refine ih (n - 1) (by omega) _ _ _ ⟨i + 1, by omega, ?_, ?_, hS, ?_⟩
          · rw [show tt_er b_1 pg 255 (i + 1) = upd (tt_er b_1 pg 255 i) ((pg * 16) + (nI i)).toNatClampNeg 255 from (by simp only [tt_er, tt_er1, c_2, c_4, c_6, c_8, reduceIte])]; exact hP.sub [0, 1, 2] rfl
          · rw [show tt_er b_1 pg 255 (i + 1) = upd (tt_er b_1 pg 255 i) ((pg * 16) + (nI i)).toNatClampNeg 255 from (by simp only [tt_er, tt_er1, c_2, c_4, c_6, c_8, reduceIte])]; exact hD.sub [0, 1, 2] (by decide) rfl
          · rw [show nI (i + 1) = (nI i) + 1 from (nI_1 i).symm]; exact lv_sub hl [1, 2, 3, 4, 0] rfl
  · refine lv_aload_n hx hb dX0_erase_9 rfl (lv_at hl 1 rfl) ?_
    refine va_get (D := (dC, dI)) (ci := 0) (v := .int tm_1) (C := RX0) (T := TX0) (N := 5) hx hb hts (by decide +kernel) hown hK hP 0 rfl rfl 4 (by decide) (hts (.fieldLink RX0 23 "TornTryCounter$Flash" "tearMask" "I") (by decide +kernel)) (fun _ h9 => h9) rfl dX0_erase_10 ?_
    refine lv_goto (tgt := 19) hx hb dX0_erase_13 (by decide) ?_
    refine lv_istore_n (lv' := [(3, .int tm_1), (2, .int r_1), (0, .ref qf), (1, .int pg)]) hx hb dX0_erase_19 rfl hl (by decide) rfl (fun ls hl => ?_)
    refine lv_iload_n hx hb dX0_erase_20 rfl (lv_at hl 3 rfl) ?_
    have hPc := hP.sub (ws' := []) [] rfl
    have hDc := hD.sub (ws' := []) [] (by decide) rfl
    have hKc := hK.sub (tys' := []) [] rfl
    have hFc := va_free (wc := []) hD hS hA [] rfl
    refine va_calli (va_runS (As := [.int pg]) (rest := []) ⟨hx, hb, hml, hown, hts⟩ (c_F_isPage l dC dI H.size pg) (va_cwS 1 hts gX0_erase_X0_isPage rfl rfl rfl (by decide +kernel) ⟨Nat.le_of_ble_eq_true rfl, Nat.le_of_ble_eq_true rfl⟩) ⟨fun a U g mk q => by obtain ⟨q0, q1, qP, qK, qD⟩ := q; exact ⟨q0, q1, qP, va_K.moved (u := U) (U := U.calling g mk a) (Vm.Alike.refl U.vm) qK, qD⟩, fun U hU hW => ⟨rfl, by rw [hU], by rw [hU]; exact hPc, va_K.moved hW.alike hKc, hDc.weaken (fun _ _ _ _ => trivial)⟩⟩ rfl rfl hl.1 rfl (lv_room (Nat.le_of_ble_eq_true rfl)) dX0_erase_21 ⟨(Nat.zero_le _), (Nat.zero_le _)⟩) hS (fun q _ h => hFc q h) hFc (fun r_9 u t H locs ht hvm hw hB hz1 hk1 hS => ?_)
    have hw : tt_ip pg = r_9 := hw.symm
    subst hw
    obtain ⟨hP1, hK1, hD1⟩ := hB
    rw [ht] at hP1
    obtain ⟨hP, hD⟩ := va_join (wr := [(qf, .inr (0, [.ref qb, .ref qe, .int od_1, .int ot_1, .int tm_1])), (qb, .inl (cA, 32, .inl b_1)), (qe, .inl (cE, 2, .inl g_1))]) (w1 := []) hP hD [] [0, 1, 2] rfl rfl (by decide) (by decide) hk1 hFc hP1 hD1
    have hP : va_P (dC, dI) ttCl [(qf, .inr (0, [.ref qb, .ref qe, .int od_1, .int ot_1, .int tm_1])), (qb, .inl (cA, 32, .inl b_1)), (qe, .inl (cE, 2, .inl g_1))] H := hP
    have hD : va_D A [(qf, .inr (0, [.ref qb, .ref qe, .int od_1, .int ot_1, .int tm_1])), (qb, .inl (cA, 32, .inl b_1)), (qe, .inl (cE, 2, .inl g_1))] := hD
    refine lv_if_eq (tgt := 81) hx hb dX0_erase_24 (by decide) (fun c_10 => ?_) (fun c_10 => ?_)
    · refine lv_iload_n hx hb dX0_erase_81 rfl (lv_at hl 1 rfl) ?_
      refine lv_if_ne (tgt := 89) hx hb dX0_erase_82 (by decide) (fun c_11 => ?_) (fun c_11 => ?_)
      · refine lv_iconst (v := 0) hx hb dX0_erase_89 (by decide) ?_
        have hP9 := hP.sub (ws' := [(qf, .inr (0, [.ref qb, .ref qe, .int od_1, .int ot_1, .int tm_1])), (qb, .inl (cA, 32, .inl b_1)), (qe, .inl (cE, 2, .inl g_1))]) [0, 1, 2] rfl
        have hD9 := hD.sub (ws' := [(qf, .inr (0, [.ref qb, .ref qe, .int od_1, .int ot_1, .int tm_1])), (qb, .inl (cA, 32, .inl b_1)), (qe, .inl (cE, 2, .inl g_1))]) [0, 1, 2] (by decide) rfl
        have hK9 := hK.sub (tys' := [(cA, .int), (cE, .int)]) [0, 1] rfl
        exact W.zret (v := 0) hx hb hr (by first | rfl | decide) (fun t ht hW => ⟨⟨0, (b_1, g_1, od_1, ot_1, tm_1), rfl, (by first | (simp only [tt_erase, e_1, c_2, c_10, reduceIte, eq_self]; done) | (simp [tt_erase, e_1, c_2, c_10]; done)), by rw [ht]; exact hP9, va_K.moved hW.alike hK9, hD9⟩, hS.F ht⟩) hS.2.2 dX0_erase_90
      · exact absurd c_11 c_2
    · refine lv_aload_n hx hb dX0_erase_27 rfl (lv_at hl 2 rfl) ?_
      refine va_get (D := (dC, dI)) (ci := 0) (v := .ref qe) (C := RX0) (T := TX0) (N := 5) hx hb hts (by decide +kernel) hown hK hP 0 rfl rfl 1 (by decide) (hts (.fieldLink RX0 13 "TornTryCounter$Flash" "erases" "[I") (by decide +kernel)) (fun _ h9 => h9) rfl dX0_erase_28 ?_
      refine lv_iload_n hx hb dX0_erase_31 rfl (lv_at hl 3 rfl) ?_
      refine lv_dup2_11 hx hb dX0_erase_32 rfl rfl ?_
      refine va_iald hx hb hK hP 2 1 rfl rfl (tt_inP c_10) dX0_erase_33 ?_
      refine lv_iconst (v := 1) hx hb dX0_erase_34 (by decide) ?_
      refine lv_iadd hx hb dX0_erase_35 ?_
      refine va_iast hx hb hK hP hD hS 2 1 rfl rfl (tt_inP c_10) dX0_erase_36 (fun H locs hP hD hS => ?_)
      have hP : va_P (dC, dI) ttCl [(qf, .inr (0, [.ref qb, .ref qe, .int od_1, .int ot_1, .int tm_1])), (qb, .inl (cA, 32, .inl b_1)), (qe, .inl (cE, 2, .inl (upd g_1 pg.toNatClampNeg ((g_1 pg.toNatClampNeg) + 1))))] H := hP
      have hD : va_D A [(qf, .inr (0, [.ref qb, .ref qe, .int od_1, .int ot_1, .int tm_1])), (qb, .inl (cA, 32, .inl b_1)), (qe, .inl (cE, 2, .inl (upd g_1 pg.toNatClampNeg ((g_1 pg.toNatClampNeg) + 1))))] := hD
      refine lv_iconst (v := 0) hx hb dX0_erase_37 (by decide) ?_
      refine lv_istore (lv' := [(4, .int 0), (3, .int tm_1), (2, .int r_1), (0, .ref qf), (1, .int pg)]) hx hb dX0_erase_38 hl (by decide) rfl (fun ls hl => ?_)
      refine W.widen (k := 0) (n := 0) (by omega) (by omega) ?_
      refine tt_rec (pc := 40) (I := fun n H locs ls => ∃ i : Nat, i + n = 16 ∧ va_P (dC, dI) ttCl [(qf, .inr (0, [.ref qb, .ref qe, .int od_1, .int ot_1, .int tm_1])), (qb, .inl (cA, 32, .inl (tt_er b_1 pg tm_1 i))), (qe, .inl (cE, 2, .inl (upd g_1 pg.toNatClampNeg ((g_1 pg.toNatClampNeg) + 1))))] H ∧ va_D A [(qf, .inr (0, [.ref qb, .ref qe, .int od_1, .int ot_1, .int tm_1])), (qb, .inl (cA, 32, .inl (tt_er b_1 pg tm_1 i))), (qe, .inl (cE, 2, .inl (upd g_1 pg.toNatClampNeg ((g_1 pg.toNatClampNeg) + 1))))] ∧ va_S A s.heap H locs ∧ lv_has ls 5 [(0, .ref qf), (1, .int pg), (2, .int r_1), (3, .int tm_1), (4, .int (nI i))]) ?_ 16 ⟨0, rfl, hP, hD, hS, lv_sub hl [3, 4, 2, 1, 0] rfl⟩
      intro n H locs ls ih hI
      obtain ⟨i, hi, hP, hD, hS, hl⟩ := hI
      refine lv_iload hx hb dX0_erase_40 (lv_at hl 4 rfl) ?_
      refine lv_bipush (v := 16) hx hb dX0_erase_42 (by decide) ?_
      refine lv_icmp_ge (tgt := 81) hx hb dX0_erase_44 (by decide) (fun c_12 => ?_) (fun c_12 => ?_)
      · have hie : i = 16 := (tt_c16 i (by omega)).1 c_12
        refine lv_iload_n hx hb dX0_erase_81 rfl (lv_at hl 2 rfl) ?_
        refine lv_if_ne (tgt := 89) hx hb dX0_erase_82 (by decide) (fun c_13 => ?_) (fun c_13 => ?_)
        · refine lv_iconst (v := 0) hx hb dX0_erase_89 (by decide) ?_
          have hP9 := hP.sub (ws' := [(qf, .inr (0, [.ref qb, .ref qe, .int od_1, .int ot_1, .int tm_1])), (qb, .inl (cA, 32, .inl (tt_er b_1 pg tm_1 i))), (qe, .inl (cE, 2, .inl (upd g_1 pg.toNatClampNeg ((g_1 pg.toNatClampNeg) + 1))))]) [0, 1, 2] rfl
          have hD9 := hD.sub (ws' := [(qf, .inr (0, [.ref qb, .ref qe, .int od_1, .int ot_1, .int tm_1])), (qb, .inl (cA, 32, .inl (tt_er b_1 pg tm_1 i))), (qe, .inl (cE, 2, .inl (upd g_1 pg.toNatClampNeg ((g_1 pg.toNatClampNeg) + 1))))]) [0, 1, 2] (by decide) rfl
          have hK9 := hK.sub (tys' := [(cA, .int), (cE, .int)]) [0, 1] rfl
          exact W.zret (v := 0) hx hb hr (by first | rfl | decide) (fun t ht hW => ⟨⟨0, (tt_er b_1 pg tm_1 i, upd g_1 pg.toNatClampNeg ((g_1 pg.toNatClampNeg) + 1), od_1, ot_1, tm_1), rfl, (by first | (simp only [tt_erase, e_1, c_2, c_10, c_12, hie, reduceIte, eq_self]; done) | (simp [tt_erase, e_1, c_2, c_10, c_12, hie]; done)), by rw [ht]; exact hP9, va_K.moved hW.alike hK9, hD9⟩, hS.F ht⟩) hS.2.2 dX0_erase_90
        · exact absurd c_13 c_2
      · have hlt : i < 16 := (tt_c16 i (by omega)).2 c_12
        refine lv_iload_n hx hb dX0_erase_47 rfl (lv_at hl 3 rfl) ?_
        refine lv_iload hx hb dX0_erase_48 (lv_at hl 4 rfl) ?_
        refine lv_bipush (v := 7) hx hb dX0_erase_50 (by decide) ?_
        refine lv_iand hx hb dX0_erase_52 ?_
        refine lv_ishr hx hb dX0_erase_53 ?_
        refine lv_iconst (v := 1) hx hb dX0_erase_54 (by decide) ?_
        refine lv_iand hx hb dX0_erase_55 ?_
        refine lv_iconst (v := 1) hx hb dX0_erase_56 (by decide) ?_
        refine lv_icmp_ne (tgt := 75) hx hb dX0_erase_57 (by decide) (fun c_14 => ?_) (fun c_14 => ?_)
        · refine lv_iinc (v := (nI i) + 1) (lv' := [(4, .int ((nI i) + 1)), (0, .ref qf), (1, .int pg), (2, .int r_1), (3, .int tm_1)]) hx hb dX0_erase_75 hl (k := 4) rfl rfl (by decide) rfl (fun ls hl => ?_)
          refine lv_goto (tgt := 40) hx hb dX0_erase_78 (by decide) ?_
          refine ih (n - 1) (by omega) _ _ _ ⟨i + 1, by omega, ?_, ?_, hS, ?_⟩
          · rw [show tt_er b_1 pg tm_1 (i + 1) = tt_er b_1 pg tm_1 i from (by simp only [tt_er, tt_er1, c_2, c_10, c_12, c_14, reduceIte])]; exact hP.sub [0, 1, 2] rfl
          · rw [show tt_er b_1 pg tm_1 (i + 1) = tt_er b_1 pg tm_1 i from (by simp only [tt_er, tt_er1, c_2, c_10, c_12, c_14, reduceIte])]; exact hD.sub [0, 1, 2] (by decide) rfl
          · rw [show nI (i + 1) = (nI i) + 1 from (nI_1 i).symm]; exact lv_sub hl [1, 2, 3, 4, 0] rfl
        · refine lv_aload_n hx hb dX0_erase_60 rfl (lv_at hl 0 rfl) ?_
          refine va_get (D := (dC, dI)) (ci := 0) (v := .ref qb) (C := RX0) (T := TX0) (N := 5) hx hb hts (by decide +kernel) hown hK hP 0 rfl rfl 0 (by decide) (hts (.fieldLink RX0 9 "TornTryCounter$Flash" "bytes" "[I") (by decide +kernel)) (fun _ h9 => h9) rfl dX0_erase_61 ?_
          refine lv_iload_n hx hb dX0_erase_64 rfl (lv_at hl 1 rfl) ?_
          refine lv_bipush (v := 16) hx hb dX0_erase_65 (by decide) ?_
          refine lv_imul hx hb dX0_erase_67 ?_
          refine lv_iload hx hb dX0_erase_68 (lv_at hl 4 rfl) ?_
          refine lv_iadd hx hb dX0_erase_70 ?_
          refine lv_sipush (v := 255) hx hb dX0_erase_71 (by decide) ?_
          refine va_iast hx hb hK hP hD hS 1 0 rfl rfl (tt_inE c_10 hlt) dX0_erase_74 (fun H locs hP hD hS => ?_)
          have hP : va_P (dC, dI) ttCl [(qf, .inr (0, [.ref qb, .ref qe, .int od_1, .int ot_1, .int tm_1])), (qb, .inl (cA, 32, .inl (upd (tt_er b_1 pg tm_1 i) ((pg * 16) + (nI i)).toNatClampNeg 255))), (qe, .inl (cE, 2, .inl (upd g_1 pg.toNatClampNeg ((g_1 pg.toNatClampNeg) + 1))))] H := hP
          have hD : va_D A [(qf, .inr (0, [.ref qb, .ref qe, .int od_1, .int ot_1, .int tm_1])), (qb, .inl (cA, 32, .inl (upd (tt_er b_1 pg tm_1 i) ((pg * 16) + (nI i)).toNatClampNeg 255))), (qe, .inl (cE, 2, .inl (upd g_1 pg.toNatClampNeg ((g_1 pg.toNatClampNeg) + 1))))] := hD
          refine lv_iinc (v := (nI i) + 1) (lv' := [(4, .int ((nI i) + 1)), (0, .ref qf), (1, .int pg), (2, .int r_1), (3, .int tm_1)]) hx hb dX0_erase_75 hl (k := 4) rfl rfl (by decide) rfl (fun ls hl => ?_)
          refine lv_goto (tgt := 40) hx hb dX0_erase_78 (by decide) ?_
          refine ih (n - 1) (by omega) _ _ _ ⟨i + 1, by omega, ?_, ?_, hS, ?_⟩
          · rw [show tt_er b_1 pg tm_1 (i + 1) = upd (tt_er b_1 pg tm_1 i) ((pg * 16) + (nI i)).toNatClampNeg 255 from (by simp only [tt_er, tt_er1, c_2, c_10, c_12, c_14, reduceIte])]; exact hP.sub [0, 1, 2] rfl
          · rw [show tt_er b_1 pg tm_1 (i + 1) = upd (tt_er b_1 pg tm_1 i) ((pg * 16) + (nI i)).toNatClampNeg 255 from (by simp only [tt_er, tt_er1, c_2, c_10, c_12, c_14, reduceIte])]; exact hD.sub [0, 1, 2] (by decide) rfl
          · rw [show nI (i + 1) = (nI i) + 1 from (nI_1 i).symm]; exact lv_sub hl [1, 2, 3, 4, 0] rfl
