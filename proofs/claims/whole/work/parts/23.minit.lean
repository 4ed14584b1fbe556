set_option maxHeartbeats 4000000 in
set_option maxRecDepth 100000 in
theorem c_M_init (l : Launch) (dC : Nat → ClassId) (dI : Nat → Nat → Nat) (qm sz : Nat) (n1 n2 n3 n4 : Int32) : Met l yM_init wsM_init ({ frames := 1, cells := 0, slots := 0, locals := 12 }) (va_Pc [.ref qm, .int n1, .int n2, .int n3, .int n4] (fun U => U.heap.size = sz ∧ va_P (dC, dI) ttCl [(qm, .inr (3, [.int 0, .int 0, .int 0, .int 0, .int 0, .int 0, .int 0, .int 0, .int 0, .int 0, .int 0, .int 0, .int 0, .int 0, .int 0, .int 0, .int 0, .int 0]))] U.heap ∧ va_K (dC, dI) ttCl [] U ∧ va_D (fun _ => True) [(qm, .inr (3, [.int 0, .int 0, .int 0, .int 0, .int 0, .int 0, .int 0, .int 0, .int 0, .int 0, .int 0, .int 0, .int 0, .int 0, .int 0, .int 0, .int 0, .int 0]))])) (va_Qv (fun (u : Int32 × Int32) => (mm_lim n3 3, mm_lim n4 5) = u) (fun (u : Int32 × Int32) (t : State) => at_M dC dI (va_A [(qm, .inr (3, [.int 0, .int 0, .int 0, .int 0, .int 0, .int 0, .int 0, .int 0, .int 0, .int 0, .int 0, .int 0, .int 0, .int 0, .int 0, .int 0, .int 0, .int 0]))] sz) qm n2 u.1 u.2 (0, 0, n1 &&& 65535, 0, 0, 10, 0, 1, 0, 0, 0, 0, 0, 0, 0) t) (va_A [(qm, .inr (3, [.int 0, .int 0, .int 0, .int 0, .int 0, .int 0, .int 0, .int 0, .int 0, .int 0, .int 0, .int 0, .int 0, .int 0, .int 0, .int 0, .int 0, .int 0]))] sz)) 0 0 (va_A [(qm, .inr (3, [.int 0, .int 0, .int 0, .int 0, .int 0, .int 0, .int 0, .int 0, .int 0, .int 0, .int 0, .int 0, .int 0, .int 0, .int 0, .int 0, .int 0, .int 0]))] sz) := by
  refine Met.ofW (cc := cM_init) (maxL := 5) (ret := none) (by decide) rfl ?_
  intro p e s m args below meth c s₁ B hml hv
  obtain ⟨rfl, hsz, hP, hK, hD0⟩ := hv
  have hx := B.exec
  have hb := B.bytes
  have hr := B.returns
  have hts := atoms_spec (ws := wsM_init) B.pre
  have hown : s.vm.findClass RM = some m.cls := findClass_of_methodNamed B.named
  have hlocks := B.notSynchronized
  have hin : meth.name = "<init>" := (name_of_methodNamed B.named B.method).1
  subst hsz
  have hD := hD0.self (sz := s.heap.size)
  generalize hAe : va_A [(qm, .inr (3, [.int 0, .int 0, .int 0, .int 0, .int 0, .int 0, .int 0, .int 0, .int 0, .int 0, .int 0, .int 0, .int 0, .int 0, .int 0, .int 0, .int 0, .int 0]))] s.heap.size = A at hD ⊢
  have hA : ∀ q : Nat, s.heap.size ≤ q → A q := fun q h => by rw [← hAe]; exact Or.inr h
  have hS : va_S A s.heap s.heap [] := va_S.rf
  have hP : va_P (dC, dI) ttCl [(qm, .inr (3, [.int 0, .int 0, .int 0, .int 0, .int 0, .int 0, .int 0, .int 0, .int 0, .int 0, .int 0, .int 0, .int 0, .int 0, .int 0, .int 0, .int 0, .int 0]))] s.heap := hP
  have hl := lv_entry ([.ref qm, .int n1, .int n2, .int n3, .int n4]) (n := 5) (Nat.le_of_ble_eq_true rfl)
  rw [lg_entry_eq]
  generalize (lg_sl ([.ref qm, .int n1, .int n2, .int n3, .int n4]) ++ List.replicate (5 - (lg_sl ([.ref qm, .int n1, .int n2, .int n3, .int n4])).length) Slot.unset).toArray = ls at hl ⊢
  have hl : lv_has ls 5 [(0, .ref qm), (1, .int n1), (2, .int n2), (3, .int n3), (4, .int n4)] := hl
  refine lv_aload_n hx hb dM_init_0 rfl (lv_at hl 0 rfl) ?_
  refine W.objInit hx hb hown (hts (.methodLink RM 1 objectInit) (by decide +kernel)) (hts (.instanceMethod objectInit) (by decide +kernel)) (hts (.code objectInit ⟨#[0xb1]⟩ 1 none) (by decide +kernel)) rfl (by rw [hml]; exact hl.1) rfl dM_init_1 (Nat.le_of_ble_eq_true rfl) (Nat.le_of_ble_eq_true rfl) ?_
  refine W.eq (g2 := F0 m 4 ls []) rfl ?_
  refine lv_aload_n hx hb dM_init_4 rfl (lv_at hl 0 rfl) ?_
  refine lv_bipush (v := 10) hx hb dM_init_5 (by decide) ?_
  refine va_put (D := (dC, dI)) (ci := 3) (v := .int 10) (ty := .int) (C := RM) (T := TM) (N := 18) hx hb hts (by decide +kernel) tyM tyM_ok nmM hown hK hP hD hS 0 rfl rfl 8 (by decide) (hts (.fieldLink RM 7 "TornTryCounterModel" "entries" "I") (by decide +kernel)) (fun _ h9 => h9) rfl (by decide +kernel) rfl rfl (Nat.le_of_ble_eq_true rfl) dM_init_7 (fun H locs hP hD hS => ?_)
  have hP : va_P (dC, dI) ttCl [(qm, .inr (3, [.int 0, .int 0, .int 0, .int 0, .int 0, .int 0, .int 0, .int 0, .int 10, .int 0, .int 0, .int 0, .int 0, .int 0, .int 0, .int 0, .int 0, .int 0]))] H := hP
  have hD : va_D A [(qm, .inr (3, [.int 0, .int 0, .int 0, .int 0, .int 0, .int 0, .int 0, .int 0, .int 10, .int 0, .int 0, .int 0, .int 0, .int 0, .int 0, .int 0, .int 0, .int 0]))] := hD
  refine lv_aload_n hx hb dM_init_10 rfl (lv_at hl 0 rfl) ?_
  refine lv_iconst (v := 1) hx hb dM_init_11 (by decide) ?_
  refine va_put (D := (dC, dI)) (ci := 3) (v := .int 1) (ty := .boolean) (C := RM) (T := TM) (N := 18) hx hb hts (by decide +kernel) tyM tyM_ok nmM hown hK hP hD hS 0 rfl rfl 10 (by decide) (hts (.fieldLink RM 13 "TornTryCounterModel" "power" "Z") (by decide +kernel)) (fun _ h9 => h9) rfl (by decide +kernel) rfl rfl (Nat.le_of_ble_eq_true rfl) dM_init_12 (fun H locs hP hD hS => ?_)
  have hP : va_P (dC, dI) ttCl [(qm, .inr (3, [.int 0, .int 0, .int 0, .int 0, .int 0, .int 0, .int 0, .int 0, .int 10, .int 0, .int 1, .int 0, .int 0, .int 0, .int 0, .int 0, .int 0, .int 0]))] H := hP
  have hD : va_D A [(qm, .inr (3, [.int 0, .int 0, .int 0, .int 0, .int 0, .int 0, .int 0, .int 0, .int 10, .int 0, .int 1, .int 0, .int 0, .int 0, .int 0, .int 0, .int 0, .int 0]))] := hD
  refine lv_aload_n hx hb dM_init_15 rfl (lv_at hl 0 rfl) ?_
  refine lv_iload_n hx hb dM_init_16 rfl (lv_at hl 1 rfl) ?_
  refine lv_ldc (v := 65535) hx hb hown (hts (.constant RM 17 65535) (by decide +kernel)) dM_init_17 ?_
  refine lv_iand hx hb dM_init_19 ?_
  refine va_put (D := (dC, dI)) (ci := 3) (v := .int (n1 &&& 65535)) (ty := .int) (C := RM) (T := TM) (N := 18) hx hb hts (by decide +kernel) tyM tyM_ok nmM hown hK hP hD hS 0 rfl rfl 5 (by decide) (hts (.fieldLink RM 18 "TornTryCounterModel" "pinNumber" "I") (by decide +kernel)) (fun _ h9 => h9) rfl (by decide +kernel) rfl rfl (Nat.le_of_ble_eq_true rfl) dM_init_20 (fun H locs hP hD hS => ?_)
  have hP : va_P (dC, dI) ttCl [(qm, .inr (3, [.int 0, .int 0, .int 0, .int 0, .int 0, .int (n1 &&& 65535), .int 0, .int 0, .int 10, .int 0, .int 1, .int 0, .int 0, .int 0, .int 0, .int 0, .int 0, .int 0]))] H := hP
  have hD : va_D A [(qm, .inr (3, [.int 0, .int 0, .int 0, .int 0, .int 0, .int (n1 &&& 65535), .int 0, .int 0, .int 10, .int 0, .int 1, .int 0, .int 0, .int 0, .int 0, .int 0, .int 0, .int 0]))] := hD
  refine lv_aload_n hx hb dM_init_23 rfl (lv_at hl 0 rfl) ?_
  refine lv_iload_n hx hb dM_init_24 rfl (lv_at hl 2 rfl) ?_
  refine va_putF (D := (dC, dI)) (ci := 3) (v := .int n2) (ty := .int) (C := RM) (T := TM) (N := 18) hx hb hts (by decide +kernel) tyM tyM_ok nmM hown hK hP hD hS 0 rfl rfl 2 (by decide) (hts (.fieldLink RM 21 "TornTryCounterModel" "pukNumber" "I") (by decide +kernel)) (fun _ h9 => h9) rfl hin rfl (by decide +kernel) rfl rfl (Nat.le_of_ble_eq_true rfl) dM_init_25 (fun H locs hP hD hS => ?_)
  have hP : va_P (dC, dI) ttCl [(qm, .inr (3, [.int 0, .int 0, .int n2, .int 0, .int 0, .int (n1 &&& 65535), .int 0, .int 0, .int 10, .int 0, .int 1, .int 0, .int 0, .int 0, .int 0, .int 0, .int 0, .int 0]))] H := hP
  have hD : va_D A [(qm, .inr (3, [.int 0, .int 0, .int n2, .int 0, .int 0, .int (n1 &&& 65535), .int 0, .int 0, .int 10, .int 0, .int 1, .int 0, .int 0, .int 0, .int 0, .int 0, .int 0, .int 0]))] := hD
  refine lv_aload_n hx hb dM_init_28 rfl (lv_at hl 0 rfl) ?_
  refine lv_iload_n hx hb dM_init_29 rfl (lv_at hl 3 rfl) ?_
  refine lv_iconst (v := 1) hx hb dM_init_30 (by decide) ?_
  refine lv_icmp_lt (tgt := 40) hx hb dM_init_31 (by decide) (fun c_1 => ?_) (fun c_1 => ?_)
  · refine lv_iconst (v := 3) hx hb dM_init_40 (by decide) ?_
    refine lv_goto (tgt := 45) hx hb dM_init_41 (by decide) ?_
    refine va_putF (D := (dC, dI)) (ci := 3) (v := .int 3) (ty := .int) (C := RM) (T := TM) (N := 18) hx hb hts (by decide +kernel) tyM tyM_ok nmM hown hK hP hD hS 0 rfl rfl 0 (by decide) (hts (.fieldLink RM 24 "TornTryCounterModel" "pinLimit" "I") (by decide +kernel)) (fun _ h9 => h9) rfl hin rfl (by decide +kernel) rfl rfl (Nat.le_of_ble_eq_true rfl) dM_init_45 (fun H locs hP hD hS => ?_)
    have hP : va_P (dC, dI) ttCl [(qm, .inr (3, [.int 3, .int 0, .int n2, .int 0, .int 0, .int (n1 &&& 65535), .int 0, .int 0, .int 10, .int 0, .int 1, .int 0, .int 0, .int 0, .int 0, .int 0, .int 0, .int 0]))] H := hP
    have hD : va_D A [(qm, .inr (3, [.int 3, .int 0, .int n2, .int 0, .int 0, .int (n1 &&& 65535), .int 0, .int 0, .int 10, .int 0, .int 1, .int 0, .int 0, .int 0, .int 0, .int 0, .int 0, .int 0]))] := hD
    refine lv_aload_n hx hb dM_init_48 rfl (lv_at hl 0 rfl) ?_
    refine lv_iload hx hb dM_init_49 (lv_at hl 4 rfl) ?_
    refine lv_iconst (v := 1) hx hb dM_init_51 (by decide) ?_
    refine lv_icmp_lt (tgt := 62) hx hb dM_init_52 (by decide) (fun c_2 => ?_) (fun c_2 => ?_)
    · refine lv_iconst (v := 5) hx hb dM_init_62 (by decide) ?_
      refine lv_goto (tgt := 68) hx hb dM_init_63 (by decide) ?_
      refine va_putF (D := (dC, dI)) (ci := 3) (v := .int 5) (ty := .int) (C := RM) (T := TM) (N := 18) hx hb hts (by decide +kernel) tyM tyM_ok nmM hown hK hP hD hS 0 rfl rfl 1 (by decide) (hts (.fieldLink RM 27 "TornTryCounterModel" "pukLimit" "I") (by decide +kernel)) (fun _ h9 => h9) rfl hin rfl (by decide +kernel) rfl rfl (Nat.le_of_ble_eq_true rfl) dM_init_68 (fun H locs hP hD hS => ?_)
      have hP : va_P (dC, dI) ttCl [(qm, .inr (3, [.int 3, .int 5, .int n2, .int 0, .int 0, .int (n1 &&& 65535), .int 0, .int 0, .int 10, .int 0, .int 1, .int 0, .int 0, .int 0, .int 0, .int 0, .int 0, .int 0]))] H := hP
      have hD : va_D A [(qm, .inr (3, [.int 3, .int 5, .int n2, .int 0, .int 0, .int (n1 &&& 65535), .int 0, .int 0, .int 10, .int 0, .int 1, .int 0, .int 0, .int 0, .int 0, .int 0, .int 0, .int 0]))] := hD
      have hP9 := hP.sub (ws' := [(qm, .inr (3, [.int 3, .int 5, .int n2, .int 0, .int 0, .int (n1 &&& 65535), .int 0, .int 0, .int 10, .int 0, .int 1, .int 0, .int 0, .int 0, .int 0, .int 0, .int 0, .int 0]))]) [0] rfl
      have hD9 := hD.sub (ws' := [(qm, .inr (3, [.int 3, .int 5, .int n2, .int 0, .int 0, .int (n1 &&& 65535), .int 0, .int 0, .int 10, .int 0, .int 1, .int 0, .int 0, .int 0, .int 0, .int 0, .int 0, .int 0]))]) [0] (by decide) rfl
      have hK9 := hK.sub (tys' := []) [] rfl
      exact W.vret hx hb hr (fun t ht hW => ⟨⟨(3, 5), rfl, (by first | (simp only [mm_lim, if_pos c_1, if_pos c_2, reduceIte, eq_self, tt_n10]; done) | (simp only [mm_lim, c_1, c_2, reduceIte, eq_self, tt_n10]; done) | (simp [mm_lim, c_1, c_2]; done)), by rw [ht]; exact hP9, va_K.moved hW.alike hK9, hD9⟩, hS.F ht⟩) hS.2.2 dM_init_71
    · refine lv_iload hx hb dM_init_55 (lv_at hl 4 rfl) ?_
      refine lv_bipush (v := 7) hx hb dM_init_57 (by decide) ?_
      refine lv_icmp_le (tgt := 66) hx hb dM_init_59 (by decide) (fun c_3 => ?_) (fun c_3 => ?_)
      · refine lv_iload hx hb dM_init_66 (lv_at hl 4 rfl) ?_
        refine va_putF (D := (dC, dI)) (ci := 3) (v := .int n4) (ty := .int) (C := RM) (T := TM) (N := 18) hx hb hts (by decide +kernel) tyM tyM_ok nmM hown hK hP hD hS 0 rfl rfl 1 (by decide) (hts (.fieldLink RM 27 "TornTryCounterModel" "pukLimit" "I") (by decide +kernel)) (fun _ h9 => h9) rfl hin rfl (by decide +kernel) rfl rfl (Nat.le_of_ble_eq_true rfl) dM_init_68 (fun H locs hP hD hS => ?_)
        have hP : va_P (dC, dI) ttCl [(qm, .inr (3, [.int 3, .int n4, .int n2, .int 0, .int 0, .int (n1 &&& 65535), .int 0, .int 0, .int 10, .int 0, .int 1, .int 0, .int 0, .int 0, .int 0, .int 0, .int 0, .int 0]))] H := hP
        have hD : va_D A [(qm, .inr (3, [.int 3, .int n4, .int n2, .int 0, .int 0, .int (n1 &&& 65535), .int 0, .int 0, .int 10, .int 0, .int 1, .int 0, .int 0, .int 0, .int 0, .int 0, .int 0, .int 0]))] := hD
        have hP9 := hP.sub (ws' := [(qm, .inr (3, [.int 3, .int n4, .int n2, .int 0, .int 0, .int (n1 &&& 65535), .int 0, .int 0, .int 10, .int 0, .int 1, .int 0, .int 0, .int 0, .int 0, .int 0, .int 0, .int 0]))]) [0] rfl
        have hD9 := hD.sub (ws' := [(qm, .inr (3, [.int 3, .int n4, .int n2, .int 0, .int 0, .int (n1 &&& 65535), .int 0, .int 0, .int 10, .int 0, .int 1, .int 0, .int 0, .int 0, .int 0, .int 0, .int 0, .int 0]))]) [0] (by decide) rfl
        have hK9 := hK.sub (tys' := []) [] rfl
        exact W.vret hx hb hr (fun t ht hW => ⟨⟨(3, n4), rfl, (by first | (simp only [mm_lim, if_pos c_1, if_neg c_2, if_pos c_3, reduceIte, eq_self, tt_n10]; done) | (simp only [mm_lim, c_1, c_2, c_3, reduceIte, eq_self, tt_n10]; done) | (simp [mm_lim, c_1, c_2, c_3]; done)), by rw [ht]; exact hP9, va_K.moved hW.alike hK9, hD9⟩, hS.F ht⟩) hS.2.2 dM_init_71
      · refine lv_iconst (v := 5) hx hb dM_init_62 (by decide) ?_
        refine lv_goto (tgt := 68) hx hb dM_init_63 (by decide) ?_
        refine va_putF (D := (dC, dI)) (ci := 3) (v := .int 5) (ty := .int) (C := RM) (T := TM) (N := 18) hx hb hts (by decide +kernel) tyM tyM_ok nmM hown hK hP hD hS 0 rfl rfl 1 (by decide) (hts (.fieldLink RM 27 "TornTryCounterModel" "pukLimit" "I") (by decide +kernel)) (fun _ h9 => h9) rfl hin rfl (by decide +kernel) rfl rfl (Nat.le_of_ble_eq_true rfl) dM_init_68 (fun H locs hP hD hS => ?_)
        have hP : va_P (dC, dI) ttCl [(qm, .inr (3, [.int 3, .int 5, .int n2, .int 0, .int 0, .int (n1 &&& 65535), .int 0, .int 0, .int 10, .int 0, .int 1, .int 0, .int 0, .int 0, .int 0, .int 0, .int 0, .int 0]))] H := hP
        have hD : va_D A [(qm, .inr (3, [.int 3, .int 5, .int n2, .int 0, .int 0, .int (n1 &&& 65535), .int 0, .int 0, .int 10, .int 0, .int 1, .int 0, .int 0, .int 0, .int 0, .int 0, .int 0, .int 0]))] := hD
        have hP9 := hP.sub (ws' := [(qm, .inr (3, [.int 3, .int 5, .int n2, .int 0, .int 0, .int (n1 &&& 65535), .int 0, .int 0, .int 10, .int 0, .int 1, .int 0, .int 0, .int 0, .int 0, .int 0, .int 0, .int 0]))]) [0] rfl
        have hD9 := hD.sub (ws' := [(qm, .inr (3, [.int 3, .int 5, .int n2, .int 0, .int 0, .int (n1 &&& 65535), .int 0, .int 0, .int 10, .int 0, .int 1, .int 0, .int 0, .int 0, .int 0, .int 0, .int 0, .int 0]))]) [0] (by decide) rfl
        have hK9 := hK.sub (tys' := []) [] rfl
        exact W.vret hx hb hr (fun t ht hW => ⟨⟨(3, 5), rfl, (by first | (simp only [mm_lim, if_pos c_1, if_neg c_2, if_neg c_3, reduceIte, eq_self, tt_n10]; done) | (simp only [mm_lim, c_1, c_2, c_3, reduceIte, eq_self, tt_n10]; done) | (simp [mm_lim, c_1, c_2, c_3]; done)), by rw [ht]; exact hP9, va_K.moved hW.alike hK9, hD9⟩, hS.F ht⟩) hS.2.2 dM_init_71
  · refine lv_iload_n hx hb dM_init_34 rfl (lv_at hl 3 rfl) ?_
    refine lv_bipush (v := 7) hx hb dM_init_35 (by decide) ?_
    refine lv_icmp_le (tgt := 44) hx hb dM_init_37 (by decide) (fun c_4 => ?_) (fun c_4 => ?_)
    · refine lv_iload_n hx hb dM_init_44 rfl (lv_at hl 3 rfl) ?_
      refine va_putF (D := (dC, dI)) (ci := 3) (v := .int n3) (ty := .int) (C := RM) (T := TM) (N := 18) hx hb hts (by decide +kernel) tyM tyM_ok nmM hown hK hP hD hS 0 rfl rfl 0 (by decide) (hts (.fieldLink RM 24 "TornTryCounterModel" "pinLimit" "I") (by decide +kernel)) (fun _ h9 => h9) rfl hin rfl (by decide +kernel) rfl rfl (Nat.le_of_ble_eq_true rfl) dM_init_45 (fun H locs hP hD hS => ?_)
      have hP : va_P (dC, dI) ttCl [(qm, .inr (3, [.int n3, .int 0, .int n2, .int 0, .int 0, .int (n1 &&& 65535), .int 0, .int 0, .int 10, .int 0, .int 1, .int 0, .int 0, .int 0, .int 0, .int 0, .int 0, .int 0]))] H := hP
      have hD : va_D A [(qm, .inr (3, [.int n3, .int 0, .int n2, .int 0, .int 0, .int (n1 &&& 65535), .int 0, .int 0, .int 10, .int 0, .int 1, .int 0, .int 0, .int 0, .int 0, .int 0, .int 0, .int 0]))] := hD
      refine lv_aload_n hx hb dM_init_48 rfl (lv_at hl 0 rfl) ?_
      refine lv_iload hx hb dM_init_49 (lv_at hl 4 rfl) ?_
      refine lv_iconst (v := 1) hx hb dM_init_51 (by decide) ?_
      refine lv_icmp_lt (tgt := 62) hx hb dM_init_52 (by decide) (fun c_5 => ?_) (fun c_5 => ?_)
      · refine lv_iconst (v := 5) hx hb dM_init_62 (by decide) ?_
        refine lv_goto (tgt := 68) hx hb dM_init_63 (by decide) ?_
        refine va_putF (D := (dC, dI)) (ci := 3) (v := .int 5) (ty := .int) (C := RM) (T := TM) (N := 18) hx hb hts (by decide +kernel) tyM tyM_ok nmM hown hK hP hD hS 0 rfl rfl 1 (by decide) (hts (.fieldLink RM 27 "TornTryCounterModel" "pukLimit" "I") (by decide +kernel)) (fun _ h9 => h9) rfl hin rfl (by decide +kernel) rfl rfl (Nat.le_of_ble_eq_true rfl) dM_init_68 (fun H locs hP hD hS => ?_)
        have hP : va_P (dC, dI) ttCl [(qm, .inr (3, [.int n3, .int 5, .int n2, .int 0, .int 0, .int (n1 &&& 65535), .int 0, .int 0, .int 10, .int 0, .int 1, .int 0, .int 0, .int 0, .int 0, .int 0, .int 0, .int 0]))] H := hP
        have hD : va_D A [(qm, .inr (3, [.int n3, .int 5, .int n2, .int 0, .int 0, .int (n1 &&& 65535), .int 0, .int 0, .int 10, .int 0, .int 1, .int 0, .int 0, .int 0, .int 0, .int 0, .int 0, .int 0]))] := hD
        have hP9 := hP.sub (ws' := [(qm, .inr (3, [.int n3, .int 5, .int n2, .int 0, .int 0, .int (n1 &&& 65535), .int 0, .int 0, .int 10, .int 0, .int 1, .int 0, .int 0, .int 0, .int 0, .int 0, .int 0, .int 0]))]) [0] rfl
        have hD9 := hD.sub (ws' := [(qm, .inr (3, [.int n3, .int 5, .int n2, .int 0, .int 0, .int (n1 &&& 65535), .int 0, .int 0, .int 10, .int 0, .int 1, .int 0, .int 0, .int 0, .int 0, .int 0, .int 0, .int 0]))]) [0] (by decide) rfl
        have hK9 := hK.sub (tys' := []) [] rfl
        exact W.vret hx hb hr (fun t ht hW => ⟨⟨(n3, 5), rfl, (by first | (simp only [mm_lim, if_neg c_1, if_pos c_4, if_pos c_5, reduceIte, eq_self, tt_n10]; done) | (simp only [mm_lim, c_1, c_4, c_5, reduceIte, eq_self, tt_n10]; done) | (simp [mm_lim, c_1, c_4, c_5]; done)), by rw [ht]; exact hP9, va_K.moved hW.alike hK9, hD9⟩, hS.F ht⟩) hS.2.2 dM_init_71
      · refine lv_iload hx hb dM_init_55 (lv_at hl 4 rfl) ?_
        refine lv_bipush (v := 7) hx hb dM_init_57 (by decide) ?_
        refine lv_icmp_le (tgt := 66) hx hb dM_init_59 (by decide) (fun c_6 => ?_) (fun c_6 => ?_)
        · refine lv_iload hx hb dM_init_66 (lv_at hl 4 rfl) ?_
          refine va_putF (D := (dC, dI)) (ci := 3) (v := .int n4) (ty := .int) (C := RM) (T := TM) (N := 18) hx hb hts (by decide +kernel) tyM tyM_ok nmM hown hK hP hD hS 0 rfl rfl 1 (by decide) (hts (.fieldLink RM 27 "TornTryCounterModel" "pukLimit" "I") (by decide +kernel)) (fun _ h9 => h9) rfl hin rfl (by decide +kernel) rfl rfl (Nat.le_of_ble_eq_true rfl) dM_init_68 (fun H locs hP hD hS => ?_)
          have hP : va_P (dC, dI) ttCl [(qm, .inr (3, [.int n3, .int n4, .int n2, .int 0, .int 0, .int (n1 &&& 65535), .int 0, .int 0, .int 10, .int 0, .int 1, .int 0, .int 0, .int 0, .int 0, .int 0, .int 0, .int 0]))] H := hP
          have hD : va_D A [(qm, .inr (3, [.int n3, .int n4, .int n2, .int 0, .int 0, .int (n1 &&& 65535), .int 0, .int 0, .int 10, .int 0, .int 1, .int 0, .int 0, .int 0, .int 0, .int 0, .int 0, .int 0]))] := hD
          have hP9 := hP.sub (ws' := [(qm, .inr (3, [.int n3, .int n4, .int n2, .int 0, .int 0, .int (n1 &&& 65535), .int 0, .int 0, .int 10, .int 0, .int 1, .int 0, .int 0, .int 0, .int 0, .int 0, .int 0, .int 0]))]) [0] rfl
          have hD9 := hD.sub (ws' := [(qm, .inr (3, [.int n3, .int n4, .int n2, .int 0, .int 0, .int (n1 &&& 65535), .int 0, .int 0, .int 10, .int 0, .int 1, .int 0, .int 0, .int 0, .int 0, .int 0, .int 0, .int 0]))]) [0] (by decide) rfl
          have hK9 := hK.sub (tys' := []) [] rfl
          exact W.vret hx hb hr (fun t ht hW => ⟨⟨(n3, n4), rfl, (by first | (simp only [mm_lim, if_neg c_1, if_pos c_4, if_neg c_5, if_pos c_6, reduceIte, eq_self, tt_n10]; done) | (simp only [mm_lim, c_1, c_4, c_5, c_6, reduceIte, eq_self, tt_n10]; done) | (simp [mm_lim, c_1, c_4, c_5, c_6]; done)), by rw [ht]; exact hP9, va_K.moved hW.alike hK9, hD9⟩, hS.F ht⟩) hS.2.2 dM_init_71
        · refine lv_iconst (v := 5) hx hb dM_init_62 (by decide) ?_
          refine lv_goto (tgt := 68) hx hb dM_init_63 (by decide) ?_
          refine va_putF (D := (dC, dI)) (ci := 3) (v := .int 5) (ty := .int) (C := RM) (T := TM) (N := 18) hx hb hts (by decide +kernel) tyM tyM_ok nmM hown hK hP hD hS 0 rfl rfl 1 (by decide) (hts (.fieldLink RM 27 "TornTryCounterModel" "pukLimit" "I") (by decide +kernel)) (fun _ h9 => h9) rfl hin rfl (by decide +kernel) rfl rfl (Nat.le_of_ble_eq_true rfl) dM_init_68 (fun H locs hP hD hS => ?_)
          have hP : va_P (dC, dI) ttCl [(qm, .inr (3, [.int n3, .int 5, .int n2, .int 0, .int 0, .int (n1 &&& 65535), .int 0, .int 0, .int 10, .int 0, .int 1, .int 0, .int 0, .int 0, .int 0, .int 0, .int 0, .int 0]))] H := hP
          have hD : va_D A [(qm, .inr (3, [.int n3, .int 5, .int n2, .int 0, .int 0, .int (n1 &&& 65535), .int 0, .int 0, .int 10, .int 0, .int 1, .int 0, .int 0, .int 0, .int 0, .int 0, .int 0, .int 0]))] := hD
          have hP9 := hP.sub (ws' := [(qm, .inr (3, [.int n3, .int 5, .int n2, .int 0, .int 0, .int (n1 &&& 65535), .int 0, .int 0, .int 10, .int 0, .int 1, .int 0, .int 0, .int 0, .int 0, .int 0, .int 0, .int 0]))]) [0] rfl
          have hD9 := hD.sub (ws' := [(qm, .inr (3, [.int n3, .int 5, .int n2, .int 0, .int 0, .int (n1 &&& 65535), .int 0, .int 0, .int 10, .int 0, .int 1, .int 0, .int 0, .int 0, .int 0, .int 0, .int 0, .int 0]))]) [0] (by decide) rfl
          have hK9 := hK.sub (tys' := []) [] rfl
          exact W.vret hx hb hr (fun t ht hW => ⟨⟨(n3, 5), rfl, (by first | (simp only [mm_lim, if_neg c_1, if_pos c_4, if_neg c_5, if_neg c_6, reduceIte, eq_self, tt_n10]; done) | (simp only [mm_lim, c_1, c_4, c_5, c_6, reduceIte, eq_self, tt_n10]; done) | (simp [mm_lim, c_1, c_4, c_5, c_6]; done)), by rw [ht]; exact hP9, va_K.moved hW.alike hK9, hD9⟩, hS.F ht⟩) hS.2.2 dM_init_71
    · refine lv_iconst (v := 3) hx hb dM_init_40 (by decide) ?_
      refine lv_goto (tgt := 45) hx hb dM_init_41 (by decide) ?_
      refine va_putF (D := (dC, dI)) (ci := 3) (v := .int 3) (ty := .int) (C := RM) (T := TM) (N := 18) hx hb hts (by decide +kernel) tyM tyM_ok nmM hown hK hP hD hS 0 rfl rfl 0 (by decide) (hts (.fieldLink RM 24 "TornTryCounterModel" "pinLimit" "I") (by decide +kernel)) (fun _ h9 => h9) rfl hin rfl (by decide +kernel) rfl rfl (Nat.le_of_ble_eq_true rfl) dM_init_45 (fun H locs hP hD hS => ?_)
      have hP : va_P (dC, dI) ttCl [(qm, .inr (3, [.int 3, .int 0, .int n2, .int 0, .int 0, .int (n1 &&& 65535), .int 0, .int 0, .int 10, .int 0, .int 1, .int 0, .int 0, .int 0, .int 0, .int 0, .int 0, .int 0]))] H := hP
      have hD : va_D A [(qm, .inr (3, [.int 3, .int 0, .int n2, .int 0, .int 0, .int (n1 &&& 65535), .int 0, .int 0, .int 10, .int 0, .int 1, .int 0, .int 0, .int 0, .int 0, .int 0, .int 0, .int 0]))] := hD
      refine lv_aload_n hx hb dM_init_48 rfl (lv_at hl 0 rfl) ?_
      refine lv_iload hx hb dM_init_49 (lv_at hl 4 rfl) ?_
      refine lv_iconst (v := 1) hx hb dM_init_51 (by decide) ?_
      refine lv_icmp_lt (tgt := 62) hx hb dM_init_52 (by decide) (fun c_7 => ?_) (fun c_7 => ?_)
      · refine lv_iconst (v := 5) hx hb dM_init_62 (by decide) ?_
        refine lv_goto (tgt := 68) hx hb dM_init_63 (by decide) ?_
        refine va_putF (D := (dC, dI)) (ci := 3) (v := .int 5) (ty := .int) (C := RM) (T := TM) (N := 18) hx hb hts (by decide +kernel) tyM tyM_ok nmM hown hK hP hD hS 0 rfl rfl 1 (by decide) (hts (.fieldLink RM 27 "TornTryCounterModel" "pukLimit" "I") (by decide +kernel)) (fun _ h9 => h9) rfl hin rfl (by decide +kernel) rfl rfl (Nat.le_of_ble_eq_true rfl) dM_init_68 (fun H locs hP hD hS => ?_)
        have hP : va_P (dC, dI) ttCl [(qm, .inr (3, [.int 3, .int 5, .int n2, .int 0, .int 0, .int (n1 &&& 65535), .int 0, .int 0, .int 10, .int 0, .int 1, .int 0, .int 0, .int 0, .int 0, .int 0, .int 0, .int 0]))] H := hP
        have hD : va_D A [(qm, .inr (3, [.int 3, .int 5, .int n2, .int 0, .int 0, .int (n1 &&& 65535), .int 0, .int 0, .int 10, .int 0, .int 1, .int 0, .int 0, .int 0, .int 0, .int 0, .int 0, .int 0]))] := hD
        have hP9 := hP.sub (ws' := [(qm, .inr (3, [.int 3, .int 5, .int n2, .int 0, .int 0, .int (n1 &&& 65535), .int 0, .int 0, .int 10, .int 0, .int 1, .int 0, .int 0, .int 0, .int 0, .int 0, .int 0, .int 0]))]) [0] rfl
        have hD9 := hD.sub (ws' := [(qm, .inr (3, [.int 3, .int 5, .int n2, .int 0, .int 0, .int (n1 &&& 65535), .int 0, .int 0, .int 10, .int 0, .int 1, .int 0, .int 0, .int 0, .int 0, .int 0, .int 0, .int 0]))]) [0] (by decide) rfl
        have hK9 := hK.sub (tys' := []) [] rfl
        exact W.vret hx hb hr (fun t ht hW => ⟨⟨(3, 5), rfl, (by first | (simp only [mm_lim, if_neg c_1, if_neg c_4, if_pos c_7, reduceIte, eq_self, tt_n10]; done) | (simp only [mm_lim, c_1, c_4, c_7, reduceIte, eq_self, tt_n10]; done) | (simp [mm_lim, c_1, c_4, c_7]; done)), by rw [ht]; exact hP9, va_K.moved hW.alike hK9, hD9⟩, hS.F ht⟩) hS.2.2 dM_init_71
      · refine lv_iload hx hb dM_init_55 (lv_at hl 4 rfl) ?_
        refine lv_bipush (v := 7) hx hb dM_init_57 (by decide) ?_
        refine lv_icmp_le (tgt := 66) hx hb dM_init_59 (by decide) (fun c_8 => ?_) (fun c_8 => ?_)
        · refine lv_iload hx hb dM_init_66 (lv_at hl 4 rfl) ?_
          refine va_putF (D := (dC, dI)) (ci := 3) (v := .int n4) (ty := .int) (C := RM) (T := TM) (N := 18) hx hb hts (by decide +kernel) tyM tyM_ok nmM hown hK hP hD hS 0 rfl rfl 1 (by decide) (hts (.fieldLink RM 27 "TornTryCounterModel" "pukLimit" "I") (by decide +kernel)) (fun _ h9 => h9) rfl hin rfl (by decide +kernel) rfl rfl (Nat.le_of_ble_eq_true rfl) dM_init_68 (fun H locs hP hD hS => ?_)
          have hP : va_P (dC, dI) ttCl [(qm, .inr (3, [.int 3, .int n4, .int n2, .int 0, .int 0, .int (n1 &&& 65535), .int 0, .int 0, .int 10, .int 0, .int 1, .int 0, .int 0, .int 0, .int 0, .int 0, .int 0, .int 0]))] H := hP
          have hD : va_D A [(qm, .inr (3, [.int 3, .int n4, .int n2, .int 0, .int 0, .int (n1 &&& 65535), .int 0, .int 0, .int 10, .int 0, .int 1, .int 0, .int 0, .int 0, .int 0, .int 0, .int 0, .int 0]))] := hD
          have hP9 := hP.sub (ws' := [(qm, .inr (3, [.int 3, .int n4, .int n2, .int 0, .int 0, .int (n1 &&& 65535), .int 0, .int 0, .int 10, .int 0, .int 1, .int 0, .int 0, .int 0, .int 0, .int 0, .int 0, .int 0]))]) [0] rfl
          have hD9 := hD.sub (ws' := [(qm, .inr (3, [.int 3, .int n4, .int n2, .int 0, .int 0, .int (n1 &&& 65535), .int 0, .int 0, .int 10, .int 0, .int 1, .int 0, .int 0, .int 0, .int 0, .int 0, .int 0, .int 0]))]) [0] (by decide) rfl
          have hK9 := hK.sub (tys' := []) [] rfl
          exact W.vret hx hb hr (fun t ht hW => ⟨⟨(3, n4), rfl, (by first | (simp only [mm_lim, if_neg c_1, if_neg c_4, if_neg c_7, if_pos c_8, reduceIte, eq_self, tt_n10]; done) | (simp only [mm_lim, c_1, c_4, c_7, c_8, reduceIte, eq_self, tt_n10]; done) | (simp [mm_lim, c_1, c_4, c_7, c_8]; done)), by rw [ht]; exact hP9, va_K.moved hW.alike hK9, hD9⟩, hS.F ht⟩) hS.2.2 dM_init_71
        · refine lv_iconst (v := 5) hx hb dM_init_62 (by decide) ?_
          refine lv_goto (tgt := 68) hx hb dM_init_63 (by decide) ?_
          refine va_putF (D := (dC, dI)) (ci := 3) (v := .int 5) (ty := .int) (C := RM) (T := TM) (N := 18) hx hb hts (by decide +kernel) tyM tyM_ok nmM hown hK hP hD hS 0 rfl rfl 1 (by decide) (hts (.fieldLink RM 27 "TornTryCounterModel" "pukLimit" "I") (by decide +kernel)) (fun _ h9 => h9) rfl hin rfl (by decide +kernel) rfl rfl (Nat.le_of_ble_eq_true rfl) dM_init_68 (fun H locs hP hD hS => ?_)
          have hP : va_P (dC, dI) ttCl [(qm, .inr (3, [.int 3, .int 5, .int n2, .int 0, .int 0, .int (n1 &&& 65535), .int 0, .int 0, .int 10, .int 0, .int 1, .int 0, .int 0, .int 0, .int 0, .int 0, .int 0, .int 0]))] H := hP
          have hD : va_D A [(qm, .inr (3, [.int 3, .int 5, .int n2, .int 0, .int 0, .int (n1 &&& 65535), .int 0, .int 0, .int 10, .int 0, .int 1, .int 0, .int 0, .int 0, .int 0, .int 0, .int 0, .int 0]))] := hD
          have hP9 := hP.sub (ws' := [(qm, .inr (3, [.int 3, .int 5, .int n2, .int 0, .int 0, .int (n1 &&& 65535), .int 0, .int 0, .int 10, .int 0, .int 1, .int 0, .int 0, .int 0, .int 0, .int 0, .int 0, .int 0]))]) [0] rfl
          have hD9 := hD.sub (ws' := [(qm, .inr (3, [.int 3, .int 5, .int n2, .int 0, .int 0, .int (n1 &&& 65535), .int 0, .int 0, .int 10, .int 0, .int 1, .int 0, .int 0, .int 0, .int 0, .int 0, .int 0, .int 0]))]) [0] (by decide) rfl
          have hK9 := hK.sub (tys' := []) [] rfl
          exact W.vret hx hb hr (fun t ht hW => ⟨⟨(3, 5), rfl, (by first | (simp only [mm_lim, if_neg c_1, if_neg c_4, if_neg c_7, if_neg c_8, reduceIte, eq_self, tt_n10]; done) | (simp only [mm_lim, c_1, c_4, c_7, c_8, reduceIte, eq_self, tt_n10]; done) | (simp [mm_lim, c_1, c_4, c_7, c_8]; done)), by rw [ht]; exact hP9, va_K.moved hW.alike hK9, hD9⟩, hS.F ht⟩) hS.2.2 dM_init_71
