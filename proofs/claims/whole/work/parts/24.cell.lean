theorem tt_inK {k : Int32} {L : Nat} (hk : ¬ k < 0) (h : ¬ Int32.ofNat L ≤ k) (hL : L < 2 ^ 31) : vp_in k L := by
  rcases pk_ix k (n := L) hL with q | q | ⟨j, hj, rfl⟩
  · exact absurd q hk
  · exact absurd q h
  · exact vp_in_nI hj hL
theorem tt_inL0 {i L : Nat} (h : i + 3 ≤ L) (hL : L ≤ 1540) : vp_in (nI i) L := vp_in_nI (by omega) (by omega)
theorem tt_inL1 {i L : Nat} (h : i + 3 ≤ L) (hL : L ≤ 1540) : vp_in (nI i + 1) L := by rw [nI_1]; exact vp_in_nI (by omega) (by omega)
theorem tt_inL2 {i L : Nat} (h : i + 3 ≤ L) (hL : L ≤ 1540) : vp_in (nI i + 2) L := by rw [show (2 : Int32) = nI 2 from rfl, nI_add]; exact vp_in_nI (by omega) (by omega)
theorem tt_lawc {i L : Nat} (hL : L ≤ 1540) (hi : i ≤ 1600) : (¬ Int32.ofNat L - 3 < nI i → i + 3 ≤ L) := by
  intro h
  have e : (nI L - nI 3).toInt = (L : Int) - 3 := pk_sub_toInt (by omega) (by omega)
  have e2 : (nI i).toInt = (i : Int) := nI_toInt (by omega)
  have q : ¬ (nI L - nI 3) < nI i := h
  rw [Int32.lt_iff_toInt_lt, e, e2] at q
  omega
def tt_cell (L : Nat) (xs : Nat → Int32) (k : Int32) : Int32 := if Int32.ofNat L ≤ k then 0 else xs k.toNatClampNeg
set_option maxHeartbeats 4000000 in
set_option maxRecDepth 100000 in
theorem c_L_cell (l : Launch) (dC : Nat → ClassId) (dI : Nat → Nat → Nat) (b L sz : Nat) (xs : Nat → Int32) (k : Int32) (hk : ¬ k < 0) (hL : L < 2 ^ 31) (hbz : b < sz) : Met l yL_cell wsL_cell ({ frames := 0, cells := 0, slots := 0, locals := 0 }) (va_Pc [.ref b, .int k] (fun U => U.heap.size = sz ∧ va_P (dC, dI) ttCl [] U.heap ∧ va_K (dC, dI) ttCl [] U ∧ va_D (fun _ => True) [] ∧ va_X b L xs U U.heap)) (va_Qi (fun (r : Int32) (_ : Unit) => r = tt_cell L xs k) (fun (_ : Unit) (t : State) => va_P (dC, dI) ttCl [] t.heap ∧ va_K (dC, dI) ttCl [] t ∧ va_D (va_A [] sz) []) (va_A [] sz)) 0 0 (va_A [] sz) := by
  refine Met.ofW (cc := cL_cell) (maxL := 2) (ret := (some .int)) (by decide) rfl ?_
  intro p e s m args below meth c s₁ B hml hv
  obtain ⟨rfl, hsz, hP, hK, hD0, hX⟩ := hv
  have hx := B.exec
  have hb := B.bytes
  have hr := B.returns
  have hts := atoms_spec (ws := wsL_cell) B.pre
  have hown : s.vm.findClass RL = some m.cls := findClass_of_methodNamed B.named
  have hlocks := B.notSynchronized
  subst hsz
  have hD := hD0.self (sz := s.heap.size)
  generalize hAe : va_A [] s.heap.size = A at hD ⊢
  have hA : ∀ q : Nat, s.heap.size ≤ q → A q := fun q h => by rw [← hAe]; exact Or.inr h
  have hS : va_S A s.heap s.heap [] := va_S.rf
  have hP : va_P (dC, dI) ttCl [] s.heap := hP
  have hl := lv_entry ([.ref b, .int k]) (n := 2) (Nat.le_of_ble_eq_true rfl)
  rw [lg_entry_eq]
  generalize (lg_sl ([.ref b, .int k]) ++ List.replicate (2 - (lg_sl ([.ref b, .int k])).length) Slot.unset).toArray = ls at hl ⊢
  have hl : lv_has ls 2 [(0, .ref b), (1, .int k)] := hl
  have hbl : b < s.heap.size := hbz
  have hbA : ¬ A b := by rw [← hAe]; exact fun h9 => h9.elim (fun ⟨k9, e9, h⟩ => by simp at h) (fun h => absurd hbl (Nat.not_lt.mpr h))
  refine lv_iload_n hx hb dL_cell_0 rfl (lv_at hl 1 rfl) ?_
  refine lv_aload_n hx hb dL_cell_1 rfl (lv_at hl 0 rfl) ?_
  refine va_slen hx hb hX hbl hbA hS dL_cell_2 ?_
  refine lv_icmp_ge (tgt := 12) hx hb dL_cell_3 (by decide) (fun c_1 => ?_) (fun c_1 => ?_)
  · refine lv_iconst (v := 0) hx hb dL_cell_12 (by decide) ?_
    have hP9 := hP.sub (ws' := []) [] rfl
    have hD9 := hD.sub (ws' := []) [] (by decide) rfl
    have hK9 := hK.sub (tys' := []) [] rfl
    exact W.iret (v := 0) hx hb hr (fun t ht hW => ⟨⟨0, (), rfl, (by first | (simp only [tt_cell, c_1, reduceIte, eq_self]; done) | (simp [tt_cell, c_1]; done)), by rw [ht]; exact hP9, va_K.moved hW.alike hK9, hD9⟩, hS.F ht⟩) hS.2.2 dL_cell_13
  · refine lv_aload_n hx hb dL_cell_6 rfl (lv_at hl 0 rfl) ?_
    refine lv_iload_n hx hb dL_cell_7 rfl (lv_at hl 1 rfl) ?_
    refine va_sld hx hb hX hbl hbA hS (tt_inK hk c_1 hL) dL_cell_8 ?_
    refine lv_goto (tgt := 13) hx hb dL_cell_9 (by decide) ?_
    have hP9 := hP.sub (ws' := []) [] rfl
    have hD9 := hD.sub (ws' := []) [] (by decide) rfl
    have hK9 := hK.sub (tys' := []) [] rfl
    exact W.iret (v := xs k.toNatClampNeg) hx hb hr (fun t ht hW => ⟨⟨xs k.toNatClampNeg, (), rfl, (by first | (simp only [tt_cell, c_1, reduceIte, eq_self]; done) | (simp [tt_cell, c_1]; done)), by rw [ht]; exact hP9, va_K.moved hW.alike hK9, hD9⟩, hS.F ht⟩) hS.2.2 dL_cell_13
