/-! the card beside the reference, call by call -/
def tt_R (s : tt_X) (t : tt_M) : Prop :=
  ∃ (b g : Nat → Int32) (dn og pw hd ar : Int32) (T K A G p k a c N : Nat), s = (pw, hd, ar, b, g, dn, nI T, nI K) ∧ t = (nI A, nI G, nI p, nI a, nI c, nI (10 - k), og, pw, hd, nI T, nI K, ar, dn, g 0, g 1) ∧ tt_I b A G p k (nI a) (nI c) og ∧ T ≤ 30 ∧ K < 256 ∧ a ≤ 7 ∧ c ≤ 7 ∧ ((pw = 0 ∧ hd = 0) ∨ pw = 1) ∧ (hd = 0 ∨ hd = 1) ∧ N ≤ 40 ∧ ar = nI N
/-- the same answer, and the pair goes on -/
def tt_S (x : Int32 × tt_X) (y : Int32 × tt_M) : Prop := x.1 = y.1 ∧ tt_R x.2 y.2
theorem tt_R.mk {b g : Nat → Int32} {dn og pw hd ar : Int32} {T K A G p k a c N : Nat} (h : tt_I b A G p k (nI a) (nI c) og) (hT : T ≤ 30) (hK : K < 256) (ha : a ≤ 7) (hc : c ≤ 7) (hpw : (pw = 0 ∧ hd = 0) ∨ pw = 1) (hhd : hd = 0 ∨ hd = 1) (hN : N ≤ 40) (har : ar = nI N) :
    tt_R (pw, hd, ar, b, g, dn, nI T, nI K) (nI A, nI G, nI p, nI a, nI c, nI (10 - k), og, pw, hd, nI T, nI K, ar, dn, g 0, g 1) :=
  ⟨b, g, dn, og, pw, hd, ar, T, K, A, G, p, k, a, c, N, rfl, rfl, h, hT, hK, ha, hc, hpw, hhd, hN, har⟩
theorem tt_n10 : ¬ (1 : Int32) = 0 := by decide
theorem tt_16 (x : Int32) : ∃ j, j < 65536 ∧ x &&& 65535 = nI j := pk_andE x (m := 65535) 16 (by decide)
theorem tt_try_sim {s : tt_X} {t : tt_M} (h : tt_R s t) {PL : Nat} (hPL : PL ≤ 7) (n : Int32) : tt_S (tt_try (nI PL) s (n &&& 65535)) (mm_att (nI PL) t n) ∧ ((tt_try (nI PL) s (n &&& 65535)).1 = 1 → (tt_try (nI PL) s (n &&& 65535)).2.1 = 1) := by
  obtain ⟨b, g, dn, og, pw, hd, ar, T, K, A, G, p, k, a, c, N, rfl, rfl, hI, hT, hK, ha, hc, hpw, hhd, hN, har⟩ := h
  unfold tt_try mm_att
  simp only
  rcases hpw with ⟨rfl, rfl⟩ | rfl
  · rw [if_pos rfl, if_pos rfl]
    exact ⟨⟨rfl, tt_R.mk hI hT hK ha hc (Or.inl ⟨rfl, rfl⟩) hhd hN har⟩, fun q => absurd (show (-1 : Int32) = 1 from q) (by decide)⟩
  · rw [if_neg tt_n10, if_neg tt_n10, tt_I_pu hI]
    by_cases hl : nI a < nI PL
    · rw [if_pos hl, if_pos hl]
      have hal : a < PL := (nI_ltI (by omega) (by omega)).mp hl
      obtain ⟨b', g', dn', T', A', G', k', a', c', og', hT', hI', ha', hc', ⟨ex, ey⟩ | ⟨k0, rfl, hk0, rfl, hv, ex, ey⟩⟩ := tt_mark_sim_0 (g := g) (dn := dn) (pw := 1) (hd := 0) (ar := ar) hI hT hK (by omega) (by omega)
      · rw [ex, ey]
        simp only [reduceIte]
        exact ⟨⟨rfl, tt_R.mk hI' hT' hK (by omega) (by omega) (Or.inl ⟨rfl, rfl⟩) (Or.inl rfl) hN har⟩, fun q => absurd (show (-3 : Int32) = 1 from q) (by decide)⟩
      · have hne : ¬ nI (6 + k0) = -1 := fun q => absurd (show nI (6 + k0) < 0 by rw [q]; decide) (nI_pos (by omega))
        rw [ex, ey]
        simp only
        rw [if_neg hne, if_neg tt_n10, tt_I_pin hI']
        by_cases hp : n &&& 65535 = nI p
        · rw [if_pos hp, if_pos hp, tt_I_ac hI']
          by_cases h1 : T' = 1
          · subst h1
            rw [tt_prog_1 b' g' dn' (nI K) hI'.1 (j := 6 + k0) (by omega) 253]
            simp only [mm_a9, mm_op_1, reduceIte]
            rw [if_pos (nI_pos' (by omega)), hv]
            refine ⟨⟨rfl, ?_⟩, fun q => absurd (show (-3 : Int32) = 1 from q) (by decide)⟩
            by_cases hm : nI K &&& 2 = 2
            · rw [tt_all_t hm, if_neg tt_n10, (tt_kv_2 K hK).1 hm]
              exact tt_R.mk (a := 0) (tt_I_fix hI' hv) (by omega) hK (by omega) (by omega) (Or.inl ⟨rfl, rfl⟩) (Or.inl rfl) hN har
            · rw [tt_all_f hK hm, if_pos rfl, (tt_kv_2 K hK).2 hm, tt_upd_same hv]
              exact tt_R.mk hI' (by omega) hK (by omega) (by omega) (Or.inl ⟨rfl, rfl⟩) (Or.inl rfl) hN har
          · rw [tt_prog_0 b' g' dn' (nI K) hT' h1 hI'.1 (j := 6 + k0) (by omega) 253]
            have eo := mm_op_0 (nI A') (nI G') (nI p) (nI (a + 1)) (nI c') (nI (10 - (k0 + 1))) og' 1 0 (nI K) ar dn' (g' 0) (g' 1) hT' h1
            simp only [mm_a9, eo]
            rw [if_neg tt_n10, if_neg (show ¬ (0 : Int32) ≤ -1 by decide), hv, show mm_all (-1) 2 = 1 by decide, if_neg tt_n10, show (254 : Int32) &&& (253 ||| (255 ^^^ (-1))) = 252 by decide]
            exact ⟨⟨rfl, tt_R.mk (a := 0) (tt_I_fix hI' hv) (by omega) hK (by omega) (by omega) (Or.inr rfl) (Or.inl rfl) hN har⟩, fun _ => rfl⟩
        · rw [if_neg hp, if_neg hp]
          exact ⟨⟨rfl, tt_R.mk hI' hT' hK (by omega) (by omega) (Or.inr rfl) (Or.inl rfl) hN har⟩, fun q => absurd (show (0 : Int32) = 1 from q) (by decide)⟩
    · rw [if_neg hl, if_neg hl]
      exact ⟨⟨rfl, tt_R.mk hI hT hK ha hc (Or.inr rfl) hhd hN har⟩, fun q => absurd (show (-2 : Int32) = 1 from q) (by decide)⟩
theorem tt_verify_sim {s : tt_X} {t : tt_M} (h : tt_R s t) {PL : Nat} (hPL : PL ≤ 7) (n : Int32) : tt_S (tt_verify (nI PL) s n) (mm_verify (nI PL) t n) := by
  obtain ⟨⟨h1, h2⟩, h3⟩ := tt_try_sim h hPL n
  unfold tt_verify mm_verify
  generalize tt_try (nI PL) s (n &&& 65535) = x at h1 h2 h3 ⊢
  generalize mm_att (nI PL) t n = y at h1 h2 ⊢
  obtain ⟨r, s2⟩ := x
  obtain ⟨r2, t2⟩ := y
  obtain rfl : r = r2 := h1
  obtain ⟨b, g, dn, og, pw, hd, ar, T, K, A, G, p, k, a, c, N, e1, e2, hI, hT, hK, ha, hc, hpw, hhd, hN, har⟩ := h2
  simp only at e1 e2
  subst e1; subst e2
  simp only [mm_or]
  by_cases hr : r = 1
  · have hp1 : pw = 1 := h3 hr
    rw [if_pos hr]
    refine ⟨rfl, ?_⟩
    rcases hhd with rfl | rfl
    · rw [if_pos rfl, if_pos hr]
      exact tt_R.mk hI hT hK ha hc (Or.inr hp1) (Or.inr rfl) hN har
    · rw [if_neg tt_n10]
      exact tt_R.mk hI hT hK ha hc (Or.inr hp1) (Or.inr rfl) hN har
  · rw [if_neg hr]
    refine ⟨rfl, ?_⟩
    rcases hhd with rfl | rfl
    · rw [if_pos rfl, if_neg hr]
      exact tt_R.mk hI hT hK ha hc hpw (Or.inl rfl) hN har
    · rw [if_neg tt_n10]
      exact tt_R.mk hI hT hK ha hc hpw (Or.inr rfl) hN har
theorem tt_change_sim {s : tt_X} {t : tt_M} (h : tt_R s t) {PL : Nat} (hPL : PL ≤ 7) (n x : Int32) : tt_S (tt_change (nI PL) s n x) (mm_change (nI PL) t n x) := by
  obtain ⟨⟨h1, h2⟩, h3⟩ := tt_try_sim h hPL n
  unfold tt_change mm_change
  generalize tt_try (nI PL) s (n &&& 65535) = x1 at h1 h2 h3 ⊢
  generalize mm_att (nI PL) t n = y1 at h1 h2 ⊢
  obtain ⟨r, s2⟩ := x1
  obtain ⟨r2, t2⟩ := y1
  obtain rfl : r = r2 := h1
  obtain ⟨b, g, dn, og, pw, hd, ar, T, K, A, G, p, k, a, c, N, e1, e2, hI, hT, hK, ha, hc, hpw, hhd, hN, har⟩ := h2
  simp only at e1 e2
  subst e1; subst e2
  obtain ⟨j, hj, ej⟩ := tt_16 x
  simp only
  by_cases hr : r = 1
  · have hp1 : pw = 1 := h3 hr
    rw [if_pos hr, if_pos hr, ej, tt_I_uu hI]
    obtain ⟨b', g', dn', T', hT', ⟨og', hI', ex, ey⟩ | ⟨q, pw', hd', hI', hq, ex, ey⟩⟩ := tt_turn_sim (p' := j) (a' := 0) (c' := c) (g := g) (dn := dn) (pw := pw) (hd := hd) (ar := ar) hI hT hK hj (by omega) (by omega)
    · rw [show tt_turn (b, g, dn, nI T, nI K) (nI j) 0 (nI c) = _ from ex, show mm_turn (nI A, nI G, nI p, nI a, nI c, nI (10 - k), og, pw, hd, nI T, nI K, ar, dn, g 0, g 1) (nI j) 0 (nI c) = _ from ey]
      simp only [mm_or, reduceIte]
      rw [if_neg (show ¬ (-3 : Int32) = 1 by decide)]
      exact ⟨rfl, tt_R.mk hI' hT' hK ha hc (Or.inl ⟨rfl, rfl⟩) (Or.inl rfl) hN har⟩
    · rw [show tt_turn (b, g, dn, nI T, nI K) (nI j) 0 (nI c) = _ from ex, show mm_turn (nI A, nI G, nI p, nI a, nI c, nI (10 - k), og, pw, hd, nI T, nI K, ar, dn, g 0, g 1) (nI j) 0 (nI c) = _ from ey]
      rcases hq with ⟨rfl, rfl, rfl⟩ | ⟨rfl, rfl, rfl⟩
      · simp only [mm_or]
        rw [if_neg tt_n10, if_neg tt_n10]
        refine ⟨hr.symm, ?_⟩
        rcases hhd with rfl | rfl
        · rw [if_pos rfl, if_pos hr]
          exact tt_R.mk (a := 0) (k := 0) hI' hT' hK (by omega) hc (Or.inr hp1) (Or.inr rfl) hN har
        · rw [if_neg tt_n10]
          exact tt_R.mk (a := 0) (k := 0) hI' hT' hK (by omega) hc (Or.inr hp1) (Or.inr rfl) hN har
      · simp only [mm_or, reduceIte]
        rw [if_neg (show ¬ (-3 : Int32) = 1 by decide)]
        exact ⟨rfl, tt_R.mk (a := 0) (k := 0) hI' hT' hK (by omega) hc (Or.inl ⟨rfl, rfl⟩) (Or.inl rfl) hN har⟩
  · rw [if_neg hr, if_neg hr]
    refine ⟨rfl, ?_⟩
    simp only [mm_or]
    rcases hhd with rfl | rfl
    · rw [if_pos rfl, if_neg hr]
      exact tt_R.mk hI hT hK ha hc hpw (Or.inl rfl) hN har
    · rw [if_neg tt_n10]
      exact tt_R.mk hI hT hK ha hc hpw (Or.inr rfl) hN har
theorem tt_unblock_sim {s : tt_X} {t : tt_M} (h : tt_R s t) {UL : Nat} (hUL : UL ≤ 7) (pk n x : Int32) : tt_S (tt_unblock pk (nI UL) s n x) (mm_unblock pk (nI UL) t n x) := by
  obtain ⟨b, g, dn, og, pw, hd, ar, T, K, A, G, p, k, a, c, N, rfl, rfl, hI, hT, hK, ha, hc, hpw, hhd, hN, har⟩ := h
  unfold tt_unblock mm_unblock
  simp only
  rcases hpw with ⟨rfl, rfl⟩ | rfl
  · rw [if_pos rfl, if_pos rfl]
    exact ⟨rfl, tt_R.mk hI hT hK ha hc (Or.inl ⟨rfl, rfl⟩) hhd hN har⟩
  · rw [if_neg tt_n10, if_neg tt_n10, tt_I_uu hI]
    by_cases hl : nI c < nI UL
    · rw [if_pos hl, if_pos hl]
      have hcl : c < UL := (nI_ltI (by omega) (by omega)).mp hl
      obtain ⟨b', g', dn', T', A', G', k', a', c', og', hT', hI', ha', hc', ⟨ex, ey⟩ | ⟨k0, rfl, hk0, rfl, hv, ex, ey⟩⟩ := tt_mark_sim_1 (g := g) (dn := dn) (pw := 1) (hd := 0) (ar := ar) hI hT hK (by omega) (by omega)
      · rw [ex, ey]
        simp only [reduceIte]
        exact ⟨rfl, tt_R.mk hI' hT' hK (by omega) (by omega) (Or.inl ⟨rfl, rfl⟩) (Or.inl rfl) hN har⟩
      · have hne : ¬ nI (6 + k0) = -1 := fun q => absurd (show nI (6 + k0) < 0 by rw [q]; decide) (nI_pos (by omega))
        rw [ex, ey]
        simp only
        rw [if_neg hne, if_neg tt_n10]
        by_cases hp : n = pk
        · obtain ⟨j, hj, ej⟩ := tt_16 x
          rw [if_pos hp, if_pos hp, ej]
          obtain ⟨b2, g2, dn2, T2, hT2, ⟨og2, hI2, ex, ey⟩ | ⟨q, pw', hd', hI2, hq, ex, ey⟩⟩ := tt_turn_sim (p' := j) (a' := 0) (c' := 0) (g := g') (dn := dn') (pw := 1) (hd := 0) (ar := ar) hI' hT' hK hj (by omega) (by omega)
          · rw [show tt_turn (b', g', dn', nI T', nI K) (nI j) 0 0 = _ from ex, show mm_turn _ (nI j) 0 0 = _ from ey]
            simp only [reduceIte]
            exact ⟨rfl, tt_R.mk hI2 hT2 hK (by omega) (by omega) (Or.inl ⟨rfl, rfl⟩) (Or.inl rfl) hN har⟩
          · rw [show tt_turn (b', g', dn', nI T', nI K) (nI j) 0 0 = _ from ex, show mm_turn _ (nI j) 0 0 = _ from ey]
            rcases hq with ⟨rfl, rfl, rfl⟩ | ⟨rfl, rfl, rfl⟩
            · simp only
              rw [if_neg tt_n10, if_neg tt_n10]
              exact ⟨rfl, tt_R.mk (a := 0) (c := 0) (k := 0) hI2 hT2 hK (by omega) (by omega) (Or.inr rfl) (Or.inl rfl) hN har⟩
            · simp only [reduceIte]
              exact ⟨rfl, tt_R.mk (a := 0) (c := 0) (k := 0) hI2 hT2 hK (by omega) (by omega) (Or.inl ⟨rfl, rfl⟩) (Or.inl rfl) hN har⟩
        · rw [if_neg hp, if_neg hp]
          exact ⟨rfl, tt_R.mk hI' hT' hK (by omega) (by omega) (Or.inr rfl) (Or.inl rfl) hN har⟩
    · rw [if_neg hl, if_neg hl]
      exact ⟨rfl, tt_R.mk hI hT hK ha hc (Or.inr rfl) hhd hN har⟩
theorem tt_arm_sim {s : tt_X} {t : tt_M} (h : tt_R s t) (n m : Int32) : tt_S (tt_arm s n m) (mm_arm t n m) := by
  have h0 := h
  obtain ⟨b, g, dn, og, pw, hd, ar, T, K, A, G, p, k, a, c, N, rfl, rfl, hI, hT, hK, ha, hc, hpw, hhd, hN, har⟩ := h
  unfold tt_arm mm_arm
  simp only [tt_setT]
  by_cases c1 : n < 0
  · rw [if_pos c1, if_pos c1]; exact ⟨rfl, h0⟩
  rw [if_neg c1, if_neg c1]
  by_cases c2 : 30 < n
  · rw [if_pos c2, if_pos c2]; exact ⟨rfl, h0⟩
  rw [if_neg c2, if_neg c2]
  by_cases c3 : m < 0
  · rw [if_pos c3, if_pos c3]; exact ⟨rfl, h0⟩
  rw [if_neg c3, if_neg c3]
  by_cases c4 : 255 < m
  · rw [if_neg (Int32.not_le.mpr c4), if_pos c4]; exact ⟨rfl, h0⟩
  rw [if_pos (Int32.not_lt.mp c4), if_neg c4]
  obtain ⟨T2, hT2, rfl⟩ := nI_of2 (M := 30) (n := 30) (by decide) c1 (Int32.not_lt.mp c2)
  obtain ⟨K2, hK2, rfl⟩ := nI_of2 (M := 255) (n := 255) (by decide) c3 (Int32.not_lt.mp c4)
  rcases Nat.eq_zero_or_pos T2 with rfl | hpos
  · rw [if_pos (by decide), if_pos (by decide)]
    exact ⟨rfl, tt_R.mk hI (by omega) (by omega) ha hc hpw hhd hN har⟩
  · rw [if_neg (nI_nle hpos (by omega)), if_neg (nI_ne0 hpos (by omega))]
    subst har
    by_cases c5 : N = 40
    · subst c5
      rw [if_neg (by decide), if_pos (by decide)]
      exact ⟨rfl, h0⟩
    · rw [if_pos (show nI N < 40 from nI_lt (a := N) (b := 40) (by omega) (by decide)), if_neg (show ¬ nI N = 40 from fun q => c5 ((nI_eq (a := N) (b := 40) (by omega) (by decide)).mp q))]
      exact ⟨rfl, tt_R.mk (N := N + 1) hI (by omega) (by omega) ha hc hpw hhd (by omega) (nI_1 N)⟩
theorem tt_cut_sim {s : tt_X} {t : tt_M} (h : tt_R s t) : tt_S (tt_cut s) (mm_cut t) := by
  obtain ⟨b, g, dn, og, pw, hd, ar, T, K, A, G, p, k, a, c, N, rfl, rfl, hI, hT, hK, ha, hc, hpw, hhd, hN, har⟩ := h
  unfold tt_cut mm_cut
  simp only
  rcases hpw with ⟨rfl, rfl⟩ | rfl
  · rw [if_pos rfl]
    exact ⟨rfl, tt_R.mk hI hT hK ha hc (Or.inl ⟨rfl, rfl⟩) (Or.inl rfl) hN har⟩
  · rw [if_neg tt_n10]
    exact ⟨rfl, tt_R.mk hI hT hK ha hc (Or.inl ⟨rfl, rfl⟩) (Or.inl rfl) hN har⟩
theorem tt_start_sim {s : tt_X} {t : tt_M} (h : tt_R s t) : tt_S (tt_start s) (mm_start t) := by
  obtain ⟨b, g, dn, og, pw, hd, ar, T, K, A, G, p, k, a, c, N, rfl, rfl, hI, hT, hK, ha, hc, hpw, hhd, hN, har⟩ := h
  unfold tt_start mm_start
  simp only
  rcases hpw with ⟨rfl, rfl⟩ | rfl
  · rw [if_pos rfl, if_pos rfl]
    exact ⟨rfl, tt_R.mk hI hT hK ha hc (Or.inr rfl) hhd hN har⟩
  · rw [if_neg tt_n10, if_neg tt_n10]
    exact ⟨rfl, tt_R.mk hI hT hK ha hc (Or.inr rfl) hhd hN har⟩
