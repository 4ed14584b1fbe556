/-! a mark, beside the reference's -/
theorem tt_kv_0 : ∀ K, K < 256 → ((nI K &&& 1 = 1 → (255 : Int32) &&& (254 ||| (nI K ^^^ (-1))) = 254) ∧ (¬ nI K &&& 1 = 1 → (255 : Int32) &&& (254 ||| (nI K ^^^ (-1))) = 255)) := by decide +kernel
theorem tt_kv_1 : ∀ K, K < 256 → ((nI K &&& 16 = 16 → (255 : Int32) &&& (239 ||| (nI K ^^^ (-1))) = 239) ∧ (¬ nI K &&& 16 = 16 → (255 : Int32) &&& (239 ||| (nI K ^^^ (-1))) = 255)) := by decide +kernel
theorem tt_kv_2 : ∀ K, K < 256 → ((nI K &&& 2 = 2 → (254 : Int32) &&& (253 ||| (nI K ^^^ (-1))) = 252) ∧ (¬ nI K &&& 2 = 2 → (254 : Int32) &&& (253 ||| (nI K ^^^ (-1))) = 254)) := by decide +kernel
theorem tt_upd_same {b : Nat → Int32} {k : Nat} {x : Int32} (h : b k = x) : upd b k x = b := by
  funext q
  by_cases hq : q = k
  · rw [hq, pk_us, h]
  · exact pk_un hq
theorem tt_I_add {b : Nat → Int32} {A G p k : Nat} {pt ut og : Int32} (h : tt_I b A G p k pt ut og) (hk : k < 10) {w pt' ut' : Int32} (hw : ¬ w = 255) (hps : tt_ps pt w = pt') (hus : tt_us ut w = ut') : tt_I (upd b (16 * A + (6 + k)) w) A G p (k + 1) pt' ut' og := by
  obtain ⟨hA, hG, hp, hk10, b0, b1, b2, b3, hn, hb, hpt, hut, ho⟩ := h
  refine ⟨hA, hG, hp, hk, ?_, ?_, ?_, ?_, fun j hj => ?_, fun j h1 h2 => ?_, ?_, ?_, ?_⟩
  · rw [pk_un (by omega)]; exact b0
  · rw [pk_un (by omega)]; exact b1
  · rw [pk_un (by omega)]; exact b2
  · rw [pk_un (by omega)]; exact b3
  · by_cases q : j = k
    · subst q; rw [pk_us]; exact hw
    · rw [pk_un (by omega)]; exact hn j (by omega)
  · rw [pk_un (by omega)]; exact hb j (by omega) h2
  · show tt_ps (tt_pf _ _ k) (upd b (16 * A + (6 + k)) w (16 * A + (6 + k))) = pt'
    rw [pk_us, pk_un (by omega), tt_pf_c (e' := fun j => b (16 * A + (6 + j))) k (fun j hj => pk_un (by omega)), hpt]
    exact hps
  · show tt_us (tt_uf _ _ k) (upd b (16 * A + (6 + k)) w (16 * A + (6 + k))) = ut'
    rw [pk_us, pk_un (by omega), tt_uf_c (e' := fun j => b (16 * A + (6 + j))) k (fun j hj => pk_un (by omega)), hut]
    exact hus
  · rcases ho with ⟨o, o0, o1⟩ | ⟨o, o0⟩
    · exact Or.inl ⟨o, by rw [pk_un (by omega)]; exact o0, by rw [pk_un (by omega)]; exact o1⟩
    · exact Or.inr ⟨o, by rw [pk_un (by omega)]; exact o0⟩
theorem tt_I_fix {b : Nat → Int32} {A G p k : Nat} {pt ut og : Int32} (h : tt_I b A G p (k + 1) pt ut og) (hl : b (16 * A + (6 + k)) = 254) : tt_I (upd b (16 * A + (6 + k)) 252) A G p (k + 1) (nI 0) ut og := by
  obtain ⟨hA, hG, hp, hk10, b0, b1, b2, b3, hn, hb, hpt, hut, ho⟩ := h
  refine ⟨hA, hG, hp, hk10, ?_, ?_, ?_, ?_, fun j hj => ?_, fun j h1 h2 => ?_, ?_, ?_, ?_⟩
  · rw [pk_un (by omega)]; exact b0
  · rw [pk_un (by omega)]; exact b1
  · rw [pk_un (by omega)]; exact b2
  · rw [pk_un (by omega)]; exact b3
  · by_cases q : j = k
    · subst q; rw [pk_us]; decide
    · rw [pk_un (by omega)]; exact hn j (by omega)
  · rw [pk_un (by omega)]; exact hb j (by omega) h2
  · show tt_ps (tt_pf _ _ k) (upd b (16 * A + (6 + k)) 252 (16 * A + (6 + k))) = nI 0
    rw [pk_us]
    unfold tt_ps
    rw [if_pos (by decide), if_pos (by decide)]
    rfl
  · have q : tt_us (tt_uf (b (16 * A + 5)) (fun j => b (16 * A + (6 + j))) k) (b (16 * A + (6 + k))) = ut := hut
    rw [hl] at q
    unfold tt_us at q
    rw [if_neg (by decide)] at q
    show tt_us (tt_uf _ _ k) (upd b (16 * A + (6 + k)) 252 (16 * A + (6 + k))) = ut
    rw [pk_us, pk_un (by omega), tt_uf_c (e' := fun j => b (16 * A + (6 + j))) k (fun j hj => pk_un (by omega)), q]
    unfold tt_us
    rw [if_neg (by decide)]
  · rcases ho with ⟨o, o0, o1⟩ | ⟨o, o0⟩
    · exact Or.inl ⟨o, by rw [pk_un (by omega)]; exact o0, by rw [pk_un (by omega)]; exact o1⟩
    · exact Or.inr ⟨o, by rw [pk_un (by omega)]; exact o0⟩
/-- how a mark may end: the power lost, or the entry k0 holds the mark v -/
def tt_MR (v : Int32) (da dc a c p K : Nat) (pw hd ar : Int32) (x : Int32 × tt_F) (y : Int32 × tt_M) : Prop :=
  ∃ (b' g' : Nat → Int32) (dn' : Int32) (T' A' G' k' a' c' : Nat) (og' : Int32), T' ≤ 30 ∧ tt_I b' A' G' p k' (nI a') (nI c') og' ∧ a' ≤ a + da ∧ c' ≤ c + dc ∧
   ((x = (-1, (b', g', dn', nI T', nI K)) ∧ y = (0, (nI A', nI G', nI p, nI a', nI c', nI (10 - k'), og', 0, 0, nI T', nI K, ar, dn', g' 0, g' 1))) ∨
    (∃ k0 : Nat, k' = k0 + 1 ∧ k0 < 10 ∧ a' = a + da ∧ b' (16 * A' + (6 + k0)) = v ∧ x = (nI (6 + k0), (b', g', dn', nI T', nI K)) ∧ y = (1, (nI A', nI G', nI p, nI a', nI c', nI (10 - k'), og', pw, hd, nI T', nI K, ar, dn', g' 0, g' 1))))
theorem tt_m1_sim_0 {A G p k a c K T : Nat} {pw hd ar dn og : Int32} {b g : Nat → Int32} (h : tt_I b A G p k (nI a) (nI c) og) (hk : k < 10) (hT : T ≤ 30) (hK : K < 256) :
    tt_MR 254 1 0 a c p K pw hd ar (tt_m1 (b, g, dn, nI T, nI K) 254) (mm_m1 (nI A, nI G, nI p, nI a, nI c, nI (10 - k), og, pw, hd, nI T, nI K, ar, dn, g 0, g 1) 0) := by
  have hA := h.1
  have hb := h.2.2.2.2.2.2.2.2.2.1 k (Nat.le_refl _) hk
  have hf := (tt_I_fst h).2 hk
  have hne : ¬ nI (6 + k) = -1 := fun q => absurd (show nI (6 + k) < 0 by rw [q]; decide) (nI_pos (by omega))
  have en : nI (10 - k) - 1 = nI (10 - (k + 1)) := by rw [show 10 - (k + 1) = 10 - k - 1 by omega]; exact pk_sub (a := 10 - k) (b := 1) (by omega)
  have hI := tt_I_add h hk (w := 254) (by decide) (pt' := nI (a + 1)) (ut' := nI (c + 0)) (by unfold tt_ps; rw [if_pos (by decide), if_neg (by decide)]; exact nI_1 a) (by unfold tt_us; rw [if_neg (by decide)]; rfl)
  unfold tt_m1
  simp only
  rw [hf, if_neg hne, tt_I_ac h]
  by_cases h1 : T = 1
  · subst h1
    rw [tt_prog_1 b g dn (nI K) hA (j := 6 + k) (by omega) 254]
    simp only [mm_m1, mm_op_1, reduceIte]
    rw [if_pos (nI_pos' (by omega)), hb]
    try simp only [reduceIte, eq_self]
    by_cases hm : nI K &&& 1 = 1
    · rw [tt_all_t hm, (tt_kv_0 K hK).1 hm]
      try simp only [reduceIte, eq_self, show ¬ ((1 : Int32) = 0) by decide]
      rw [en]
      exact ⟨_, g, dn + 1, 0, A, G, k + 1, a + 1, c + 0, og, by omega, hI, by omega, by omega, Or.inl ⟨rfl, by first | rfl | (simp only [nI_1]; done) | (simp only [nI_1]; rfl)⟩⟩
    · rw [tt_all_f hK hm, if_pos rfl, (tt_kv_0 K hK).2 hm]
      refine ⟨_, g, dn + 1, 0, A, G, k, a, c, og, by omega, ?_, by omega, by omega, Or.inl ⟨rfl, rfl⟩⟩
      rw [tt_upd_same hb]
      exact h
  · rw [tt_prog_0 b g dn (nI K) hT h1 hA (j := 6 + k) (by omega) 254]
    have eo := mm_op_0 (nI A) (nI G) (nI p) (nI a) (nI c) (nI (10 - k)) og pw hd (nI K) ar dn (g 0) (g 1) hT h1
    simp only [mm_m1, eo]
    rw [if_neg (by decide), if_neg (by decide), hb, show (255 : Int32) &&& (254 ||| (255 ^^^ (-1))) = 254 by decide]
    try simp only [reduceIte, eq_self]
    rw [show mm_all (-1) 1 = 1 by decide]
    try simp only [reduceIte, eq_self, show ¬ ((1 : Int32) = 0) by decide]
    rw [en]
    exact ⟨_, g, dn + 1, T - 1, A, G, k + 1, a + 1, c + 0, og, by omega, hI, by omega, by omega, Or.inr ⟨k, rfl, by omega, by omega, pk_us, rfl, by first | rfl | (simp only [nI_1]; done) | (simp only [nI_1]; rfl)⟩⟩
theorem tt_mark_sim_0 {A G p k a c K T : Nat} {pw hd ar dn og : Int32} {b g : Nat → Int32} (h : tt_I b A G p k (nI a) (nI c) og) (hT : T ≤ 30) (hK : K < 256) (ha : a < 256) (hc : c < 256) :
    tt_MR 254 1 0 a c p K pw hd ar (tt_mark (b, g, dn, nI T, nI K) 254) (mm_mark (nI A, nI G, nI p, nI a, nI c, nI (10 - k), og, pw, hd, nI T, nI K, ar, dn, g 0, g 1) 0) := by
  have hk10 := h.2.2.2.1
  unfold tt_mark mm_mark
  simp only
  by_cases hk : k = 10
  · rw [(tt_I_fst h).1 hk, if_pos rfl, if_pos (show nI (10 - k) = 0 by rw [hk]; rfl), tt_I_pin h, tt_I_pu h, tt_I_uu h]
    obtain ⟨b', g', dn', T', hT', ⟨og', hI, ex, ey⟩ | ⟨r, pw', hd', hI, hr, ex, ey⟩⟩ := tt_turn_sim (g := g) (dn := dn) (pw := pw) (hd := hd) (ar := ar) h hT hK h.2.2.1 ha hc
    · rw [ex, ey, tt_seq_0]
      simp only [reduceIte]
      exact ⟨b', g', dn', T', A, G, k, a, c, og', hT', hI, by omega, by omega, Or.inl ⟨rfl, rfl⟩⟩
    · rw [ex, ey]
      rcases hr with ⟨rfl, rfl, rfl⟩ | ⟨rfl, rfl, rfl⟩
      · rw [tt_seq_1]
        simp only
        rw [if_neg (by decide)]
        exact tt_m1_sim_0 (k := 0) hI (by decide) hT' hK
      · rw [tt_seq_0]
        simp only [reduceIte]
        exact ⟨b', g', dn', T', 1 - A, (G + 1) % 256, 0, a, c, 1, hT', hI, by omega, by omega, Or.inl ⟨rfl, rfl⟩⟩
  · have hf := (tt_I_fst h).2 (by omega)
    have hne : ¬ nI (6 + k) = -1 := fun q => absurd (show nI (6 + k) < 0 by rw [q]; decide) (nI_pos (by omega))
    rw [hf, if_neg hne, if_neg (nI_ne0 (n := 10 - k) (by omega) (by omega))]
    exact tt_m1_sim_0 h (by omega) hT hK

theorem tt_m1_sim_1 {A G p k a c K T : Nat} {pw hd ar dn og : Int32} {b g : Nat → Int32} (h : tt_I b A G p k (nI a) (nI c) og) (hk : k < 10) (hT : T ≤ 30) (hK : K < 256) :
    tt_MR 239 0 1 a c p K pw hd ar (tt_m1 (b, g, dn, nI T, nI K) 239) (mm_m1 (nI A, nI G, nI p, nI a, nI c, nI (10 - k), og, pw, hd, nI T, nI K, ar, dn, g 0, g 1) 1) := by
  have hA := h.1
  have hb := h.2.2.2.2.2.2.2.2.2.1 k (Nat.le_refl _) hk
  have hf := (tt_I_fst h).2 hk
  have hne : ¬ nI (6 + k) = -1 := fun q => absurd (show nI (6 + k) < 0 by rw [q]; decide) (nI_pos (by omega))
  have en : nI (10 - k) - 1 = nI (10 - (k + 1)) := by rw [show 10 - (k + 1) = 10 - k - 1 by omega]; exact pk_sub (a := 10 - k) (b := 1) (by omega)
  have hI := tt_I_add h hk (w := 239) (by decide) (pt' := nI (a + 0)) (ut' := nI (c + 1)) (by unfold tt_ps; rw [if_neg (by decide)]; rfl) (by unfold tt_us; rw [if_pos (by decide)]; exact nI_1 c)
  unfold tt_m1
  simp only
  rw [hf, if_neg hne, tt_I_ac h]
  by_cases h1 : T = 1
  · subst h1
    rw [tt_prog_1 b g dn (nI K) hA (j := 6 + k) (by omega) 239]
    simp only [mm_m1, mm_op_1, reduceIte]
    rw [if_pos (nI_pos' (by omega)), hb]
    try simp only [reduceIte, eq_self, show ¬ ((1 : Int32) = 0) by decide]
    by_cases hm : nI K &&& 16 = 16
    · rw [tt_all_t hm, (tt_kv_1 K hK).1 hm]
      try simp only [reduceIte, eq_self, show ¬ ((1 : Int32) = 0) by decide]
      rw [en]
      exact ⟨_, g, dn + 1, 0, A, G, k + 1, a + 0, c + 1, og, by omega, hI, by omega, by omega, Or.inl ⟨rfl, by first | rfl | (simp only [nI_1]; done) | (simp only [nI_1]; rfl)⟩⟩
    · rw [tt_all_f hK hm, if_pos rfl, (tt_kv_1 K hK).2 hm]
      refine ⟨_, g, dn + 1, 0, A, G, k, a, c, og, by omega, ?_, by omega, by omega, Or.inl ⟨rfl, rfl⟩⟩
      rw [tt_upd_same hb]
      exact h
  · rw [tt_prog_0 b g dn (nI K) hT h1 hA (j := 6 + k) (by omega) 239]
    have eo := mm_op_0 (nI A) (nI G) (nI p) (nI a) (nI c) (nI (10 - k)) og pw hd (nI K) ar dn (g 0) (g 1) hT h1
    simp only [mm_m1, eo]
    rw [if_neg (by decide), if_neg (by decide), hb, show (255 : Int32) &&& (239 ||| (255 ^^^ (-1))) = 239 by decide]
    try simp only [reduceIte, eq_self, show ¬ ((1 : Int32) = 0) by decide]
    rw [show mm_all (-1) 16 = 1 by decide]
    try simp only [reduceIte, eq_self, show ¬ ((1 : Int32) = 0) by decide]
    rw [en]
    exact ⟨_, g, dn + 1, T - 1, A, G, k + 1, a + 0, c + 1, og, by omega, hI, by omega, by omega, Or.inr ⟨k, rfl, by omega, by omega, pk_us, rfl, by first | rfl | (simp only [nI_1]; done) | (simp only [nI_1]; rfl)⟩⟩
theorem tt_mark_sim_1 {A G p k a c K T : Nat} {pw hd ar dn og : Int32} {b g : Nat → Int32} (h : tt_I b A G p k (nI a) (nI c) og) (hT : T ≤ 30) (hK : K < 256) (ha : a < 256) (hc : c < 256) :
    tt_MR 239 0 1 a c p K pw hd ar (tt_mark (b, g, dn, nI T, nI K) 239) (mm_mark (nI A, nI G, nI p, nI a, nI c, nI (10 - k), og, pw, hd, nI T, nI K, ar, dn, g 0, g 1) 1) := by
  have hk10 := h.2.2.2.1
  unfold tt_mark mm_mark
  simp only
  by_cases hk : k = 10
  · rw [(tt_I_fst h).1 hk, if_pos rfl, if_pos (show nI (10 - k) = 0 by rw [hk]; rfl), tt_I_pin h, tt_I_pu h, tt_I_uu h]
    obtain ⟨b', g', dn', T', hT', ⟨og', hI, ex, ey⟩ | ⟨r, pw', hd', hI, hr, ex, ey⟩⟩ := tt_turn_sim (g := g) (dn := dn) (pw := pw) (hd := hd) (ar := ar) h hT hK h.2.2.1 ha hc
    · rw [ex, ey, tt_seq_0]
      simp only [reduceIte]
      exact ⟨b', g', dn', T', A, G, k, a, c, og', hT', hI, by omega, by omega, Or.inl ⟨rfl, rfl⟩⟩
    · rw [ex, ey]
      rcases hr with ⟨rfl, rfl, rfl⟩ | ⟨rfl, rfl, rfl⟩
      · rw [tt_seq_1]
        simp only
        rw [if_neg (by decide)]
        exact tt_m1_sim_1 (k := 0) hI (by decide) hT' hK
      · rw [tt_seq_0]
        simp only [reduceIte]
        exact ⟨b', g', dn', T', 1 - A, (G + 1) % 256, 0, a, c, 1, hT', hI, by omega, by omega, Or.inl ⟨rfl, rfl⟩⟩
  · have hf := (tt_I_fst h).2 (by omega)
    have hne : ¬ nI (6 + k) = -1 := fun q => absurd (show nI (6 + k) < 0 by rw [q]; decide) (nI_pos (by omega))
    rw [hf, if_neg hne, if_neg (nI_ne0 (n := 10 - k) (by omega) (by omega))]
    exact tt_m1_sim_1 h (by omega) hT hK
