/-! the turn of a page, beside the reference's -/
theorem tt_k90 : ∀ K, K < 256 → (((90 : Int32) &&& (0 ||| (nI K ^^^ (-1))) = 90) ↔ (nI K &&& 90 = 0)) := by decide +kernel
theorem tt_k165 : ∀ K, K < 256 → (((255 : Int32) &&& (90 ||| (nI K ^^^ (-1))) = 90) ↔ (nI K &&& 165 = 165)) := by decide +kernel
theorem tt_w8 : ∀ v, v < 256 → (255 : Int32) &&& (nI v ||| (255 ^^^ (-1))) = nI v := by decide +kernel
theorem tt_seq_0 {S : Type} (s : S) (k : S → Int32 × S) : tt_seq (0, s) k = (0, s) := if_pos rfl
theorem tt_seq_1 {S : Type} (s : S) (k : S → Int32 × S) : tt_seq (1, s) k = k s := if_neg (show ¬ (1 : Int32) = 0 by decide)
theorem mm_lp_1 (n : Nat) (ac ag pn pt ut en og pw hd ar dn e0 e1 : Int32) {K : Nat} (hK : K < 256) : mm_lp (n + 1) (ac, ag, pn, pt, ut, en, og, pw, hd, nI 1, nI K, ar, dn, e0, e1) = (0, (ac, ag, pn, pt, ut, en, og, 0, 0, nI 0, nI K, ar, dn + 1, e0, e1)) := by
  simp only [mm_lp, mm_op_1]
  rw [if_neg (nI_pos (by omega))]
theorem mm_lp_0 (n : Nat) (ac ag pn pt ut en og pw hd tk ar dn e0 e1 : Int32) {T : Nat} (hT : T ≤ 30) (h1 : ¬ T = 1) : mm_lp (n + 1) (ac, ag, pn, pt, ut, en, og, pw, hd, nI T, tk, ar, dn, e0, e1) = mm_lp n (ac, ag, pn, pt, ut, en, og, pw, hd, nI (T - 1), tk, ar, dn + 1, e0, e1) := by
  have e := mm_op_0 ac ag pn pt ut en og pw hd tk ar dn e0 e1 hT h1
  simp only [mm_lp, e]
  rw [if_pos (by decide)]
/-- how a turn may end: the old page stays and the power is lost, or the new page is active (with or without power) -/
def tt_Rel (A G p k a c p' a' c' K : Nat) (pw hd ar : Int32) (x : Int32 × tt_F) (y : Int32 × tt_M) : Prop :=
  ∃ (b' g' : Nat → Int32) (dn' : Int32) (T' : Nat), T' ≤ 30 ∧
   ((∃ og' : Int32, tt_I b' A G p k (nI a) (nI c) og' ∧ x = (0, (b', g', dn', nI T', nI K)) ∧ y = (0, (nI A, nI G, nI p, nI a, nI c, nI (10 - k), og', 0, 0, nI T', nI K, ar, dn', g' 0, g' 1))) ∨
    (∃ r pw' hd' : Int32, tt_I b' (1 - A) ((G + 1) % 256) p' 0 (nI a') (nI c') 1 ∧ ((r = 1 ∧ pw' = pw ∧ hd' = hd) ∨ (r = 0 ∧ pw' = 0 ∧ hd' = 0)) ∧ x = (r, (b', g', dn', nI T', nI K)) ∧ y = (r, (nI (1 - A), nI ((G + 1) % 256), nI p', nI a', nI c', nI 10, 1, pw', hd', nI T', nI K, ar, dn', g' 0, g' 1))))
theorem tt_stop {A G p k a c p' a' c' K T : Nat} {pw hd ar dn og : Int32} {b g : Nat → Int32} (h : tt_I b A G p k (nI a) (nI c) og) (hT : T ≤ 30) : tt_Rel A G p k a c p' a' c' K pw hd ar (0, (b, g, dn, nI T, nI K)) (0, (nI A, nI G, nI p, nI a, nI c, nI (10 - k), og, 0, 0, nI T, nI K, ar, dn, g 0, g 1)) :=
  ⟨b, g, dn, T, hT, Or.inl ⟨og, h, rfl, rfl⟩⟩
theorem tt_I_lt {b : Nat → Int32} {A G p k : Nat} {pt ut og : Int32} (h : tt_I b A G p k pt ut og) : A < 2 := h.1
theorem tt_I_upd {b : Nat → Int32} {A G p k j : Nat} {pt ut : Int32} (h : tt_I b A G p k pt ut 0) (hj0 : 0 < j) (hj : j < 16) (w : Int32) : tt_I (upd b (16 * (1 - A) + j) w) A G p k pt ut 0 := by
  have hA := h.1
  refine tt_I_oth h (fun q h1 h2 => pk_un (by omega)) ?_
  rw [pk_un (by omega)]
  rcases tt_I_og h with ⟨q, -⟩ | ⟨-, q⟩
  · exact absurd q (by decide)
  · exact q
theorem tt_step {A G p k a c p' a' c' K T n j : Nat} {pw hd ar dn : Int32} {b g : Nat → Int32} {kF : tt_F → Int32 × tt_F} {kM : tt_M → Int32 × tt_M} (h : tt_I b A G p k (nI a) (nI c) 0) (hT : T ≤ 30) (hK : K < 256) (hj0 : 0 < j) (hj : j < 16) (v : Int32)
    (go : ∀ b2, b2 = upd b (16 * (1 - A) + j) (b (16 * (1 - A) + j) &&& (v ||| (255 ^^^ (-1)))) → tt_I b2 A G p k (nI a) (nI c) 0 → tt_Rel A G p k a c p' a' c' K pw hd ar (kF (b2, g, dn + 1, nI (T - 1), nI K)) (tt_seq (mm_lp n (nI A, nI G, nI p, nI a, nI c, nI (10 - k), 0, pw, hd, nI (T - 1), nI K, ar, dn + 1, g 0, g 1)) kM)) :
    tt_Rel A G p k a c p' a' c' K pw hd ar (tt_seq (tt_prog (b, g, dn, nI T, nI K) (nI (1 - A)) (nI j) v) kF) (tt_seq (mm_lp (n + 1) (nI A, nI G, nI p, nI a, nI c, nI (10 - k), 0, pw, hd, nI T, nI K, ar, dn, g 0, g 1)) kM) := by
  by_cases h1 : T = 1
  · subst h1
    rw [tt_prog_1 b g dn (nI K) (by omega) hj v, mm_lp_1 n _ _ _ _ _ _ _ _ _ _ _ _ _ hK, tt_seq_0, tt_seq_0]
    exact tt_stop (tt_I_upd h hj0 hj _) (by omega)
  · rw [tt_prog_0 b g dn (nI K) hT h1 (by omega) hj v, mm_lp_0 n _ _ _ _ _ _ _ _ _ _ _ _ _ _ hT h1, tt_seq_1]
    exact go _ rfl (tt_I_upd h hj0 hj _)
def tt_C (b : Nat → Int32) (O n : Nat) (w : Nat → Nat) : Prop := ∀ q, q < 16 → b (16 * O + q) = if 1 ≤ q ∧ q ≤ n then nI (w q) else 255
theorem tt_C_s {b : Nat → Int32} {O n : Nat} {w : Nat → Nat} (h : tt_C b O n w) (hn : n + 1 < 16) (hw : w (n + 1) < 256) : tt_C (upd b (16 * O + (n + 1)) (b (16 * O + (n + 1)) &&& (nI (w (n + 1)) ||| (255 ^^^ (-1))))) O (n + 1) w := by
  intro q hq
  by_cases h1 : q = n + 1
  · subst h1
    rw [pk_us, h (n + 1) hq, if_neg (by omega), if_pos (by omega)]
    exact tt_w8 _ hw
  · rw [pk_un (by omega), h q hq]
    by_cases h2 : 1 ≤ q ∧ q ≤ n
    · rw [if_pos h2, if_pos (by omega)]
    · rw [if_neg h2, if_neg (by omega)]
/-- the new page, once its first byte is written -/
theorem tt_I_new {b : Nat → Int32} {A G p k : Nat} {pt ut og : Int32} {p' a' c' : Nat} (h : tt_I b A G p k pt ut og) (hp : p' < 65536) {w : Nat → Nat} (hw1 : w 1 = (G + 1) % 256) (hw2 : w 2 = p' / 256) (hw3 : w 3 = p' % 256) (hw4 : w 4 = a') (hw5 : w 5 = c') (hC : tt_C b (1 - A) 5 w) :
    tt_I (upd b (16 * (1 - A)) 90) (1 - A) ((G + 1) % 256) p' 0 (nI a') (nI c') 1 := by
  obtain ⟨hA, hG, hp0, hk, b0, b1, b2, b3, hn, hb, hpt, hut, ho⟩ := h
  have at' : ∀ q, 0 < q → q < 16 → upd b (16 * (1 - A)) 90 (16 * (1 - A) + q) = if 1 ≤ q ∧ q ≤ 5 then nI (w q) else 255 := fun q h0 hq => by
    rw [pk_un (by omega)]; exact hC q hq
  refine ⟨by omega, by omega, hp, by omega, pk_us, ?_, ?_, ?_, fun j hj => absurd hj (Nat.not_lt_zero _), fun j _ hj => ?_, ?_, ?_, Or.inl ⟨rfl, ?_, ?_⟩⟩
  · rw [at' 1 (by omega) (by omega), if_pos (by omega), hw1]
  · rw [at' 2 (by omega) (by omega), if_pos (by omega), hw2]
  · rw [at' 3 (by omega) (by omega), if_pos (by omega), hw3]
  · rw [at' (6 + j) (by omega) (by omega), if_neg (by omega)]
  · show upd b (16 * (1 - A)) 90 (16 * (1 - A) + 4) = nI a'
    rw [at' 4 (by omega) (by omega), if_pos (by omega), hw4]
  · show upd b (16 * (1 - A)) 90 (16 * (1 - A) + 5) = nI c'
    rw [at' 5 (by omega) (by omega), if_pos (by omega), hw5]
  · rw [show 1 - (1 - A) = A by omega, pk_un (by omega)]; exact b0
  · rw [show 1 - (1 - A) = A by omega, pk_un (by omega), tt_g4 G hG]; exact b1
theorem tt_upd_I (b : Nat → Int32) (k : Nat) (x y : Int32) (h : x = y) : upd b k x = upd b k y := by rw [h]
theorem tt_all_t {m k : Int32} (h : m &&& k = k) : mm_all m k = 1 := by
  unfold mm_all
  by_cases q : m < 0
  · rw [if_pos q]
  · rw [if_neg q, if_pos h]
theorem tt_all_f {K : Nat} {k : Int32} (hK : K < 256) (h : ¬ nI K &&& k = k) : mm_all (nI K) k = 0 := by
  unfold mm_all
  rw [if_neg (nI_pos (by omega)), if_neg h]
theorem tt_age {G : Nat} (hG : G < 256) : (nI G + 1) - (nI G + 1) / 256 * 256 = nI ((G + 1) % 256) := by
  rw [nI_1]
  exact pk_rem (a := G + 1) (d := 256) (by omega) (by omega) (by omega)
/-- the last step: byte 0 of the fresh page -/
theorem tt_last {A G p k a c p' a' c' K T : Nat} {pw hd ar dn : Int32} {b g : Nat → Int32} (h : tt_I b A G p k (nI a) (nI c) 0) (hT : T ≤ 30) (hK : K < 256) (hp : p' < 65536) {w : Nat → Nat} (hw1 : w 1 = (G + 1) % 256) (hw2 : w 2 = p' / 256) (hw3 : w 3 = p' % 256) (hw4 : w 4 = a') (hw5 : w 5 = c') (hC : tt_C b (1 - A) 5 w) :
    tt_Rel A G p k a c p' a' c' K pw hd ar (tt_seq (tt_prog (b, g, dn, nI T, nI K) (nI (1 - A)) 0 90) fun s => (1, s)) (mm_t9 (nI A, nI G, nI p, nI a, nI c, nI (10 - k), 0, pw, hd, nI T, nI K, ar, dn, g 0, g 1) (nI p') (nI a') (nI c')) := by
  have hA := h.1
  have hG := h.2.1
  have e1 : (1 : Int32) - nI A = nI (1 - A) := pk_sub (a := 1) (b := A) (by omega)
  have hb0 : b (16 * (1 - A)) = 255 := by have q := hC 0 (by omega); rw [if_neg (by omega)] at q; exact q
  by_cases h1 : T = 1
  · subst h1
    have ep := tt_prog_1 b g dn (nI K) (A := 1 - A) (j := 0) (by omega) (by decide) 90
    rw [show tt_prog (b, g, dn, nI 1, nI K) (nI (1 - A)) 0 90 = _ from ep, tt_seq_0]
    simp only [mm_t9, mm_op_1]
    rw [if_pos (nI_pos' (by omega)), Nat.add_zero, hb0]
    by_cases hm : nI K &&& 165 = 165
    · rw [tt_all_t hm, if_neg (by decide), e1, tt_age hG, (tt_k165 K hK).mpr hm]
      exact ⟨_, g, dn + 1, 0, by omega, Or.inr ⟨0, 0, 0, tt_I_new h hp hw1 hw2 hw3 hw4 hw5 hC, Or.inr ⟨rfl, rfl, rfl⟩, rfl, rfl⟩⟩
    · rw [tt_all_f hK hm, if_pos rfl]
      refine tt_stop (tt_I_oth h (fun q h1 h2 => pk_un (by omega)) ?_) (by omega)
      rw [pk_us]
      exact fun q => hm ((tt_k165 K hK).mp q)
  · have ep := tt_prog_0 b g dn (nI K) (A := 1 - A) (j := 0) hT h1 (by omega) (by decide) 90
    have eo := mm_op_0 (nI A) (nI G) (nI p) (nI a) (nI c) (nI (10 - k)) 0 pw hd (nI K) ar dn (g 0) (g 1) hT h1
    rw [show tt_prog (b, g, dn, nI T, nI K) (nI (1 - A)) 0 90 = _ from ep, tt_seq_1]
    simp only [mm_t9, eo]
    rw [if_neg (by decide), Nat.add_zero, hb0, show mm_all (-1) 165 = 1 by decide, if_neg (by decide), e1, tt_age hG, show (255 : Int32) &&& (90 ||| (255 ^^^ (-1))) = 90 by decide]
    exact ⟨_, g, dn + 1, T - 1, by omega, Or.inr ⟨1, pw, hd, tt_I_new h hp hw1 hw2 hw3 hw4 hw5 hC, Or.inl ⟨rfl, rfl, rfl⟩, rfl, rfl⟩⟩
theorem tt_er_page {A A2 : Nat} {x1 x2 x3 x4 x5 x6 x7 x8 x9 x10 x11 x12 : Int32} (hA : A < 2) (hA2 : A2 = 1 - A) (g : Nat → Int32) : mm_er (nI A, x1, x2, x3, x4, x5, x6, x7, x8, x9, x10, x11, x12, g 0, g 1) = (nI A, x1, x2, x3, x4, x5, x6, x7, x8, x9, x10, x11, x12, (upd g A2 (g A2 + 1)) 0, (upd g A2 (g A2 + 1)) 1) := by
  subst hA2
  simp only [mm_er]
  rcases (show A = 0 ∨ A = 1 by omega) with rfl | rfl
  · rw [if_pos (by decide)]
    rfl
  · rw [if_neg (by decide)]
    rfl
/-- from the erase on, the other page not good -/
theorem tt_mid {A G p k a c p' a' c' K T : Nat} {pw hd ar dn : Int32} {b g : Nat → Int32} (h : tt_I b A G p k (nI a) (nI c) 0) (hT : T ≤ 30) (hK : K < 256) (hp : p' < 65536) (ha : a' < 256) (hc : c' < 256) :
    tt_Rel A G p k a c p' a' c' K pw hd ar (tt_seq (tt_erase (b, g, dn, nI T, nI K) (nI (1 - A))) fun s2 => tt_seq (tt_prog s2 (nI (1 - A)) 1 (tt_ga s2.1 (nI A))) fun s3 =>
      tt_seq (tt_prog s3 (nI (1 - A)) 2 (nI p' >>> ((8 : Int32) &&& 31))) fun s4 => tt_seq (tt_prog s4 (nI (1 - A)) 3 (nI p' &&& 255)) fun s5 => tt_seq (tt_prog s5 (nI (1 - A)) 4 (nI a')) fun s6 =>
      tt_seq (tt_prog s6 (nI (1 - A)) 5 (nI c')) fun s7 => tt_seq (tt_prog s7 (nI (1 - A)) 0 90) fun s8 => (1, s8))
      (tt_seq (mm_lp (5 + 1) (mm_er (nI A, nI G, nI p, nI a, nI c, nI (10 - k), 0, pw, hd, nI T, nI K, ar, dn, g 0, g 1))) fun s2 => mm_t9 s2 (nI p') (nI a') (nI c')) := by
  have hA := h.1
  have hG := h.2.1
  rw [tt_er_page hA rfl g]
  by_cases h1 : T = 1
  · subst h1
    rw [tt_erase_1 b g dn (nI K) (by omega), mm_lp_1 5 _ _ _ _ _ _ _ _ _ _ _ _ _ hK, tt_seq_0, tt_seq_0]
    refine tt_stop (tt_I_oth h (fun q q1 q2 => tt_er_out b (by omega) _ (by omega)) ?_) (by omega)
    rcases tt_er_any b (A := 1 - A) (by omega) (nI K) 16 (Nat.le_refl _) (16 * (1 - A)) with q | ⟨q, -⟩
    · rw [q]
      rcases tt_I_og h with ⟨z, -⟩ | ⟨-, z⟩
      · exact absurd z (by decide)
      · exact z
    · rw [q]; decide
  · rw [tt_erase_0 b g dn (nI K) hT h1 (by omega), mm_lp_0 5 _ _ _ _ _ _ _ _ _ _ _ _ _ _ hT h1, tt_seq_1]
    have hC0 : tt_C (tt_er b (nI (1 - A)) 255 16) (1 - A) 0 (fun q => if q = 1 then (G + 1) % 256 else if q = 2 then p' / 256 else if q = 3 then p' % 256 else if q = 4 then a' else c') := fun q hq => by
      rw [if_neg (by omega)]; exact tt_er_in b (by omega) 16 (Nat.le_refl _) _ (by omega) (by omega)
    have hI0 : tt_I (tt_er b (nI (1 - A)) 255 16) A G p k (nI a) (nI c) 0 := tt_I_oth h (fun q q1 q2 => tt_er_out b (by omega) _ (by omega)) (by rw [tt_er_in b (by omega) 16 (Nat.le_refl _) _ (by omega) (by omega)]; decide)
    generalize hw : (fun q => if q = 1 then (G + 1) % 256 else if q = 2 then p' / 256 else if q = 3 then p' % 256 else if q = 4 then a' else c') = w at hC0
    have w1 : w 1 = (G + 1) % 256 := by rw [← hw]; rfl
    have w2 : w 2 = p' / 256 := by rw [← hw]; rfl
    have w3 : w 3 = p' % 256 := by rw [← hw]; rfl
    have w4 : w 4 = a' := by rw [← hw]; rfl
    have w5 : w 5 = c' := by rw [← hw]; rfl
    generalize tt_er b (nI (1 - A)) 255 16 = b1 at hC0 hI0 ⊢
    generalize upd g (1 - A) (g (1 - A) + 1) = g1
    have eg : tt_ga b1 (nI A) = nI (w 1) := by rw [tt_ga_nI hA hI0.2.2.2.2.2.1, tt_g3 G hG, w1]
    have es : nI p' >>> ((8 : Int32) &&& 31) = nI (w 2) := by rw [w2]; exact pk_shrN (n := p') (by omega) ((8 : Int32) &&& 31) 8 (by decide)
    have ea : nI p' &&& 255 = nI (w 3) := by rw [w3]; exact pk_andN (n := p') (by omega) 8 (by decide)
    show tt_Rel _ _ _ _ _ _ _ _ _ _ _ _ _ (tt_seq (tt_prog (b1, g1, dn + 1, nI (T - 1), nI K) (nI (1 - A)) (nI 1) (tt_ga b1 (nI A))) _) _
    rw [eg]
    refine tt_step (j := 1) hI0 (by omega) hK (by omega) (by omega) _ (fun b2 hb2 hI2 => ?_)
    have hC2 : tt_C b2 (1 - A) 1 w := by rw [hb2]; exact tt_C_s hC0 (by omega) (by rw [w1]; omega)
    rw [es]
    refine tt_step (j := 2) hI2 (by omega) hK (by omega) (by omega) _ (fun b3 hb3 hI3 => ?_)
    have hC3 : tt_C b3 (1 - A) 2 w := by rw [hb3]; exact tt_C_s hC2 (by omega) (by rw [w2]; omega)
    rw [ea]
    refine tt_step (j := 3) hI3 (by omega) hK (by omega) (by omega) _ (fun b4 hb4 hI4 => ?_)
    have hC4 : tt_C b4 (1 - A) 3 w := by rw [hb4]; exact tt_C_s hC3 (by omega) (by rw [w3]; omega)
    refine tt_step (j := 4) hI4 (by omega) hK (by omega) (by omega) _ (fun b5 hb5 hI5 => ?_)
    have hC5 : tt_C b5 (1 - A) 4 w := by rw [hb5, ← w4]; exact tt_C_s hC4 (by omega) (by rw [w4]; omega)
    refine tt_step (j := 5) hI5 (by omega) hK (by omega) (by omega) _ (fun b6 hb6 hI6 => ?_)
    have hC6 : tt_C b6 (1 - A) 5 w := by rw [hb6, ← w5]; exact tt_C_s hC5 (by omega) (by rw [w5]; omega)
    show tt_Rel _ _ _ _ _ _ _ _ _ _ _ _ _ _ (tt_seq (1, _) _)
    rw [tt_seq_1]
    exact tt_last hI6 (by omega) hK hp w1 w2 w3 w4 w5 hC6
theorem tt_turn_sim {A G p k a c p' a' c' K T : Nat} {pw hd ar dn og : Int32} {b g : Nat → Int32} (h : tt_I b A G p k (nI a) (nI c) og) (hT : T ≤ 30) (hK : K < 256) (hp : p' < 65536) (ha : a' < 256) (hc : c' < 256) :
    tt_Rel A G p k a c p' a' c' K pw hd ar (tt_turn (b, g, dn, nI T, nI K) (nI p') (nI a') (nI c')) (mm_turn (nI A, nI G, nI p, nI a, nI c, nI (10 - k), og, pw, hd, nI T, nI K, ar, dn, g 0, g 1) (nI p') (nI a') (nI c')) := by
  have hA := h.1
  have e1 : (1 : Int32) - nI A = nI (1 - A) := pk_sub (a := 1) (b := A) (by omega)
  unfold tt_turn mm_turn
  simp only
  rw [tt_I_ac h, e1]
  unfold tt_t0 mm_t0
  simp only
  rcases tt_I_og h with ⟨rfl, o0, o1⟩ | ⟨rfl, o0⟩
  · rw [tt_gd_t (A := 1 - A) (by omega) o0, if_neg (by decide), if_neg (by decide)]
    by_cases h1 : T = 1
    · subst h1
      have ep := tt_prog_1 b g dn (nI K) (A := 1 - A) (j := 0) (by omega) (by decide) 0
      rw [show tt_prog (b, g, dn, nI 1, nI K) (nI (1 - A)) 0 0 = _ from ep, mm_op_1]
      simp only [mm_setog]
      rw [if_neg (nI_pos (by omega)), tt_seq_0, tt_seq_0, Nat.add_zero, o0]
      by_cases hm : nI K &&& 90 = 0
      · rw [if_pos hm, (tt_k90 K hK).mpr hm]
        refine tt_stop ?_ (by omega)
        have eu : upd b (16 * (1 - A)) 90 = b := by
          funext q
          by_cases hq : q = 16 * (1 - A)
          · rw [hq, pk_us, o0]
          · exact pk_un hq
        rw [eu]
        exact h
      · rw [if_neg hm]
        refine tt_stop (tt_I_oth h (fun q h1 h2 => pk_un (by omega)) ?_) (by omega)
        rw [pk_us]
        exact fun q => hm ((tt_k90 K hK).mp q)
    · have ep := tt_prog_0 b g dn (nI K) (A := 1 - A) (j := 0) hT h1 (by omega) (by decide) 0
      rw [show tt_prog (b, g, dn, nI T, nI K) (nI (1 - A)) 0 0 = _ from ep, mm_op_0 _ _ _ _ _ _ _ _ _ _ _ _ _ _ hT h1]
      simp only [mm_setog]
      rw [if_pos (by decide), tt_seq_1, tt_seq_1, Nat.add_zero, o0]
      refine tt_mid (tt_I_oth h (fun q h1 h2 => pk_un (by omega)) ?_) (by omega) hK hp ha hc
      rw [pk_us]
      decide
  · rw [tt_gd_f (A := 1 - A) (by omega) o0, if_pos rfl, if_pos rfl, tt_seq_1, tt_seq_1]
    exact tt_mid h hT hK hp ha hc
