/-! bytes: reads and writes at known places, one operation counted, the erase -/
theorem tt_rd_nI (b : Nat → Int32) {A j : Nat} (hA : A < 2) (hj : j < 16) : tt_rd b (nI A) (nI j) = b (16 * A + j) := by
  unfold tt_rd
  rw [tt_pl_nI, if_neg (nI_pos (by omega)), if_neg (show ¬ (32 : Int32) ≤ nI (16 * A + j) from nI_ge (a := 16 * A + j) (b := 32) (by omega) (by decide)), nI_clamp (by omega)]
theorem tt_pr_nI (b : Nat → Int32) {A j : Nat} (hA : A < 2) (hj : j < 16) (v m : Int32) : tt_pr b (nI A) (nI j) v m = upd b (16 * A + j) (b (16 * A + j) &&& (v ||| (m ^^^ (-1)))) := by
  unfold tt_pr
  rw [tt_pl_nI, if_neg (nI_pos (by omega)), if_neg (show ¬ (32 : Int32) ≤ nI (16 * A + j) from nI_ge (a := 16 * A + j) (b := 32) (by omega) (by decide)), nI_clamp (by omega)]
theorem tt_wr_nI (b : Nat → Int32) {A j : Nat} (hA : A < 2) (hj : j < 16) (v : Int32) : tt_wr b (nI A) (nI j) v = upd b (16 * A + j) v := by
  unfold tt_wr
  rw [tt_pl_nI, if_neg (nI_pos (by omega)), if_neg (show ¬ (32 : Int32) ≤ nI (16 * A + j) from nI_ge (a := 16 * A + j) (b := 32) (by omega) (by decide)), nI_clamp (by omega)]
theorem tt_cnt_1 (b g : Nat → Int32) (od tm : Int32) : tt_cnt (b, g, od, nI 1, tm) = (1, (b, g, od + 1, nI 0, tm)) := by
  show (if nI 1 = 0 then ((0 : Int32), (b, g, od + 1, nI 1, tm)) else if nI 1 - 1 = 0 then (1, (b, g, od + 1, nI 1 - 1, tm)) else (0, (b, g, od + 1, nI 1 - 1, tm))) = _
  rw [if_neg (by decide), if_pos (by decide)]
  rfl
theorem tt_cnt_0 (b g : Nat → Int32) (od tm : Int32) {T : Nat} (hT : T ≤ 30) (h1 : ¬ T = 1) : tt_cnt (b, g, od, nI T, tm) = (0, (b, g, od + 1, nI (T - 1), tm)) := by
  show (if nI T = 0 then ((0 : Int32), (b, g, od + 1, nI T, tm)) else if nI T - 1 = 0 then (1, (b, g, od + 1, nI T - 1, tm)) else (0, (b, g, od + 1, nI T - 1, tm))) = _
  rcases Nat.eq_zero_or_pos T with rfl | h
  · rw [if_pos (by decide)]
  · rw [if_neg (nI_ne0 h (by omega)), show nI T - 1 = nI (T - 1) from pk_sub (a := T) (b := 1) h, if_neg (nI_ne0 (n := T - 1) (by omega) (by omega))]
theorem mm_op_1 (ac ag pn pt ut en og pw hd tk ar dn e0 e1 : Int32) : mm_op (ac, ag, pn, pt, ut, en, og, pw, hd, nI 1, tk, ar, dn, e0, e1) = (tk, (ac, ag, pn, pt, ut, en, og, 0, 0, nI 0, tk, ar, dn + 1, e0, e1)) := by
  have e : (if nI 1 ≤ 0 then (0 : Int32) else nI 1 - 1) = nI 0 := by decide
  simp only [mm_op]
  rw [if_pos (show nI 1 = 1 from rfl), e]
theorem mm_op_0 (ac ag pn pt ut en og pw hd tk ar dn e0 e1 : Int32) {T : Nat} (hT : T ≤ 30) (h1 : ¬ T = 1) : mm_op (ac, ag, pn, pt, ut, en, og, pw, hd, nI T, tk, ar, dn, e0, e1) = (-1, (ac, ag, pn, pt, ut, en, og, pw, hd, nI (T - 1), tk, ar, dn + 1, e0, e1)) := by
  have e : (if nI T ≤ 0 then (0 : Int32) else nI T - 1) = nI (T - 1) := by
    rcases Nat.eq_zero_or_pos T with rfl | h
    · decide
    · rw [if_neg (nI_nle h (by omega))]; exact pk_sub (a := T) (b := 1) h
  simp only [mm_op]
  rw [if_neg (show ¬ nI T = 1 from fun q => h1 ((nI_eq (a := T) (b := 1) (by omega) (by omega)).mp q)), e]
theorem tt_prog_1 (b g : Nat → Int32) (od tm : Int32) {A j : Nat} (hA : A < 2) (hj : j < 16) (v : Int32) : tt_prog (b, g, od, nI 1, tm) (nI A) (nI j) v = (0, (upd b (16 * A + j) (b (16 * A + j) &&& (v ||| (tm ^^^ (-1)))), g, od + 1, nI 0, tm)) := by
  unfold tt_prog
  rw [tt_cnt_1]
  show ((if (1 : Int32) = 0 then (1 : Int32) else 0), (tt_pr b (nI A) (nI j) v (if (1 : Int32) = 0 then 255 else tm), g, od + 1, nI 0, tm)) = _
  rw [if_neg (by decide), if_neg (by decide), tt_pr_nI b hA hj]
theorem tt_prog_0 (b g : Nat → Int32) (od tm : Int32) {T A j : Nat} (hT : T ≤ 30) (h1 : ¬ T = 1) (hA : A < 2) (hj : j < 16) (v : Int32) : tt_prog (b, g, od, nI T, tm) (nI A) (nI j) v = (1, (upd b (16 * A + j) (b (16 * A + j) &&& (v ||| (255 ^^^ (-1)))), g, od + 1, nI (T - 1), tm)) := by
  unfold tt_prog
  rw [tt_cnt_0 b g od tm hT h1]
  show ((if (0 : Int32) = 0 then (1 : Int32) else 0), (tt_pr b (nI A) (nI j) v (if (0 : Int32) = 0 then 255 else tm), g, od + 1, nI (T - 1), tm)) = _
  rw [if_pos rfl, if_pos rfl, tt_pr_nI b hA hj]
theorem tt_er_s (b : Nat → Int32) {A n : Nat} (hA : A < 2) (hn : n < 16) (m : Int32) (q : Nat) : tt_er b (nI A) m (n + 1) q = if ((m >>> ((nI n &&& 7) &&& 31)) &&& 1 = 1) ∧ q = 16 * A + n then 255 else tt_er b (nI A) m n q := by
  show tt_er1 (tt_er b (nI A) m n) (nI A) m n q = _
  unfold tt_er1
  by_cases hc : (m >>> ((nI n &&& 7) &&& 31)) &&& 1 = 1
  · rw [if_pos hc, tt_pl_nI, nI_clamp (by omega)]
    by_cases hq : q = 16 * A + n
    · rw [if_pos ⟨hc, hq⟩, hq]; exact pk_us
    · rw [if_neg (fun h => hq h.2)]; exact pk_un hq
  · rw [if_neg hc, if_neg (fun h => hc h.1)]
theorem tt_er_any (b : Nat → Int32) {A : Nat} (hA : A < 2) (m : Int32) : ∀ (n : Nat), n ≤ 16 → ∀ q : Nat, tt_er b (nI A) m n q = b q ∨ (tt_er b (nI A) m n q = 255 ∧ 16 * A ≤ q ∧ q < 16 * A + n) := by
  intro n
  induction n with
  | zero => intro _ q; exact Or.inl rfl
  | succ n ih =>
    intro hn q
    rw [tt_er_s b hA (by omega) m q]
    by_cases h : ((m >>> ((nI n &&& 7) &&& 31)) &&& 1 = 1) ∧ q = 16 * A + n
    · rw [if_pos h]
      exact Or.inr ⟨rfl, by omega, by omega⟩
    · rw [if_neg h]
      rcases ih (by omega) q with h | ⟨h1, h2, h3⟩
      · exact Or.inl h
      · exact Or.inr ⟨h1, h2, by omega⟩
theorem tt_er_bits : ∀ n, n < 16 → ((255 : Int32) >>> ((nI n &&& 7) &&& 31)) &&& 1 = 1 := by decide +kernel
theorem tt_er_in (b : Nat → Int32) {A : Nat} (hA : A < 2) : ∀ (n : Nat), n ≤ 16 → ∀ q : Nat, 16 * A ≤ q → q < 16 * A + n → tt_er b (nI A) 255 n q = 255 := by
  intro n
  induction n with
  | zero => intro _ q h1 h2; omega
  | succ n ih =>
    intro hn q h1 h2
    rw [tt_er_s b hA (by omega) 255 q]
    by_cases hq : q = 16 * A + n
    · rw [if_pos ⟨tt_er_bits n (by omega), hq⟩]
    · rw [if_neg (fun h => hq h.2)]; exact ih (by omega) q h1 (by omega)
theorem tt_er_out (b : Nat → Int32) {A : Nat} (hA : A < 2) (m : Int32) {q : Nat} (hq : q < 16 * A ∨ 16 * A + 16 ≤ q) : tt_er b (nI A) m 16 q = b q := by
  rcases tt_er_any b hA m 16 (Nat.le_refl _) q with h | ⟨_, h2, h3⟩
  · exact h
  · omega
theorem tt_ip_nI {A : Nat} (hA : A < 2) : tt_ip (nI A) = 1 := by
  unfold tt_ip
  rw [if_neg (nI_pos (by omega)), if_neg (show ¬ (2 : Int32) ≤ nI A from nI_ge (a := A) (b := 2) hA (by decide))]
theorem tt_erase_1 (b g : Nat → Int32) (od tm : Int32) {A : Nat} (hA : A < 2) : tt_erase (b, g, od, nI 1, tm) (nI A) = (0, (tt_er b (nI A) tm 16, upd g A (g A + 1), od + 1, nI 0, tm)) := by
  unfold tt_erase
  rw [tt_cnt_1]
  show (if tt_ip (nI A) = 0 then _ else ((if (1 : Int32) = 0 then (1 : Int32) else 0), (tt_er b (nI A) (if (1 : Int32) = 0 then 255 else tm) 16, upd g (nI A).toNatClampNeg (g (nI A).toNatClampNeg + 1), od + 1, nI 0, tm))) = _
  rw [tt_ip_nI hA, if_neg (by decide), if_neg (by decide), if_neg (by decide), nI_clamp (by omega)]
theorem tt_erase_0 (b g : Nat → Int32) (od tm : Int32) {T A : Nat} (hT : T ≤ 30) (h1 : ¬ T = 1) (hA : A < 2) : tt_erase (b, g, od, nI T, tm) (nI A) = (1, (tt_er b (nI A) 255 16, upd g A (g A + 1), od + 1, nI (T - 1), tm)) := by
  unfold tt_erase
  rw [tt_cnt_0 b g od tm hT h1]
  show (if tt_ip (nI A) = 0 then _ else ((if (0 : Int32) = 0 then (1 : Int32) else 0), (tt_er b (nI A) (if (0 : Int32) = 0 then 255 else tm) 16, upd g (nI A).toNatClampNeg (g (nI A).toNatClampNeg + 1), od + 1, nI (T - 1), tm))) = _
  rw [tt_ip_nI hA, if_neg (by decide), if_pos rfl, if_pos rfl, nI_clamp (by omega)]
