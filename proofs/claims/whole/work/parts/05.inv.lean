/-! the invariant of the two pages: A the active page, G its generation, p its pin, k entries used, pt and ut the tries, og whether the other page is good -/
def tt_I (b : Nat → Int32) (A G p k : Nat) (pt ut og : Int32) : Prop :=
  A < 2 ∧ G < 256 ∧ p < 65536 ∧ k ≤ 10 ∧ b (16 * A) = 90 ∧ b (16 * A + 1) = nI G ∧ b (16 * A + 2) = nI (p / 256) ∧ b (16 * A + 3) = nI (p % 256) ∧
  (∀ j, j < k → ¬ b (16 * A + (6 + j)) = 255) ∧ (∀ j, k ≤ j → j < 10 → b (16 * A + (6 + j)) = 255) ∧
  tt_pf (b (16 * A + 4)) (fun j => b (16 * A + (6 + j))) k = pt ∧ tt_uf (b (16 * A + 5)) (fun j => b (16 * A + (6 + j))) k = ut ∧
  ((og = 1 ∧ b (16 * (1 - A)) = 90 ∧ b (16 * (1 - A) + 1) = nI ((G + 255) % 256)) ∨ (og = 0 ∧ ¬ b (16 * (1 - A)) = 90))
theorem tt_g1 : ∀ G, G < 256 → ¬ nI ((G + 255) % 256) = (nI G + 1) &&& 255 := by decide +kernel
theorem tt_g2 : ∀ G, G < 256 → nI G = (nI ((G + 255) % 256) + 1) &&& 255 := by decide +kernel
theorem tt_g3 : ∀ G, G < 256 → (nI G + 1) &&& 255 = nI ((G + 1) % 256) := by decide +kernel
theorem tt_g4 : ∀ G, G < 256 → ((G + 1) % 256 + 255) % 256 = G := by decide +kernel
theorem tt_gd_t {b : Nat → Int32} {A : Nat} (hA : A < 2) (h : b (16 * A) = 90) : tt_gd b (nI A) = 1 := by
  unfold tt_gd
  rw [if_pos]
  exact (tt_rd_nI b hA (j := 0) (by decide)).trans h
theorem tt_gd_f {b : Nat → Int32} {A : Nat} (hA : A < 2) (h : ¬ b (16 * A) = 90) : tt_gd b (nI A) = 0 := by
  unfold tt_gd
  rw [if_neg]
  exact fun q => h ((tt_rd_nI b hA (j := 0) (by decide)).symm.trans q)
theorem tt_ga_nI {b : Nat → Int32} {A G : Nat} (hA : A < 2) (h : b (16 * A + 1) = nI G) : tt_ga b (nI A) = (nI G + 1) &&& 255 := by
  unfold tt_ga
  rw [show tt_rd b (nI A) 1 = nI G from (tt_rd_nI b hA (j := 1) (by decide)).trans h]
theorem tt_I_ac {b : Nat → Int32} {A G p k : Nat} {pt ut og : Int32} (h : tt_I b A G p k pt ut og) : tt_ac b = nI A := by
  obtain ⟨hA, hG, hp, hk, b0, b1, b2, b3, hn, hb, hpt, hut, ho⟩ := h
  have r11 : tt_rd b 1 1 = b 17 := tt_rd_nI b (A := 1) (j := 1) (by decide) (by decide)
  unfold tt_ac
  rcases (show A = 0 ∨ A = 1 by omega) with rfl | rfl
  · rcases ho with ⟨rfl, o0, o1⟩ | ⟨rfl, o0⟩
    · have g1 : tt_gd b 1 = 1 := tt_gd_t (A := 1) (by decide) o0
      have g0 : tt_gd b 0 = 1 := tt_gd_t (A := 0) (by decide) b0
      have ga : tt_ga b 0 = (nI G + 1) &&& 255 := tt_ga_nI (A := 0) (by decide) b1
      have e1 : b 17 = nI ((G + 255) % 256) := o1
      rw [g1, g0, if_neg (by decide), if_neg (by decide), r11, ga, e1, if_neg (tt_g1 G hG)]
      rfl
    · have g1 : tt_gd b 1 = 0 := tt_gd_f (A := 1) (by decide) o0
      rw [g1, if_pos rfl]
      rfl
  · have g1 : tt_gd b 1 = 1 := tt_gd_t (A := 1) (by decide) b0
    rcases ho with ⟨rfl, o0, o1⟩ | ⟨rfl, o0⟩
    · have g0 : tt_gd b 0 = 1 := tt_gd_t (A := 0) (by decide) o0
      have ga : tt_ga b 0 = (nI ((G + 255) % 256) + 1) &&& 255 := tt_ga_nI (A := 0) (by decide) o1
      have e1 : b 17 = nI G := b1
      rw [g1, g0, if_neg (by decide), if_neg (by decide), r11, ga, e1, if_pos (tt_g2 G hG)]
      rfl
    · have g0 : tt_gd b 0 = 0 := tt_gd_f (A := 0) (by decide) o0
      rw [g1, g0, if_neg (by decide), if_pos rfl]
      rfl
theorem tt_or_nI (a c : Nat) : nI a ||| nI c = nI (a ||| c) := by
  apply Int32.toBitVec_inj.1
  show BitVec.ofNat 32 a ||| BitVec.ofNat 32 c = BitVec.ofNat 32 (a ||| c)
  apply BitVec.eq_of_getLsbD_eq
  intro i hi
  simp [hi]
theorem tt_hl {p : Nat} (hp : p < 65536) : (nI (p / 256) <<< ((8 : Int32) &&& 31)) ||| nI (p % 256) = nI p := by
  rw [pk_shlN (n := p / 256) ((8 : Int32) &&& 31) 8 (by decide) (by omega), tt_or_nI]
  congr 1
  have h := Nat.two_pow_add_eq_or_of_lt (i := 8) (b := p % 256) (by omega) (p / 256)
  rw [Nat.mul_comm, ← h]
  omega
theorem tt_I_pin {b : Nat → Int32} {A G p k : Nat} {pt ut og : Int32} (h : tt_I b A G p k pt ut og) : tt_pin b = nI p := by
  unfold tt_pin
  rw [tt_I_ac h]
  obtain ⟨hA, hG, hp, hk, b0, b1, b2, b3, hn, hb, hpt, hut, ho⟩ := h
  rw [show tt_rd b (nI A) 2 = nI (p / 256) from (tt_rd_nI b hA (j := 2) (by decide)).trans b2, show tt_rd b (nI A) 3 = nI (p % 256) from (tt_rd_nI b hA (j := 3) (by decide)).trans b3]
  exact tt_hl hp
theorem tt_I_gen {b : Nat → Int32} {A G p k : Nat} {pt ut og : Int32} (h : tt_I b A G p k pt ut og) : tt_rd b (tt_ac b) 1 = nI G := by
  rw [tt_I_ac h]
  obtain ⟨hA, hG, hp, hk, b0, b1, b2, b3, hn, hb, hpt, hut, ho⟩ := h
  exact (tt_rd_nI b hA (j := 1) (by decide)).trans b1
theorem tt_pf_c {u : Int32} {e e' : Nat → Int32} : ∀ k, (∀ j, j < k → e j = e' j) → tt_pf u e k = tt_pf u e' k := by
  intro k
  induction k with
  | zero => intro _; rfl
  | succ k ih =>
    intro h
    show tt_ps (tt_pf u e k) (e k) = tt_ps (tt_pf u e' k) (e' k)
    rw [ih (fun j hj => h j (by omega)), h k (by omega)]
theorem tt_uf_c {u : Int32} {e e' : Nat → Int32} : ∀ k, (∀ j, j < k → e j = e' j) → tt_uf u e k = tt_uf u e' k := by
  intro k
  induction k with
  | zero => intro _; rfl
  | succ k ih =>
    intro h
    show tt_us (tt_uf u e k) (e k) = tt_us (tt_uf u e' k) (e' k)
    rw [ih (fun j hj => h j (by omega)), h k (by omega)]
theorem tt_ff_c {u : Int32} {e e' : Nat → Int32} : ∀ k, (∀ j, j < k → e j = e' j) → tt_ff u e k = tt_ff u e' k := by
  intro k
  induction k with
  | zero => intro _; rfl
  | succ k ih =>
    intro h
    show tt_fs (tt_ff u e k) (e k) = tt_fs (tt_ff u e' k) (e' k)
    rw [ih (fun j hj => h j (by omega)), h k (by omega)]
theorem tt_ps_255 (u : Int32) : tt_ps u 255 = u := by unfold tt_ps; rw [if_neg (by decide)]
theorem tt_us_255 (u : Int32) : tt_us u 255 = u := by unfold tt_us; rw [if_neg (by decide)]
theorem tt_pf_b {u : Int32} {e : Nat → Int32} (k : Nat) : ∀ n, (∀ j, k ≤ j → j < k + n → e j = 255) → tt_pf u e (k + n) = tt_pf u e k := by
  intro n
  induction n with
  | zero => intro _; rfl
  | succ n ih =>
    intro h
    show tt_ps (tt_pf u e (k + n)) (e (k + n)) = _
    rw [h (k + n) (by omega) (by omega), tt_ps_255]
    exact ih (fun j h1 h2 => h j h1 (by omega))
theorem tt_uf_b {u : Int32} {e : Nat → Int32} (k : Nat) : ∀ n, (∀ j, k ≤ j → j < k + n → e j = 255) → tt_uf u e (k + n) = tt_uf u e k := by
  intro n
  induction n with
  | zero => intro _; rfl
  | succ n ih =>
    intro h
    show tt_us (tt_uf u e (k + n)) (e (k + n)) = _
    rw [h (k + n) (by omega) (by omega), tt_us_255]
    exact ih (fun j h1 h2 => h j h1 (by omega))
theorem tt_ff_n {u : Int32} {e : Nat → Int32} : ∀ k, (∀ j, j < k → ¬ e j = 255) → tt_ff u e k = u := by
  intro k
  induction k with
  | zero => intro _; rfl
  | succ k ih =>
    intro h
    show tt_fs (tt_ff u e k) (e k) = u
    unfold tt_fs
    rw [if_neg (h k (by omega))]
    exact ih (fun j hj => h j (by omega))
theorem tt_ff_b {u : Int32} {e : Nat → Int32} (k : Nat) : ∀ n, (∀ j, k ≤ j → j < k + n → e j = 255) → tt_ff u e (k + n) = tt_ff u e k + nI n := by
  intro n
  induction n with
  | zero => intro _; show tt_ff u e k = tt_ff u e k + 0; rw [Int32.add_zero]
  | succ n ih =>
    intro h
    show tt_fs (tt_ff u e (k + n)) (e (k + n)) = _
    unfold tt_fs
    rw [if_pos (h (k + n) (by omega) (by omega)), ih (fun j h1 h2 => h j h1 (by omega)), nI_succ, Int32.add_assoc]
theorem tt_1f_n {e : Nat → Int32} : ∀ n i, (∀ j, i ≤ j → j < i + n → ¬ e j = 255) → tt_1f e n i = -1 := by
  intro n
  induction n with
  | zero => intro i _; rfl
  | succ n ih =>
    intro i h
    show (if e i = 255 then nI (6 + i) else tt_1f e n (i + 1)) = -1
    rw [if_neg (h i (by omega) (by omega))]
    exact ih (i + 1) (fun j h1 h2 => h j (by omega) (by omega))
theorem tt_1f_b {e : Nat → Int32} {k : Nat} (hk : e k = 255) : ∀ d n i, i + d = k → d < n → (∀ j, i ≤ j → j < k → ¬ e j = 255) → tt_1f e n i = nI (6 + k) := by
  intro d
  induction d with
  | zero =>
    intro n i h1 h2 h
    obtain ⟨n, rfl⟩ : ∃ m, n = m + 1 := ⟨n - 1, by omega⟩
    obtain rfl : i = k := by omega
    show (if e i = 255 then nI (6 + i) else tt_1f e n (i + 1)) = _
    rw [if_pos hk]
  | succ d ih =>
    intro n i h1 h2 h
    obtain ⟨n, rfl⟩ : ∃ m, n = m + 1 := ⟨n - 1, by omega⟩
    show (if e i = 255 then nI (6 + i) else tt_1f e n (i + 1)) = _
    rw [if_neg (h i (by omega) (by omega))]
    exact ih n (i + 1) (by omega) (by omega) (fun j q1 q2 => h j (by omega) q2)
theorem tt_en_nI (b : Nat → Int32) {A j : Nat} (hA : A < 2) (hj : j < 10) : tt_en b (nI A) j = b (16 * A + (6 + j)) := tt_rd_nI b hA (by omega)
theorem tt_I_pu {b : Nat → Int32} {A G p k : Nat} {pt ut og : Int32} (h : tt_I b A G p k pt ut og) : tt_pu b = pt := by
  unfold tt_pu
  rw [tt_I_ac h]
  obtain ⟨hA, hG, hp, hk, b0, b1, b2, b3, hn, hb, hpt, hut, ho⟩ := h
  rw [show tt_rd b (nI A) 4 = b (16 * A + 4) from tt_rd_nI b hA (j := 4) (by decide), tt_pf_c 10 (fun j hj => tt_en_nI b hA hj), show 10 = k + (10 - k) by omega, tt_pf_b k (10 - k) (fun j h1 h2 => hb j h1 (by omega))]
  exact hpt
theorem tt_I_uu {b : Nat → Int32} {A G p k : Nat} {pt ut og : Int32} (h : tt_I b A G p k pt ut og) : tt_uu b = ut := by
  unfold tt_uu
  rw [tt_I_ac h]
  obtain ⟨hA, hG, hp, hk, b0, b1, b2, b3, hn, hb, hpt, hut, ho⟩ := h
  rw [show tt_rd b (nI A) 5 = b (16 * A + 5) from tt_rd_nI b hA (j := 5) (by decide), tt_uf_c 10 (fun j hj => tt_en_nI b hA hj), show 10 = k + (10 - k) by omega, tt_uf_b k (10 - k) (fun j h1 h2 => hb j h1 (by omega))]
  exact hut
theorem tt_I_fe {b : Nat → Int32} {A G p k : Nat} {pt ut og : Int32} (h : tt_I b A G p k pt ut og) : tt_fe b = nI (10 - k) := by
  unfold tt_fe
  rw [tt_I_ac h]
  obtain ⟨hA, hG, hp, hk, b0, b1, b2, b3, hn, hb, hpt, hut, ho⟩ := h
  rw [tt_ff_c 10 (fun j hj => tt_en_nI b hA hj), show 10 = k + (10 - k) by omega, tt_ff_b k (10 - k) (fun j h1 h2 => hb j h1 (by omega)), tt_ff_n k hn, Int32.zero_add, show k + (10 - k) - k = 10 - k by omega]
theorem tt_I_fst {b : Nat → Int32} {A G p k : Nat} {pt ut og : Int32} (h : tt_I b A G p k pt ut og) : (k = 10 → tt_fst b = -1) ∧ (k < 10 → tt_fst b = nI (6 + k)) := by
  unfold tt_fst
  rw [tt_I_ac h]
  obtain ⟨hA, hG, hp, hk, b0, b1, b2, b3, hn, hb, hpt, hut, ho⟩ := h
  refine ⟨fun q => ?_, fun q => ?_⟩
  · exact tt_1f_n 10 0 (fun j h1 h2 => by rw [tt_en_nI b hA (by omega)]; exact hn j (by omega))
  · exact tt_1f_b (k := k) (by rw [tt_en_nI b hA q]; exact hb k (Nat.le_refl _) q) k 10 0 (by omega) q (fun j h1 h2 => by rw [tt_en_nI b hA (by omega)]; exact hn j h2)
/-- what only touches the other page, and leaves it not good -/
theorem tt_I_oth {b b' : Nat → Int32} {A G p k : Nat} {pt ut og : Int32} (h : tt_I b A G p k pt ut og) (he : ∀ q, 16 * A ≤ q → q < 16 * A + 16 → b' q = b q) (ho : ¬ b' (16 * (1 - A)) = 90) : tt_I b' A G p k pt ut 0 := by
  obtain ⟨hA, hG, hp, hk, b0, b1, b2, b3, hn, hb, hpt, hut, -⟩ := h
  refine ⟨hA, hG, hp, hk, ?_, ?_, ?_, ?_, fun j hj => ?_, fun j h1 h2 => ?_, ?_, ?_, Or.inr ⟨rfl, ho⟩⟩
  · rw [he _ (by omega) (by omega)]; exact b0
  · rw [he _ (by omega) (by omega)]; exact b1
  · rw [he _ (by omega) (by omega)]; exact b2
  · rw [he _ (by omega) (by omega)]; exact b3
  · rw [he _ (by omega) (by omega)]; exact hn j hj
  · rw [he _ (by omega) (by omega)]; exact hb j h1 h2
  · rw [he _ (by omega) (by omega), ← hpt]; exact tt_pf_c k (fun j hj => he _ (by omega) (by omega))
  · rw [he _ (by omega) (by omega), ← hut]; exact tt_uf_c k (fun j hj => he _ (by omega) (by omega))
theorem tt_I_og {b : Nat → Int32} {A G p k : Nat} {pt ut og : Int32} (h : tt_I b A G p k pt ut og) : (og = 1 ∧ b (16 * (1 - A)) = 90 ∧ b (16 * (1 - A) + 1) = nI ((G + 255) % 256)) ∨ (og = 0 ∧ ¬ b (16 * (1 - A)) = 90) := h.2.2.2.2.2.2.2.2.2.2.2.2
