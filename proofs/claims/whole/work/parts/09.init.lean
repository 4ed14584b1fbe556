/-! what the reads show, and the pair at its start -/
theorem tt_ec_nI (g : Nat → Int32) (pg : Int32) : tt_ec g pg = if pg = 0 then g 0 else if pg = 1 then g 1 else 0 := by
  unfold tt_ec
  by_cases h : tt_ip pg = 0
  · rw [if_pos h, if_neg (fun q => absurd h (by rw [q]; decide)), if_neg (fun q => absurd h (by rw [q]; decide))]
  · rw [if_neg h]
    obtain ⟨j, hj, rfl⟩ := tt_ip_of h
    rcases (show j = 0 ∨ j = 1 by omega) with rfl | rfl
    · rw [if_pos (by decide)]; rfl
    · rw [if_neg (by decide), if_pos (by decide)]; rfl
theorem tt_reads {pw hi ta od ot tm : Int32} {b g : Nat → Int32} {ac ag pn pt ut en og pw2 hd tn tk ar dn e0 e1 : Int32} (h : tt_R (pw, hi, ta, b, g, od, ot, tm) (ac, ag, pn, pt, ut, en, og, pw2, hd, tn, tk, ar, dn, e0, e1)) :
    hi = hd ∧ pw = pw2 ∧ tt_pu b = pt ∧ tt_uu b = ut ∧ tt_ac b = ac ∧ tt_rd b (tt_ac b) 1 = ag ∧ tt_fe b = en ∧ od = dn ∧ g 0 = e0 ∧ g 1 = e1 ∧ (hi = 0 ∨ hi = 1) ∧ (pw = 0 ∨ pw = 1) ∧ (∃ a, a ≤ 7 ∧ pt = nI a) ∧ ∃ c, c ≤ 7 ∧ ut = nI c := by
  obtain ⟨b', g', dn', og', pw', hd', ar', T, K, A, G, p, k, a, c, N, e1, e2, hI, hT, hK, ha, hc, hpw, hhd, hN, har⟩ := h
  simp only [Prod.mk.injEq] at e1 e2
  obtain ⟨rfl, rfl, rfl, rfl, rfl, rfl, rfl, rfl⟩ := e1
  obtain ⟨rfl, rfl, rfl, rfl, rfl, rfl, rfl, rfl, rfl, -, -, -, rfl, rfl, rfl⟩ := e2
  refine ⟨rfl, rfl, tt_I_pu hI, tt_I_uu hI, tt_I_ac hI, tt_I_gen hI, tt_I_fe hI, rfl, rfl, rfl, hhd, ?_, ⟨a, ha, rfl⟩, ⟨c, hc, rfl⟩⟩
  rcases hpw with ⟨h, -⟩ | h
  · exact Or.inl h
  · exact Or.inr h
theorem tt_left {P a : Nat} (hP : P ≤ 7) (ha : a ≤ 7) : (if 0 < nI P - nI a then nI P - nI a else 0) = if nI P ≤ nI a then 0 else nI P - nI a := by
  by_cases h : P ≤ a
  · rw [if_pos (nI_le h (by omega)), if_neg]
    intro q
    have e : (nI P - nI a).toInt = (P : Int) - a := pk_sub_toInt (by omega) (by omega)
    have q2 := Int32.lt_iff_toInt_lt.mp q
    rw [e, show (0 : Int32).toInt = 0 by decide] at q2
    omega
  · rw [if_neg (nI_ge (a := a) (b := P) (by omega) (by omega)), if_pos]
    rw [pk_sub (a := P) (b := a) (by omega)]
    exact nI_lt (a := 0) (b := P - a) (by omega) (by omega)
theorem tt_fl_at : ∀ n, n ≤ 32 → ∀ q, q < n → tt_fl n q = 255 := by
  intro n
  induction n with
  | zero => intro _ q hq; exact absurd hq (Nat.not_lt_zero _)
  | succ n ih =>
    intro hn q hq
    show upd (tt_fl n) (nI n).toNatClampNeg 255 q = 255
    rw [nI_clamp (by omega)]
    by_cases h : q = n
    · rw [h]; exact pk_us
    · rw [pk_un h]; exact ih (by omega) q (by omega)
theorem tt_lim_le (x : Int32) {d : Nat} (hd : d ≤ 7) : ∃ P, P ≤ 7 ∧ tt_lim x (nI d) = nI P := by
  unfold tt_lim
  by_cases h : x < 1
  · rw [if_pos h]; exact ⟨d, hd, rfl⟩
  · rw [if_neg h]
    by_cases h2 : 7 < x
    · rw [if_pos h2]; exact ⟨d, hd, rfl⟩
    · rw [if_neg h2]
      obtain ⟨j, hj, e⟩ := nI_of2 (x := x) (M := 7) (n := 7) (by decide) (fun q => h (Int32.lt_trans q (by decide))) (Int32.not_lt.mp h2)
      exact ⟨j, hj, e⟩
theorem tt_pres_eq (b : Nat → Int32) (x : Int32) : tt_pres b x = upd (upd (upd (upd (upd (upd b 0 90) 1 0) 2 (x >>> ((8 : Int32) &&& 31))) 3 (x &&& 255)) 4 0) 5 0 := by
  have w : ∀ (b : Nat → Int32) (j : Nat) (hj : j < 16) (v : Int32), tt_wr b 0 (nI j) v = upd b j v := fun b j hj v => by
    have q := tt_wr_nI b (A := 0) (by decide) hj v
    rw [show 16 * 0 + j = j by omega] at q
    exact q
  unfold tt_pres
  rw [show tt_wr b 0 0 90 = upd b 0 90 from w b 0 (by decide) 90, show ∀ b : Nat → Int32, tt_wr b 0 1 0 = upd b 1 0 from fun b => w b 1 (by decide) 0, show ∀ b : Nat → Int32, tt_wr b 0 2 (x >>> ((8 : Int32) &&& 31)) = upd b 2 (x >>> ((8 : Int32) &&& 31)) from fun b => w b 2 (by decide) _, show ∀ b : Nat → Int32, tt_wr b 0 3 (x &&& 255) = upd b 3 (x &&& 255) from fun b => w b 3 (by decide) _, show ∀ b : Nat → Int32, tt_wr b 0 4 0 = upd b 4 0 from fun b => w b 4 (by decide) 0, show ∀ b : Nat → Int32, tt_wr b 0 5 0 = upd b 5 0 from fun b => w b 5 (by decide) 0]
theorem tt_R_0 (x : Int32) : tt_R (1, 0, 0, tt_pres (tt_fl 32) (x &&& 65535), (fun _ => 0), 0, 0, 0) (0, 0, x &&& 65535, 0, 0, 10, 0, 1, 0, 0, 0, 0, 0, 0, 0) := by
  obtain ⟨j, hj, ej⟩ := tt_16 x
  rw [ej, tt_pres_eq]
  refine tt_R.mk (g := fun _ => 0) (dn := 0) (og := 0) (pw := 1) (hd := 0) (ar := 0) (T := 0) (K := 0) (A := 0) (G := 0) (p := j) (k := 0) (a := 0) (c := 0) (N := 0) ?_ (by decide) (by decide) (by decide) (by decide) (Or.inr rfl) (Or.inl rfl) (by decide) rfl
  have hf : ∀ q, 5 < q → q < 32 → upd (upd (upd (upd (upd (upd (tt_fl 32) 0 90) 1 0) 2 (nI j >>> ((8 : Int32) &&& 31))) 3 (nI j &&& 255)) 4 0) 5 0 q = 255 := fun q h1 h2 => by
    rw [pk_un (by omega), pk_un (by omega), pk_un (by omega), pk_un (by omega), pk_un (by omega), pk_un (by omega)]
    exact tt_fl_at 32 (Nat.le_refl _) q h2
  refine ⟨by decide, by decide, hj, by decide, ?_, ?_, ?_, ?_, fun q hq => absurd hq (Nat.not_lt_zero _), fun q _ hq => hf _ (by omega) (by omega), ?_, ?_, Or.inr ⟨rfl, ?_⟩⟩
  · rfl
  · rfl
  · show nI j >>> ((8 : Int32) &&& 31) = nI (j / 256)
    exact pk_shrN (n := j) (by omega) ((8 : Int32) &&& 31) 8 (by decide)
  · show nI j &&& 255 = nI (j % 256)
    exact pk_andN (n := j) (by omega) 8 (by decide)
  · rfl
  · rfl
  · rw [hf _ (by omega) (by omega)]
    decide
