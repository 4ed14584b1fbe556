/-! small rows for the walks: a loop by a number that falls, places in range, counters -/
section TTR
variable {p : Program} {l : Launch} {e : Env} {R : Room} {s : State} {m : MethodId} {args : Array Value} {below : List Frame} {meth : Method} {c : Code} {cells slots : Nat} {Q : State → Prop}
theorem tt_rec {pc : Nat} (I : Nat → Heap → List Loc → Array Slot → Prop)
    (h : ∀ (n : Nat) (H : Heap) (locs : List Loc) (ls : Array Slot), (∀ k, k < n → ∀ (H1 : Heap) (locs1 : List Loc) (ls1 : Array Slot), I k H1 locs1 ls1 → W p l e R s m args below meth c H1 locs1 cells slots Q (F0 m pc ls1 [])) → I n H locs ls → W p l e R s m args below meth c H locs cells slots Q (F0 m pc ls []))
    (n : Nat) {H : Heap} {locs : List Loc} {ls : Array Slot} (hI : I n H locs ls) : W p l e R s m args below meth c H locs cells slots Q (F0 m pc ls []) := by
  have key : ∀ (n k : Nat), k < n → ∀ (H1 : Heap) (locs1 : List Loc) (ls1 : Array Slot), I k H1 locs1 ls1 → W p l e R s m args below meth c H1 locs1 cells slots Q (F0 m pc ls1 []) := by
    intro n
    induction n with
    | zero => intro k hk; exact absurd hk (Nat.not_lt_zero _)
    | succ n ih =>
      intro k hk H1 locs1 ls1 hI1
      exact h k H1 locs1 ls1 (fun j hj => ih j (by omega)) hI1
  exact key (n + 1) n (by omega) H locs ls hI
end TTR
theorem tt_in32 {x : Int32} (h0 : ¬ x < 0) (h1 : ¬ 32 ≤ x) : vp_in x 32 := by
  rcases pk_ix x (n := 32) (by decide) with h | h | ⟨j, hj, rfl⟩
  · exact absurd h h0
  · exact absurd h h1
  · exact vp_in_nI hj (by decide)
theorem tt_ip_of {pg : Int32} (h : ¬ tt_ip pg = 0) : ∃ j : Nat, j < 2 ∧ pg = nI j := by
  rcases pk_ix pg (n := 2) (by decide) with h1 | h1 | h1
  · exact absurd (by unfold tt_ip; rw [if_pos h1]) h
  · exact absurd (by unfold tt_ip; by_cases h2 : pg < 0; rw [if_pos h2]; rw [if_neg h2, if_pos (show 2 ≤ pg from h1)]) h
  · exact h1
theorem tt_inP {pg : Int32} (h : ¬ tt_ip pg = 0) : vp_in pg 2 := by
  obtain ⟨j, hj, rfl⟩ := tt_ip_of h
  exact vp_in_nI hj (by decide)
theorem tt_pl_nI (j i : Nat) : nI j * 16 + nI i = nI (16 * j + i) := by
  rw [show (16 : Int32) = nI 16 from rfl, pk_mul, nI_add, Nat.mul_comm]
theorem tt_inE {pg : Int32} {i : Nat} (h : ¬ tt_ip pg = 0) (hi : i < 16) : vp_in (pg * 16 + nI i) 32 := by
  obtain ⟨j, hj, rfl⟩ := tt_ip_of h
  rw [tt_pl_nI]
  exact vp_in_nI (by omega) (by decide)
theorem tt_c10 : ∀ i, i < 11 → (16 ≤ nI (6 + i) → i = 10) ∧ (¬ 16 ≤ nI (6 + i) → i < 10) := by decide +kernel
theorem tt_c16 : ∀ i, i < 17 → (16 ≤ nI i → i = 16) ∧ (¬ 16 ≤ nI i → i < 16) := by decide +kernel
theorem tt_c32 : ∀ i, i < 33 → (32 ≤ nI i → i = 32) ∧ (¬ 32 ≤ nI i → i < 32) := by decide +kernel
theorem tt_c6 : ∀ i, i < 7 → (6 ≤ nI i → i = 6) ∧ (¬ 6 ≤ nI i → i < 6) := by decide +kernel
theorem tt_z01 {x : Int32} (h : x = 0 ∨ x = 1) : narrow .boolean (.int x) = .int x := by
  rcases h with rfl | rfl <;> rfl
theorem tt_cnt_z {s s2 : tt_F} {r : Int32} (h : tt_cnt s = (r, s2)) : r = 0 ∨ r = 1 := by
  obtain ⟨b, g, od, ot, tm⟩ := s
  simp only [tt_cnt] at h
  split at h
  · exact Or.inl (congrArg Prod.fst h).symm
  · split at h
    · exact Or.inr (congrArg Prod.fst h).symm
    · exact Or.inl (congrArg Prod.fst h).symm
theorem tt_prog_z {s s2 : tt_F} {pg a v r : Int32} (h : tt_prog s pg a v = (r, s2)) : narrow .boolean (.int r) = .int r := by
  unfold tt_prog at h
  have h1 := congrArg Prod.fst h
  simp only at h1
  refine tt_z01 ?_
  rw [← h1]
  split
  · exact Or.inr rfl
  · exact Or.inl rfl
def tt_fl : Nat → (Nat → Int32)
  | 0 => fun _ => 0
  | k + 1 => upd (tt_fl k) (nI k).toNatClampNeg 255
def tt_pres (b : Nat → Int32) (pin : Int32) : Nat → Int32 := tt_wr (tt_wr (tt_wr (tt_wr (tt_wr (tt_wr b 0 0 90) 0 1 0) 0 2 (pin >>> ((8 : Int32) &&& 31))) 0 3 (pin &&& 255)) 0 4 0) 0 5 0
def mm_lim (x d : Int32) : Int32 := if x < 1 then d else if x ≤ 7 then x else d
theorem tt_lim_eq (x d : Int32) : tt_lim x d = mm_lim x d := by
  unfold tt_lim mm_lim
  by_cases h : x < 1
  · rw [if_pos h, if_pos h]
  · rw [if_neg h, if_neg h]
    by_cases h2 : 7 < x
    · rw [if_pos h2, if_neg (Int32.not_le.mpr h2)]
    · rw [if_neg h2, if_pos (Int32.not_lt.mp h2)]
theorem tt_seq_p {S : Type} (x : Int32) (s : S) (k : S → Int32 × S) : tt_seq (x, s) k = if x = 0 then (0, s) else k s := rfl
