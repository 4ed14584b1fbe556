section
/-! The pure picture. tt_F: a flash as its cells have it: bytes, erases, operations done, operations to the tear, tear's mask. Every function here is the body of one method, over values. -/
abbrev tt_F : Type := (Nat → Int32) × (Nat → Int32) × Int32 × Int32 × Int32
def tt_rd (b : Nat → Int32) (pg a : Int32) : Int32 := if pg * 16 + a < 0 then 255 else if 32 ≤ pg * 16 + a then 255 else b (pg * 16 + a).toNatClampNeg
def tt_wr (b : Nat → Int32) (pg a v : Int32) : Nat → Int32 := if pg * 16 + a < 0 then b else if 32 ≤ pg * 16 + a then b else upd b (pg * 16 + a).toNatClampNeg v
def tt_pr (b : Nat → Int32) (pg a v m : Int32) : Nat → Int32 := if pg * 16 + a < 0 then b else if 32 ≤ pg * 16 + a then b else upd b (pg * 16 + a).toNatClampNeg (b (pg * 16 + a).toNatClampNeg &&& (v ||| (m ^^^ (-1))))
def tt_no (x : Int32) : Int32 := if x = 0 then 1 else 0
def tt_cnt (s : tt_F) : Int32 × tt_F := match s with
  | (b, g, od, ot, tm) => if ot = 0 then (0, (b, g, od + 1, ot, tm)) else if ot - 1 = 0 then (1, (b, g, od + 1, ot - 1, tm)) else (0, (b, g, od + 1, ot - 1, tm))
def tt_prog (s : tt_F) (pg a v : Int32) : Int32 × tt_F := match tt_cnt s with
  | (r, (b, g, od, ot, tm)) => (if r = 0 then 1 else 0, (tt_pr b pg a v (if r = 0 then 255 else tm), g, od, ot, tm))
def tt_ip (pg : Int32) : Int32 := if pg < 0 then 0 else if 2 ≤ pg then 0 else 1
def tt_er1 (b : Nat → Int32) (pg m : Int32) (i : Nat) : Nat → Int32 := if (m >>> ((nI i &&& 7) &&& 31)) &&& 1 = 1 then upd b (pg * 16 + nI i).toNatClampNeg 255 else b
def tt_er (b : Nat → Int32) (pg m : Int32) : Nat → (Nat → Int32)
  | 0 => b
  | k + 1 => tt_er1 (tt_er b pg m k) pg m k
def tt_erase (s : tt_F) (pg : Int32) : Int32 × tt_F := match tt_cnt s with
  | (r, (b, g, od, ot, tm)) => if tt_ip pg = 0 then (if r = 0 then 1 else 0, (b, g, od, ot, tm)) else (if r = 0 then 1 else 0, (tt_er b pg (if r = 0 then 255 else tm) 16, upd g pg.toNatClampNeg (g pg.toNatClampNeg + 1), od, ot, tm))
def tt_ec (g : Nat → Int32) (pg : Int32) : Int32 := if tt_ip pg = 0 then 0 else g pg.toNatClampNeg
def tt_gd (b : Nat → Int32) (pg : Int32) : Int32 := if tt_rd b pg 0 = 90 then 1 else 0
def tt_ga (b : Nat → Int32) (pg : Int32) : Int32 := (tt_rd b pg 1 + 1) &&& 255
def tt_ac (b : Nat → Int32) : Int32 := if tt_gd b 1 = 0 then 0 else if tt_gd b 0 = 0 then 1 else if tt_rd b 1 1 = tt_ga b 0 then 1 else 0
def tt_pin (b : Nat → Int32) : Int32 := (tt_rd b (tt_ac b) 2 <<< ((8 : Int32) &&& 31)) ||| tt_rd b (tt_ac b) 3
def tt_en (b : Nat → Int32) (pg : Int32) : Nat → Int32 := fun j => tt_rd b pg (nI (6 + j))
def tt_ps (u x : Int32) : Int32 := if x &&& 1 = 0 then (if x &&& 2 = 0 then 0 else u + 1) else u
def tt_pf (u : Int32) (e : Nat → Int32) : Nat → Int32
  | 0 => u
  | k + 1 => tt_ps (tt_pf u e k) (e k)
def tt_us (u x : Int32) : Int32 := if x &&& 16 = 0 then u + 1 else u
def tt_uf (u : Int32) (e : Nat → Int32) : Nat → Int32
  | 0 => u
  | k + 1 => tt_us (tt_uf u e k) (e k)
def tt_fs (u x : Int32) : Int32 := if x = 255 then u + 1 else u
def tt_ff (u : Int32) (e : Nat → Int32) : Nat → Int32
  | 0 => u
  | k + 1 => tt_fs (tt_ff u e k) (e k)
def tt_1f (e : Nat → Int32) : Nat → Nat → Int32
  | 0, _ => -1
  | n + 1, i => if e i = 255 then nI (6 + i) else tt_1f e n (i + 1)
def tt_pu (b : Nat → Int32) : Int32 := tt_pf (tt_rd b (tt_ac b) 4) (tt_en b (tt_ac b)) 10
def tt_uu (b : Nat → Int32) : Int32 := tt_uf (tt_rd b (tt_ac b) 5) (tt_en b (tt_ac b)) 10
def tt_fe (b : Nat → Int32) : Int32 := tt_ff 0 (tt_en b (tt_ac b)) 10
def tt_fst (b : Nat → Int32) : Int32 := tt_1f (tt_en b (tt_ac b)) 10 0
/-- one step behind another: 0 ends it -/
def tt_seq {S : Type} (r : Int32 × S) (k : S → Int32 × S) : Int32 × S := if r.1 = 0 then (0, r.2) else k r.2
def tt_t0 (s : tt_F) (f : Int32) : Int32 × tt_F := if tt_gd s.1 f = 0 then (1, s) else tt_prog s f 0 0
def tt_turn (s : tt_F) (p a c : Int32) : Int32 × tt_F :=
  tt_seq (tt_t0 s (1 - tt_ac s.1)) fun s1 => tt_seq (tt_erase s1 (1 - tt_ac s.1)) fun s2 => tt_seq (tt_prog s2 (1 - tt_ac s.1) 1 (tt_ga s2.1 (tt_ac s.1))) fun s3 =>
  tt_seq (tt_prog s3 (1 - tt_ac s.1) 2 (p >>> ((8 : Int32) &&& 31))) fun s4 => tt_seq (tt_prog s4 (1 - tt_ac s.1) 3 (p &&& 255)) fun s5 => tt_seq (tt_prog s5 (1 - tt_ac s.1) 4 a) fun s6 =>
  tt_seq (tt_prog s6 (1 - tt_ac s.1) 5 c) fun s7 => tt_seq (tt_prog s7 (1 - tt_ac s.1) 0 90) fun s8 => (1, s8)
def tt_m1 (s : tt_F) (v : Int32) : Int32 × tt_F := if tt_fst s.1 = -1 then (-1, s) else match tt_prog s (tt_ac s.1) (tt_fst s.1) v with
  | (r, s2) => if r = 0 then (-1, s2) else (tt_fst s.1, s2)
def tt_mark (s : tt_F) (v : Int32) : Int32 × tt_F := if tt_fst s.1 = -1 then (match tt_turn s (tt_pin s.1) (tt_pu s.1) (tt_uu s.1) with
  | (r, s2) => if r = 0 then (-1, s2) else tt_m1 s2 v) else tt_m1 s v
/-- the card: powered, holder in, tears armed, its flash -/
abbrev tt_X : Type := Int32 × Int32 × Int32 × tt_F
def tt_lim (x d : Int32) : Int32 := if x < 1 then d else if 7 < x then d else x
def tt_try (pl : Int32) (s : tt_X) (n : Int32) : Int32 × tt_X := match s with
  | (pw, hi, ta, f) => if pw = 0 then (-1, s) else if tt_pu f.1 < pl then (match tt_mark f 254 with
    | (r, f2) => if r = -1 then (-3, (0, 0, ta, f2)) else if n = tt_pin f2.1 then (match tt_prog f2 (tt_ac f2.1) r 253 with
      | (q, f3) => if q = 0 then (-3, (0, 0, ta, f3)) else (1, (pw, 0, ta, f3))) else (0, (pw, 0, ta, f2))) else (-2, s)
def tt_verify (pl : Int32) (s : tt_X) (n : Int32) : Int32 × tt_X := match tt_try pl s (n &&& 65535) with
  | (r, (pw, hi, ta, f)) => if r = 1 then (r, (pw, 1, ta, f)) else (r, (pw, hi, ta, f))
def tt_change (pl : Int32) (s : tt_X) (n x : Int32) : Int32 × tt_X := match tt_try pl s (n &&& 65535) with
  | (r, (pw, hi, ta, f)) => if r = 1 then (match tt_turn f (x &&& 65535) 0 (tt_uu f.1) with
    | (q, f2) => if q = 0 then (-3, (0, 0, ta, f2)) else (1, (pw, 1, ta, f2))) else (r, (pw, hi, ta, f))
def tt_unblock (pk ul : Int32) (s : tt_X) (n x : Int32) : Int32 × tt_X := match s with
  | (pw, hi, ta, f) => if pw = 0 then (-1, s) else if tt_uu f.1 < ul then (match tt_mark f 239 with
    | (r, f2) => if r = -1 then (-3, (0, 0, ta, f2)) else if n = pk then (match tt_turn f2 (x &&& 65535) 0 0 with
      | (q, f3) => if q = 0 then (-3, (0, 0, ta, f3)) else (1, (pw, 0, ta, f3))) else (0, (pw, 0, ta, f2))) else (-2, s)
def tt_setT (f : tt_F) (n m : Int32) : tt_F := match f with
  | (b, g, od, _, _) => (b, g, od, n, m)
def tt_arm (s : tt_X) (n m : Int32) : Int32 × tt_X := match s with
  | (pw, hi, ta, f) => if n < 0 then (0, s) else if 30 < n then (0, s) else if m < 0 then (0, s) else if m ≤ 255 then (if n ≤ 0 then (1, (pw, hi, ta, tt_setT f n m)) else if ta < 40 then (1, (pw, hi, ta + 1, tt_setT f n m)) else (0, s)) else (0, s)
def tt_cut (s : tt_X) : Int32 × tt_X := match s with
  | (pw, hi, ta, f) => if pw = 0 then (0, s) else (1, (0, 0, ta, f))
def tt_start (s : tt_X) : Int32 × tt_X := match s with
  | (pw, hi, ta, f) => if pw = 0 then (1, (1, hi, ta, f)) else (0, s)
/-! The reference: active, age, pin, pin tries, puk tries, entries, other good, power, holder, torn, mask, arms, done, erased 0, erased 1 -/
abbrev tt_M : Type := Int32 × Int32 × Int32 × Int32 × Int32 × Int32 × Int32 × Int32 × Int32 × Int32 × Int32 × Int32 × Int32 × Int32 × Int32
def mm_op (s : tt_M) : Int32 × tt_M := match s with
  | (ac, ag, pn, pt, ut, en, og, pw, hd, tn, tk, ar, dn, e0, e1) => if tn = 1 then (tk, (ac, ag, pn, pt, ut, en, og, 0, 0, (if tn ≤ 0 then 0 else tn - 1), tk, ar, dn + 1, e0, e1)) else (-1, (ac, ag, pn, pt, ut, en, og, pw, hd, (if tn ≤ 0 then 0 else tn - 1), tk, ar, dn + 1, e0, e1))
def mm_all (m k : Int32) : Int32 := if m < 0 then 1 else if m &&& k = k then 1 else 0
def mm_setog (s : tt_M) (x : Int32) : tt_M := match s with
  | (ac, ag, pn, pt, ut, en, _, r) => (ac, ag, pn, pt, ut, en, x, r)
def mm_t0 (s : tt_M) : Int32 × tt_M := if s.2.2.2.2.2.2.1 = 0 then (1, s) else match mm_op s with
  | (r, s2) => if r < 0 then (1, mm_setog s2 0) else (0, mm_setog s2 (if r &&& 90 = 0 then 1 else 0))
def mm_er (s : tt_M) : tt_M := match s with
  | (ac, ag, pn, pt, ut, en, og, pw, hd, tn, tk, ar, dn, e0, e1) => if ac = 0 then (ac, ag, pn, pt, ut, en, og, pw, hd, tn, tk, ar, dn, e0, e1 + 1) else (ac, ag, pn, pt, ut, en, og, pw, hd, tn, tk, ar, dn, e0 + 1, e1)
def mm_lp : Nat → tt_M → Int32 × tt_M
  | 0, s => (1, s)
  | n + 1, s => match mm_op s with
    | (r, s2) => if r < 0 then mm_lp n s2 else (0, s2)
def mm_t9 (s : tt_M) (p a b : Int32) : Int32 × tt_M := match mm_op s with
  | (r, (ac, ag, pn, pt, ut, en, og, z)) => (if 0 ≤ r then 0 else 1, if mm_all r 165 = 0 then (ac, ag, pn, pt, ut, en, og, z) else (1 - ac, (ag + 1) - (ag + 1) / 256 * 256, p, a, b, 10, 1, z))
def mm_turn (s : tt_M) (p a b : Int32) : Int32 × tt_M := tt_seq (mm_t0 s) fun s1 => tt_seq (mm_lp 6 (mm_er s1)) fun s2 => mm_t9 s2 p a b
def mm_m1 (s : tt_M) (k : Int32) : Int32 × tt_M := match mm_op s with
  | (r, (ac, ag, pn, pt, ut, en, z)) => (if 0 ≤ r then 0 else 1, if mm_all r (if k = 0 then 1 else 16) = 0 then (ac, ag, pn, pt, ut, en, z) else if k = 0 then (ac, ag, pn, pt + 1, ut, en - 1, z) else (ac, ag, pn, pt, ut + 1, en - 1, z))
def mm_mark (s : tt_M) (k : Int32) : Int32 × tt_M := match s with
  | (ac, ag, pn, pt, ut, en, z) => if en = 0 then tt_seq (mm_turn s pn pt ut) fun s2 => mm_m1 s2 k else mm_m1 s k
def mm_sethd (s : tt_M) (x : Int32) : tt_M := match s with
  | (ac, ag, pn, pt, ut, en, og, pw, _, z) => (ac, ag, pn, pt, ut, en, og, pw, x, z)
def mm_a9 (s : tt_M) : Int32 × tt_M := match mm_op s with
  | (r, (ac, ag, pn, pt, z)) => (if 0 ≤ r then -3 else 1, if mm_all r 2 = 0 then (ac, ag, pn, pt, z) else (ac, ag, pn, 0, z))
def mm_att (pl : Int32) (s : tt_M) (n : Int32) : Int32 × tt_M := match s with
  | (ac, ag, pn, pt, ut, en, og, pw, hd, z) => if pw = 0 then (-1, s) else if pt < pl then (match mm_mark (ac, ag, pn, pt, ut, en, og, pw, 0, z) 0 with
    | (r, s2) => if r = 0 then (-3, s2) else if n &&& 65535 = s2.2.2.1 then mm_a9 s2 else (0, s2)) else (-2, s)
def mm_or (s : tt_M) (r : Int32) : tt_M := match s with
  | (ac, ag, pn, pt, ut, en, og, pw, hd, z) => if hd = 0 then (if r = 1 then (ac, ag, pn, pt, ut, en, og, pw, 1, z) else (ac, ag, pn, pt, ut, en, og, pw, 0, z)) else (ac, ag, pn, pt, ut, en, og, pw, 1, z)
def mm_verify (pl : Int32) (s : tt_M) (n : Int32) : Int32 × tt_M := match mm_att pl s n with
  | (r, s2) => (r, mm_or s2 r)
def mm_change (pl : Int32) (s : tt_M) (n x : Int32) : Int32 × tt_M := match mm_att pl s n with
  | (r, s2) => if r = 1 then (match mm_turn s2 (x &&& 65535) 0 s2.2.2.2.2.1 with
    | (q, s3) => if q = 0 then (-3, mm_or s3 (-3)) else (r, mm_or s3 r)) else (r, mm_or s2 r)
def mm_unblock (pk ul : Int32) (s : tt_M) (n x : Int32) : Int32 × tt_M := match s with
  | (ac, ag, pn, pt, ut, en, og, pw, hd, z) => if pw = 0 then (-1, s) else if ut < ul then (match mm_mark (ac, ag, pn, pt, ut, en, og, pw, 0, z) 1 with
    | (r, s2) => if r = 0 then (-3, s2) else if n = pk then (match mm_turn s2 (x &&& 65535) 0 0 with
      | (q, s3) => (if q = 0 then -3 else 1, s3)) else (0, s2)) else (-2, s)
def mm_arm (s : tt_M) (n m : Int32) : Int32 × tt_M := match s with
  | (ac, ag, pn, pt, ut, en, og, pw, hd, tn, tk, ar, z) => if n < 0 then (0, s) else if 30 < n then (0, s) else if m < 0 then (0, s) else if 255 < m then (0, s) else if n = 0 then (1, (ac, ag, pn, pt, ut, en, og, pw, hd, n, m, ar, z)) else if ar = 40 then (0, s) else (1, (ac, ag, pn, pt, ut, en, og, pw, hd, n, m, ar + 1, z))
def mm_cut (s : tt_M) : Int32 × tt_M := match s with
  | (ac, ag, pn, pt, ut, en, og, pw, hd, z) => (pw, (ac, ag, pn, pt, ut, en, og, 0, 0, z))
def mm_start (s : tt_M) : Int32 × tt_M := match s with
  | (ac, ag, pn, pt, ut, en, og, pw, hd, z) => (if pw = 0 then 1 else 0, (ac, ag, pn, pt, ut, en, og, 1, hd, z))
end
section
/-! small rows for the walks: a loop by a number that falls, places in range, counters -/
section TTR
variable {p : Program} {l : Launch} {e : Env} {R : Room} {s : State} {m : MethodId} {args : Array Value} {below : List Frame} {meth : Method} {c : Code} {cells slots : Nat} {Q : State → Prop}
theorem tt_rec {pc : Nat} (I : Nat → Heap → List Loc → Array Slot → Prop)
    (h : ∀ (n : Nat) (H : Heap) (locs : List Loc) (ls : Array Slot), (∀ k, k < n → ∀ (H1 : Heap) (locs1 : List Loc) (ls1 : Array Slot), I k H1 locs1 ls1 → W p l e R s m args below meth c H1 locs1 cells slots Q (F0 m pc ls1 [])) → I n H locs ls → W p l e R s m args below meth c H locs cells slots Q (F0 m pc ls []))
    (n : Nat) {H : Heap} {locs : List Loc} {ls : Array Slot} (hI : I n H locs ls) : W p l e R s m args below meth c H locs cells slots Q (F0 m pc ls []) := by
  have key : ∀ (n k : Nat), k < n → ∀ (H1 : Heap) (locs1 : List Loc) (ls1 : Array Slot), I k H1 locs1 ls1 → W p l e R s m args below meth c H1 locs1 cells slots Q (F0 m pc ls1 []) := by
    intro n
    induction n with
    | zero => intro k hk; exact absurd hk (Nat.not_lt_zero _)
    | succ n ih =>
      intro k hk H1 locs1 ls1 hI1
      exact h k H1 locs1 ls1 (fun j hj => ih j (by omega)) hI1
  exact key (n + 1) n (by omega) H locs ls hI
end TTR
theorem tt_in32 {x : Int32} (h0 : ¬ x < 0) (h1 : ¬ 32 ≤ x) : vp_in x 32 := by
  rcases pk_ix x (n := 32) (by decide) with h | h | ⟨j, hj, rfl⟩
  · exact absurd h h0
  · exact absurd h h1
  · exact vp_in_nI hj (by decide)
theorem tt_ip_of {pg : Int32} (h : ¬ tt_ip pg = 0) : ∃ j : Nat, j < 2 ∧ pg = nI j := by
  rcases pk_ix pg (n := 2) (by decide) with h1 | h1 | h1
  · exact absurd (by unfold tt_ip; rw [if_pos h1]) h
  · exact absurd (by unfold tt_ip; by_cases h2 : pg < 0; rw [if_pos h2]; rw [if_neg h2, if_pos (show 2 ≤ pg from h1)]) h
  · exact h1
theorem tt_inP {pg : Int32} (h : ¬ tt_ip pg = 0) : vp_in pg 2 := by
  obtain ⟨j, hj, rfl⟩ := tt_ip_of h
  exact vp_in_nI hj (by decide)
theorem tt_pl_nI (j i : Nat) : nI j * 16 + nI i = nI (16 * j + i) := by
  rw [show (16 : Int32) = nI 16 from rfl, pk_mul, nI_add, Nat.mul_comm]
theorem tt_inE {pg : Int32} {i : Nat} (h : ¬ tt_ip pg = 0) (hi : i < 16) : vp_in (pg * 16 + nI i) 32 := by
  obtain ⟨j, hj, rfl⟩ := tt_ip_of h
  rw [tt_pl_nI]
  exact vp_in_nI (by omega) (by decide)
theorem tt_c10 : ∀ i, i < 11 → (16 ≤ nI (6 + i) → i = 10) ∧ (¬ 16 ≤ nI (6 + i) → i < 10) := by decide +kernel
theorem tt_c16 : ∀ i, i < 17 → (16 ≤ nI i → i = 16) ∧ (¬ 16 ≤ nI i → i < 16) := by decide +kernel
theorem tt_c32 : ∀ i, i < 33 → (32 ≤ nI i → i = 32) ∧ (¬ 32 ≤ nI i → i < 32) := by decide +kernel
theorem tt_c6 : ∀ i, i < 7 → (6 ≤ nI i → i = 6) ∧ (¬ 6 ≤ nI i → i < 6) := by decide +kernel
theorem tt_z01 {x : Int32} (h : x = 0 ∨ x = 1) : narrow .boolean (.int x) = .int x := by
  rcases h with rfl | rfl <;> rfl
theorem tt_cnt_z {s s2 : tt_F} {r : Int32} (h : tt_cnt s = (r, s2)) : r = 0 ∨ r = 1 := by
  obtain ⟨b, g, od, ot, tm⟩ := s
  simp only [tt_cnt] at h
  split at h
  · exact Or.inl (congrArg Prod.fst h).symm
  · split at h
    · exact Or.inr (congrArg Prod.fst h).symm
    · exact Or.inl (congrArg Prod.fst h).symm
theorem tt_prog_z {s s2 : tt_F} {pg a v r : Int32} (h : tt_prog s pg a v = (r, s2)) : narrow .boolean (.int r) = .int r := by
  unfold tt_prog at h
  have h1 := congrArg Prod.fst h
  simp only at h1
  refine tt_z01 ?_
  rw [← h1]
  split
  · exact Or.inr rfl
  · exact Or.inl rfl
def tt_fl : Nat → (Nat → Int32)
  | 0 => fun _ => 0
  | k + 1 => upd (tt_fl k) (nI k).toNatClampNeg 255
def tt_pres (b : Nat → Int32) (pin : Int32) : Nat → Int32 := tt_wr (tt_wr (tt_wr (tt_wr (tt_wr (tt_wr b 0 0 90) 0 1 0) 0 2 (pin >>> ((8 : Int32) &&& 31))) 0 3 (pin &&& 255)) 0 4 0) 0 5 0
def mm_lim (x d : Int32) : Int32 := if x < 1 then d else if x ≤ 7 then x else d
theorem tt_lim_eq (x d : Int32) : tt_lim x d = mm_lim x d := by
  unfold tt_lim mm_lim
  by_cases h : x < 1
  · rw [if_pos h, if_pos h]
  · rw [if_neg h, if_neg h]
    by_cases h2 : 7 < x
    · rw [if_pos h2, if_neg (Int32.not_le.mpr h2)]
    · rw [if_neg h2, if_pos (Int32.not_lt.mp h2)]
theorem tt_seq_p {S : Type} (x : Int32) (s : S) (k : S → Int32 × S) : tt_seq (x, s) k = if x = 0 then (0, s) else k s := rfl
end
section
/-! bytes: reads and writes at known places, one operation counted, the erase -/
theorem tt_rd_nI (b : Nat → Int32) {A j : Nat} (hA : A < 2) (hj : j < 16) : tt_rd b (nI A) (nI j) = b (16 * A + j) := by
  unfold tt_rd
  rw [tt_pl_nI, if_neg (nI_pos (by omega)), if_neg (show ¬ (32 : Int32) ≤ nI (16 * A + j) from nI_ge (a := 16 * A + j) (b := 32) (by omega) (by decide)), nI_clamp (by omega)]
theorem tt_pr_nI (b : Nat → Int32) {A j : Nat} (hA : A < 2) (hj : j < 16) (v m : Int32) : tt_pr b (nI A) (nI j) v m = upd b (16 * A + j) (b (16 * A + j) &&& (v ||| (m ^^^ (-1)))) := by
  unfold tt_pr
  rw [tt_pl_nI, if_neg (nI_pos (by omega)), if_neg (show ¬ (32 : Int32) ≤ nI (16 * A + j) from nI_ge (a := 16 * A + j) (b := 32) (by omega) (by decide)), nI_clamp (by omega)]
theorem tt_wr_nI (b : Nat → Int32) {A j : Nat} (hA : A < 2) (hj : j < 16) (v : Int32) : tt_wr b (nI A) (nI j) v = upd b (16 * A + j) v := by
  unfold tt_wr
  rw [tt_pl_nI, if_neg (nI_pos (by omega)), if_neg (show ¬ (32 : Int32) ≤ nI (16 * A + j) from nI_ge (a := 16 * A + j) (b := 32) (by omega) (by decide)), nI_clamp (by omega)]
theorem tt_cnt_1 (b g : Nat → Int32) (od tm : Int32) : tt_cnt (b, g, od, nI 1, tm) = (1, (b, g, od + 1, nI 0, tm)) := by
  show (if nI 1 = 0 then ((0 : Int32), (b, g, od + 1, nI 1, tm)) else if nI 1 - 1 = 0 then (1, (b, g, od + 1, nI 1 - 1, tm)) else (0, (b, g, od + 1, nI 1 - 1, tm))) = _
  rw [if_neg (by decide), if_pos (by decide)]
  rfl
theorem tt_cnt_0 (b g : Nat → Int32) (od tm : Int32) {T : Nat} (hT : T ≤ 30) (h1 : ¬ T = 1) : tt_cnt (b, g, od, nI T, tm) = (0, (b, g, od + 1, nI (T - 1), tm)) := by
  show (if nI T = 0 then ((0 : Int32), (b, g, od + 1, nI T, tm)) else if nI T - 1 = 0 then (1, (b, g, od + 1, nI T - 1, tm)) else (0, (b, g, od + 1, nI T - 1, tm))) = _
  rcases Nat.eq_zero_or_pos T with rfl | h
  · rw [if_pos (by decide)]
  · rw [if_neg (nI_ne0 h (by omega)), show nI T - 1 = nI (T - 1) from pk_sub (a := T) (b := 1) h, if_neg (nI_ne0 (n := T - 1) (by omega) (by omega))]
theorem mm_op_1 (ac ag pn pt ut en og pw hd tk ar dn e0 e1 : Int32) : mm_op (ac, ag, pn, pt, ut, en, og, pw, hd, nI 1, tk, ar, dn, e0, e1) = (tk, (ac, ag, pn, pt, ut, en, og, 0, 0, nI 0, tk, ar, dn + 1, e0, e1)) := by
  have e : (if nI 1 ≤ 0 then (0 : Int32) else nI 1 - 1) = nI 0 := by decide
  simp only [mm_op]
  rw [if_pos (show nI 1 = 1 from rfl), e]
theorem mm_op_0 (ac ag pn pt ut en og pw hd tk ar dn e0 e1 : Int32) {T : Nat} (hT : T ≤ 30) (h1 : ¬ T = 1) : mm_op (ac, ag, pn, pt, ut, en, og, pw, hd, nI T, tk, ar, dn, e0, e1) = (-1, (ac, ag, pn, pt, ut, en, og, pw, hd, nI (T - 1), tk, ar, dn + 1, e0, e1)) := by
  have e : (if nI T ≤ 0 then (0 : Int32) else nI T - 1) = nI (T - 1) := by
    rcases Nat.eq_zero_or_pos T with rfl | h
    · decide
    · rw [if_neg (nI_nle h (by omega))]; exact pk_sub (a := T) (b := 1) h
  simp only [mm_op]
  rw [if_neg (show ¬ nI T = 1 from fun q => h1 ((nI_eq (a := T) (b := 1) (by omega) (by omega)).mp q)), e]
theorem tt_prog_1 (b g : Nat → Int32) (od tm : Int32) {A j : Nat} (hA : A < 2) (hj : j < 16) (v : Int32) : tt_prog (b, g, od, nI 1, tm) (nI A) (nI j) v = (0, (upd b (16 * A + j) (b (16 * A + j) &&& (v ||| (tm ^^^ (-1)))), g, od + 1, nI 0, tm)) := by
  unfold tt_prog
  rw [tt_cnt_1]
  show ((if (1 : Int32) = 0 then (1 : Int32) else 0), (tt_pr b (nI A) (nI j) v (if (1 : Int32) = 0 then 255 else tm), g, od + 1, nI 0, tm)) = _
  rw [if_neg (by decide), if_neg (by decide), tt_pr_nI b hA hj]
theorem tt_prog_0 (b g : Nat → Int32) (od tm : Int32) {T A j : Nat} (hT : T ≤ 30) (h1 : ¬ T = 1) (hA : A < 2) (hj : j < 16) (v : Int32) : tt_prog (b, g, od, nI T, tm) (nI A) (nI j) v = (1, (upd b (16 * A + j) (b (16 * A + j) &&& (v ||| (255 ^^^ (-1)))), g, od + 1, nI (T - 1), tm)) := by
  unfold tt_prog
  rw [tt_cnt_0 b g od tm hT h1]
  show ((if (0 : Int32) = 0 then (1 : Int32) else 0), (tt_pr b (nI A) (nI j) v (if (0 : Int32) = 0 then 255 else tm), g, od + 1, nI (T - 1), tm)) = _
  rw [if_pos rfl, if_pos rfl, tt_pr_nI b hA hj]
theorem tt_er_s (b : Nat → Int32) {A n : Nat} (hA : A < 2) (hn : n < 16) (m : Int32) (q : Nat) : tt_er b (nI A) m (n + 1) q = if ((m >>> ((nI n &&& 7) &&& 31)) &&& 1 = 1) ∧ q = 16 * A + n then 255 else tt_er b (nI A) m n q := by
  show tt_er1 (tt_er b (nI A) m n) (nI A) m n q = _
  unfold tt_er1
  by_cases hc : (m >>> ((nI n &&& 7) &&& 31)) &&& 1 = 1
  · rw [if_pos hc, tt_pl_nI, nI_clamp (by omega)]
    by_cases hq : q = 16 * A + n
    · rw [if_pos ⟨hc, hq⟩, hq]; exact pk_us
    · rw [if_neg (fun h => hq h.2)]; exact pk_un hq
  · rw [if_neg hc, if_neg (fun h => hc h.1)]
theorem tt_er_any (b : Nat → Int32) {A : Nat} (hA : A < 2) (m : Int32) : ∀ (n : Nat), n ≤ 16 → ∀ q : Nat, tt_er b (nI A) m n q = b q ∨ (tt_er b (nI A) m n q = 255 ∧ 16 * A ≤ q ∧ q < 16 * A + n) := by
  intro n
  induction n with
  | zero => intro _ q; exact Or.inl rfl
  | succ n ih =>
    intro hn q
    rw [tt_er_s b hA (by omega) m q]
    by_cases h : ((m >>> ((nI n &&& 7) &&& 31)) &&& 1 = 1) ∧ q = 16 * A + n
    · rw [if_pos h]
      exact Or.inr ⟨rfl, by omega, by omega⟩
    · rw [if_neg h]
      rcases ih (by omega) q with h | ⟨h1, h2, h3⟩
      · exact Or.inl h
      · exact Or.inr ⟨h1, h2, by omega⟩
theorem tt_er_bits : ∀ n, n < 16 → ((255 : Int32) >>> ((nI n &&& 7) &&& 31)) &&& 1 = 1 := by decide +kernel
theorem tt_er_in (b : Nat → Int32) {A : Nat} (hA : A < 2) : ∀ (n : Nat), n ≤ 16 → ∀ q : Nat, 16 * A ≤ q → q < 16 * A + n → tt_er b (nI A) 255 n q = 255 := by
  intro n
  induction n with
  | zero => intro _ q h1 h2; omega
  | succ n ih =>
    intro hn q h1 h2
    rw [tt_er_s b hA (by omega) 255 q]
    by_cases hq : q = 16 * A + n
    · rw [if_pos ⟨tt_er_bits n (by omega), hq⟩]
    · rw [if_neg (fun h => hq h.2)]; exact ih (by omega) q h1 (by omega)
theorem tt_er_out (b : Nat → Int32) {A : Nat} (hA : A < 2) (m : Int32) {q : Nat} (hq : q < 16 * A ∨ 16 * A + 16 ≤ q) : tt_er b (nI A) m 16 q = b q := by
  rcases tt_er_any b hA m 16 (Nat.le_refl _) q with h | ⟨_, h2, h3⟩
  · exact h
  · omega
theorem tt_ip_nI {A : Nat} (hA : A < 2) : tt_ip (nI A) = 1 := by
  unfold tt_ip
  rw [if_neg (nI_pos (by omega)), if_neg (show ¬ (2 : Int32) ≤ nI A from nI_ge (a := A) (b := 2) hA (by decide))]
theorem tt_erase_1 (b g : Nat → Int32) (od tm : Int32) {A : Nat} (hA : A < 2) : tt_erase (b, g, od, nI 1, tm) (nI A) = (0, (tt_er b (nI A) tm 16, upd g A (g A + 1), od + 1, nI 0, tm)) := by
  unfold tt_erase
  rw [tt_cnt_1]
  show (if tt_ip (nI A) = 0 then _ else ((if (1 : Int32) = 0 then (1 : Int32) else 0), (tt_er b (nI A) (if (1 : Int32) = 0 then 255 else tm) 16, upd g (nI A).toNatClampNeg (g (nI A).toNatClampNeg + 1), od + 1, nI 0, tm))) = _
  rw [tt_ip_nI hA, if_neg (by decide), if_neg (by decide), if_neg (by decide), nI_clamp (by omega)]
theorem tt_erase_0 (b g : Nat → Int32) (od tm : Int32) {T A : Nat} (hT : T ≤ 30) (h1 : ¬ T = 1) (hA : A < 2) : tt_erase (b, g, od, nI T, tm) (nI A) = (1, (tt_er b (nI A) 255 16, upd g A (g A + 1), od + 1, nI (T - 1), tm)) := by
  unfold tt_erase
  rw [tt_cnt_0 b g od tm hT h1]
  show (if tt_ip (nI A) = 0 then _ else ((if (0 : Int32) = 0 then (1 : Int32) else 0), (tt_er b (nI A) (if (0 : Int32) = 0 then 255 else tm) 16, upd g (nI A).toNatClampNeg (g (nI A).toNatClampNeg + 1), od + 1, nI (T - 1), tm))) = _
  rw [tt_ip_nI hA, if_neg (by decide), if_pos rfl, if_pos rfl, nI_clamp (by omega)]
end
section
/-! the invariant of the two pages: A the active page, G its generation, p its pin, k entries used, pt and ut the tries, og whether the other page is good -/
def tt_I (b : Nat → Int32) (A G p k : Nat) (pt ut og : Int32) : Prop :=
  A < 2 ∧ G < 256 ∧ p < 65536 ∧ k ≤ 10 ∧ b (16 * A) = 90 ∧ b (16 * A + 1) = nI G ∧ b (16 * A + 2) = nI (p / 256) ∧ b (16 * A + 3) = nI (p % 256) ∧
  (∀ j, j < k → ¬ b (16 * A + (6 + j)) = 255) ∧ (∀ j, k ≤ j → j < 10 → b (16 * A + (6 + j)) = 255) ∧
  tt_pf (b (16 * A + 4)) (fun j => b (16 * A + (6 + j))) k = pt ∧ tt_uf (b (16 * A + 5)) (fun j => b (16 * A + (6 + j))) k = ut ∧
  ((og = 1 ∧ b (16 * (1 - A)) = 90 ∧ b (16 * (1 - A) + 1) = nI ((G + 255) % 256)) ∨ (og = 0 ∧ ¬ b (16 * (1 - A)) = 90))
theorem tt_g1 : ∀ G, G < 256 → ¬ nI ((G + 255) % 256) = (nI G + 1) &&& 255 := by decide +kernel
theorem tt_g2 : ∀ G, G < 256 → nI G = (nI ((G + 255) % 256) + 1) &&& 255 := by decide +kernel
theorem tt_g3 : ∀ G, G < 256 → (nI G + 1) &&& 255 = nI ((G + 1) % 256) := by decide +kernel
theorem tt_g4 : ∀ G, G < 256 → ((G + 1) % 256 + 255) % 256 = G := by decide +kernel
theorem tt_gd_t {b : Nat → Int32} {A : Nat} (hA : A < 2) (h : b (16 * A) = 90) : tt_gd b (nI A) = 1 := by
  unfold tt_gd
  rw [if_pos]
  exact (tt_rd_nI b hA (j := 0) (by decide)).trans h
theorem tt_gd_f {b : Nat → Int32} {A : Nat} (hA : A < 2) (h : ¬ b (16 * A) = 90) : tt_gd b (nI A) = 0 := by
  unfold tt_gd
  rw [if_neg]
  exact fun q => h ((tt_rd_nI b hA (j := 0) (by decide)).symm.trans q)
theorem tt_ga_nI {b : Nat → Int32} {A G : Nat} (hA : A < 2) (h : b (16 * A + 1) = nI G) : tt_ga b (nI A) = (nI G + 1) &&& 255 := by
  unfold tt_ga
  rw [show tt_rd b (nI A) 1 = nI G from (tt_rd_nI b hA (j := 1) (by decide)).trans h]
theorem tt_I_ac {b : Nat → Int32} {A G p k : Nat} {pt ut og : Int32} (h : tt_I b A G p k pt ut og) : tt_ac b = nI A := by
  obtain ⟨hA, hG, hp, hk, b0, b1, b2, b3, hn, hb, hpt, hut, ho⟩ := h
  have r11 : tt_rd b 1 1 = b 17 := tt_rd_nI b (A := 1) (j := 1) (by decide) (by decide)
  unfold tt_ac
  rcases (show A = 0 ∨ A = 1 by omega) with rfl | rfl
  · rcases ho with ⟨rfl, o0, o1⟩ | ⟨rfl, o0⟩
    · have g1 : tt_gd b 1 = 1 := tt_gd_t (A := 1) (by decide) o0
      have g0 : tt_gd b 0 = 1 := tt_gd_t (A := 0) (by decide) b0
      have ga : tt_ga b 0 = (nI G + 1) &&& 255 := tt_ga_nI (A := 0) (by decide) b1
      have e1 : b 17 = nI ((G + 255) % 256) := o1
      rw [g1, g0, if_neg (by decide), if_neg (by decide), r11, ga, e1, if_neg (tt_g1 G hG)]
      rfl
    · have g1 : tt_gd b 1 = 0 := tt_gd_f (A := 1) (by decide) o0
      rw [g1, if_pos rfl]
      rfl
  · have g1 : tt_gd b 1 = 1 := tt_gd_t (A := 1) (by decide) b0
    rcases ho with ⟨rfl, o0, o1⟩ | ⟨rfl, o0⟩
    · have g0 : tt_gd b 0 = 1 := tt_gd_t (A := 0) (by decide) o0
      have ga : tt_ga b 0 = (nI ((G + 255) % 256) + 1) &&& 255 := tt_ga_nI (A := 0) (by decide) o1
      have e1 : b 17 = nI G := b1
      rw [g1, g0, if_neg (by decide), if_neg (by decide), r11, ga, e1, if_pos (tt_g2 G hG)]
      rfl
    · have g0 : tt_gd b 0 = 0 := tt_gd_f (A := 0) (by decide) o0
      rw [g1, g0, if_neg (by decide), if_pos rfl]
      rfl
theorem tt_or_nI (a c : Nat) : nI a ||| nI c = nI (a ||| c) := by
  apply Int32.toBitVec_inj.1
  show BitVec.ofNat 32 a ||| BitVec.ofNat 32 c = BitVec.ofNat 32 (a ||| c)
  apply BitVec.eq_of_getLsbD_eq
  intro i hi
  simp [hi]
theorem tt_hl {p : Nat} (hp : p < 65536) : (nI (p / 256) <<< ((8 : Int32) &&& 31)) ||| nI (p % 256) = nI p := by
  rw [pk_shlN (n := p / 256) ((8 : Int32) &&& 31) 8 (by decide) (by omega), tt_or_nI]
  congr 1
  have h := Nat.two_pow_add_eq_or_of_lt (i := 8) (b := p % 256) (by omega) (p / 256)
  rw [Nat.mul_comm, ← h]
  omega
theorem tt_I_pin {b : Nat → Int32} {A G p k : Nat} {pt ut og : Int32} (h : tt_I b A G p k pt ut og) : tt_pin b = nI p := by
  unfold tt_pin
  rw [tt_I_ac h]
  obtain ⟨hA, hG, hp, hk, b0, b1, b2, b3, hn, hb, hpt, hut, ho⟩ := h
  rw [show tt_rd b (nI A) 2 = nI (p / 256) from (tt_rd_nI b hA (j := 2) (by decide)).trans b2, show tt_rd b (nI A) 3 = nI (p % 256) from (tt_rd_nI b hA (j := 3) (by decide)).trans b3]
  exact tt_hl hp
theorem tt_I_gen {b : Nat → Int32} {A G p k : Nat} {pt ut og : Int32} (h : tt_I b A G p k pt ut og) : tt_rd b (tt_ac b) 1 = nI G := by
  rw [tt_I_ac h]
  obtain ⟨hA, hG, hp, hk, b0, b1, b2, b3, hn, hb, hpt, hut, ho⟩ := h
  exact (tt_rd_nI b hA (j := 1) (by decide)).trans b1
theorem tt_pf_c {u : Int32} {e e' : Nat → Int32} : ∀ k, (∀ j, j < k → e j = e' j) → tt_pf u e k = tt_pf u e' k := by
  intro k
  induction k with
  | zero => intro _; rfl
  | succ k ih =>
    intro h
    show tt_ps (tt_pf u e k) (e k) = tt_ps (tt_pf u e' k) (e' k)
    rw [ih (fun j hj => h j (by omega)), h k (by omega)]
theorem tt_uf_c {u : Int32} {e e' : Nat → Int32} : ∀ k, (∀ j, j < k → e j = e' j) → tt_uf u e k = tt_uf u e' k := by
  intro k
  induction k with
  | zero => intro _; rfl
  | succ k ih =>
    intro h
    show tt_us (tt_uf u e k) (e k) = tt_us (tt_uf u e' k) (e' k)
    rw [ih (fun j hj => h j (by omega)), h k (by omega)]
theorem tt_ff_c {u : Int32} {e e' : Nat → Int32} : ∀ k, (∀ j, j < k → e j = e' j) → tt_ff u e k = tt_ff u e' k := by
  intro k
  induction k with
  | zero => intro _; rfl
  | succ k ih =>
    intro h
    show tt_fs (tt_ff u e k) (e k) = tt_fs (tt_ff u e' k) (e' k)
    rw [ih (fun j hj => h j (by omega)), h k (by omega)]
theorem tt_ps_255 (u : Int32) : tt_ps u 255 = u := by unfold tt_ps; rw [if_neg (by decide)]
theorem tt_us_255 (u : Int32) : tt_us u 255 = u := by unfold tt_us; rw [if_neg (by decide)]
theorem tt_pf_b {u : Int32} {e : Nat → Int32} (k : Nat) : ∀ n, (∀ j, k ≤ j → j < k + n → e j = 255) → tt_pf u e (k + n) = tt_pf u e k := by
  intro n
  induction n with
  | zero => intro _; rfl
  | succ n ih =>
    intro h
    show tt_ps (tt_pf u e (k + n)) (e (k + n)) = _
    rw [h (k + n) (by omega) (by omega), tt_ps_255]
    exact ih (fun j h1 h2 => h j h1 (by omega))
theorem tt_uf_b {u : Int32} {e : Nat → Int32} (k : Nat) : ∀ n, (∀ j, k ≤ j → j < k + n → e j = 255) → tt_uf u e (k + n) = tt_uf u e k := by
  intro n
  induction n with
  | zero => intro _; rfl
  | succ n ih =>
    intro h
    show tt_us (tt_uf u e (k + n)) (e (k + n)) = _
    rw [h (k + n) (by omega) (by omega), tt_us_255]
    exact ih (fun j h1 h2 => h j h1 (by omega))
theorem tt_ff_n {u : Int32} {e : Nat → Int32} : ∀ k, (∀ j, j < k → ¬ e j = 255) → tt_ff u e k = u := by
  intro k
  induction k with
  | zero => intro _; rfl
  | succ k ih =>
    intro h
    show tt_fs (tt_ff u e k) (e k) = u
    unfold tt_fs
    rw [if_neg (h k (by omega))]
    exact ih (fun j hj => h j (by omega))
theorem tt_ff_b {u : Int32} {e : Nat → Int32} (k : Nat) : ∀ n, (∀ j, k ≤ j → j < k + n → e j = 255) → tt_ff u e (k + n) = tt_ff u e k + nI n := by
  intro n
  induction n with
  | zero => intro _; show tt_ff u e k = tt_ff u e k + 0; rw [Int32.add_zero]
  | succ n ih =>
    intro h
    show tt_fs (tt_ff u e (k + n)) (e (k + n)) = _
    unfold tt_fs
    rw [if_pos (h (k + n) (by omega) (by omega)), ih (fun j h1 h2 => h j h1 (by omega)), nI_succ, Int32.add_assoc]
theorem tt_1f_n {e : Nat → Int32} : ∀ n i, (∀ j, i ≤ j → j < i + n → ¬ e j = 255) → tt_1f e n i = -1 := by
  intro n
  induction n with
  | zero => intro i _; rfl
  | succ n ih =>
    intro i h
    show (if e i = 255 then nI (6 + i) else tt_1f e n (i + 1)) = -1
    rw [if_neg (h i (by omega) (by omega))]
    exact ih (i + 1) (fun j h1 h2 => h j (by omega) (by omega))
theorem tt_1f_b {e : Nat → Int32} {k : Nat} (hk : e k = 255) : ∀ d n i, i + d = k → d < n → (∀ j, i ≤ j → j < k → ¬ e j = 255) → tt_1f e n i = nI (6 + k) := by
  intro d
  induction d with
  | zero =>
    intro n i h1 h2 h
    obtain ⟨n, rfl⟩ : ∃ m, n = m + 1 := ⟨n - 1, by omega⟩
    obtain rfl : i = k := by omega
    show (if e i = 255 then nI (6 + i) else tt_1f e n (i + 1)) = _
    rw [if_pos hk]
  | succ d ih =>
    intro n i h1 h2 h
    obtain ⟨n, rfl⟩ : ∃ m, n = m + 1 := ⟨n - 1, by omega⟩
    show (if e i = 255 then nI (6 + i) else tt_1f e n (i + 1)) = _
    rw [if_neg (h i (by omega) (by omega))]
    exact ih n (i + 1) (by omega) (by omega) (fun j q1 q2 => h j (by omega) q2)
theorem tt_en_nI (b : Nat → Int32) {A j : Nat} (hA : A < 2) (hj : j < 10) : tt_en b (nI A) j = b (16 * A + (6 + j)) := tt_rd_nI b hA (by omega)
theorem tt_I_pu {b : Nat → Int32} {A G p k : Nat} {pt ut og : Int32} (h : tt_I b A G p k pt ut og) : tt_pu b = pt := by
  unfold tt_pu
  rw [tt_I_ac h]
  obtain ⟨hA, hG, hp, hk, b0, b1, b2, b3, hn, hb, hpt, hut, ho⟩ := h
  rw [show tt_rd b (nI A) 4 = b (16 * A + 4) from tt_rd_nI b hA (j := 4) (by decide), tt_pf_c 10 (fun j hj => tt_en_nI b hA hj), show 10 = k + (10 - k) by omega, tt_pf_b k (10 - k) (fun j h1 h2 => hb j h1 (by omega))]
  exact hpt
theorem tt_I_uu {b : Nat → Int32} {A G p k : Nat} {pt ut og : Int32} (h : tt_I b A G p k pt ut og) : tt_uu b = ut := by
  unfold tt_uu
  rw [tt_I_ac h]
  obtain ⟨hA, hG, hp, hk, b0, b1, b2, b3, hn, hb, hpt, hut, ho⟩ := h
  rw [show tt_rd b (nI A) 5 = b (16 * A + 5) from tt_rd_nI b hA (j := 5) (by decide), tt_uf_c 10 (fun j hj => tt_en_nI b hA hj), show 10 = k + (10 - k) by omega, tt_uf_b k (10 - k) (fun j h1 h2 => hb j h1 (by omega))]
  exact hut
theorem tt_I_fe {b : Nat → Int32} {A G p k : Nat} {pt ut og : Int32} (h : tt_I b A G p k pt ut og) : tt_fe b = nI (10 - k) := by
  unfold tt_fe
  rw [tt_I_ac h]
  obtain ⟨hA, hG, hp, hk, b0, b1, b2, b3, hn, hb, hpt, hut, ho⟩ := h
  rw [tt_ff_c 10 (fun j hj => tt_en_nI b hA hj), show 10 = k + (10 - k) by omega, tt_ff_b k (10 - k) (fun j h1 h2 => hb j h1 (by omega)), tt_ff_n k hn, Int32.zero_add, show k + (10 - k) - k = 10 - k by omega]
theorem tt_I_fst {b : Nat → Int32} {A G p k : Nat} {pt ut og : Int32} (h : tt_I b A G p k pt ut og) : (k = 10 → tt_fst b = -1) ∧ (k < 10 → tt_fst b = nI (6 + k)) := by
  unfold tt_fst
  rw [tt_I_ac h]
  obtain ⟨hA, hG, hp, hk, b0, b1, b2, b3, hn, hb, hpt, hut, ho⟩ := h
  refine ⟨fun q => ?_, fun q => ?_⟩
  · exact tt_1f_n 10 0 (fun j h1 h2 => by rw [tt_en_nI b hA (by omega)]; exact hn j (by omega))
  · exact tt_1f_b (k := k) (by rw [tt_en_nI b hA q]; exact hb k (Nat.le_refl _) q) k 10 0 (by omega) q (fun j h1 h2 => by rw [tt_en_nI b hA (by omega)]; exact hn j h2)
/-- what only touches the other page, and leaves it not good -/
theorem tt_I_oth {b b' : Nat → Int32} {A G p k : Nat} {pt ut og : Int32} (h : tt_I b A G p k pt ut og) (he : ∀ q, 16 * A ≤ q → q < 16 * A + 16 → b' q = b q) (ho : ¬ b' (16 * (1 - A)) = 90) : tt_I b' A G p k pt ut 0 := by
  obtain ⟨hA, hG, hp, hk, b0, b1, b2, b3, hn, hb, hpt, hut, -⟩ := h
  refine ⟨hA, hG, hp, hk, ?_, ?_, ?_, ?_, fun j hj => ?_, fun j h1 h2 => ?_, ?_, ?_, Or.inr ⟨rfl, ho⟩⟩
  · rw [he _ (by omega) (by omega)]; exact b0
  · rw [he _ (by omega) (by omega)]; exact b1
  · rw [he _ (by omega) (by omega)]; exact b2
  · rw [he _ (by omega) (by omega)]; exact b3
  · rw [he _ (by omega) (by omega)]; exact hn j hj
  · rw [he _ (by omega) (by omega)]; exact hb j h1 h2
  · rw [he _ (by omega) (by omega), ← hpt]; exact tt_pf_c k (fun j hj => he _ (by omega) (by omega))
  · rw [he _ (by omega) (by omega), ← hut]; exact tt_uf_c k (fun j hj => he _ (by omega) (by omega))
theorem tt_I_og {b : Nat → Int32} {A G p k : Nat} {pt ut og : Int32} (h : tt_I b A G p k pt ut og) : (og = 1 ∧ b (16 * (1 - A)) = 90 ∧ b (16 * (1 - A) + 1) = nI ((G + 255) % 256)) ∨ (og = 0 ∧ ¬ b (16 * (1 - A)) = 90) := h.2.2.2.2.2.2.2.2.2.2.2.2
end
section
/-! the turn of a page, beside the reference's -/
theorem tt_k90 : ∀ K, K < 256 → (((90 : Int32) &&& (0 ||| (nI K ^^^ (-1))) = 90) ↔ (nI K &&& 90 = 0)) := by decide +kernel
theorem tt_k165 : ∀ K, K < 256 → (((255 : Int32) &&& (90 ||| (nI K ^^^ (-1))) = 90) ↔ (nI K &&& 165 = 165)) := by decide +kernel
theorem tt_w8 : ∀ v, v < 256 → (255 : Int32) &&& (nI v ||| (255 ^^^ (-1))) = nI v := by decide +kernel
theorem tt_seq_0 {S : Type} (s : S) (k : S → Int32 × S) : tt_seq (0, s) k = (0, s) := if_pos rfl
theorem tt_seq_1 {S : Type} (s : S) (k : S → Int32 × S) : tt_seq (1, s) k = k s := if_neg (show ¬ (1 : Int32) = 0 by decide)
theorem mm_lp_1 (n : Nat) (ac ag pn pt ut en og pw hd ar dn e0 e1 : Int32) {K : Nat} (hK : K < 256) : mm_lp (n + 1) (ac, ag, pn, pt, ut, en, og, pw, hd, nI 1, nI K, ar, dn, e0, e1) = (0, (ac, ag, pn, pt, ut, en, og, 0, 0, nI 0, nI K, ar, dn + 1, e0, e1)) := by
  simp only [mm_lp, mm_op_1]
  rw [if_neg (nI_pos (by omega))]
theorem mm_lp_0 (n : Nat) (ac ag pn pt ut en og pw hd tk ar dn e0 e1 : Int32) {T : Nat} (hT : T ≤ 30) (h1 : ¬ T = 1) : mm_lp (n + 1) (ac, ag, pn, pt, ut, en, og, pw, hd, nI T, tk, ar, dn, e0, e1) = mm_lp n (ac, ag, pn, pt, ut, en, og, pw, hd, nI (T - 1), tk, ar, dn + 1, e0, e1) := by
  have e := mm_op_0 ac ag pn pt ut en og pw hd tk ar dn e0 e1 hT h1
  simp only [mm_lp, e]
  rw [if_pos (by decide)]
/-- how a turn may end: the old page stays and the power is lost, or the new page is active (with or without power) -/
def tt_Rel (A G p k a c p' a' c' K : Nat) (pw hd ar : Int32) (x : Int32 × tt_F) (y : Int32 × tt_M) : Prop :=
  ∃ (b' g' : Nat → Int32) (dn' : Int32) (T' : Nat), T' ≤ 30 ∧
   ((∃ og' : Int32, tt_I b' A G p k (nI a) (nI c) og' ∧ x = (0, (b', g', dn', nI T', nI K)) ∧ y = (0, (nI A, nI G, nI p, nI a, nI c, nI (10 - k), og', 0, 0, nI T', nI K, ar, dn', g' 0, g' 1))) ∨
    (∃ r pw' hd' : Int32, tt_I b' (1 - A) ((G + 1) % 256) p' 0 (nI a') (nI c') 1 ∧ ((r = 1 ∧ pw' = pw ∧ hd' = hd) ∨ (r = 0 ∧ pw' = 0 ∧ hd' = 0)) ∧ x = (r, (b', g', dn', nI T', nI K)) ∧ y = (r, (nI (1 - A), nI ((G + 1) % 256), nI p', nI a', nI c', nI 10, 1, pw', hd', nI T', nI K, ar, dn', g' 0, g' 1))))
theorem tt_stop {A G p k a c p' a' c' K T : Nat} {pw hd ar dn og : Int32} {b g : Nat → Int32} (h : tt_I b A G p k (nI a) (nI c) og) (hT : T ≤ 30) : tt_Rel A G p k a c p' a' c' K pw hd ar (0, (b, g, dn, nI T, nI K)) (0, (nI A, nI G, nI p, nI a, nI c, nI (10 - k), og, 0, 0, nI T, nI K, ar, dn, g 0, g 1)) :=
  ⟨b, g, dn, T, hT, Or.inl ⟨og, h, rfl, rfl⟩⟩
theorem tt_I_lt {b : Nat → Int32} {A G p k : Nat} {pt ut og : Int32} (h : tt_I b A G p k pt ut og) : A < 2 := h.1
theorem tt_I_upd {b : Nat → Int32} {A G p k j : Nat} {pt ut : Int32} (h : tt_I b A G p k pt ut 0) (hj0 : 0 < j) (hj : j < 16) (w : Int32) : tt_I (upd b (16 * (1 - A) + j) w) A G p k pt ut 0 := by
  have hA := h.1
  refine tt_I_oth h (fun q h1 h2 => pk_un (by omega)) ?_
  rw [pk_un (by omega)]
  rcases tt_I_og h with ⟨q, -⟩ | ⟨-, q⟩
  · exact absurd q (by decide)
  · exact q
theorem tt_step {A G p k a c p' a' c' K T n j : Nat} {pw hd ar dn : Int32} {b g : Nat → Int32} {kF : tt_F → Int32 × tt_F} {kM : tt_M → Int32 × tt_M} (h : tt_I b A G p k (nI a) (nI c) 0) (hT : T ≤ 30) (hK : K < 256) (hj0 : 0 < j) (hj : j < 16) (v : Int32)
    (go : ∀ b2, b2 = upd b (16 * (1 - A) + j) (b (16 * (1 - A) + j) &&& (v ||| (255 ^^^ (-1)))) → tt_I b2 A G p k (nI a) (nI c) 0 → tt_Rel A G p k a c p' a' c' K pw hd ar (kF (b2, g, dn + 1, nI (T - 1), nI K)) (tt_seq (mm_lp n (nI A, nI G, nI p, nI a, nI c, nI (10 - k), 0, pw, hd, nI (T - 1), nI K, ar, dn + 1, g 0, g 1)) kM)) :
    tt_Rel A G p k a c p' a' c' K pw hd ar (tt_seq (tt_prog (b, g, dn, nI T, nI K) (nI (1 - A)) (nI j) v) kF) (tt_seq (mm_lp (n + 1) (nI A, nI G, nI p, nI a, nI c, nI (10 - k), 0, pw, hd, nI T, nI K, ar, dn, g 0, g 1)) kM) := by
  by_cases h1 : T = 1
  · subst h1
    rw [tt_prog_1 b g dn (nI K) (by omega) hj v, mm_lp_1 n _ _ _ _ _ _ _ _ _ _ _ _ _ hK, tt_seq_0, tt_seq_0]
    exact tt_stop (tt_I_upd h hj0 hj _) (by omega)
  · rw [tt_prog_0 b g dn (nI K) hT h1 (by omega) hj v, mm_lp_0 n _ _ _ _ _ _ _ _ _ _ _ _ _ _ hT h1, tt_seq_1]
    exact go _ rfl (tt_I_upd h hj0 hj _)
def tt_C (b : Nat → Int32) (O n : Nat) (w : Nat → Nat) : Prop := ∀ q, q < 16 → b (16 * O + q) = if 1 ≤ q ∧ q ≤ n then nI (w q) else 255
theorem tt_C_s {b : Nat → Int32} {O n : Nat} {w : Nat → Nat} (h : tt_C b O n w) (hn : n + 1 < 16) (hw : w (n + 1) < 256) : tt_C (upd b (16 * O + (n + 1)) (b (16 * O + (n + 1)) &&& (nI (w (n + 1)) ||| (255 ^^^ (-1))))) O (n + 1) w := by
  intro q hq
  by_cases h1 : q = n + 1
  · subst h1
    rw [pk_us, h (n + 1) hq, if_neg (by omega), if_pos (by omega)]
    exact tt_w8 _ hw
  · rw [pk_un (by omega), h q hq]
    by_cases h2 : 1 ≤ q ∧ q ≤ n
    · rw [if_pos h2, if_pos (by omega)]
    · rw [if_neg h2, if_neg (by omega)]
/-- the new page, once its first byte is written -/
theorem tt_I_new {b : Nat → Int32} {A G p k : Nat} {pt ut og : Int32} {p' a' c' : Nat} (h : tt_I b A G p k pt ut og) (hp : p' < 65536) {w : Nat → Nat} (hw1 : w 1 = (G + 1) % 256) (hw2 : w 2 = p' / 256) (hw3 : w 3 = p' % 256) (hw4 : w 4 = a') (hw5 : w 5 = c') (hC : tt_C b (1 - A) 5 w) :
    tt_I (upd b (16 * (1 - A)) 90) (1 - A) ((G + 1) % 256) p' 0 (nI a') (nI c') 1 := by
  obtain ⟨hA, hG, hp0, hk, b0, b1, b2, b3, hn, hb, hpt, hut, ho⟩ := h
  have at' : ∀ q, 0 < q → q < 16 → upd b (16 * (1 - A)) 90 (16 * (1 - A) + q) = if 1 ≤ q ∧ q ≤ 5 then nI (w q) else 255 := fun q h0 hq => by
    rw [pk_un (by omega)]; exact hC q hq
  refine ⟨by omega, by omega, hp, by omega, pk_us, ?_, ?_, ?_, fun j hj => absurd hj (Nat.not_lt_zero _), fun j _ hj => ?_, ?_, ?_, Or.inl ⟨rfl, ?_, ?_⟩⟩
  · rw [at' 1 (by omega) (by omega), if_pos (by omega), hw1]
  · rw [at' 2 (by omega) (by omega), if_pos (by omega), hw2]
  · rw [at' 3 (by omega) (by omega), if_pos (by omega), hw3]
  · rw [at' (6 + j) (by omega) (by omega), if_neg (by omega)]
  · show upd b (16 * (1 - A)) 90 (16 * (1 - A) + 4) = nI a'
    rw [at' 4 (by omega) (by omega), if_pos (by omega), hw4]
  · show upd b (16 * (1 - A)) 90 (16 * (1 - A) + 5) = nI c'
    rw [at' 5 (by omega) (by omega), if_pos (by omega), hw5]
  · rw [show 1 - (1 - A) = A by omega, pk_un (by omega)]; exact b0
  · rw [show 1 - (1 - A) = A by omega, pk_un (by omega), tt_g4 G hG]; exact b1
theorem tt_upd_I (b : Nat → Int32) (k : Nat) (x y : Int32) (h : x = y) : upd b k x = upd b k y := by rw [h]
theorem tt_all_t {m k : Int32} (h : m &&& k = k) : mm_all m k = 1 := by
  unfold mm_all
  by_cases q : m < 0
  · rw [if_pos q]
  · rw [if_neg q, if_pos h]
theorem tt_all_f {K : Nat} {k : Int32} (hK : K < 256) (h : ¬ nI K &&& k = k) : mm_all (nI K) k = 0 := by
  unfold mm_all
  rw [if_neg (nI_pos (by omega)), if_neg h]
theorem tt_age {G : Nat} (hG : G < 256) : (nI G + 1) - (nI G + 1) / 256 * 256 = nI ((G + 1) % 256) := by
  rw [nI_1]
  exact pk_rem (a := G + 1) (d := 256) (by omega) (by omega) (by omega)
/-- the last step: byte 0 of the fresh page -/
theorem tt_last {A G p k a c p' a' c' K T : Nat} {pw hd ar dn : Int32} {b g : Nat → Int32} (h : tt_I b A G p k (nI a) (nI c) 0) (hT : T ≤ 30) (hK : K < 256) (hp : p' < 65536) {w : Nat → Nat} (hw1 : w 1 = (G + 1) % 256) (hw2 : w 2 = p' / 256) (hw3 : w 3 = p' % 256) (hw4 : w 4 = a') (hw5 : w 5 = c') (hC : tt_C b (1 - A) 5 w) :
    tt_Rel A G p k a c p' a' c' K pw hd ar (tt_seq (tt_prog (b, g, dn, nI T, nI K) (nI (1 - A)) 0 90) fun s => (1, s)) (mm_t9 (nI A, nI G, nI p, nI a, nI c, nI (10 - k), 0, pw, hd, nI T, nI K, ar, dn, g 0, g 1) (nI p') (nI a') (nI c')) := by
  have hA := h.1
  have hG := h.2.1
  have e1 : (1 : Int32) - nI A = nI (1 - A) := pk_sub (a := 1) (b := A) (by omega)
  have hb0 : b (16 * (1 - A)) = 255 := by have q := hC 0 (by omega); rw [if_neg (by omega)] at q; exact q
  by_cases h1 : T = 1
  · subst h1
    have ep := tt_prog_1 b g dn (nI K) (A := 1 - A) (j := 0) (by omega) (by decide) 90
    rw [show tt_prog (b, g, dn, nI 1, nI K) (nI (1 - A)) 0 90 = _ from ep, tt_seq_0]
    simp only [mm_t9, mm_op_1]
    rw [if_pos (nI_pos' (by omega)), Nat.add_zero, hb0]
    by_cases hm : nI K &&& 165 = 165
    · rw [tt_all_t hm, if_neg (by decide), e1, tt_age hG, (tt_k165 K hK).mpr hm]
      exact ⟨_, g, dn + 1, 0, by omega, Or.inr ⟨0, 0, 0, tt_I_new h hp hw1 hw2 hw3 hw4 hw5 hC, Or.inr ⟨rfl, rfl, rfl⟩, rfl, rfl⟩⟩
    · rw [tt_all_f hK hm, if_pos rfl]
      refine tt_stop (tt_I_oth h (fun q h1 h2 => pk_un (by omega)) ?_) (by omega)
      rw [pk_us]
      exact fun q => hm ((tt_k165 K hK).mp q)
  · have ep := tt_prog_0 b g dn (nI K) (A := 1 - A) (j := 0) hT h1 (by omega) (by decide) 90
    have eo := mm_op_0 (nI A) (nI G) (nI p) (nI a) (nI c) (nI (10 - k)) 0 pw hd (nI K) ar dn (g 0) (g 1) hT h1
    rw [show tt_prog (b, g, dn, nI T, nI K) (nI (1 - A)) 0 90 = _ from ep, tt_seq_1]
    simp only [mm_t9, eo]
    rw [if_neg (by decide), Nat.add_zero, hb0, show mm_all (-1) 165 = 1 by decide, if_neg (by decide), e1, tt_age hG, show (255 : Int32) &&& (90 ||| (255 ^^^ (-1))) = 90 by decide]
    exact ⟨_, g, dn + 1, T - 1, by omega, Or.inr ⟨1, pw, hd, tt_I_new h hp hw1 hw2 hw3 hw4 hw5 hC, Or.inl ⟨rfl, rfl, rfl⟩, rfl, rfl⟩⟩
theorem tt_er_page {A A2 : Nat} {x1 x2 x3 x4 x5 x6 x7 x8 x9 x10 x11 x12 : Int32} (hA : A < 2) (hA2 : A2 = 1 - A) (g : Nat → Int32) : mm_er (nI A, x1, x2, x3, x4, x5, x6, x7, x8, x9, x10, x11, x12, g 0, g 1) = (nI A, x1, x2, x3, x4, x5, x6, x7, x8, x9, x10, x11, x12, (upd g A2 (g A2 + 1)) 0, (upd g A2 (g A2 + 1)) 1) := by
  subst hA2
  simp only [mm_er]
  rcases (show A = 0 ∨ A = 1 by omega) with rfl | rfl
  · rw [if_pos (by decide)]
    rfl
  · rw [if_neg (by decide)]
    rfl
/-- from the erase on, the other page not good -/
theorem tt_mid {A G p k a c p' a' c' K T : Nat} {pw hd ar dn : Int32} {b g : Nat → Int32} (h : tt_I b A G p k (nI a) (nI c) 0) (hT : T ≤ 30) (hK : K < 256) (hp : p' < 65536) (ha : a' < 256) (hc : c' < 256) :
    tt_Rel A G p k a c p' a' c' K pw hd ar (tt_seq (tt_erase (b, g, dn, nI T, nI K) (nI (1 - A))) fun s2 => tt_seq (tt_prog s2 (nI (1 - A)) 1 (tt_ga s2.1 (nI A))) fun s3 =>
      tt_seq (tt_prog s3 (nI (1 - A)) 2 (nI p' >>> ((8 : Int32) &&& 31))) fun s4 => tt_seq (tt_prog s4 (nI (1 - A)) 3 (nI p' &&& 255)) fun s5 => tt_seq (tt_prog s5 (nI (1 - A)) 4 (nI a')) fun s6 =>
      tt_seq (tt_prog s6 (nI (1 - A)) 5 (nI c')) fun s7 => tt_seq (tt_prog s7 (nI (1 - A)) 0 90) fun s8 => (1, s8))
      (tt_seq (mm_lp (5 + 1) (mm_er (nI A, nI G, nI p, nI a, nI c, nI (10 - k), 0, pw, hd, nI T, nI K, ar, dn, g 0, g 1))) fun s2 => mm_t9 s2 (nI p') (nI a') (nI c')) := by
  have hA := h.1
  have hG := h.2.1
  rw [tt_er_page hA rfl g]
  by_cases h1 : T = 1
  · subst h1
    rw [tt_erase_1 b g dn (nI K) (by omega), mm_lp_1 5 _ _ _ _ _ _ _ _ _ _ _ _ _ hK, tt_seq_0, tt_seq_0]
    refine tt_stop (tt_I_oth h (fun q q1 q2 => tt_er_out b (by omega) _ (by omega)) ?_) (by omega)
    rcases tt_er_any b (A := 1 - A) (by omega) (nI K) 16 (Nat.le_refl _) (16 * (1 - A)) with q | ⟨q, -⟩
    · rw [q]
      rcases tt_I_og h with ⟨z, -⟩ | ⟨-, z⟩
      · exact absurd z (by decide)
      · exact z
    · rw [q]; decide
  · rw [tt_erase_0 b g dn (nI K) hT h1 (by omega), mm_lp_0 5 _ _ _ _ _ _ _ _ _ _ _ _ _ _ hT h1, tt_seq_1]
    have hC0 : tt_C (tt_er b (nI (1 - A)) 255 16) (1 - A) 0 (fun q => if q = 1 then (G + 1) % 256 else if q = 2 then p' / 256 else if q = 3 then p' % 256 else if q = 4 then a' else c') := fun q hq => by
      rw [if_neg (by omega)]; exact tt_er_in b (by omega) 16 (Nat.le_refl _) _ (by omega) (by omega)
    have hI0 : tt_I (tt_er b (nI (1 - A)) 255 16) A G p k (nI a) (nI c) 0 := tt_I_oth h (fun q q1 q2 => tt_er_out b (by omega) _ (by omega)) (by rw [tt_er_in b (by omega) 16 (Nat.le_refl _) _ (by omega) (by omega)]; decide)
    generalize hw : (fun q => if q = 1 then (G + 1) % 256 else if q = 2 then p' / 256 else if q = 3 then p' % 256 else if q = 4 then a' else c') = w at hC0
    have w1 : w 1 = (G + 1) % 256 := by rw [← hw]; rfl
    have w2 : w 2 = p' / 256 := by rw [← hw]; rfl
    have w3 : w 3 = p' % 256 := by rw [← hw]; rfl
    have w4 : w 4 = a' := by rw [← hw]; rfl
    have w5 : w 5 = c' := by rw [← hw]; rfl
    generalize tt_er b (nI (1 - A)) 255 16 = b1 at hC0 hI0 ⊢
    generalize upd g (1 - A) (g (1 - A) + 1) = g1
    have eg : tt_ga b1 (nI A) = nI (w 1) := by rw [tt_ga_nI hA hI0.2.2.2.2.2.1, tt_g3 G hG, w1]
    have es : nI p' >>> ((8 : Int32) &&& 31) = nI (w 2) := by rw [w2]; exact pk_shrN (n := p') (by omega) ((8 : Int32) &&& 31) 8 (by decide)
    have ea : nI p' &&& 255 = nI (w 3) := by rw [w3]; exact pk_andN (n := p') (by omega) 8 (by decide)
    show tt_Rel _ _ _ _ _ _ _ _ _ _ _ _ _ (tt_seq (tt_prog (b1, g1, dn + 1, nI (T - 1), nI K) (nI (1 - A)) (nI 1) (tt_ga b1 (nI A))) _) _
    rw [eg]
    refine tt_step (j := 1) hI0 (by omega) hK (by omega) (by omega) _ (fun b2 hb2 hI2 => ?_)
    have hC2 : tt_C b2 (1 - A) 1 w := by rw [hb2]; exact tt_C_s hC0 (by omega) (by rw [w1]; omega)
    rw [es]
    refine tt_step (j := 2) hI2 (by omega) hK (by omega) (by omega) _ (fun b3 hb3 hI3 => ?_)
    have hC3 : tt_C b3 (1 - A) 2 w := by rw [hb3]; exact tt_C_s hC2 (by omega) (by rw [w2]; omega)
    rw [ea]
    refine tt_step (j := 3) hI3 (by omega) hK (by omega) (by omega) _ (fun b4 hb4 hI4 => ?_)
    have hC4 : tt_C b4 (1 - A) 3 w := by rw [hb4]; exact tt_C_s hC3 (by omega) (by rw [w3]; omega)
    refine tt_step (j := 4) hI4 (by omega) hK (by omega) (by omega) _ (fun b5 hb5 hI5 => ?_)
    have hC5 : tt_C b5 (1 - A) 4 w := by rw [hb5, ← w4]; exact tt_C_s hC4 (by omega) (by rw [w4]; omega)
    refine tt_step (j := 5) hI5 (by omega) hK (by omega) (by omega) _ (fun b6 hb6 hI6 => ?_)
    have hC6 : tt_C b6 (1 - A) 5 w := by rw [hb6, ← w5]; exact tt_C_s hC5 (by omega) (by rw [w5]; omega)
    show tt_Rel _ _ _ _ _ _ _ _ _ _ _ _ _ _ (tt_seq (1, _) _)
    rw [tt_seq_1]
    exact tt_last hI6 (by omega) hK hp w1 w2 w3 w4 w5 hC6
theorem tt_turn_sim {A G p k a c p' a' c' K T : Nat} {pw hd ar dn og : Int32} {b g : Nat → Int32} (h : tt_I b A G p k (nI a) (nI c) og) (hT : T ≤ 30) (hK : K < 256) (hp : p' < 65536) (ha : a' < 256) (hc : c' < 256) :
    tt_Rel A G p k a c p' a' c' K pw hd ar (tt_turn (b, g, dn, nI T, nI K) (nI p') (nI a') (nI c')) (mm_turn (nI A, nI G, nI p, nI a, nI c, nI (10 - k), og, pw, hd, nI T, nI K, ar, dn, g 0, g 1) (nI p') (nI a') (nI c')) := by
  have hA := h.1
  have e1 : (1 : Int32) - nI A = nI (1 - A) := pk_sub (a := 1) (b := A) (by omega)
  unfold tt_turn mm_turn
  simp only
  rw [tt_I_ac h, e1]
  unfold tt_t0 mm_t0
  simp only
  rcases tt_I_og h with ⟨rfl, o0, o1⟩ | ⟨rfl, o0⟩
  · rw [tt_gd_t (A := 1 - A) (by omega) o0, if_neg (by decide), if_neg (by decide)]
    by_cases h1 : T = 1
    · subst h1
      have ep := tt_prog_1 b g dn (nI K) (A := 1 - A) (j := 0) (by omega) (by decide) 0
      rw [show tt_prog (b, g, dn, nI 1, nI K) (nI (1 - A)) 0 0 = _ from ep, mm_op_1]
      simp only [mm_setog]
      rw [if_neg (nI_pos (by omega)), tt_seq_0, tt_seq_0, Nat.add_zero, o0]
      by_cases hm : nI K &&& 90 = 0
      · rw [if_pos hm, (tt_k90 K hK).mpr hm]
        refine tt_stop ?_ (by omega)
        have eu : upd b (16 * (1 - A)) 90 = b := by
          funext q
          by_cases hq : q = 16 * (1 - A)
          · rw [hq, pk_us, o0]
          · exact pk_un hq
        rw [eu]
        exact h
      · rw [if_neg hm]
        refine tt_stop (tt_I_oth h (fun q h1 h2 => pk_un (by omega)) ?_) (by omega)
        rw [pk_us]
        exact fun q => hm ((tt_k90 K hK).mp q)
    · have ep := tt_prog_0 b g dn (nI K) (A := 1 - A) (j := 0) hT h1 (by omega) (by decide) 0
      rw [show tt_prog (b, g, dn, nI T, nI K) (nI (1 - A)) 0 0 = _ from ep, mm_op_0 _ _ _ _ _ _ _ _ _ _ _ _ _ _ hT h1]
      simp only [mm_setog]
      rw [if_pos (by decide), tt_seq_1, tt_seq_1, Nat.add_zero, o0]
      refine tt_mid (tt_I_oth h (fun q h1 h2 => pk_un (by omega)) ?_) (by omega) hK hp ha hc
      rw [pk_us]
      decide
  · rw [tt_gd_f (A := 1 - A) (by omega) o0, if_pos rfl, if_pos rfl, tt_seq_1, tt_seq_1]
    exact tt_mid h hT hK hp ha hc
end
section
/-! a mark, beside the reference's -/
theorem tt_kv_0 : ∀ K, K < 256 → ((nI K &&& 1 = 1 → (255 : Int32) &&& (254 ||| (nI K ^^^ (-1))) = 254) ∧ (¬ nI K &&& 1 = 1 → (255 : Int32) &&& (254 ||| (nI K ^^^ (-1))) = 255)) := by decide +kernel
theorem tt_kv_1 : ∀ K, K < 256 → ((nI K &&& 16 = 16 → (255 : Int32) &&& (239 ||| (nI K ^^^ (-1))) = 239) ∧ (¬ nI K &&& 16 = 16 → (255 : Int32) &&& (239 ||| (nI K ^^^ (-1))) = 255)) := by decide +kernel
theorem tt_kv_2 : ∀ K, K < 256 → ((nI K &&& 2 = 2 → (254 : Int32) &&& (253 ||| (nI K ^^^ (-1))) = 252) ∧ (¬ nI K &&& 2 = 2 → (254 : Int32) &&& (253 ||| (nI K ^^^ (-1))) = 254)) := by decide +kernel
theorem tt_upd_same {b : Nat → Int32} {k : Nat} {x : Int32} (h : b k = x) : upd b k x = b := by
  funext q
  by_cases hq : q = k
  · rw [hq, pk_us, h]
  · exact pk_un hq
theorem tt_I_add {b : Nat → Int32} {A G p k : Nat} {pt ut og : Int32} (h : tt_I b A G p k pt ut og) (hk : k < 10) {w pt' ut' : Int32} (hw : ¬ w = 255) (hps : tt_ps pt w = pt') (hus : tt_us ut w = ut') : tt_I (upd b (16 * A + (6 + k)) w) A G p (k + 1) pt' ut' og := by
  obtain ⟨hA, hG, hp, hk10, b0, b1, b2, b3, hn, hb, hpt, hut, ho⟩ := h
  refine ⟨hA, hG, hp, hk, ?_, ?_, ?_, ?_, fun j hj => ?_, fun j h1 h2 => ?_, ?_, ?_, ?_⟩
  · rw [pk_un (by omega)]; exact b0
  · rw [pk_un (by omega)]; exact b1
  · rw [pk_un (by omega)]; exact b2
  · rw [pk_un (by omega)]; exact b3
  · by_cases q : j = k
    · subst q; rw [pk_us]; exact hw
    · rw [pk_un (by omega)]; exact hn j (by omega)
  · rw [pk_un (by omega)]; exact hb j (by omega) h2
  · show tt_ps (tt_pf _ _ k) (upd b (16 * A + (6 + k)) w (16 * A + (6 + k))) = pt'
    rw [pk_us, pk_un (by omega), tt_pf_c (e' := fun j => b (16 * A + (6 + j))) k (fun j hj => pk_un (by omega)), hpt]
    exact hps
  · show tt_us (tt_uf _ _ k) (upd b (16 * A + (6 + k)) w (16 * A + (6 + k))) = ut'
    rw [pk_us, pk_un (by omega), tt_uf_c (e' := fun j => b (16 * A + (6 + j))) k (fun j hj => pk_un (by omega)), hut]
    exact hus
  · rcases ho with ⟨o, o0, o1⟩ | ⟨o, o0⟩
    · exact Or.inl ⟨o, by rw [pk_un (by omega)]; exact o0, by rw [pk_un (by omega)]; exact o1⟩
    · exact Or.inr ⟨o, by rw [pk_un (by omega)]; exact o0⟩
theorem tt_I_fix {b : Nat → Int32} {A G p k : Nat} {pt ut og : Int32} (h : tt_I b A G p (k + 1) pt ut og) (hl : b (16 * A + (6 + k)) = 254) : tt_I (upd b (16 * A + (6 + k)) 252) A G p (k + 1) (nI 0) ut og := by
  obtain ⟨hA, hG, hp, hk10, b0, b1, b2, b3, hn, hb, hpt, hut, ho⟩ := h
  refine ⟨hA, hG, hp, hk10, ?_, ?_, ?_, ?_, fun j hj => ?_, fun j h1 h2 => ?_, ?_, ?_, ?_⟩
  · rw [pk_un (by omega)]; exact b0
  · rw [pk_un (by omega)]; exact b1
  · rw [pk_un (by omega)]; exact b2
  · rw [pk_un (by omega)]; exact b3
  · by_cases q : j = k
    · subst q; rw [pk_us]; decide
    · rw [pk_un (by omega)]; exact hn j (by omega)
  · rw [pk_un (by omega)]; exact hb j (by omega) h2
  · show tt_ps (tt_pf _ _ k) (upd b (16 * A + (6 + k)) 252 (16 * A + (6 + k))) = nI 0
    rw [pk_us]
    unfold tt_ps
    rw [if_pos (by decide), if_pos (by decide)]
    rfl
  · have q : tt_us (tt_uf (b (16 * A + 5)) (fun j => b (16 * A + (6 + j))) k) (b (16 * A + (6 + k))) = ut := hut
    rw [hl] at q
    unfold tt_us at q
    rw [if_neg (by decide)] at q
    show tt_us (tt_uf _ _ k) (upd b (16 * A + (6 + k)) 252 (16 * A + (6 + k))) = ut
    rw [pk_us, pk_un (by omega), tt_uf_c (e' := fun j => b (16 * A + (6 + j))) k (fun j hj => pk_un (by omega)), q]
    unfold tt_us
    rw [if_neg (by decide)]
  · rcases ho with ⟨o, o0, o1⟩ | ⟨o, o0⟩
    · exact Or.inl ⟨o, by rw [pk_un (by omega)]; exact o0, by rw [pk_un (by omega)]; exact o1⟩
    · exact Or.inr ⟨o, by rw [pk_un (by omega)]; exact o0⟩
/-- how a mark may end: the power lost, or the entry k0 holds the mark v -/
def tt_MR (v : Int32) (da dc a c p K : Nat) (pw hd ar : Int32) (x : Int32 × tt_F) (y : Int32 × tt_M) : Prop :=
  ∃ (b' g' : Nat → Int32) (dn' : Int32) (T' A' G' k' a' c' : Nat) (og' : Int32), T' ≤ 30 ∧ tt_I b' A' G' p k' (nI a') (nI c') og' ∧ a' ≤ a + da ∧ c' ≤ c + dc ∧
   ((x = (-1, (b', g', dn', nI T', nI K)) ∧ y = (0, (nI A', nI G', nI p, nI a', nI c', nI (10 - k'), og', 0, 0, nI T', nI K, ar, dn', g' 0, g' 1))) ∨
    (∃ k0 : Nat, k' = k0 + 1 ∧ k0 < 10 ∧ a' = a + da ∧ b' (16 * A' + (6 + k0)) = v ∧ x = (nI (6 + k0), (b', g', dn', nI T', nI K)) ∧ y = (1, (nI A', nI G', nI p, nI a', nI c', nI (10 - k'), og', pw, hd, nI T', nI K, ar, dn', g' 0, g' 1))))
theorem tt_m1_sim_0 {A G p k a c K T : Nat} {pw hd ar dn og : Int32} {b g : Nat → Int32} (h : tt_I b A G p k (nI a) (nI c) og) (hk : k < 10) (hT : T ≤ 30) (hK : K < 256) :
    tt_MR 254 1 0 a c p K pw hd ar (tt_m1 (b, g, dn, nI T, nI K) 254) (mm_m1 (nI A, nI G, nI p, nI a, nI c, nI (10 - k), og, pw, hd, nI T, nI K, ar, dn, g 0, g 1) 0) := by
  have hA := h.1
  have hb := h.2.2.2.2.2.2.2.2.2.1 k (Nat.le_refl _) hk
  have hf := (tt_I_fst h).2 hk
  have hne : ¬ nI (6 + k) = -1 := fun q => absurd (show nI (6 + k) < 0 by rw [q]; decide) (nI_pos (by omega))
  have en : nI (10 - k) - 1 = nI (10 - (k + 1)) := by rw [show 10 - (k + 1) = 10 - k - 1 by omega]; exact pk_sub (a := 10 - k) (b := 1) (by omega)
  have hI := tt_I_add h hk (w := 254) (by decide) (pt' := nI (a + 1)) (ut' := nI (c + 0)) (by unfold tt_ps; rw [if_pos (by decide), if_neg (by decide)]; exact nI_1 a) (by unfold tt_us; rw [if_neg (by decide)]; rfl)
  unfold tt_m1
  simp only
  rw [hf, if_neg hne, tt_I_ac h]
  by_cases h1 : T = 1
  · subst h1
    rw [tt_prog_1 b g dn (nI K) hA (j := 6 + k) (by omega) 254]
    simp only [mm_m1, mm_op_1, reduceIte]
    rw [if_pos (nI_pos' (by omega)), hb]
    try simp only [reduceIte, eq_self]
    by_cases hm : nI K &&& 1 = 1
    · rw [tt_all_t hm, (tt_kv_0 K hK).1 hm]
      try simp only [reduceIte, eq_self, show ¬ ((1 : Int32) = 0) by decide]
      rw [en]
      exact ⟨_, g, dn + 1, 0, A, G, k + 1, a + 1, c + 0, og, by omega, hI, by omega, by omega, Or.inl ⟨rfl, by first | rfl | (simp only [nI_1]; done) | (simp only [nI_1]; rfl)⟩⟩
    · rw [tt_all_f hK hm, if_pos rfl, (tt_kv_0 K hK).2 hm]
      refine ⟨_, g, dn + 1, 0, A, G, k, a, c, og, by omega, ?_, by omega, by omega, Or.inl ⟨rfl, rfl⟩⟩
      rw [tt_upd_same hb]
      exact h
  · rw [tt_prog_0 b g dn (nI K) hT h1 hA (j := 6 + k) (by omega) 254]
    have eo := mm_op_0 (nI A) (nI G) (nI p) (nI a) (nI c) (nI (10 - k)) og pw hd (nI K) ar dn (g 0) (g 1) hT h1
    simp only [mm_m1, eo]
    rw [if_neg (by decide), if_neg (by decide), hb, show (255 : Int32) &&& (254 ||| (255 ^^^ (-1))) = 254 by decide]
    try simp only [reduceIte, eq_self]
    rw [show mm_all (-1) 1 = 1 by decide]
    try simp only [reduceIte, eq_self, show ¬ ((1 : Int32) = 0) by decide]
    rw [en]
    exact ⟨_, g, dn + 1, T - 1, A, G, k + 1, a + 1, c + 0, og, by omega, hI, by omega, by omega, Or.inr ⟨k, rfl, by omega, by omega, pk_us, rfl, by first | rfl | (simp only [nI_1]; done) | (simp only [nI_1]; rfl)⟩⟩
theorem tt_mark_sim_0 {A G p k a c K T : Nat} {pw hd ar dn og : Int32} {b g : Nat → Int32} (h : tt_I b A G p k (nI a) (nI c) og) (hT : T ≤ 30) (hK : K < 256) (ha : a < 256) (hc : c < 256) :
    tt_MR 254 1 0 a c p K pw hd ar (tt_mark (b, g, dn, nI T, nI K) 254) (mm_mark (nI A, nI G, nI p, nI a, nI c, nI (10 - k), og, pw, hd, nI T, nI K, ar, dn, g 0, g 1) 0) := by
  have hk10 := h.2.2.2.1
  unfold tt_mark mm_mark
  simp only
  by_cases hk : k = 10
  · rw [(tt_I_fst h).1 hk, if_pos rfl, if_pos (show nI (10 - k) = 0 by rw [hk]; rfl), tt_I_pin h, tt_I_pu h, tt_I_uu h]
    obtain ⟨b', g', dn', T', hT', ⟨og', hI, ex, ey⟩ | ⟨r, pw', hd', hI, hr, ex, ey⟩⟩ := tt_turn_sim (g := g) (dn := dn) (pw := pw) (hd := hd) (ar := ar) h hT hK h.2.2.1 ha hc
    · rw [ex, ey, tt_seq_0]
      simp only [reduceIte]
      exact ⟨b', g', dn', T', A, G, k, a, c, og', hT', hI, by omega, by omega, Or.inl ⟨rfl, rfl⟩⟩
    · rw [ex, ey]
      rcases hr with ⟨rfl, rfl, rfl⟩ | ⟨rfl, rfl, rfl⟩
      · rw [tt_seq_1]
        simp only
        rw [if_neg (by decide)]
        exact tt_m1_sim_0 (k := 0) hI (by decide) hT' hK
      · rw [tt_seq_0]
        simp only [reduceIte]
        exact ⟨b', g', dn', T', 1 - A, (G + 1) % 256, 0, a, c, 1, hT', hI, by omega, by omega, Or.inl ⟨rfl, rfl⟩⟩
  · have hf := (tt_I_fst h).2 (by omega)
    have hne : ¬ nI (6 + k) = -1 := fun q => absurd (show nI (6 + k) < 0 by rw [q]; decide) (nI_pos (by omega))
    rw [hf, if_neg hne, if_neg (nI_ne0 (n := 10 - k) (by omega) (by omega))]
    exact tt_m1_sim_0 h (by omega) hT hK

theorem tt_m1_sim_1 {A G p k a c K T : Nat} {pw hd ar dn og : Int32} {b g : Nat → Int32} (h : tt_I b A G p k (nI a) (nI c) og) (hk : k < 10) (hT : T ≤ 30) (hK : K < 256) :
    tt_MR 239 0 1 a c p K pw hd ar (tt_m1 (b, g, dn, nI T, nI K) 239) (mm_m1 (nI A, nI G, nI p, nI a, nI c, nI (10 - k), og, pw, hd, nI T, nI K, ar, dn, g 0, g 1) 1) := by
  have hA := h.1
  have hb := h.2.2.2.2.2.2.2.2.2.1 k (Nat.le_refl _) hk
  have hf := (tt_I_fst h).2 hk
  have hne : ¬ nI (6 + k) = -1 := fun q => absurd (show nI (6 + k) < 0 by rw [q]; decide) (nI_pos (by omega))
  have en : nI (10 - k) - 1 = nI (10 - (k + 1)) := by rw [show 10 - (k + 1) = 10 - k - 1 by omega]; exact pk_sub (a := 10 - k) (b := 1) (by omega)
  have hI := tt_I_add h hk (w := 239) (by decide) (pt' := nI (a + 0)) (ut' := nI (c + 1)) (by unfold tt_ps; rw [if_neg (by decide)]; rfl) (by unfold tt_us; rw [if_pos (by decide)]; exact nI_1 c)
  unfold tt_m1
  simp only
  rw [hf, if_neg hne, tt_I_ac h]
  by_cases h1 : T = 1
  · subst h1
    rw [tt_prog_1 b g dn (nI K) hA (j := 6 + k) (by omega) 239]
    simp only [mm_m1, mm_op_1, reduceIte]
    rw [if_pos (nI_pos' (by omega)), hb]
    try simp only [reduceIte, eq_self, show ¬ ((1 : Int32) = 0) by decide]
    by_cases hm : nI K &&& 16 = 16
    · rw [tt_all_t hm, (tt_kv_1 K hK).1 hm]
      try simp only [reduceIte, eq_self, show ¬ ((1 : Int32) = 0) by decide]
      rw [en]
      exact ⟨_, g, dn + 1, 0, A, G, k + 1, a + 0, c + 1, og, by omega, hI, by omega, by omega, Or.inl ⟨rfl, by first | rfl | (simp only [nI_1]; done) | (simp only [nI_1]; rfl)⟩⟩
    · rw [tt_all_f hK hm, if_pos rfl, (tt_kv_1 K hK).2 hm]
      refine ⟨_, g, dn + 1, 0, A, G, k, a, c, og, by omega, ?_, by omega, by omega, Or.inl ⟨rfl, rfl⟩⟩
      rw [tt_upd_same hb]
      exact h
  · rw [tt_prog_0 b g dn (nI K) hT h1 hA (j := 6 + k) (by omega) 239]
    have eo := mm_op_0 (nI A) (nI G) (nI p) (nI a) (nI c) (nI (10 - k)) og pw hd (nI K) ar dn (g 0) (g 1) hT h1
    simp only [mm_m1, eo]
    rw [if_neg (by decide), if_neg (by decide), hb, show (255 : Int32) &&& (239 ||| (255 ^^^ (-1))) = 239 by decide]
    try simp only [reduceIte, eq_self, show ¬ ((1 : Int32) = 0) by decide]
    rw [show mm_all (-1) 16 = 1 by decide]
    try simp only [reduceIte, eq_self, show ¬ ((1 : Int32) = 0) by decide]
    rw [en]
    exact ⟨_, g, dn + 1, T - 1, A, G, k + 1, a + 0, c + 1, og, by omega, hI, by omega, by omega, Or.inr ⟨k, rfl, by omega, by omega, pk_us, rfl, by first | rfl | (simp only [nI_1]; done) | (simp only [nI_1]; rfl)⟩⟩
theorem tt_mark_sim_1 {A G p k a c K T : Nat} {pw hd ar dn og : Int32} {b g : Nat → Int32} (h : tt_I b A G p k (nI a) (nI c) og) (hT : T ≤ 30) (hK : K < 256) (ha : a < 256) (hc : c < 256) :
    tt_MR 239 0 1 a c p K pw hd ar (tt_mark (b, g, dn, nI T, nI K) 239) (mm_mark (nI A, nI G, nI p, nI a, nI c, nI (10 - k), og, pw, hd, nI T, nI K, ar, dn, g 0, g 1) 1) := by
  have hk10 := h.2.2.2.1
  unfold tt_mark mm_mark
  simp only
  by_cases hk : k = 10
  · rw [(tt_I_fst h).1 hk, if_pos rfl, if_pos (show nI (10 - k) = 0 by rw [hk]; rfl), tt_I_pin h, tt_I_pu h, tt_I_uu h]
    obtain ⟨b', g', dn', T', hT', ⟨og', hI, ex, ey⟩ | ⟨r, pw', hd', hI, hr, ex, ey⟩⟩ := tt_turn_sim (g := g) (dn := dn) (pw := pw) (hd := hd) (ar := ar) h hT hK h.2.2.1 ha hc
    · rw [ex, ey, tt_seq_0]
      simp only [reduceIte]
      exact ⟨b', g', dn', T', A, G, k, a, c, og', hT', hI, by omega, by omega, Or.inl ⟨rfl, rfl⟩⟩
    · rw [ex, ey]
      rcases hr with ⟨rfl, rfl, rfl⟩ | ⟨rfl, rfl, rfl⟩
      · rw [tt_seq_1]
        simp only
        rw [if_neg (by decide)]
        exact tt_m1_sim_1 (k := 0) hI (by decide) hT' hK
      · rw [tt_seq_0]
        simp only [reduceIte]
        exact ⟨b', g', dn', T', 1 - A, (G + 1) % 256, 0, a, c, 1, hT', hI, by omega, by omega, Or.inl ⟨rfl, rfl⟩⟩
  · have hf := (tt_I_fst h).2 (by omega)
    have hne : ¬ nI (6 + k) = -1 := fun q => absurd (show nI (6 + k) < 0 by rw [q]; decide) (nI_pos (by omega))
    rw [hf, if_neg hne, if_neg (nI_ne0 (n := 10 - k) (by omega) (by omega))]
    exact tt_m1_sim_1 h (by omega) hT hK
end
section
/-! the card beside the reference, call by call -/
def tt_R (s : tt_X) (t : tt_M) : Prop :=
  ∃ (b g : Nat → Int32) (dn og pw hd ar : Int32) (T K A G p k a c N : Nat), s = (pw, hd, ar, b, g, dn, nI T, nI K) ∧ t = (nI A, nI G, nI p, nI a, nI c, nI (10 - k), og, pw, hd, nI T, nI K, ar, dn, g 0, g 1) ∧ tt_I b A G p k (nI a) (nI c) og ∧ T ≤ 30 ∧ K < 256 ∧ a ≤ 7 ∧ c ≤ 7 ∧ ((pw = 0 ∧ hd = 0) ∨ pw = 1) ∧ (hd = 0 ∨ hd = 1) ∧ N ≤ 40 ∧ ar = nI N
/-- the same answer, and the pair goes on -/
def tt_S (x : Int32 × tt_X) (y : Int32 × tt_M) : Prop := x.1 = y.1 ∧ tt_R x.2 y.2
theorem tt_R.mk {b g : Nat → Int32} {dn og pw hd ar : Int32} {T K A G p k a c N : Nat} (h : tt_I b A G p k (nI a) (nI c) og) (hT : T ≤ 30) (hK : K < 256) (ha : a ≤ 7) (hc : c ≤ 7) (hpw : (pw = 0 ∧ hd = 0) ∨ pw = 1) (hhd : hd = 0 ∨ hd = 1) (hN : N ≤ 40) (har : ar = nI N) :
    tt_R (pw, hd, ar, b, g, dn, nI T, nI K) (nI A, nI G, nI p, nI a, nI c, nI (10 - k), og, pw, hd, nI T, nI K, ar, dn, g 0, g 1) :=
  ⟨b, g, dn, og, pw, hd, ar, T, K, A, G, p, k, a, c, N, rfl, rfl, h, hT, hK, ha, hc, hpw, hhd, hN, har⟩
theorem tt_n10 : ¬ (1 : Int32) = 0 := by decide
theorem tt_16 (x : Int32) : ∃ j, j < 65536 ∧ x &&& 65535 = nI j := pk_andE x (m := 65535) 16 (by decide)
theorem tt_try_sim {s : tt_X} {t : tt_M} (h : tt_R s t) {PL : Nat} (hPL : PL ≤ 7) (n : Int32) : tt_S (tt_try (nI PL) s (n &&& 65535)) (mm_att (nI PL) t n) ∧ ((tt_try (nI PL) s (n &&& 65535)).1 = 1 → (tt_try (nI PL) s (n &&& 65535)).2.1 = 1) := by
  obtain ⟨b, g, dn, og, pw, hd, ar, T, K, A, G, p, k, a, c, N, rfl, rfl, hI, hT, hK, ha, hc, hpw, hhd, hN, har⟩ := h
  unfold tt_try mm_att
  simp only
  rcases hpw with ⟨rfl, rfl⟩ | rfl
  · rw [if_pos rfl, if_pos rfl]
    exact ⟨⟨rfl, tt_R.mk hI hT hK ha hc (Or.inl ⟨rfl, rfl⟩) hhd hN har⟩, fun q => absurd (show (-1 : Int32) = 1 from q) (by decide)⟩
  · rw [if_neg tt_n10, if_neg tt_n10, tt_I_pu hI]
    by_cases hl : nI a < nI PL
    · rw [if_pos hl, if_pos hl]
      have hal : a < PL := (nI_ltI (by omega) (by omega)).mp hl
      obtain ⟨b', g', dn', T', A', G', k', a', c', og', hT', hI', ha', hc', ⟨ex, ey⟩ | ⟨k0, rfl, hk0, rfl, hv, ex, ey⟩⟩ := tt_mark_sim_0 (g := g) (dn := dn) (pw := 1) (hd := 0) (ar := ar) hI hT hK (by omega) (by omega)
      · rw [ex, ey]
        simp only [reduceIte]
        exact ⟨⟨rfl, tt_R.mk hI' hT' hK (by omega) (by omega) (Or.inl ⟨rfl, rfl⟩) (Or.inl rfl) hN har⟩, fun q => absurd (show (-3 : Int32) = 1 from q) (by decide)⟩
      · have hne : ¬ nI (6 + k0) = -1 := fun q => absurd (show nI (6 + k0) < 0 by rw [q]; decide) (nI_pos (by omega))
        rw [ex, ey]
        simp only
        rw [if_neg hne, if_neg tt_n10, tt_I_pin hI']
        by_cases hp : n &&& 65535 = nI p
        · rw [if_pos hp, if_pos hp, tt_I_ac hI']
          by_cases h1 : T' = 1
          · subst h1
            rw [tt_prog_1 b' g' dn' (nI K) hI'.1 (j := 6 + k0) (by omega) 253]
            simp only [mm_a9, mm_op_1, reduceIte]
            rw [if_pos (nI_pos' (by omega)), hv]
            refine ⟨⟨rfl, ?_⟩, fun q => absurd (show (-3 : Int32) = 1 from q) (by decide)⟩
            by_cases hm : nI K &&& 2 = 2
            · rw [tt_all_t hm, if_neg tt_n10, (tt_kv_2 K hK).1 hm]
              exact tt_R.mk (a := 0) (tt_I_fix hI' hv) (by omega) hK (by omega) (by omega) (Or.inl ⟨rfl, rfl⟩) (Or.inl rfl) hN har
            · rw [tt_all_f hK hm, if_pos rfl, (tt_kv_2 K hK).2 hm, tt_upd_same hv]
              exact tt_R.mk hI' (by omega) hK (by omega) (by omega) (Or.inl ⟨rfl, rfl⟩) (Or.inl rfl) hN har
          · rw [tt_prog_0 b' g' dn' (nI K) hT' h1 hI'.1 (j := 6 + k0) (by omega) 253]
            have eo := mm_op_0 (nI A') (nI G') (nI p) (nI (a + 1)) (nI c') (nI (10 - (k0 + 1))) og' 1 0 (nI K) ar dn' (g' 0) (g' 1) hT' h1
            simp only [mm_a9, eo]
            rw [if_neg tt_n10, if_neg (show ¬ (0 : Int32) ≤ -1 by decide), hv, show mm_all (-1) 2 = 1 by decide, if_neg tt_n10, show (254 : Int32) &&& (253 ||| (255 ^^^ (-1))) = 252 by decide]
            exact ⟨⟨rfl, tt_R.mk (a := 0) (tt_I_fix hI' hv) (by omega) hK (by omega) (by omega) (Or.inr rfl) (Or.inl rfl) hN har⟩, fun _ => rfl⟩
        · rw [if_neg hp, if_neg hp]
          exact ⟨⟨rfl, tt_R.mk hI' hT' hK (by omega) (by omega) (Or.inr rfl) (Or.inl rfl) hN har⟩, fun q => absurd (show (0 : Int32) = 1 from q) (by decide)⟩
    · rw [if_neg hl, if_neg hl]
      exact ⟨⟨rfl, tt_R.mk hI hT hK ha hc (Or.inr rfl) hhd hN har⟩, fun q => absurd (show (-2 : Int32) = 1 from q) (by decide)⟩
theorem tt_verify_sim {s : tt_X} {t : tt_M} (h : tt_R s t) {PL : Nat} (hPL : PL ≤ 7) (n : Int32) : tt_S (tt_verify (nI PL) s n) (mm_verify (nI PL) t n) := by
  obtain ⟨⟨h1, h2⟩, h3⟩ := tt_try_sim h hPL n
  unfold tt_verify mm_verify
  generalize tt_try (nI PL) s (n &&& 65535) = x at h1 h2 h3 ⊢
  generalize mm_att (nI PL) t n = y at h1 h2 ⊢
  obtain ⟨r, s2⟩ := x
  obtain ⟨r2, t2⟩ := y
  obtain rfl : r = r2 := h1
  obtain ⟨b, g, dn, og, pw, hd, ar, T, K, A, G, p, k, a, c, N, e1, e2, hI, hT, hK, ha, hc, hpw, hhd, hN, har⟩ := h2
  simp only at e1 e2
  subst e1; subst e2
  simp only [mm_or]
  by_cases hr : r = 1
  · have hp1 : pw = 1 := h3 hr
    rw [if_pos hr]
    refine ⟨rfl, ?_⟩
    rcases hhd with rfl | rfl
    · rw [if_pos rfl, if_pos hr]
      exact tt_R.mk hI hT hK ha hc (Or.inr hp1) (Or.inr rfl) hN har
    · rw [if_neg tt_n10]
      exact tt_R.mk hI hT hK ha hc (Or.inr hp1) (Or.inr rfl) hN har
  · rw [if_neg hr]
    refine ⟨rfl, ?_⟩
    rcases hhd with rfl | rfl
    · rw [if_pos rfl, if_neg hr]
      exact tt_R.mk hI hT hK ha hc hpw (Or.inl rfl) hN har
    · rw [if_neg tt_n10]
      exact tt_R.mk hI hT hK ha hc hpw (Or.inr rfl) hN har
theorem tt_change_sim {s : tt_X} {t : tt_M} (h : tt_R s t) {PL : Nat} (hPL : PL ≤ 7) (n x : Int32) : tt_S (tt_change (nI PL) s n x) (mm_change (nI PL) t n x) := by
  obtain ⟨⟨h1, h2⟩, h3⟩ := tt_try_sim h hPL n
  unfold tt_change mm_change
  generalize tt_try (nI PL) s (n &&& 65535) = x1 at h1 h2 h3 ⊢
  generalize mm_att (nI PL) t n = y1 at h1 h2 ⊢
  obtain ⟨r, s2⟩ := x1
  obtain ⟨r2, t2⟩ := y1
  obtain rfl : r = r2 := h1
  obtain ⟨b, g, dn, og, pw, hd, ar, T, K, A, G, p, k, a, c, N, e1, e2, hI, hT, hK, ha, hc, hpw, hhd, hN, har⟩ := h2
  simp only at e1 e2
  subst e1; subst e2
  obtain ⟨j, hj, ej⟩ := tt_16 x
  simp only
  by_cases hr : r = 1
  · have hp1 : pw = 1 := h3 hr
    rw [if_pos hr, if_pos hr, ej, tt_I_uu hI]
    obtain ⟨b', g', dn', T', hT', ⟨og', hI', ex, ey⟩ | ⟨q, pw', hd', hI', hq, ex, ey⟩⟩ := tt_turn_sim (p' := j) (a' := 0) (c' := c) (g := g) (dn := dn) (pw := pw) (hd := hd) (ar := ar) hI hT hK hj (by omega) (by omega)
    · rw [show tt_turn (b, g, dn, nI T, nI K) (nI j) 0 (nI c) = _ from ex, show mm_turn (nI A, nI G, nI p, nI a, nI c, nI (10 - k), og, pw, hd, nI T, nI K, ar, dn, g 0, g 1) (nI j) 0 (nI c) = _ from ey]
      simp only [mm_or, reduceIte]
      rw [if_neg (show ¬ (-3 : Int32) = 1 by decide)]
      exact ⟨rfl, tt_R.mk hI' hT' hK ha hc (Or.inl ⟨rfl, rfl⟩) (Or.inl rfl) hN har⟩
    · rw [show tt_turn (b, g, dn, nI T, nI K) (nI j) 0 (nI c) = _ from ex, show mm_turn (nI A, nI G, nI p, nI a, nI c, nI (10 - k), og, pw, hd, nI T, nI K, ar, dn, g 0, g 1) (nI j) 0 (nI c) = _ from ey]
      rcases hq with ⟨rfl, rfl, rfl⟩ | ⟨rfl, rfl, rfl⟩
      · simp only [mm_or]
        rw [if_neg tt_n10, if_neg tt_n10]
        refine ⟨hr.symm, ?_⟩
        rcases hhd with rfl | rfl
        · rw [if_pos rfl, if_pos hr]
          exact tt_R.mk (a := 0) (k := 0) hI' hT' hK (by omega) hc (Or.inr hp1) (Or.inr rfl) hN har
        · rw [if_neg tt_n10]
          exact tt_R.mk (a := 0) (k := 0) hI' hT' hK (by omega) hc (Or.inr hp1) (Or.inr rfl) hN har
      · simp only [mm_or, reduceIte]
        rw [if_neg (show ¬ (-3 : Int32) = 1 by decide)]
        exact ⟨rfl, tt_R.mk (a := 0) (k := 0) hI' hT' hK (by omega) hc (Or.inl ⟨rfl, rfl⟩) (Or.inl rfl) hN har⟩
  · rw [if_neg hr, if_neg hr]
    refine ⟨rfl, ?_⟩
    simp only [mm_or]
    rcases hhd with rfl | rfl
    · rw [if_pos rfl, if_neg hr]
      exact tt_R.mk hI hT hK ha hc hpw (Or.inl rfl) hN har
    · rw [if_neg tt_n10]
      exact tt_R.mk hI hT hK ha hc hpw (Or.inr rfl) hN har
theorem tt_unblock_sim {s : tt_X} {t : tt_M} (h : tt_R s t) {UL : Nat} (hUL : UL ≤ 7) (pk n x : Int32) : tt_S (tt_unblock pk (nI UL) s n x) (mm_unblock pk (nI UL) t n x) := by
  obtain ⟨b, g, dn, og, pw, hd, ar, T, K, A, G, p, k, a, c, N, rfl, rfl, hI, hT, hK, ha, hc, hpw, hhd, hN, har⟩ := h
  unfold tt_unblock mm_unblock
  simp only
  rcases hpw with ⟨rfl, rfl⟩ | rfl
  · rw [if_pos rfl, if_pos rfl]
    exact ⟨rfl, tt_R.mk hI hT hK ha hc (Or.inl ⟨rfl, rfl⟩) hhd hN har⟩
  · rw [if_neg tt_n10, if_neg tt_n10, tt_I_uu hI]
    by_cases hl : nI c < nI UL
    · rw [if_pos hl, if_pos hl]
      have hcl : c < UL := (nI_ltI (by omega) (by omega)).mp hl
      obtain ⟨b', g', dn', T', A', G', k', a', c', og', hT', hI', ha', hc', ⟨ex, ey⟩ | ⟨k0, rfl, hk0, rfl, hv, ex, ey⟩⟩ := tt_mark_sim_1 (g := g) (dn := dn) (pw := 1) (hd := 0) (ar := ar) hI hT hK (by omega) (by omega)
      · rw [ex, ey]
        simp only [reduceIte]
        exact ⟨rfl, tt_R.mk hI' hT' hK (by omega) (by omega) (Or.inl ⟨rfl, rfl⟩) (Or.inl rfl) hN har⟩
      · have hne : ¬ nI (6 + k0) = -1 := fun q => absurd (show nI (6 + k0) < 0 by rw [q]; decide) (nI_pos (by omega))
        rw [ex, ey]
        simp only
        rw [if_neg hne, if_neg tt_n10]
        by_cases hp : n = pk
        · obtain ⟨j, hj, ej⟩ := tt_16 x
          rw [if_pos hp, if_pos hp, ej]
          obtain ⟨b2, g2, dn2, T2, hT2, ⟨og2, hI2, ex, ey⟩ | ⟨q, pw', hd', hI2, hq, ex, ey⟩⟩ := tt_turn_sim (p' := j) (a' := 0) (c' := 0) (g := g') (dn := dn') (pw := 1) (hd := 0) (ar := ar) hI' hT' hK hj (by omega) (by omega)
          · rw [show tt_turn (b', g', dn', nI T', nI K) (nI j) 0 0 = _ from ex, show mm_turn _ (nI j) 0 0 = _ from ey]
            simp only [reduceIte]
            exact ⟨rfl, tt_R.mk hI2 hT2 hK (by omega) (by omega) (Or.inl ⟨rfl, rfl⟩) (Or.inl rfl) hN har⟩
          · rw [show tt_turn (b', g', dn', nI T', nI K) (nI j) 0 0 = _ from ex, show mm_turn _ (nI j) 0 0 = _ from ey]
            rcases hq with ⟨rfl, rfl, rfl⟩ | ⟨rfl, rfl, rfl⟩
            · simp only
              rw [if_neg tt_n10, if_neg tt_n10]
              exact ⟨rfl, tt_R.mk (a := 0) (c := 0) (k := 0) hI2 hT2 hK (by omega) (by omega) (Or.inr rfl) (Or.inl rfl) hN har⟩
            · simp only [reduceIte]
              exact ⟨rfl, tt_R.mk (a := 0) (c := 0) (k := 0) hI2 hT2 hK (by omega) (by omega) (Or.inl ⟨rfl, rfl⟩) (Or.inl rfl) hN har⟩
        · rw [if_neg hp, if_neg hp]
          exact ⟨rfl, tt_R.mk hI' hT' hK (by omega) (by omega) (Or.inr rfl) (Or.inl rfl) hN har⟩
    · rw [if_neg hl, if_neg hl]
      exact ⟨rfl, tt_R.mk hI hT hK ha hc (Or.inr rfl) hhd hN har⟩
theorem tt_arm_sim {s : tt_X} {t : tt_M} (h : tt_R s t) (n m : Int32) : tt_S (tt_arm s n m) (mm_arm t n m) := by
  have h0 := h
  obtain ⟨b, g, dn, og, pw, hd, ar, T, K, A, G, p, k, a, c, N, rfl, rfl, hI, hT, hK, ha, hc, hpw, hhd, hN, har⟩ := h
  unfold tt_arm mm_arm
  simp only [tt_setT]
  by_cases c1 : n < 0
  · rw [if_pos c1, if_pos c1]; exact ⟨rfl, h0⟩
  rw [if_neg c1, if_neg c1]
  by_cases c2 : 30 < n
  · rw [if_pos c2, if_pos c2]; exact ⟨rfl, h0⟩
  rw [if_neg c2, if_neg c2]
  by_cases c3 : m < 0
  · rw [if_pos c3, if_pos c3]; exact ⟨rfl, h0⟩
  rw [if_neg c3, if_neg c3]
  by_cases c4 : 255 < m
  · rw [if_neg (Int32.not_le.mpr c4), if_pos c4]; exact ⟨rfl, h0⟩
  rw [if_pos (Int32.not_lt.mp c4), if_neg c4]
  obtain ⟨T2, hT2, rfl⟩ := nI_of2 (M := 30) (n := 30) (by decide) c1 (Int32.not_lt.mp c2)
  obtain ⟨K2, hK2, rfl⟩ := nI_of2 (M := 255) (n := 255) (by decide) c3 (Int32.not_lt.mp c4)
  rcases Nat.eq_zero_or_pos T2 with rfl | hpos
  · rw [if_pos (by decide), if_pos (by decide)]
    exact ⟨rfl, tt_R.mk hI (by omega) (by omega) ha hc hpw hhd hN har⟩
  · rw [if_neg (nI_nle hpos (by omega)), if_neg (nI_ne0 hpos (by omega))]
    subst har
    by_cases c5 : N = 40
    · subst c5
      rw [if_neg (by decide), if_pos (by decide)]
      exact ⟨rfl, h0⟩
    · rw [if_pos (show nI N < 40 from nI_lt (a := N) (b := 40) (by omega) (by decide)), if_neg (show ¬ nI N = 40 from fun q => c5 ((nI_eq (a := N) (b := 40) (by omega) (by decide)).mp q))]
      exact ⟨rfl, tt_R.mk (N := N + 1) hI (by omega) (by omega) ha hc hpw hhd (by omega) (nI_1 N)⟩
theorem tt_cut_sim {s : tt_X} {t : tt_M} (h : tt_R s t) : tt_S (tt_cut s) (mm_cut t) := by
  obtain ⟨b, g, dn, og, pw, hd, ar, T, K, A, G, p, k, a, c, N, rfl, rfl, hI, hT, hK, ha, hc, hpw, hhd, hN, har⟩ := h
  unfold tt_cut mm_cut
  simp only
  rcases hpw with ⟨rfl, rfl⟩ | rfl
  · rw [if_pos rfl]
    exact ⟨rfl, tt_R.mk hI hT hK ha hc (Or.inl ⟨rfl, rfl⟩) (Or.inl rfl) hN har⟩
  · rw [if_neg tt_n10]
    exact ⟨rfl, tt_R.mk hI hT hK ha hc (Or.inl ⟨rfl, rfl⟩) (Or.inl rfl) hN har⟩
theorem tt_start_sim {s : tt_X} {t : tt_M} (h : tt_R s t) : tt_S (tt_start s) (mm_start t) := by
  obtain ⟨b, g, dn, og, pw, hd, ar, T, K, A, G, p, k, a, c, N, rfl, rfl, hI, hT, hK, ha, hc, hpw, hhd, hN, har⟩ := h
  unfold tt_start mm_start
  simp only
  rcases hpw with ⟨rfl, rfl⟩ | rfl
  · rw [if_pos rfl, if_pos rfl]
    exact ⟨rfl, tt_R.mk hI hT hK ha hc (Or.inr rfl) hhd hN har⟩
  · rw [if_neg tt_n10, if_neg tt_n10]
    exact ⟨rfl, tt_R.mk hI hT hK ha hc (Or.inr rfl) hhd hN har⟩
end
section
/-! what the reads show, and the pair at its start -/
theorem tt_ec_nI (g : Nat → Int32) (pg : Int32) : tt_ec g pg = if pg = 0 then g 0 else if pg = 1 then g 1 else 0 := by
  unfold tt_ec
  by_cases h : tt_ip pg = 0
  · rw [if_pos h, if_neg (fun q => absurd h (by rw [q]; decide)), if_neg (fun q => absurd h (by rw [q]; decide))]
  · rw [if_neg h]
    obtain ⟨j, hj, rfl⟩ := tt_ip_of h
    rcases (show j = 0 ∨ j = 1 by omega) with rfl | rfl
    · rw [if_pos (by decide)]; rfl
    · rw [if_neg (by decide), if_pos (by decide)]; rfl
theorem tt_reads {pw hi ta od ot tm : Int32} {b g : Nat → Int32} {ac ag pn pt ut en og pw2 hd tn tk ar dn e0 e1 : Int32} (h : tt_R (pw, hi, ta, b, g, od, ot, tm) (ac, ag, pn, pt, ut, en, og, pw2, hd, tn, tk, ar, dn, e0, e1)) :
    hi = hd ∧ pw = pw2 ∧ tt_pu b = pt ∧ tt_uu b = ut ∧ tt_ac b = ac ∧ tt_rd b (tt_ac b) 1 = ag ∧ tt_fe b = en ∧ od = dn ∧ g 0 = e0 ∧ g 1 = e1 ∧ (hi = 0 ∨ hi = 1) ∧ (pw = 0 ∨ pw = 1) ∧ (∃ a, a ≤ 7 ∧ pt = nI a) ∧ ∃ c, c ≤ 7 ∧ ut = nI c := by
  obtain ⟨b', g', dn', og', pw', hd', ar', T, K, A, G, p, k, a, c, N, e1, e2, hI, hT, hK, ha, hc, hpw, hhd, hN, har⟩ := h
  simp only [Prod.mk.injEq] at e1 e2
  obtain ⟨rfl, rfl, rfl, rfl, rfl, rfl, rfl, rfl⟩ := e1
  obtain ⟨rfl, rfl, rfl, rfl, rfl, rfl, rfl, rfl, rfl, -, -, -, rfl, rfl, rfl⟩ := e2
  refine ⟨rfl, rfl, tt_I_pu hI, tt_I_uu hI, tt_I_ac hI, tt_I_gen hI, tt_I_fe hI, rfl, rfl, rfl, hhd, ?_, ⟨a, ha, rfl⟩, ⟨c, hc, rfl⟩⟩
  rcases hpw with ⟨h, -⟩ | h
  · exact Or.inl h
  · exact Or.inr h
theorem tt_left {P a : Nat} (hP : P ≤ 7) (ha : a ≤ 7) : (if 0 < nI P - nI a then nI P - nI a else 0) = if nI P ≤ nI a then 0 else nI P - nI a := by
  by_cases h : P ≤ a
  · rw [if_pos (nI_le h (by omega)), if_neg]
    intro q
    have e : (nI P - nI a).toInt = (P : Int) - a := pk_sub_toInt (by omega) (by omega)
    have q2 := Int32.lt_iff_toInt_lt.mp q
    rw [e, show (0 : Int32).toInt = 0 by decide] at q2
    omega
  · rw [if_neg (nI_ge (a := a) (b := P) (by omega) (by omega)), if_pos]
    rw [pk_sub (a := P) (b := a) (by omega)]
    exact nI_lt (a := 0) (b := P - a) (by omega) (by omega)
theorem tt_fl_at : ∀ n, n ≤ 32 → ∀ q, q < n → tt_fl n q = 255 := by
  intro n
  induction n with
  | zero => intro _ q hq; exact absurd hq (Nat.not_lt_zero _)
  | succ n ih =>
    intro hn q hq
    show upd (tt_fl n) (nI n).toNatClampNeg 255 q = 255
    rw [nI_clamp (by omega)]
    by_cases h : q = n
    · rw [h]; exact pk_us
    · rw [pk_un h]; exact ih (by omega) q (by omega)
theorem tt_lim_le (x : Int32) {d : Nat} (hd : d ≤ 7) : ∃ P, P ≤ 7 ∧ tt_lim x (nI d) = nI P := by
  unfold tt_lim
  by_cases h : x < 1
  · rw [if_pos h]; exact ⟨d, hd, rfl⟩
  · rw [if_neg h]
    by_cases h2 : 7 < x
    · rw [if_pos h2]; exact ⟨d, hd, rfl⟩
    · rw [if_neg h2]
      obtain ⟨j, hj, e⟩ := nI_of2 (x := x) (M := 7) (n := 7) (by decide) (fun q => h (Int32.lt_trans q (by decide))) (Int32.not_lt.mp h2)
      exact ⟨j, hj, e⟩
theorem tt_pres_eq (b : Nat → Int32) (x : Int32) : tt_pres b x = upd (upd (upd (upd (upd (upd b 0 90) 1 0) 2 (x >>> ((8 : Int32) &&& 31))) 3 (x &&& 255)) 4 0) 5 0 := by
  have w : ∀ (b : Nat → Int32) (j : Nat) (hj : j < 16) (v : Int32), tt_wr b 0 (nI j) v = upd b j v := fun b j hj v => by
    have q := tt_wr_nI b (A := 0) (by decide) hj v
    rw [show 16 * 0 + j = j by omega] at q
    exact q
  unfold tt_pres
  rw [show tt_wr b 0 0 90 = upd b 0 90 from w b 0 (by decide) 90, show ∀ b : Nat → Int32, tt_wr b 0 1 0 = upd b 1 0 from fun b => w b 1 (by decide) 0, show ∀ b : Nat → Int32, tt_wr b 0 2 (x >>> ((8 : Int32) &&& 31)) = upd b 2 (x >>> ((8 : Int32) &&& 31)) from fun b => w b 2 (by decide) _, show ∀ b : Nat → Int32, tt_wr b 0 3 (x &&& 255) = upd b 3 (x &&& 255) from fun b => w b 3 (by decide) _, show ∀ b : Nat → Int32, tt_wr b 0 4 0 = upd b 4 0 from fun b => w b 4 (by decide) 0, show ∀ b : Nat → Int32, tt_wr b 0 5 0 = upd b 5 0 from fun b => w b 5 (by decide) 0]
theorem tt_R_0 (x : Int32) : tt_R (1, 0, 0, tt_pres (tt_fl 32) (x &&& 65535), (fun _ => 0), 0, 0, 0) (0, 0, x &&& 65535, 0, 0, 10, 0, 1, 0, 0, 0, 0, 0, 0, 0) := by
  obtain ⟨j, hj, ej⟩ := tt_16 x
  rw [ej, tt_pres_eq]
  refine tt_R.mk (g := fun _ => 0) (dn := 0) (og := 0) (pw := 1) (hd := 0) (ar := 0) (T := 0) (K := 0) (A := 0) (G := 0) (p := j) (k := 0) (a := 0) (c := 0) (N := 0) ?_ (by decide) (by decide) (by decide) (by decide) (Or.inr rfl) (Or.inl rfl) (by decide) rfl
  have hf : ∀ q, 5 < q → q < 32 → upd (upd (upd (upd (upd (upd (tt_fl 32) 0 90) 1 0) 2 (nI j >>> ((8 : Int32) &&& 31))) 3 (nI j &&& 255)) 4 0) 5 0 q = 255 := fun q h1 h2 => by
    rw [pk_un (by omega), pk_un (by omega), pk_un (by omega), pk_un (by omega), pk_un (by omega), pk_un (by omega)]
    exact tt_fl_at 32 (Nat.le_refl _) q h2
  refine ⟨by decide, by decide, hj, by decide, ?_, ?_, ?_, ?_, fun q hq => absurd hq (Nat.not_lt_zero _), fun q _ hq => hf _ (by omega) (by omega), ?_, ?_, Or.inr ⟨rfl, ?_⟩⟩
  · rfl
  · rfl
  · show nI j >>> ((8 : Int32) &&& 31) = nI (j / 256)
    exact pk_shrN (n := j) (by omega) ((8 : Int32) &&& 31) 8 (by decide)
  · show nI j &&& 255 = nI (j % 256)
    exact pk_andN (n := j) (by omega) 8 (by decide)
  · rfl
  · rfl
  · rw [hf _ (by omega) (by omega)]
    decide
end
