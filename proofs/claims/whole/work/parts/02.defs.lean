/-! The pure picture. tt_F: a flash as its cells have it: bytes, erases, operations done, operations to the tear, tear's mask. Every function here is the body of one method, over values. -/
abbrev tt_F : Type := (Nat → Int32) × (Nat → Int32) × Int32 × Int32 × Int32
def tt_rd (b : Nat → Int32) (pg a : Int32) : Int32 := if pg * 16 + a < 0 then 255 else if 32 ≤ pg * 16 + a then 255 else b (pg * 16 + a).toNatClampNeg
def tt_wr (b : Nat → Int32) (pg a v : Int32) : Nat → Int32 := if pg * 16 + a < 0 then b else if 32 ≤ pg * 16 + a then b else upd b (pg * 16 + a).toNatClampNeg v
def tt_pr (b : Nat → Int32) (pg a v m : Int32) : Nat → Int32 := if pg * 16 + a < 0 then b else if 32 ≤ pg * 16 + a then b else upd b (pg * 16 + a).toNatClampNeg (b (pg * 16 + a).toNatClampNeg &&& (v ||| (m ^^^ (-1))))
def tt_no (x : Int32) : Int32 := if x = 0 then 1 else 0
def tt_cnt (s : tt_F) : Int32 × tt_F := match s with
  | (b, g, od, ot, tm) => if ot = 0 then (0, (b, g, od + 1, ot, tm)) else if ot - 1 = 0 then (1, (b, g, od + 1, ot - 1, tm)) else (0, (b, g, od + 1, ot - 1, tm))
def tt_prog (s : tt_F) (pg a v : Int32) : Int32 × tt_F := match tt_cnt s with
  | (r, (b, g, od, ot, tm)) => (if r = 0 then 1 else 0, (tt_pr b pg a v (if r = 0 then 255 else tm), g, od, ot, tm))
def tt_ip (pg : Int32) : Int32 := if pg < 0 then 0 else if 2 ≤ pg then 0 else 1
def tt_er1 (b : Nat → Int32) (pg m : Int32) (i : Nat) : Nat → Int32 := if (m >>> ((nI i &&& 7) &&& 31)) &&& 1 = 1 then upd b (pg * 16 + nI i).toNatClampNeg 255 else b
def tt_er (b : Nat → Int32) (pg m : Int32) : Nat → (Nat → Int32)
  | 0 => b
  | k + 1 => tt_er1 (tt_er b pg m k) pg m k
def tt_erase (s : tt_F) (pg : Int32) : Int32 × tt_F := match tt_cnt s with
  | (r, (b, g, od, ot, tm)) => if tt_ip pg = 0 then (if r = 0 then 1 else 0, (b, g, od, ot, tm)) else (if r = 0 then 1 else 0, (tt_er b pg (if r = 0 then 255 else tm) 16, upd g pg.toNatClampNeg (g pg.toNatClampNeg + 1), od, ot, tm))
def tt_ec (g : Nat → Int32) (pg : Int32) : Int32 := if tt_ip pg = 0 then 0 else g pg.toNatClampNeg
def tt_gd (b : Nat → Int32) (pg : Int32) : Int32 := if tt_rd b pg 0 = 90 then 1 else 0
def tt_ga (b : Nat → Int32) (pg : Int32) : Int32 := (tt_rd b pg 1 + 1) &&& 255
def tt_ac (b : Nat → Int32) : Int32 := if tt_gd b 1 = 0 then 0 else if tt_gd b 0 = 0 then 1 else if tt_rd b 1 1 = tt_ga b 0 then 1 else 0
def tt_pin (b : Nat → Int32) : Int32 := (tt_rd b (tt_ac b) 2 <<< ((8 : Int32) &&& 31)) ||| tt_rd b (tt_ac b) 3
def tt_en (b : Nat → Int32) (pg : Int32) : Nat → Int32 := fun j => tt_rd b pg (nI (6 + j))
def tt_ps (u x : Int32) : Int32 := if x &&& 1 = 0 then (if x &&& 2 = 0 then 0 else u + 1) else u
def tt_pf (u : Int32) (e : Nat → Int32) : Nat → Int32
  | 0 => u
  | k + 1 => tt_ps (tt_pf u e k) (e k)
def tt_us (u x : Int32) : Int32 := if x &&& 16 = 0 then u + 1 else u
def tt_uf (u : Int32) (e : Nat → Int32) : Nat → Int32
  | 0 => u
  | k + 1 => tt_us (tt_uf u e k) (e k)
def tt_fs (u x : Int32) : Int32 := if x = 255 then u + 1 else u
def tt_ff (u : Int32) (e : Nat → Int32) : Nat → Int32
  | 0 => u
  | k + 1 => tt_fs (tt_ff u e k) (e k)
def tt_1f (e : Nat → Int32) : Nat → Nat → Int32
  | 0, _ => -1
  | n + 1, i => if e i = 255 then nI (6 + i) else tt_1f e n (i + 1)
def tt_pu (b : Nat → Int32) : Int32 := tt_pf (tt_rd b (tt_ac b) 4) (tt_en b (tt_ac b)) 10
def tt_uu (b : Nat → Int32) : Int32 := tt_uf (tt_rd b (tt_ac b) 5) (tt_en b (tt_ac b)) 10
def tt_fe (b : Nat → Int32) : Int32 := tt_ff 0 (tt_en b (tt_ac b)) 10
def tt_fst (b : Nat → Int32) : Int32 := tt_1f (tt_en b (tt_ac b)) 10 0
/-- one step behind another: 0 ends it -/
def tt_seq {S : Type} (r : Int32 × S) (k : S → Int32 × S) : Int32 × S := if r.1 = 0 then (0, r.2) else k r.2
def tt_t0 (s : tt_F) (f : Int32) : Int32 × tt_F := if tt_gd s.1 f = 0 then (1, s) else tt_prog s f 0 0
def tt_turn (s : tt_F) (p a c : Int32) : Int32 × tt_F :=
  tt_seq (tt_t0 s (1 - tt_ac s.1)) fun s1 => tt_seq (tt_erase s1 (1 - tt_ac s.1)) fun s2 => tt_seq (tt_prog s2 (1 - tt_ac s.1) 1 (tt_ga s2.1 (tt_ac s.1))) fun s3 =>
  tt_seq (tt_prog s3 (1 - tt_ac s.1) 2 (p >>> ((8 : Int32) &&& 31))) fun s4 => tt_seq (tt_prog s4 (1 - tt_ac s.1) 3 (p &&& 255)) fun s5 => tt_seq (tt_prog s5 (1 - tt_ac s.1) 4 a) fun s6 =>
  tt_seq (tt_prog s6 (1 - tt_ac s.1) 5 c) fun s7 => tt_seq (tt_prog s7 (1 - tt_ac s.1) 0 90) fun s8 => (1, s8)
def tt_m1 (s : tt_F) (v : Int32) : Int32 × tt_F := if tt_fst s.1 = -1 then (-1, s) else match tt_prog s (tt_ac s.1) (tt_fst s.1) v with
  | (r, s2) => if r = 0 then (-1, s2) else (tt_fst s.1, s2)
def tt_mark (s : tt_F) (v : Int32) : Int32 × tt_F := if tt_fst s.1 = -1 then (match tt_turn s (tt_pin s.1) (tt_pu s.1) (tt_uu s.1) with
  | (r, s2) => if r = 0 then (-1, s2) else tt_m1 s2 v) else tt_m1 s v
/-- the card: powered, holder in, tears armed, its flash -/
abbrev tt_X : Type := Int32 × Int32 × Int32 × tt_F
def tt_lim (x d : Int32) : Int32 := if x < 1 then d else if 7 < x then d else x
def tt_try (pl : Int32) (s : tt_X) (n : Int32) : Int32 × tt_X := match s with
  | (pw, hi, ta, f) => if pw = 0 then (-1, s) else if tt_pu f.1 < pl then (match tt_mark f 254 with
    | (r, f2) => if r = -1 then (-3, (0, 0, ta, f2)) else if n = tt_pin f2.1 then (match tt_prog f2 (tt_ac f2.1) r 253 with
      | (q, f3) => if q = 0 then (-3, (0, 0, ta, f3)) else (1, (pw, 0, ta, f3))) else (0, (pw, 0, ta, f2))) else (-2, s)
def tt_verify (pl : Int32) (s : tt_X) (n : Int32) : Int32 × tt_X := match tt_try pl s (n &&& 65535) with
  | (r, (pw, hi, ta, f)) => if r = 1 then (r, (pw, 1, ta, f)) else (r, (pw, hi, ta, f))
def tt_change (pl : Int32) (s : tt_X) (n x : Int32) : Int32 × tt_X := match tt_try pl s (n &&& 65535) with
  | (r, (pw, hi, ta, f)) => if r = 1 then (match tt_turn f (x &&& 65535) 0 (tt_uu f.1) with
    | (q, f2) => if q = 0 then (-3, (0, 0, ta, f2)) else (1, (pw, 1, ta, f2))) else (r, (pw, hi, ta, f))
def tt_unblock (pk ul : Int32) (s : tt_X) (n x : Int32) : Int32 × tt_X := match s with
  | (pw, hi, ta, f) => if pw = 0 then (-1, s) else if tt_uu f.1 < ul then (match tt_mark f 239 with
    | (r, f2) => if r = -1 then (-3, (0, 0, ta, f2)) else if n = pk then (match tt_turn f2 (x &&& 65535) 0 0 with
      | (q, f3) => if q = 0 then (-3, (0, 0, ta, f3)) else (1, (pw, 0, ta, f3))) else (0, (pw, 0, ta, f2))) else (-2, s)
def tt_setT (f : tt_F) (n m : Int32) : tt_F := match f with
  | (b, g, od, _, _) => (b, g, od, n, m)
def tt_arm (s : tt_X) (n m : Int32) : Int32 × tt_X := match s with
  | (pw, hi, ta, f) => if n < 0 then (0, s) else if 30 < n then (0, s) else if m < 0 then (0, s) else if m ≤ 255 then (if n ≤ 0 then (1, (pw, hi, ta, tt_setT f n m)) else if ta < 40 then (1, (pw, hi, ta + 1, tt_setT f n m)) else (0, s)) else (0, s)
def tt_cut (s : tt_X) : Int32 × tt_X := match s with
  | (pw, hi, ta, f) => if pw = 0 then (0, s) else (1, (0, 0, ta, f))
def tt_start (s : tt_X) : Int32 × tt_X := match s with
  | (pw, hi, ta, f) => if pw = 0 then (1, (1, hi, ta, f)) else (0, s)
/-! The reference: active, age, pin, pin tries, puk tries, entries, other good, power, holder, torn, mask, arms, done, erased 0, erased 1 -/
abbrev tt_M : Type := Int32 × Int32 × Int32 × Int32 × Int32 × Int32 × Int32 × Int32 × Int32 × Int32 × Int32 × Int32 × Int32 × Int32 × Int32
def mm_op (s : tt_M) : Int32 × tt_M := match s with
  | (ac, ag, pn, pt, ut, en, og, pw, hd, tn, tk, ar, dn, e0, e1) => if tn = 1 then (tk, (ac, ag, pn, pt, ut, en, og, 0, 0, (if tn ≤ 0 then 0 else tn - 1), tk, ar, dn + 1, e0, e1)) else (-1, (ac, ag, pn, pt, ut, en, og, pw, hd, (if tn ≤ 0 then 0 else tn - 1), tk, ar, dn + 1, e0, e1))
def mm_all (m k : Int32) : Int32 := if m < 0 then 1 else if m &&& k = k then 1 else 0
def mm_setog (s : tt_M) (x : Int32) : tt_M := match s with
  | (ac, ag, pn, pt, ut, en, _, r) => (ac, ag, pn, pt, ut, en, x, r)
def mm_t0 (s : tt_M) : Int32 × tt_M := if s.2.2.2.2.2.2.1 = 0 then (1, s) else match mm_op s with
  | (r, s2) => if r < 0 then (1, mm_setog s2 0) else (0, mm_setog s2 (if r &&& 90 = 0 then 1 else 0))
def mm_er (s : tt_M) : tt_M := match s with
  | (ac, ag, pn, pt, ut, en, og, pw, hd, tn, tk, ar, dn, e0, e1) => if ac = 0 then (ac, ag, pn, pt, ut, en, og, pw, hd, tn, tk, ar, dn, e0, e1 + 1) else (ac, ag, pn, pt, ut, en, og, pw, hd, tn, tk, ar, dn, e0 + 1, e1)
def mm_lp : Nat → tt_M → Int32 × tt_M
  | 0, s => (1, s)
  | n + 1, s => match mm_op s with
    | (r, s2) => if r < 0 then mm_lp n s2 else (0, s2)
def mm_t9 (s : tt_M) (p a b : Int32) : Int32 × tt_M := match mm_op s with
  | (r, (ac, ag, pn, pt, ut, en, og, z)) => (if 0 ≤ r then 0 else 1, if mm_all r 165 = 0 then (ac, ag, pn, pt, ut, en, og, z) else (1 - ac, (ag + 1) - (ag + 1) / 256 * 256, p, a, b, 10, 1, z))
def mm_turn (s : tt_M) (p a b : Int32) : Int32 × tt_M := tt_seq (mm_t0 s) fun s1 => tt_seq (mm_lp 6 (mm_er s1)) fun s2 => mm_t9 s2 p a b
def mm_m1 (s : tt_M) (k : Int32) : Int32 × tt_M := match mm_op s with
  | (r, (ac, ag, pn, pt, ut, en, z)) => (if 0 ≤ r then 0 else 1, if mm_all r (if k = 0 then 1 else 16) = 0 then (ac, ag, pn, pt, ut, en, z) else if k = 0 then (ac, ag, pn, pt + 1, ut, en - 1, z) else (ac, ag, pn, pt, ut + 1, en - 1, z))
def mm_mark (s : tt_M) (k : Int32) : Int32 × tt_M := match s with
  | (ac, ag, pn, pt, ut, en, z) => if en = 0 then tt_seq (mm_turn s pn pt ut) fun s2 => mm_m1 s2 k else mm_m1 s k
def mm_sethd (s : tt_M) (x : Int32) : tt_M := match s with
  | (ac, ag, pn, pt, ut, en, og, pw, _, z) => (ac, ag, pn, pt, ut, en, og, pw, x, z)
def mm_a9 (s : tt_M) : Int32 × tt_M := match mm_op s with
  | (r, (ac, ag, pn, pt, z)) => (if 0 ≤ r then -3 else 1, if mm_all r 2 = 0 then (ac, ag, pn, pt, z) else (ac, ag, pn, 0, z))
def mm_att (pl : Int32) (s : tt_M) (n : Int32) : Int32 × tt_M := match s with
  | (ac, ag, pn, pt, ut, en, og, pw, hd, z) => if pw = 0 then (-1, s) else if pt < pl then (match mm_mark (ac, ag, pn, pt, ut, en, og, pw, 0, z) 0 with
    | (r, s2) => if r = 0 then (-3, s2) else if n &&& 65535 = s2.2.2.1 then mm_a9 s2 else (0, s2)) else (-2, s)
def mm_or (s : tt_M) (r : Int32) : tt_M := match s with
  | (ac, ag, pn, pt, ut, en, og, pw, hd, z) => if hd = 0 then (if r = 1 then (ac, ag, pn, pt, ut, en, og, pw, 1, z) else (ac, ag, pn, pt, ut, en, og, pw, 0, z)) else (ac, ag, pn, pt, ut, en, og, pw, 1, z)
def mm_verify (pl : Int32) (s : tt_M) (n : Int32) : Int32 × tt_M := match mm_att pl s n with
  | (r, s2) => (r, mm_or s2 r)
def mm_change (pl : Int32) (s : tt_M) (n x : Int32) : Int32 × tt_M := match mm_att pl s n with
  | (r, s2) => if r = 1 then (match mm_turn s2 (x &&& 65535) 0 s2.2.2.2.2.1 with
    | (q, s3) => if q = 0 then (-3, mm_or s3 (-3)) else (r, mm_or s3 r)) else (r, mm_or s2 r)
def mm_unblock (pk ul : Int32) (s : tt_M) (n x : Int32) : Int32 × tt_M := match s with
  | (ac, ag, pn, pt, ut, en, og, pw, hd, z) => if pw = 0 then (-1, s) else if ut < ul then (match mm_mark (ac, ag, pn, pt, ut, en, og, pw, 0, z) 1 with
    | (r, s2) => if r = 0 then (-3, s2) else if n = pk then (match mm_turn s2 (x &&& 65535) 0 0 with
      | (q, s3) => (if q = 0 then -3 else 1, s3)) else (0, s2)) else (-2, s)
def mm_arm (s : tt_M) (n m : Int32) : Int32 × tt_M := match s with
  | (ac, ag, pn, pt, ut, en, og, pw, hd, tn, tk, ar, z) => if n < 0 then (0, s) else if 30 < n then (0, s) else if m < 0 then (0, s) else if 255 < m then (0, s) else if n = 0 then (1, (ac, ag, pn, pt, ut, en, og, pw, hd, n, m, ar, z)) else if ar = 40 then (0, s) else (1, (ac, ag, pn, pt, ut, en, og, pw, hd, n, m, ar + 1, z))
def mm_cut (s : tt_M) : Int32 × tt_M := match s with
  | (ac, ag, pn, pt, ut, en, og, pw, hd, z) => (pw, (ac, ag, pn, pt, ut, en, og, 0, 0, z))
def mm_start (s : tt_M) : Int32 × tt_M := match s with
  | (ac, ag, pn, pt, ut, en, og, pw, hd, z) => (if pw = 0 then 1 else 0, (ac, ag, pn, pt, ut, en, og, 1, hd, z))
