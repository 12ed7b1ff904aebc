/-! the pure picture: what each method answers and leaves, as the class's own code decides it -/
def bl_w (x e : Int32) : Int32 := if x < 0 then 0 else if e ≤ x then 0 else 1
def wb_w (x : Int32) : Int32 := if x < (-2000000000) then 0 else if 2000000000 < x then 0 else 1
theorem bl_01 (x e : Int32) : bl_w x e = 0 ∨ bl_w x e = 1 := by
  unfold bl_w
  split
  · exact Or.inl rfl
  · split
    · exact Or.inl rfl
    · exact Or.inr rfl
theorem wb_01 (x : Int32) : wb_w x = 0 ∨ wb_w x = 1 := by
  unfold wb_w
  split
  · exact Or.inl rfl
  · split
    · exact Or.inl rfl
    · exact Or.inr rfl
def ii_w (o n : Int32) : Int32 :=
  if o = 0 then wb_w n else if o = 1 then bl_w n 16 else if o = 2 then bl_w n 16 else if o = 3 then 1 else if o = 4 then 1 else if o = 5 then 1 else if o = 6 then 1 else if o = 7 then 1 else if o = 8 then 1 else if o = 9 then 1 else if o = 10 then bl_w n 100 else if o = 11 then bl_w n 100 else if o = 12 then bl_w n 4 else if o = 13 then bl_w n 4 else if o = 14 then 1 else if o = 15 then 1 else 0
theorem bl_vp {x : Int32} {N : Nat} (e : Int32) (he : e.toInt = N) (h : bl_w x e = 1) : vp_in x N := by
  unfold bl_w at h
  rw [vp_in_iff]
  by_cases h1 : x < 0
  · rw [if_pos h1] at h; exact absurd h (by decide)
  · by_cases h2 : e ≤ x
    · rw [if_neg h1, if_pos h2] at h; exact absurd h (by decide)
    · have h3 := Int32.le_iff_toInt_le.mp (Int32.not_lt.mp h1)
      have h4 := Int32.lt_iff_toInt_lt.mp (Int32.not_le.mp h2)
      rw [he] at h4
      exact ⟨by simpa using h3, h4⟩
theorem vp_mono {x : Int32} {a b : Nat} (h : vp_in x a) (hab : a ≤ b) : vp_in x b := by
  rw [vp_in_iff] at h ⊢
  omega
theorem ii_in1 {n : Int32} (h : ii_w 1 n = 1) : vp_in n 18 := vp_mono (bl_vp 16 (N := 16) (by decide) (by simpa [ii_w] using h)) (by decide)
theorem ii_in2 {n : Int32} (h : ii_w 2 n = 1) : vp_in n 18 := vp_mono (bl_vp 16 (N := 16) (by decide) (by simpa [ii_w] using h)) (by decide)
theorem ii_in12 {n : Int32} (h : ii_w 12 n = 1) : vp_in n 4 := bl_vp 4 (N := 4) (by decide) (by simpa [ii_w] using h)
theorem ii_in13 {n : Int32} (h : ii_w 13 n = 1) : vp_in n 4 := bl_vp 4 (N := 4) (by decide) (by simpa [ii_w] using h)
def pg_ok (ops nums : Nat → Int32) (sz : Int32) : Prop := ∀ k : Nat, (k : Int) < sz.toInt → ii_w (ops k) (nums k) = 1
theorem bl_ne {x e : Int32} (h : ¬ bl_w x e = 0) : ¬ x < 0 ∧ x < e := by
  unfold bl_w at h
  by_cases h1 : x < 0
  · rw [if_pos h1] at h; exact absurd rfl h
  · by_cases h2 : e ≤ x
    · rw [if_neg h1, if_pos h2] at h; exact absurd rfl h
    · exact ⟨h1, Int32.not_le.mp h2⟩
theorem bl_in {x sz : Int32} (h : ¬ bl_w x sz = 0) (hz : sz ≤ 100) : vp_in x 100 := by
  obtain ⟨h1, h2⟩ := bl_ne h
  rw [vp_in_iff]
  have h3 := Int32.le_iff_toInt_le.mp (Int32.not_lt.mp h1)
  have h4 := Int32.lt_iff_toInt_lt.mp h2
  have h5 := Int32.le_iff_toInt_le.mp hz
  have e0 : (0 : Int32).toInt = 0 := by decide
  have e1 : (100 : Int32).toInt = 100 := by decide
  omega
theorem pg_use {ops nums : Nat → Int32} {x sz : Int32} (hok : pg_ok ops nums sz) (h : ¬ bl_w x sz = 0) : ii_w (ops x.toNatClampNeg) (nums x.toNatClampNeg) = 1 := by
  obtain ⟨h1, h2⟩ := bl_ne h
  refine hok _ ?_
  have h3 := Int32.le_iff_toInt_le.mp (Int32.not_lt.mp h1)
  have h4 := Int32.lt_iff_toInt_lt.mp h2
  have e0 : (0 : Int32).toInt = 0 := by decide
  show ((x.toInt.toNat : Nat) : Int) < sz.toInt
  omega
def tb_w (fac a : Int64) : Int32 := if 2000000000 * fac < a then 2 else if a < -(2000000000 * fac) then 2 else 0
def im_w (fac v : Int64) : Int32 := if fac = 0 then 0 else if v - v / fac * fac = 0 then 1 else 0
def pa_w (fac v : Int64) : Int64 := if fac = 0 then 0 else v / fac
def pb_w (x y : Int64) : Int32 := if x = 0 then 0 else if x = (-1) then (if y = (-9223372036854775808) then 1 else 0) else if x * y / x = y then 0 else 1
def ml_w (fac : Int64) (r : Nat → Int64) : Int32 × (Nat → Int64) :=
  if pb_w (r 16) (r 17) = 0 then (if im_w fac (r 16 * r 17) = 0 then (2, r) else (tb_w fac (pa_w fac (r 16 * r 17)), vp_updL r 16 (pa_w fac (r 16 * r 17)))) else (2, r)
def lk_w (fac : Int64) (r : Nat → Int64) : Int32 × (Nat → Int64) :=
  if im_w fac (r 16) = 0 then (2, r) else if pa_w fac (r 16) < 0 then (2, r) else if pa_w fac (r 16) < 16 then (0, vp_updL r 16 (r (pa_w fac (r 16)).toInt32.toNatClampNeg)) else (2, r)
theorem lk_in {k : Int64} (h1 : ¬ k < 0) (h2 : k < 16) : vp_in k.toInt32 18 := by
  obtain ⟨j, hj, rfl⟩ := pk_lOf h1
  have h3 : j < 16 := (pk_lLT hj (by decide)).mp (show lN j < lN 16 from h2)
  rw [lN_i]
  exact vp_in_nI (by omega) (by decide)
def mv_w (fac : Int64) (o n : Int32) (r q : Nat → Int64) (pl : Int32) : (Nat → Int64) × (Nat → Int64) × Int32 :=
  if o = 0 then (vp_updL r 16 (n.toInt64 * fac), q, pl)
  else if o = 1 then (vp_updL r 16 (r n.toNatClampNeg), q, pl)
  else if o = 2 then (vp_updL r n.toNatClampNeg (r 16), q, pl)
  else if o = 3 then (vp_updL r 17 (r 16), q, pl)
  else if o = 7 then (if r 16 < r 17 then (vp_updL r 16 fac, q, pl) else (vp_updL r 16 0, q, pl))
  else if o = 8 then (if r 16 = r 17 then (vp_updL r 16 fac, q, pl) else (vp_updL r 16 0, q, pl))
  else if o = 10 then (r, q, n)
  else if o = 11 then (if r 16 = 0 then (r, q, n) else (r, q, pl))
  else if o = 13 then (r, vp_updL q n.toNatClampNeg (r 16), pl)
  else (r, q, pl)
def de_w (fac : Int64) (o n : Int32) (gg : Nat → Int32) (r q : Nat → Int64) (pl : Int32) : Int32 × (Nat → Int64) × (Nat → Int64) × Int32 :=
  if o = 4 then (tb_w fac (r 16 + r 17), vp_updL r 16 (r 16 + r 17), q, pl)
  else if o = 5 then (tb_w fac (r 16 - r 17), vp_updL r 16 (r 16 - r 17), q, pl)
  else if o = 6 then ((ml_w fac r).1, (ml_w fac r).2, q, pl)
  else if o = 9 then (tb_w fac (-(r 16)), vp_updL r 16 (-(r 16)), q, pl)
  else if o = 12 then (tb_w fac ((gg n.toNatClampNeg).toInt64 * fac), vp_updL r 16 ((gg n.toNatClampNeg).toInt64 * fac), q, pl)
  else if o = 14 then (1, r, q, pl)
  else if o = 15 then ((lk_w fac r).1, (lk_w fac r).2, q, pl)
  else (0, mv_w fac o n r q pl)
def ds_w (fac : Int64) (ops nums : Nat → Int32) (sz : Int32) (gg : Nat → Int32) (r q : Nat → Int64) (pl : Int32) : Int32 × (Nat → Int64) × (Nat → Int64) × Int32 :=
  if bl_w pl sz = 0 then (2, r, q, pl) else de_w fac (ops pl.toNatClampNeg) (nums pl.toNatClampNeg) gg r q (pl + 1)
def f4_w (f : Nat → Int64) (v : Int64) : Nat → Int64 := vp_updL (vp_updL (vp_updL (vp_updL f 0 v) 1 v) 2 v) 3 v
def g4_w (f : Nat → Int32) (v : Int32) : Nat → Int32 := upd (upd (upd (upd f 0 v) 1 v) 2 v) 3 v
def bg_w (r : Nat → Int64) : Nat → Int64 := vp_updL (vp_updL r 16 0) 17 0
/-- the flips ahead of step sp, from the k-th plan on, n of them -/
def fl_w (fc fl fb fs : Nat → Int32) (sp : Int32) : Nat → Nat → (Nat → Int64) → (Nat → Int64) → Int32 → (Nat → Int64) × (Nat → Int64) × Int32
  | 0, _, ra, rb, fd => (ra, rb, fd)
  | n + 1, k, ra, rb, fd => if fs k = sp then (if fc k = 0 then fl_w fc fl fb fs sp n (k + 1) (vp_updL ra (fl k).toNatClampNeg (ra (fl k).toNatClampNeg ^^^ (1 <<< ((fb k).toInt64 &&& 63)))) rb (fd + 1) else fl_w fc fl fb fs sp n (k + 1) ra (vp_updL rb (fl k).toNatClampNeg (rb (fl k).toNatClampNeg ^^^ (1 <<< ((fb k).toInt64 &&& 63)))) (fd + 1)) else fl_w fc fl fb fs sp n (k + 1) ra rb fd
def pl_ok (fl : Nat → Int32) (np : Nat) : Prop := ∀ k : Nat, k < np → vp_in (fl k) 18
abbrev sx_w : Type := (Nat → Int64) × (Nat → Int64) × (Nat → Int64) × Int32 × Int32 × Int32
/-- one step of the first copy: the flips, then the instruction; (rows of both, its ports, its place, steps, flips done) -/
def sa_w (ops nums : Nat → Int32) (sz : Int32) (gg fc fl fb fs : Nat → Int32) (np : Nat) (X : sx_w) : Int32 × sx_w :=
  ((ds_w 1 ops nums sz gg (fl_w fc fl fb fs X.2.2.2.2.1 np 0 X.1 X.2.1 X.2.2.2.2.2).1 X.2.2.1 X.2.2.2.1).1,
   (ds_w 1 ops nums sz gg (fl_w fc fl fb fs X.2.2.2.2.1 np 0 X.1 X.2.1 X.2.2.2.2.2).1 X.2.2.1 X.2.2.2.1).2.1,
   (fl_w fc fl fb fs X.2.2.2.2.1 np 0 X.1 X.2.1 X.2.2.2.2.2).2.1,
   (ds_w 1 ops nums sz gg (fl_w fc fl fb fs X.2.2.2.2.1 np 0 X.1 X.2.1 X.2.2.2.2.2).1 X.2.2.1 X.2.2.2.1).2.2.1,
   (ds_w 1 ops nums sz gg (fl_w fc fl fb fs X.2.2.2.2.1 np 0 X.1 X.2.1 X.2.2.2.2.2).1 X.2.2.1 X.2.2.2.1).2.2.2,
   X.2.2.2.2.1 + 1, (fl_w fc fl fb fs X.2.2.2.2.1 np 0 X.1 X.2.1 X.2.2.2.2.2).2.2)
def sb_w (ops nums : Nat → Int32) (sz : Int32) (gg fc fl fb fs : Nat → Int32) (np : Nat) (X : sx_w) : Int32 × sx_w :=
  ((ds_w 58659 ops nums sz gg (fl_w fc fl fb fs X.2.2.2.2.1 np 0 X.1 X.2.1 X.2.2.2.2.2).2.1 X.2.2.1 X.2.2.2.1).1,
   (fl_w fc fl fb fs X.2.2.2.2.1 np 0 X.1 X.2.1 X.2.2.2.2.2).1,
   (ds_w 58659 ops nums sz gg (fl_w fc fl fb fs X.2.2.2.2.1 np 0 X.1 X.2.1 X.2.2.2.2.2).2.1 X.2.2.1 X.2.2.2.1).2.1,
   (ds_w 58659 ops nums sz gg (fl_w fc fl fb fs X.2.2.2.2.1 np 0 X.1 X.2.1 X.2.2.2.2.2).2.1 X.2.2.1 X.2.2.2.1).2.2.1,
   (ds_w 58659 ops nums sz gg (fl_w fc fl fb fs X.2.2.2.2.1 np 0 X.1 X.2.1 X.2.2.2.2.2).2.1 X.2.2.1 X.2.2.2.1).2.2.2,
   X.2.2.2.2.1 + 1, (fl_w fc fl fb fs X.2.2.2.2.1 np 0 X.1 X.2.1 X.2.2.2.2.2).2.2)
/-- a copy's steps, at most n of them, by its one step -/
def rn_w (f : sx_w → Int32 × sx_w) : Nat → sx_w → Int32 × sx_w
  | 0, X => (2, X)
  | n + 1, X => if (f X).1 = 1 then (0, (f X).2) else if (f X).1 = 2 then (1, (f X).2) else rn_w f n (f X).2
theorem rn_1 {f : sx_w → Int32 × sx_w} {n : Nat} {X : sx_w} (h : (f X).1 = 1) : rn_w f (n + 1) X = (0, (f X).2) := if_pos h
theorem rn_2 {f : sx_w → Int32 × sx_w} {n : Nat} {X : sx_w} (h : ¬ (f X).1 = 1) (h2 : (f X).1 = 2) : rn_w f (n + 1) X = (1, (f X).2) := (if_neg h).trans (if_pos h2)
theorem rn_3 {f : sx_w → Int32 × sx_w} {n : Nat} {X : sx_w} (h : ¬ (f X).1 = 1) (h2 : ¬ (f X).1 = 2) : rn_w f (n + 1) X = rn_w f n (f X).2 := (if_neg h).trans (if_neg h2)
def ca_w (p q : Nat → Int64) : Int32 :=
  if p 0 = (p 0).toInt32.toInt64 then (if p 0 * 58659 = q 0 then
    (if p 1 = (p 1).toInt32.toInt64 then (if p 1 * 58659 = q 1 then
      (if p 2 = (p 2).toInt32.toInt64 then (if p 2 * 58659 = q 2 then
        (if p 3 = (p 3).toInt32.toInt64 then (if p 3 * 58659 = q 3 then 1 else 0) else 0) else 0) else 0) else 0) else 0) else 0) else 0
theorem ca_01 (p q : Nat → Int64) : ca_w p q = 0 ∨ ca_w p q = 1 := by
  unfold ca_w
  repeat' split
  all_goals first | exact Or.inl rfl | exact Or.inr rfl
def e4_w (ss : Nat → Int32) (q : Nat → Int64) : Nat → Int32 := upd (upd (upd (upd ss 0 (q 0).toInt32) 1 (q 1).toInt32) 2 (q 2).toInt32) 3 (q 3).toInt32
abbrev sy_w : Type := (Nat → Int64) × (Nat → Int64) × (Nat → Int64) × Int32 × (Nat → Int64) × Int32 × Int32 × Int32
/-- where both have ended -/
def ab_w (X Y : sx_w) : sy_w := (Y.1, Y.2.1, X.2.2.1, X.2.2.2.1, Y.2.2.1, Y.2.2.2.1, Y.2.2.2.2.1, Y.2.2.2.2.2)
def xa_w (ra rb qa : Nat → Int64) (sp fd : Int32) : sx_w := (bg_w ra, rb, f4_w qa 0, 0, sp, fd)
def xb_w (X : sx_w) (qb : Nat → Int64) : sx_w := (X.1, bg_w X.2.1, f4_w qb 0, 0, X.2.2.2.2.1, X.2.2.2.2.2)
/-- both copies, and the gate: why it latches; rows of both, ports and place of the first, of the second, steps, flips done -/
def rb_w (fa fb : sx_w → Int32 × sx_w) (lm : Nat) (ra rb qa qb : Nat → Int64) (plb sp fd : Int32) : Int32 × sy_w :=
  if (rn_w fa lm (xa_w ra rb qa sp fd)).1 = 0 then
    (if (rn_w fb lm (xb_w (rn_w fa lm (xa_w ra rb qa sp fd)).2 qb)).1 = 0 then
      (if ca_w (rn_w fa lm (xa_w ra rb qa sp fd)).2.2.2.1 (rn_w fb lm (xb_w (rn_w fa lm (xa_w ra rb qa sp fd)).2 qb)).2.2.2.1 = 0 then
        (3, ab_w (rn_w fa lm (xa_w ra rb qa sp fd)).2 (rn_w fb lm (xb_w (rn_w fa lm (xa_w ra rb qa sp fd)).2 qb)).2)
      else ((rn_w fb lm (xb_w (rn_w fa lm (xa_w ra rb qa sp fd)).2 qb)).1, ab_w (rn_w fa lm (xa_w ra rb qa sp fd)).2 (rn_w fb lm (xb_w (rn_w fa lm (xa_w ra rb qa sp fd)).2 qb)).2))
    else ((rn_w fb lm (xb_w (rn_w fa lm (xa_w ra rb qa sp fd)).2 qb)).1, ab_w (rn_w fa lm (xa_w ra rb qa sp fd)).2 (rn_w fb lm (xb_w (rn_w fa lm (xa_w ra rb qa sp fd)).2 qb)).2))
  else ((rn_w fa lm (xa_w ra rb qa sp fd)).1, (rn_w fa lm (xa_w ra rb qa sp fd)).2.1, (rn_w fa lm (xa_w ra rb qa sp fd)).2.2.1, (rn_w fa lm (xa_w ra rb qa sp fd)).2.2.2.1, (rn_w fa lm (xa_w ra rb qa sp fd)).2.2.2.2.1, qb, plb, (rn_w fa lm (xa_w ra rb qa sp fd)).2.2.2.2.2.1, (rn_w fa lm (xa_w ra rb qa sp fd)).2.2.2.2.2.2)
