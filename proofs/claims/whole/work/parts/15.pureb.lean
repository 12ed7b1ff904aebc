/-- a whole cycle: its answer; begun, latched, emitted, steps, flips done; rows; ports and place of both; plans; what is shown -/
abbrev sz_w : Type := Int32 × Int32 × Int32 × Int32 × Int32 × (Nat → Int64) × (Nat → Int64) × (Nat → Int64) × Int32 × (Nat → Int64) × Int32 × Nat × (Nat → Int32)
def cy_w (fa fb : sx_w → Int32 × sx_w) (lm : Nat) (bg lt em sp fd : Int32) (ra rb qa : Nat → Int64) (pla : Int32) (qb : Nat → Int64) (plb : Int32) (np : Nat) (ss : Nat → Int32) : Int32 × sz_w :=
  if lt = 0 then
    (if (rb_w fa fb lm ra rb qa qb plb 0 fd).1 = 0 then
      (1, 1, (rb_w fa fb lm ra rb qa qb plb 0 fd).1, em + 1, (rb_w fa fb lm ra rb qa qb plb 0 fd).2.2.2.2.2.2.2.1, (rb_w fa fb lm ra rb qa qb plb 0 fd).2.2.2.2.2.2.2.2, (rb_w fa fb lm ra rb qa qb plb 0 fd).2.1, (rb_w fa fb lm ra rb qa qb plb 0 fd).2.2.1, (rb_w fa fb lm ra rb qa qb plb 0 fd).2.2.2.1, (rb_w fa fb lm ra rb qa qb plb 0 fd).2.2.2.2.1, (rb_w fa fb lm ra rb qa qb plb 0 fd).2.2.2.2.2.1, (rb_w fa fb lm ra rb qa qb plb 0 fd).2.2.2.2.2.2.1, 0, e4_w ss (rb_w fa fb lm ra rb qa qb plb 0 fd).2.2.2.1)
    else
      (0, 1, (rb_w fa fb lm ra rb qa qb plb 0 fd).1, em, (rb_w fa fb lm ra rb qa qb plb 0 fd).2.2.2.2.2.2.2.1, (rb_w fa fb lm ra rb qa qb plb 0 fd).2.2.2.2.2.2.2.2, (rb_w fa fb lm ra rb qa qb plb 0 fd).2.1, (rb_w fa fb lm ra rb qa qb plb 0 fd).2.2.1, (rb_w fa fb lm ra rb qa qb plb 0 fd).2.2.2.1, (rb_w fa fb lm ra rb qa qb plb 0 fd).2.2.2.2.1, (rb_w fa fb lm ra rb qa qb plb 0 fd).2.2.2.2.2.1, (rb_w fa fb lm ra rb qa qb plb 0 fd).2.2.2.2.2.2.1, 0, g4_w ss 0))
  else (0, bg, lt, em, sp, fd, ra, rb, qa, pla, qb, plb, np, ss)
def fu_w (np : Nat) : Int32 := if nI np < 4 then 0 else 1
def gu_w (sz : Int32) : Int32 := if sz < 100 then 0 else 1
theorem fu_01 (np : Nat) : fu_w np = 0 ∨ fu_w np = 1 := by
  unfold fu_w
  split
  · exact Or.inl rfl
  · exact Or.inr rfl
theorem fu_lt {np : Nat} (h : fu_w np = 0) (hn : np ≤ 4) : np < 4 := by
  unfold fu_w at h
  by_cases h1 : nI np < 4
  · exact (nI_ltI (a := np) (b := 4) (by omega) (by decide)).mp h1
  · rw [if_neg h1] at h; exact absurd h (by decide)
/-- flip: its answer -/
def fp_w (c l b s lt : Int32) (np : Nat) : Int32 := if bl_w c 2 = 0 then 0 else if bl_w l 18 = 0 then 0 else if bl_w b 64 = 0 then 0 else if 0 ≤ s then (if lt = 0 then (if fu_w np = 0 then 1 else 0) else 0) else 0
def gi_w (p v : Int32) : Int32 := if bl_w p 4 = 0 then 0 else if wb_w v = 0 then 0 else 1
def ou_w (p : Int32) (ss : Nat → Int32) : Int32 := if bl_w p 4 = 0 then -1 else ss p.toNatClampNeg
def co_w (w : Int32) (sz em lt sp : Int32) (np : Nat) (fd : Int32) (lm : Nat) : Int32 := if w = 0 then sz else if w = 1 then em else if w = 2 then lt else if w = 3 then sp else if w = 4 then nI np else if w = 5 then fd else if w = 6 then nI lm else -1
theorem bl_use {x e : Int32} {N : Nat} (he : e.toInt = N) (h : ¬ bl_w x e = 0) : vp_in x N := bl_vp e he (by rcases bl_01 x e with q | q; exact absurd q h; exact q)
