
set_option maxHeartbeats 4000000 in
set_option maxRecDepth 100000 in
theorem law_loop {p : Program} {l : Launch} {e : Env} {s : State} {m : MethodId} {below : List Frame} {meth : Method} {c : Code} {A : Nat → Prop} {b L : Nat} {xs : Nat → Int32} {dC : Nat → ClassId} {dI : Nat → Nat → Nat} {cI cL : ClassId} {x0 pg oa na a_cp a_rw a_po b_cp b_rw b_po pn ka kb kc kd gv sh y0 m_op m_nu m_gv m_sh m_he m_pu m_pc m_pl m_pb m_ps ot lm : Nat} (hfl : l.stackTraces = false) (hlm : lm ≤ 5000) (hF : fx_l p s m meth c A b L xs dC dI cI cL) : ∀ n : Nat, LG_w p l e s m below meth c A b dC dI cI cL x0 pg oa na a_cp a_rw a_po b_cp b_rw b_po pn ka kb kc kd gv sh y0 m_op m_nu m_gv m_sh m_he m_pu m_pc m_pl m_pb m_ps ot lm n := by
  have hF9 := hF
  obtain ⟨hx, hb, hml, hown, htb, hr, hlocks, hK, hZ, hM, hN, hX, hbl, hA, hAf, hL⟩ := hF
  have hbA : ¬ A b := fun h => absurd (hAf b h) (Nat.not_le.mpr hbl)
  intro n
  induction n with
  | zero =>
    intro j k bg lt em sp fd ops nums sz a_rr a_qq a_pl b_rr b_qq b_pl fc fl fb fs np gg ss oo th qa qb pv ev H locs ls hj hk hz hs hok hnp hpl hpc hlt hq hP hD hS hl
    refine lv_iload hx hb d_Law_law_33 (lv_at hl 4 rfl) ?_
    refine lv_aload_n hx hb d_Law_law_35 rfl (lv_at hl 0 rfl) ?_
    refine va_slen hx hb hX hbl hbA hS d_Law_law_36 ?_
    refine lv_iconst (v := 5) hx hb d_Law_law_37 (by decide) ?_
    refine lv_isub hx hb d_Law_law_38 ?_
    refine lv_icmp_gt (tgt := 394) hx hb d_Law_law_39 (by decide) (fun c_1 => ?_) (fun c_1 => ?_)
    · skip
      refine lv_iconst (v := 1) hx hb d_Law_law_394 (by decide) ?_
      refine va_forget (fun q hq9 => hAf _ (hS.2.2 q hq9)) ?_
      refine W.widen (k := 1056) (n := 8796) (by omega) (by omega) ?_
      exact lw_ret hx hb hr hlocks d_Law_law_395
    · exact absurd (lp_z (by omega) hL (by omega)) c_1
  | succ n ih =>
    intro j k bg lt em sp fd ops nums sz a_rr a_qq a_pl b_rr b_qq b_pl fc fl fb fs np gg ss oo th qa qb pv ev H locs ls hj hk hz hs hok hnp hpl hpc hlt hq hP hD hS hl
    refine lv_iload hx hb d_Law_law_33 (lv_at hl 4 rfl) ?_
    refine lv_aload_n hx hb d_Law_law_35 rfl (lv_at hl 0 rfl) ?_
    refine va_slen hx hb hX hbl hbA hS d_Law_law_36 ?_
    refine lv_iconst (v := 5) hx hb d_Law_law_37 (by decide) ?_
    refine lv_isub hx hb d_Law_law_38 ?_
    refine lv_icmp_gt (tgt := 394) hx hb d_Law_law_39 (by decide) (fun c_1 => ?_) (fun c_1 => ?_)
    · have c_1 : ((nI L) - 5) < (nI k) := c_1
      refine lv_iconst (v := 1) hx hb d_Law_law_394 (by decide) ?_
      refine va_forget (fun q hq9 => hAf _ (hS.2.2 q hq9)) ?_
      refine W.widen (k := 1056) (n := 8796) (by omega) (by omega) ?_
      exact lw_ret hx hb hr hlocks d_Law_law_395
    · have c_1 : ¬ ((nI L) - 5) < (nI k) := c_1
      have hk5 : k + 5 ≤ L := lp_k c_1 hL (by omega)
      refine lv_aload_n hx hb d_Law_law_42 rfl (lv_at hl 0 rfl) ?_
      refine lv_iload hx hb d_Law_law_43 (lv_at hl 4 rfl) ?_
      refine sl_d (k := k) hx hb hX hbl hbA hS (by omega) hL d_Law_law_45 ?_
      refine lv_bipush (v := 7) hx hb d_Law_law_46 (by decide) ?_
      refine lv_iand hx hb d_Law_law_48 ?_
      by_cases c_2 : ((xs k) &&& 7) = 0
      · refine lv_tableIn (tgt := 92) hx hb d_Law_law_49 (by rw [c_2]; decide) (by rw [c_2]; decide) (by rw [c_2]; rfl) (by decide) ?_
        exact lk_0 hfl hlm hF9 ih j k bg lt em sp fd ops nums sz a_rr a_qq a_pl b_rr b_qq b_pl fc fl fb fs np gg ss oo th qa qb pv ev H locs ls (by omega) hk hk5 hz hs hok hnp hpl hpc hlt hq hP hD hS hl
      by_cases c_3 : ((xs k) &&& 7) = 1
      · refine lv_tableIn (tgt := 160) hx hb d_Law_law_49 (by rw [c_3]; decide) (by rw [c_3]; decide) (by rw [c_3]; rfl) (by decide) ?_
        exact lk_1 hfl hlm hF9 ih j k bg lt em sp fd ops nums sz a_rr a_qq a_pl b_rr b_qq b_pl fc fl fb fs np gg ss oo th qa qb pv ev H locs ls (by omega) hk hk5 hz hs hok hnp hpl hpc hlt hq hP hD hS hl
      by_cases c_4 : ((xs k) &&& 7) = 2
      · refine lv_tableIn (tgt := 197) hx hb d_Law_law_49 (by rw [c_4]; decide) (by rw [c_4]; decide) (by rw [c_4]; rfl) (by decide) ?_
        exact lk_2 hfl hlm hF9 ih j k bg lt em sp fd ops nums sz a_rr a_qq a_pl b_rr b_qq b_pl fc fl fb fs np gg ss oo th qa qb pv ev H locs ls (by omega) hk hk5 hz hs hok hnp hpl hpc hlt hq hP hD hS hl
      by_cases c_5 : ((xs k) &&& 7) = 3
      · refine lv_tableIn (tgt := 210) hx hb d_Law_law_49 (by rw [c_5]; decide) (by rw [c_5]; decide) (by rw [c_5]; rfl) (by decide) ?_
        exact lk_3 hfl hlm hF9 ih j k bg lt em sp fd ops nums sz a_rr a_qq a_pl b_rr b_qq b_pl fc fl fb fs np gg ss oo th qa qb pv ev H locs ls (by omega) hk hk5 hz hs hok hnp hpl hpc hlt hq hP hD hS hl
      by_cases c_6 : ((xs k) &&& 7) = 4
      · refine lv_tableIn (tgt := 271) hx hb d_Law_law_49 (by rw [c_6]; decide) (by rw [c_6]; decide) (by rw [c_6]; rfl) (by decide) ?_
        exact lk_4 hfl hlm hF9 ih j k bg lt em sp fd ops nums sz a_rr a_qq a_pl b_rr b_qq b_pl fc fl fb fs np gg ss oo th qa qb pv ev H locs ls (by omega) hk hk5 hz hs hok hnp hpl hpc hlt hq hP hD hS hl
      by_cases c_7 : ((xs k) &&& 7) = 5
      · refine lv_tableIn (tgt := 296) hx hb d_Law_law_49 (by rw [c_7]; decide) (by rw [c_7]; decide) (by rw [c_7]; rfl) (by decide) ?_
        exact lk_5 hfl hlm hF9 ih j k bg lt em sp fd ops nums sz a_rr a_qq a_pl b_rr b_qq b_pl fc fl fb fs np gg ss oo th qa qb pv ev H locs ls (by omega) hk hk5 hz hs hok hnp hpl hpc hlt hq hP hD hS hl
      by_cases c_8 : ((xs k) &&& 7) = 6
      · refine lv_tableIn (tgt := 363) hx hb d_Law_law_49 (by rw [c_8]; decide) (by rw [c_8]; decide) (by rw [c_8]; rfl) (by decide) ?_
        exact lk_6 hfl hlm hF9 ih j k bg lt em sp fd ops nums sz a_rr a_qq a_pl b_rr b_qq b_pl fc fl fb fs np gg ss oo th qa qb pv ev H locs ls (by omega) hk hk5 hz hs hok hnp hpl hpc hlt hq hP hD hS hl
      refine lv_tableE (tgt := 388) hx hb d_Law_law_49 (by decide) (fun j hj he => by have q_0 := lv_neT c_2 (a := 0) (by decide); have q_1 := lv_neT c_3 (a := 1) (by decide); have q_2 := lv_neT c_4 (a := 2) (by decide); have q_3 := lv_neT c_5 (a := 3) (by decide); have q_4 := lv_neT c_6 (a := 4) (by decide); have q_5 := lv_neT c_7 (a := 5) (by decide); have q_6 := lv_neT c_8 (a := 6) (by decide); rcases (show j = 0 ∨ j = 1 ∨ j = 2 ∨ j = 3 ∨ j = 4 ∨ j = 5 ∨ j = 6 by omega) with rfl | rfl | rfl | rfl | rfl | rfl | rfl <;> first | rfl | (exfalso; omega)) ?_
      refine lv_iinc (v := nI (k + 5)) (lv' := [(4, .int (nI (k + 5))), (0, .ref b), (1, .ref x0), (2, .ref y0), (3, .ref ot)]) hx hb d_Law_law_388 hl (k := 4) rfl (nI_i5 k) (by decide) rfl (fun ls hl => ?_)
      refine lv_goto (tgt := 33) hx hb d_Law_law_391 (by decide) ?_
      refine W.widen (k := 29 + (j + 1)) (n := 586 + 6 * (j + 1)) (by omega) (by omega) ?_
      exact ih (j + 1) (k + 5) bg lt em sp fd ops nums sz a_rr a_qq a_pl b_rr b_qq b_pl fc fl fb fs np gg ss oo th qa qb pv ev H locs ls (by omega) (by omega) hz hs hok hnp hpl hpc hlt hq (hP.sub (ws' := [(x0, .inr (0, [.int (nI lm), .ref pg, .ref a_cp, .ref b_cp, .ref pn, .ref gv, .ref sh, .int bg, .int lt, .int em, .int sp, .int fd])), (pg, .inr (3, [.ref oa, .ref na, .int sz])), (oa, .inl (cI, 100, .inl ops)), (na, .inl (cI, 100, .inl nums)), (a_cp, .inr (1, [.long 1, .ref a_rw, .ref a_po, .int a_pl])), (a_rw, .inl (cL, 18, .inr (.inl a_rr))), (a_po, .inl (cL, 4, .inr (.inl a_qq))), (b_cp, .inr (1, [.long 58659, .ref b_rw, .ref b_po, .int b_pl])), (b_rw, .inl (cL, 18, .inr (.inl b_rr))), (b_po, .inl (cL, 4, .inr (.inl b_qq))), (pn, .inr (2, [.ref ka, .ref kb, .ref kc, .ref kd, .int (nI np)])), (ka, .inl (cI, 4, .inl fc)), (kb, .inl (cI, 4, .inl fl)), (kc, .inl (cI, 4, .inl fb)), (kd, .inl (cI, 4, .inl fs)), (gv, .inl (cI, 4, .inl gg)), (sh, .inl (cI, 4, .inl ss)), (y0, .inr (4, [.int th, .int (nI lm), .int sz, .int em, .int lt, .int sp, .int (nI np), .int fd, .int bg, .ref m_op, .ref m_nu, .ref m_gv, .ref m_sh, .ref m_he, .ref m_pu, .ref m_pc, .ref m_pl, .ref m_pb, .ref m_ps, .int pv, .int ev])), (m_op, .inl (cI, 100, .inl ops)), (m_nu, .inl (cI, 100, .inl nums)), (m_gv, .inl (cI, 4, .inl gg)), (m_sh, .inl (cI, 4, .inl ss)), (m_he, .inl (cL, 36, .inr (.inl (hh_w a_rr b_rr)))), (m_pu, .inl (cL, 8, .inr (.inl (pp_w qa qb)))), (m_pc, .inl (cI, 4, .inl fc)), (m_pl, .inl (cI, 4, .inl fl)), (m_pb, .inl (cI, 4, .inl fb)), (m_ps, .inl (cI, 4, .inl fs)), (ot, .inl (cL, 1, .inr (.inl oo)))]) [0, 1, 2, 3, 4, 5, 6, 7, 8, 9, 10, 11, 12, 13, 14, 15, 16, 17, 18, 19, 20, 21, 22, 23, 24, 25, 26, 27, 28] rfl) (hD.sub (ws' := [(x0, .inr (0, [.int (nI lm), .ref pg, .ref a_cp, .ref b_cp, .ref pn, .ref gv, .ref sh, .int bg, .int lt, .int em, .int sp, .int fd])), (pg, .inr (3, [.ref oa, .ref na, .int sz])), (oa, .inl (cI, 100, .inl ops)), (na, .inl (cI, 100, .inl nums)), (a_cp, .inr (1, [.long 1, .ref a_rw, .ref a_po, .int a_pl])), (a_rw, .inl (cL, 18, .inr (.inl a_rr))), (a_po, .inl (cL, 4, .inr (.inl a_qq))), (b_cp, .inr (1, [.long 58659, .ref b_rw, .ref b_po, .int b_pl])), (b_rw, .inl (cL, 18, .inr (.inl b_rr))), (b_po, .inl (cL, 4, .inr (.inl b_qq))), (pn, .inr (2, [.ref ka, .ref kb, .ref kc, .ref kd, .int (nI np)])), (ka, .inl (cI, 4, .inl fc)), (kb, .inl (cI, 4, .inl fl)), (kc, .inl (cI, 4, .inl fb)), (kd, .inl (cI, 4, .inl fs)), (gv, .inl (cI, 4, .inl gg)), (sh, .inl (cI, 4, .inl ss)), (y0, .inr (4, [.int th, .int (nI lm), .int sz, .int em, .int lt, .int sp, .int (nI np), .int fd, .int bg, .ref m_op, .ref m_nu, .ref m_gv, .ref m_sh, .ref m_he, .ref m_pu, .ref m_pc, .ref m_pl, .ref m_pb, .ref m_ps, .int pv, .int ev])), (m_op, .inl (cI, 100, .inl ops)), (m_nu, .inl (cI, 100, .inl nums)), (m_gv, .inl (cI, 4, .inl gg)), (m_sh, .inl (cI, 4, .inl ss)), (m_he, .inl (cL, 36, .inr (.inl (hh_w a_rr b_rr)))), (m_pu, .inl (cL, 8, .inr (.inl (pp_w qa qb)))), (m_pc, .inl (cI, 4, .inl fc)), (m_pl, .inl (cI, 4, .inl fl)), (m_pb, .inl (cI, 4, .inl fb)), (m_ps, .inl (cI, 4, .inl fs)), (ot, .inl (cL, 1, .inr (.inl oo)))]) [0, 1, 2, 3, 4, 5, 6, 7, 8, 9, 10, 11, 12, 13, 14, 15, 16, 17, 18, 19, 20, 21, 22, 23, 24, 25, 26, 27, 28] (by decide) rfl) hS (lv_sub hl [1, 2, 3, 4, 0] rfl)
