set_option maxHeartbeats 16000000 in
set_option maxRecDepth 100000 in
theorem zl_loop (p : Program) (l : Launch) (e : Env) (s : State) (m : MethodId) (below : List Frame) (meth : Method) (c : Code) (b L : Nat) (xs : Nat → Int32) (A : Nat → Prop) (dC : Nat → ClassId) (dI : Nat → Nat → Nat) (cB cI cJ cM : ClassId) (a0 tp pk wr fi ne fa oq rd fl ac ap ay fd bc bp by_ td li qlc qlp qls di qdc qdp qds cs qcc qcp qcs lp m0 bk pp pl tq rq cq sq x0 y0 x1 y1 x2 y2 le ln wy me pq ou : Nat) (a1 a3 b1 b3 pf : Nat → Int32) (hl9 : l.stackTraces = false) (C0 : zLC p l e s m below meth c b L xs A dC dI cB cI cJ cM a0 tp pk wr fi ne fa oq rd fl ac ap ay fd bc bp by_ td li qlc qlp qls di qdc qdp qds cs qcc qcp qcs lp m0 bk pp pl tq rq cq sq x0 y0 x1 y1 x2 y2 le ln wy me pq ou a1 a3 b1 b3 pf) : ∀ fuel, zLI p l e s m below meth c b L xs A dC dI cB cI cJ cM a0 tp pk wr fi ne fa oq rd fl ac ap ay fd bc bp by_ td li qlc qlp qls di qdc qdp qds cs qcc qcp qcs lp m0 bk pp pl tq rq cq sq x0 y0 x1 y1 x2 y2 le ln wy me pq ou a1 a3 b1 b3 pf fuel := by
  intro fuel
  induction fuel with
  | zero => unfold zLI; intros; omega
  | succ fuel ih =>
    have C1 := C0
    have ihq := ih
    unfold zLI at ih ⊢
    intro it tn rn rp sp f g gs g2 ph pg n0 w0 l1 l2 l3 d1 d2 d3 c1 c2 c3 lf ka0 ka1 ka2 ka3 ka4 ka5 ka6 ka7 ka8 ka9 of wv1 wv2 wv3 wv4 z2 z5 o4 o5 o6 r1 r2 r3 e1 e2 e3 e4 e5 e6 e7 d0 q2 q3 cd ht htn hrn hbf har hbg hfuel H locs hP hD hS ls hl
    obtain ⟨hx, hb, hr, hml, hown, hts, hX, hbl, hlocks, hK, hE, hA, hA2, hbA, hL, hn1, hn2, hfl, hfd, hpf⟩ := C0
    refine lv_iload hx hb dL_law_23 (lv_at hl 4 rfl) ?_
    refine lv_aload_n hx hb dL_law_25 rfl (lv_at hl 0 rfl) ?_
    refine va_slen hx hb hX hbl hbA hS dL_law_26 ?_
    refine W.eq (g2 := F0 m 27 ls [.int (nI L), .int (nI (6 * it))]) rfl ?_
    refine lv_bipush (v := 6) hx hb dL_law_27 (by decide) ?_
    refine lv_isub hx hb dL_law_29 ?_
    refine lv_icmp_gt (tgt := 647) hx hb dL_law_30 (by decide) (fun c30 => ?_) (fun c30 => ?_)
    · have hEnd := z_lhd1 hL c30 ht
      refine lv_iconst (v := 1) hx hb dL_law_647 (by decide) ?_
      refine va_forget (fun q hq => hA2 _ (hS.2.2 q hq)) ?_
      refine W.widen (k := 601024) (n := 7293034) (by omega) (by omega) ?_
      exact lw_ret hx hb hr hlocks dL_law_648
    · have h6 := z_lhd2 hL c30 ht
      refine lv_aload_n hx hb dL_law_33 rfl (lv_at hl 0 rfl) ?_
      refine lv_iload hx hb dL_law_34 (lv_at hl 4 rfl) ?_
      refine va_sld hx hb hX hbl hbA hS (vp_in_nI (n := 6 * it) (by omega) (by omega)) dL_law_36 ?_
      rw [nI_clamp (n := 6 * it) (by omega)]
      refine lv_bipush (v := 15) hx hb dL_law_37 (by decide) ?_
      refine lv_iand hx hb dL_law_39 ?_
      obtain ⟨kd, hkd⟩ : ∃ q, q = (xs (6 * it)).toBitVec.toNat % 2 ^ 4 := ⟨_, rfl⟩
      refine lv_topi (fun y_1 ey_1 => ?_)
      obtain rfl : y_1 = nI kd := ey_1.trans ((pk_and _ (m := 15) 4 (by decide)).trans (congrArg nI hkd.symm))
      have hk16 : kd < 16 := by rw [hkd]; exact Nat.mod_lt _ (by decide)
      rcases (show kd = 0 ∨ kd = 1 ∨ kd = 2 ∨ kd = 3 ∨ kd = 4 ∨ kd = 5 ∨ kd = 6 ∨ kd = 7 ∨ kd = 8 ∨ kd = 9 ∨ kd = 10 ∨ kd = 11 ∨ kd = 12 ∨ kd = 13 ∨ kd = 14 ∨ kd = 15 by omega) with cs40 | cs40 | cs40 | cs40 | cs40 | cs40 | cs40 | cs40 | cs40 | cs40 | cs40 | cs40 | cs40 | cs40 | cs40 | cs40
      · refine zz_tsw (tgt := 96) hx hb dL_law_40 (by rw [cs40]; decide +kernel) ?_
        exact zc_feed p l e s m below meth c b L xs A dC dI cB cI cJ cM a0 tp pk wr fi ne fa oq rd fl ac ap ay fd bc bp by_ td li qlc qlp qls di qdc qdp qds cs qcc qcp qcs lp m0 bk pp pl tq rq cq sq x0 y0 x1 y1 x2 y2 le ln wy me pq ou a1 a3 b1 b3 pf hl9 C1 fuel ihq it tn rn rp sp f g gs g2 ph pg n0 w0 l1 l2 l3 d1 d2 d3 c1 c2 c3 lf ka0 ka1 ka2 ka3 ka4 ka5 ka6 ka7 ka8 ka9 of wv1 wv2 wv3 wv4 z2 z5 o4 o5 o6 r1 r2 r3 e1 e2 e3 e4 e5 e6 e7 d0 q2 q3 cd ht htn hrn hbf har hbg hfuel h6 _ _ hP hD hS _ hl
      · refine zz_tsw (tgt := 200) hx hb dL_law_40 (by rw [cs40]; decide +kernel) ?_
        exact zc_end p l e s m below meth c b L xs A dC dI cB cI cJ cM a0 tp pk wr fi ne fa oq rd fl ac ap ay fd bc bp by_ td li qlc qlp qls di qdc qdp qds cs qcc qcp qcs lp m0 bk pp pl tq rq cq sq x0 y0 x1 y1 x2 y2 le ln wy me pq ou a1 a3 b1 b3 pf hl9 C1 fuel ihq it tn rn rp sp f g gs g2 ph pg n0 w0 l1 l2 l3 d1 d2 d3 c1 c2 c3 lf ka0 ka1 ka2 ka3 ka4 ka5 ka6 ka7 ka8 ka9 of wv1 wv2 wv3 wv4 z2 z5 o4 o5 o6 r1 r2 r3 e1 e2 e3 e4 e5 e6 e7 d0 q2 q3 cd ht htn hrn hbf har hbg hfuel h6 _ _ hP hD hS _ hl
      · refine zz_tsw (tgt := 256) hx hb dL_law_40 (by rw [cs40]; decide +kernel) ?_
        exact zc_fill p l e s m below meth c b L xs A dC dI cB cI cJ cM a0 tp pk wr fi ne fa oq rd fl ac ap ay fd bc bp by_ td li qlc qlp qls di qdc qdp qds cs qcc qcp qcs lp m0 bk pp pl tq rq cq sq x0 y0 x1 y1 x2 y2 le ln wy me pq ou a1 a3 b1 b3 pf hl9 C1 fuel ihq it tn rn rp sp f g gs g2 ph pg n0 w0 l1 l2 l3 d1 d2 d3 c1 c2 c3 lf ka0 ka1 ka2 ka3 ka4 ka5 ka6 ka7 ka8 ka9 of wv1 wv2 wv3 wv4 z2 z5 o4 o5 o6 r1 r2 r3 e1 e2 e3 e4 e5 e6 e7 d0 q2 q3 cd ht htn hrn hbf har hbg hfuel h6 _ _ hP hD hS _ hl
      · refine zz_tsw (tgt := 336) hx hb dL_law_40 (by rw [cs40]; decide +kernel) ?_
        exact zc_pack p l e s m below meth c b L xs A dC dI cB cI cJ cM a0 tp pk wr fi ne fa oq rd fl ac ap ay fd bc bp by_ td li qlc qlp qls di qdc qdp qds cs qcc qcp qcs lp m0 bk pp pl tq rq cq sq x0 y0 x1 y1 x2 y2 le ln wy me pq ou a1 a3 b1 b3 pf hl9 C1 fuel ihq it tn rn rp sp f g gs g2 ph pg n0 w0 l1 l2 l3 d1 d2 d3 c1 c2 c3 lf ka0 ka1 ka2 ka3 ka4 ka5 ka6 ka7 ka8 ka9 of wv1 wv2 wv3 wv4 z2 z5 o4 o5 o6 r1 r2 r3 e1 e2 e3 e4 e5 e6 e7 d0 q2 q3 cd ht htn hrn hbf har hbg hfuel h6 _ _ hP hD hS _ hl
      · refine zz_tsw (tgt := 349) hx hb dL_law_40 (by rw [cs40]; decide +kernel) ?_
        exact zc_open p l e s m below meth c b L xs A dC dI cB cI cJ cM a0 tp pk wr fi ne fa oq rd fl ac ap ay fd bc bp by_ td li qlc qlp qls di qdc qdp qds cs qcc qcp qcs lp m0 bk pp pl tq rq cq sq x0 y0 x1 y1 x2 y2 le ln wy me pq ou a1 a3 b1 b3 pf hl9 C1 fuel ihq it tn rn rp sp f g gs g2 ph pg n0 w0 l1 l2 l3 d1 d2 d3 c1 c2 c3 lf ka0 ka1 ka2 ka3 ka4 ka5 ka6 ka7 ka8 ka9 of wv1 wv2 wv3 wv4 z2 z5 o4 o5 o6 r1 r2 r3 e1 e2 e3 e4 e5 e6 e7 d0 q2 q3 cd ht htn hrn hbf har hbg hfuel h6 _ _ hP hD hS _ hl
      · refine zz_tsw (tgt := 405) hx hb dL_law_40 (by rw [cs40]; decide +kernel) ?_
        exact zc_back p l e s m below meth c b L xs A dC dI cB cI cJ cM a0 tp pk wr fi ne fa oq rd fl ac ap ay fd bc bp by_ td li qlc qlp qls di qdc qdp qds cs qcc qcp qcs lp m0 bk pp pl tq rq cq sq x0 y0 x1 y1 x2 y2 le ln wy me pq ou a1 a3 b1 b3 pf hl9 C1 fuel ihq it tn rn rp sp f g gs g2 ph pg n0 w0 l1 l2 l3 d1 d2 d3 c1 c2 c3 lf ka0 ka1 ka2 ka3 ka4 ka5 ka6 ka7 ka8 ka9 of wv1 wv2 wv3 wv4 z2 z5 o4 o5 o6 r1 r2 r3 e1 e2 e3 e4 e5 e6 e7 d0 q2 q3 cd ht htn hrn hbf har hbg hfuel h6 _ _ hP hD hS _ hl
      · refine zz_tsw (tgt := 449) hx hb dL_law_40 (by rw [cs40]; decide +kernel) ?_
        exact zc_patch p l e s m below meth c b L xs A dC dI cB cI cJ cM a0 tp pk wr fi ne fa oq rd fl ac ap ay fd bc bp by_ td li qlc qlp qls di qdc qdp qds cs qcc qcp qcs lp m0 bk pp pl tq rq cq sq x0 y0 x1 y1 x2 y2 le ln wy me pq ou a1 a3 b1 b3 pf hl9 C1 fuel ihq it tn rn rp sp f g gs g2 ph pg n0 w0 l1 l2 l3 d1 d2 d3 c1 c2 c3 lf ka0 ka1 ka2 ka3 ka4 ka5 ka6 ka7 ka8 ka9 of wv1 wv2 wv3 wv4 z2 z5 o4 o5 o6 r1 r2 r3 e1 e2 e3 e4 e5 e6 e7 d0 q2 q3 cd ht htn hrn hbf har hbg hfuel h6 _ _ hP hD hS _ hl
      · refine zz_tsw (tgt := 517) hx hb dL_law_40 (by rw [cs40]; decide +kernel) ?_
        exact zc_sum p l e s m below meth c b L xs A dC dI cB cI cJ cM a0 tp pk wr fi ne fa oq rd fl ac ap ay fd bc bp by_ td li qlc qlp qls di qdc qdp qds cs qcc qcp qcs lp m0 bk pp pl tq rq cq sq x0 y0 x1 y1 x2 y2 le ln wy me pq ou a1 a3 b1 b3 pf hl9 C1 fuel ihq it tn rn rp sp f g gs g2 ph pg n0 w0 l1 l2 l3 d1 d2 d3 c1 c2 c3 lf ka0 ka1 ka2 ka3 ka4 ka5 ka6 ka7 ka8 ka9 of wv1 wv2 wv3 wv4 z2 z5 o4 o5 o6 r1 r2 r3 e1 e2 e3 e4 e5 e6 e7 d0 q2 q3 cd ht htn hrn hbf har hbg hfuel h6 _ _ hP hD hS _ hl
      · refine zz_tsw (tgt := 530) hx hb dL_law_40 (by rw [cs40]; decide +kernel) ?_
        exact zc_word p l e s m below meth c b L xs A dC dI cB cI cJ cM a0 tp pk wr fi ne fa oq rd fl ac ap ay fd bc bp by_ td li qlc qlp qls di qdc qdp qds cs qcc qcp qcs lp m0 bk pp pl tq rq cq sq x0 y0 x1 y1 x2 y2 le ln wy me pq ou a1 a3 b1 b3 pf hl9 C1 fuel ihq it tn rn rp sp f g gs g2 ph pg n0 w0 l1 l2 l3 d1 d2 d3 c1 c2 c3 lf ka0 ka1 ka2 ka3 ka4 ka5 ka6 ka7 ka8 ka9 of wv1 wv2 wv3 wv4 z2 z5 o4 o5 o6 r1 r2 r3 e1 e2 e3 e4 e5 e6 e7 d0 q2 q3 cd ht htn hrn hbf har hbg hfuel h6 _ _ hP hD hS _ hl
      · refine zz_tsw (tgt := 585) hx hb dL_law_40 (by rw [cs40]; decide +kernel) ?_
        exact zc_count p l e s m below meth c b L xs A dC dI cB cI cJ cM a0 tp pk wr fi ne fa oq rd fl ac ap ay fd bc bp by_ td li qlc qlp qls di qdc qdp qds cs qcc qcp qcs lp m0 bk pp pl tq rq cq sq x0 y0 x1 y1 x2 y2 le ln wy me pq ou a1 a3 b1 b3 pf hl9 C1 fuel ihq it tn rn rp sp f g gs g2 ph pg n0 w0 l1 l2 l3 d1 d2 d3 c1 c2 c3 lf ka0 ka1 ka2 ka3 ka4 ka5 ka6 ka7 ka8 ka9 of wv1 wv2 wv3 wv4 z2 z5 o4 o5 o6 r1 r2 r3 e1 e2 e3 e4 e5 e6 e7 d0 q2 q3 cd ht htn hrn hbf har hbg hfuel h6 _ _ hP hD hS _ hl
      · refine zz_tsw (tgt := 641) hx hb dL_law_40 (by rw [cs40]; decide +kernel) ?_
        refine W.widen (k := 54 + (it + 1)) (n := 68341 + 6 * (it + 1)) (by omega) (by omega) ?_
        refine lv_iinc (v := nI (6 * it + 6)) (lv' := [(4, .int (nI (6 * it + 6))), (0, .ref b), (1, .ref a0), (2, .ref m0), (3, .ref ou)]) hx hb dL_law_641 hl (k := 4) rfl (show nI (6 * it) + Int32.ofInt 6 = _ from nI_add (6 * it) 6) (by decide) rfl (fun ls hl => ?_)
        refine lv_goto (tgt := 23) hx hb dL_law_644 (by decide) ?_
        exact ih (it + 1) tn rn rp sp f g gs g2 ph pg n0 w0 l1 l2 l3 d1 d2 d3 c1 c2 c3 lf ka0 ka1 ka2 ka3 ka4 ka5 ka6 ka7 ka8 ka9 of wv1 wv2 wv3 wv4 z2 z5 o4 o5 o6 r1 r2 r3 e1 e2 e3 e4 e5 e6 e7 d0 q2 q3 cd (by omega) (by omega) (by omega) (hbf) (har) (hbg) (by omega) _ _ hP hD hS _ (lv_sub hl [1, 2, 3, 4, 0] rfl)
      · refine zz_tsw (tgt := 641) hx hb dL_law_40 (by rw [cs40]; decide +kernel) ?_
        refine W.widen (k := 54 + (it + 1)) (n := 68341 + 6 * (it + 1)) (by omega) (by omega) ?_
        refine lv_iinc (v := nI (6 * it + 6)) (lv' := [(4, .int (nI (6 * it + 6))), (0, .ref b), (1, .ref a0), (2, .ref m0), (3, .ref ou)]) hx hb dL_law_641 hl (k := 4) rfl (show nI (6 * it) + Int32.ofInt 6 = _ from nI_add (6 * it) 6) (by decide) rfl (fun ls hl => ?_)
        refine lv_goto (tgt := 23) hx hb dL_law_644 (by decide) ?_
        exact ih (it + 1) tn rn rp sp f g gs g2 ph pg n0 w0 l1 l2 l3 d1 d2 d3 c1 c2 c3 lf ka0 ka1 ka2 ka3 ka4 ka5 ka6 ka7 ka8 ka9 of wv1 wv2 wv3 wv4 z2 z5 o4 o5 o6 r1 r2 r3 e1 e2 e3 e4 e5 e6 e7 d0 q2 q3 cd (by omega) (by omega) (by omega) (hbf) (har) (hbg) (by omega) _ _ hP hD hS _ (lv_sub hl [1, 2, 3, 4, 0] rfl)
      · refine zz_tsw (tgt := 641) hx hb dL_law_40 (by rw [cs40]; decide +kernel) ?_
        refine W.widen (k := 54 + (it + 1)) (n := 68341 + 6 * (it + 1)) (by omega) (by omega) ?_
        refine lv_iinc (v := nI (6 * it + 6)) (lv' := [(4, .int (nI (6 * it + 6))), (0, .ref b), (1, .ref a0), (2, .ref m0), (3, .ref ou)]) hx hb dL_law_641 hl (k := 4) rfl (show nI (6 * it) + Int32.ofInt 6 = _ from nI_add (6 * it) 6) (by decide) rfl (fun ls hl => ?_)
        refine lv_goto (tgt := 23) hx hb dL_law_644 (by decide) ?_
        exact ih (it + 1) tn rn rp sp f g gs g2 ph pg n0 w0 l1 l2 l3 d1 d2 d3 c1 c2 c3 lf ka0 ka1 ka2 ka3 ka4 ka5 ka6 ka7 ka8 ka9 of wv1 wv2 wv3 wv4 z2 z5 o4 o5 o6 r1 r2 r3 e1 e2 e3 e4 e5 e6 e7 d0 q2 q3 cd (by omega) (by omega) (by omega) (hbf) (har) (hbg) (by omega) _ _ hP hD hS _ (lv_sub hl [1, 2, 3, 4, 0] rfl)
      · refine zz_tsw (tgt := 641) hx hb dL_law_40 (by rw [cs40]; decide +kernel) ?_
        refine W.widen (k := 54 + (it + 1)) (n := 68341 + 6 * (it + 1)) (by omega) (by omega) ?_
        refine lv_iinc (v := nI (6 * it + 6)) (lv' := [(4, .int (nI (6 * it + 6))), (0, .ref b), (1, .ref a0), (2, .ref m0), (3, .ref ou)]) hx hb dL_law_641 hl (k := 4) rfl (show nI (6 * it) + Int32.ofInt 6 = _ from nI_add (6 * it) 6) (by decide) rfl (fun ls hl => ?_)
        refine lv_goto (tgt := 23) hx hb dL_law_644 (by decide) ?_
        exact ih (it + 1) tn rn rp sp f g gs g2 ph pg n0 w0 l1 l2 l3 d1 d2 d3 c1 c2 c3 lf ka0 ka1 ka2 ka3 ka4 ka5 ka6 ka7 ka8 ka9 of wv1 wv2 wv3 wv4 z2 z5 o4 o5 o6 r1 r2 r3 e1 e2 e3 e4 e5 e6 e7 d0 q2 q3 cd (by omega) (by omega) (by omega) (hbf) (har) (hbg) (by omega) _ _ hP hD hS _ (lv_sub hl [1, 2, 3, 4, 0] rfl)
      · refine zz_tsw (tgt := 641) hx hb dL_law_40 (by rw [cs40]; decide +kernel) ?_
        refine W.widen (k := 54 + (it + 1)) (n := 68341 + 6 * (it + 1)) (by omega) (by omega) ?_
        refine lv_iinc (v := nI (6 * it + 6)) (lv' := [(4, .int (nI (6 * it + 6))), (0, .ref b), (1, .ref a0), (2, .ref m0), (3, .ref ou)]) hx hb dL_law_641 hl (k := 4) rfl (show nI (6 * it) + Int32.ofInt 6 = _ from nI_add (6 * it) 6) (by decide) rfl (fun ls hl => ?_)
        refine lv_goto (tgt := 23) hx hb dL_law_644 (by decide) ?_
        exact ih (it + 1) tn rn rp sp f g gs g2 ph pg n0 w0 l1 l2 l3 d1 d2 d3 c1 c2 c3 lf ka0 ka1 ka2 ka3 ka4 ka5 ka6 ka7 ka8 ka9 of wv1 wv2 wv3 wv4 z2 z5 o4 o5 o6 r1 r2 r3 e1 e2 e3 e4 e5 e6 e7 d0 q2 q3 cd (by omega) (by omega) (by omega) (hbf) (har) (hbg) (by omega) _ _ hP hD hS _ (lv_sub hl [1, 2, 3, 4, 0] rfl)
      · refine zz_tsw (tgt := 641) hx hb dL_law_40 (by rw [cs40]; decide +kernel) ?_
        refine W.widen (k := 54 + (it + 1)) (n := 68341 + 6 * (it + 1)) (by omega) (by omega) ?_
        refine lv_iinc (v := nI (6 * it + 6)) (lv' := [(4, .int (nI (6 * it + 6))), (0, .ref b), (1, .ref a0), (2, .ref m0), (3, .ref ou)]) hx hb dL_law_641 hl (k := 4) rfl (show nI (6 * it) + Int32.ofInt 6 = _ from nI_add (6 * it) 6) (by decide) rfl (fun ls hl => ?_)
        refine lv_goto (tgt := 23) hx hb dL_law_644 (by decide) ?_
        exact ih (it + 1) tn rn rp sp f g gs g2 ph pg n0 w0 l1 l2 l3 d1 d2 d3 c1 c2 c3 lf ka0 ka1 ka2 ka3 ka4 ka5 ka6 ka7 ka8 ka9 of wv1 wv2 wv3 wv4 z2 z5 o4 o5 o6 r1 r2 r3 e1 e2 e3 e4 e5 e6 e7 d0 q2 q3 cd (by omega) (by omega) (by omega) (hbf) (har) (hbg) (by omega) _ _ hP hD hS _ (lv_sub hl [1, 2, 3, 4, 0] rfl)
