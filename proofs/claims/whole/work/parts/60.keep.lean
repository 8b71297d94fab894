/-! ===== keep and back ===== -/
def RIm (i : Nat) (kp : Int32) (isKept : A32) (dg : Int32) (bc : Int32) (cl : A32) (fr : A32) (to : A32) (lo : A32) (hi : A32) (sc : Int32) (ms : A32) (od : A32) (yg : A32) (kc : Int32) (yr : A32) (wt : A64) (books told sheets marsh oldest youngest knowns known digs : A32) (weight : A64) : Prop := kp = isKept i ∧ (kp = 0 ∨ kp = 1) ∧ (kp = 1 → RFd (1 + i) dg bc cl fr to lo hi sc ms od yg kc yr wt books told sheets marsh oldest youngest knowns known digs weight)
theorem RIm.move {i : Nat} {kp : Int32} {isKept isKept' : A32} {dg : Int32} {bc : Int32} {cl : A32} {fr : A32} {to : A32} {lo : A32} {hi : A32} {sc : Int32} {ms : A32} {od : A32} {yg : A32} {kc : Int32} {yr : A32} {wt : A64} {books told sheets marsh oldest youngest knowns known digs : A32} {weight : A64} {books' told' sheets' marsh' oldest' youngest' knowns' known' digs' : A32} {weight' : A64} (h : RIm i kp isKept dg bc cl fr to lo hi sc ms od yg kc yr wt books told sheets marsh oldest youngest knowns known digs weight) (hk : isKept' i = isKept i) (hs : SlotEq (1 + i) (1 + i) books told sheets marsh oldest youngest knowns known digs weight books' told' sheets' marsh' oldest' youngest' knowns' known' digs' weight') : RIm i kp isKept' dg bc cl fr to lo hi sc ms od yg kc yr wt books' told' sheets' marsh' oldest' youngest' knowns' known' digs' weight' := ⟨h.1.trans hk.symm, h.2.1, fun q => (h.2.2 q).move hs⟩
theorem op_keep {k0 k1 : Int32} {isKept : A32} {f_dg : Int32} {f_bc : Int32} {f_cl : A32} {f_fr : A32} {f_to : A32} {f_lo : A32} {f_hi : A32} {f_sc : Int32} {f_ms : A32} {f_od : A32} {f_yg : A32} {f_kc : Int32} {f_yr : A32} {f_wt : A64} {i0_dg : Int32} {i0_bc : Int32} {i0_cl : A32} {i0_fr : A32} {i0_to : A32} {i0_lo : A32} {i0_hi : A32} {i0_sc : Int32} {i0_ms : A32} {i0_od : A32} {i0_yg : A32} {i0_kc : Int32} {i0_yr : A32} {i0_wt : A64} {i1_dg : Int32} {i1_bc : Int32} {i1_cl : A32} {i1_fr : A32} {i1_to : A32} {i1_lo : A32} {i1_hi : A32} {i1_sc : Int32} {i1_ms : A32} {i1_od : A32} {i1_yg : A32} {i1_kc : Int32} {i1_yr : A32} {i1_wt : A64} {books told sheets marsh oldest youngest knowns known digs : A32} {weight : A64} (hF : RFd 0 f_dg f_bc f_cl f_fr f_to f_lo f_hi f_sc f_ms f_od f_yg f_kc f_yr f_wt books told sheets marsh oldest youngest knowns known digs weight) (h0 : RIm 0 k0 isKept i0_dg i0_bc i0_cl i0_fr i0_to i0_lo i0_hi i0_sc i0_ms i0_od i0_yg i0_kc i0_yr i0_wt books told sheets marsh oldest youngest knowns known digs weight) (h1 : RIm 1 k1 isKept i1_dg i1_bc i1_cl i1_fr i1_to i1_lo i1_hi i1_sc i1_ms i1_od i1_yg i1_kc i1_yr i1_wt books told sheets marsh oldest youngest knowns known digs weight) (x1 : Int32) : ∃ r ka kb isKept' a_dg a_bc a_cl a_fr a_to a_lo a_hi a_sc a_ms a_od a_yg a_kc a_yr a_wt b_dg b_bc b_cl b_fr b_to b_lo b_hi b_sc b_ms b_od b_yg b_kc b_yr b_wt books' told' sheets' marsh' oldest' youngest' knowns' known' digs' weight', f_X11_keep x1 i0_dg k0 f_dg i0_bc f_bc i0_sc f_sc i0_kc f_kc f_wt i0_wt f_cl i0_cl f_fr i0_fr f_to i0_to f_lo i0_lo f_hi i0_hi f_ms i0_ms f_od i0_od f_yg i0_yg f_yr i0_yr i1_dg k1 i1_bc i1_sc i1_kc i1_wt i1_cl i1_fr i1_to i1_lo i1_hi i1_ms i1_od i1_yg i1_yr = some (r, a_dg, ka, a_bc, a_sc, a_kc, a_wt, a_cl, a_fr, a_to, a_lo, a_hi, a_ms, a_od, a_yg, a_yr, b_dg, kb, b_bc, b_sc, b_kc, b_wt, b_cl, b_fr, b_to, b_lo, b_hi, b_ms, b_od, b_yg, b_yr) ∧ f_X12_keep x1 books sheets knowns digs told marsh oldest youngest known weight isKept = some (r, books', sheets', knowns', digs', told', marsh', oldest', youngest', known', weight', isKept') ∧ RFd 0 f_dg f_bc f_cl f_fr f_to f_lo f_hi f_sc f_ms f_od f_yg f_kc f_yr f_wt books' told' sheets' marsh' oldest' youngest' knowns' known' digs' weight' ∧ RIm 0 ka isKept' a_dg a_bc a_cl a_fr a_to a_lo a_hi a_sc a_ms a_od a_yg a_kc a_yr a_wt books' told' sheets' marsh' oldest' youngest' knowns' known' digs' weight' ∧ RIm 1 kb isKept' b_dg b_bc b_cl b_fr b_to b_lo b_hi b_sc b_ms b_od b_yg b_kc b_yr b_wt books' told' sheets' marsh' oldest' youngest' knowns' known' digs' weight' := by
  unfold f_X11_keep f_X12_keep
  simp only [isImage_eq, in_eq, pcl_some, pbr_bI]
  by_cases c : 0 ≤ x1 ∧ x1 ≤ 1
  case neg =>
    rw [pbr_neg c, pbr_neg c]
    exact ⟨_, _, _, _, _, _, _, _, _, _, _, _, _, _, _, _, _, _, _, _, _, _, _, _, _, _, _, _, _, _, _, _, _, _, _, _, _, _, _, _, _, _, rfl, rfl, hF, h0, h1⟩
  rw [pbr_pos c, pbr_pos c]
  obtain ⟨i, -, hi, rfl⟩ := of_span (a := 0) (b := 1) (by omega) (by omega) c.1 c.2
  have e1 : (1 : Int32) + nI i = nI (1 + i) := nI_add 1 i
  obtain ⟨books', told', sheets', marsh', oldest', youngest', knowns', known', digs', weight', q1, q2, q3, q4⟩ := copy_slots (a := 0) (b := 1 + i) (by omega) (by omega) (by omega) books told sheets marsh oldest youngest knowns known digs weight
  rw [e1, show f_X12_copy 0 (nI (1 + i)) books sheets knowns digs told marsh oldest youngest known weight = _ from q1, pcl_some]
  dsimp only
  rw [pgd_pos (pin_nI (by omega) (by omega)), plt_eq, nI_cl (by omega), cl_0, show vp_nar .boolean 1 = (1 : Int32) by decide]
  have hF' := hF.move (q3 0 (by omega) (by omega))
  have hI := hF.move q2
  have es : sheets' 0 = f_sc := by
    obtain ⟨-, ⟨p, -, p2, p3, -⟩, -⟩ := hF'
    rw [p2, p3]
  rcases (show i = 0 ∨ i = 1 by omega) with rfl | rfl
  · rw [pbr_pos (show nI 0 = 0 from rfl)]
    obtain ⟨n_dg, n_bc, n_cl, n_fr, n_to, n_lo, n_hi, n_sc, n_ms, n_od, n_yg, n_kc, n_yr, n_wt, m1, m2⟩ := become_eq (dg := f_dg) (bc := f_bc) (cl := f_cl) (fr := f_fr) (to := f_to) (lo := f_lo) (hi := f_hi) (sc := f_sc) (ms := f_ms) (od := f_od) (yg := f_yg) (kc := f_kc) (yr := f_yr) (wt := f_wt) (dg' := i0_dg) (bc' := i0_bc) (cl' := i0_cl) (fr' := i0_fr) (to' := i0_to) (lo' := i0_lo) (hi' := i0_hi) (sc' := i0_sc) (ms' := i0_ms) (od' := i0_od) (yg' := i0_yg) (kc' := i0_kc) (yr' := i0_yr) (wt' := i0_wt)
    have hN := hI.cls m2
    rw [m1, pcl_some]
    dsimp only
    rw [pbr_pos (show nI 0 = 0 from rfl)]
    exact ⟨_, _, _, _, _, _, _, _, _, _, _, _, _, _, _, _, _, _, _, _, _, _, _, _, _, _, _, _, _, _, _, _, _, _, _, _, _, _, _, _, _, _, rfl, by rw [es], hF', ⟨(upd_s _ _ _).symm, Or.inr rfl, fun _ => hN⟩, h1.move (upd_n (by omega)) (q3 2 (by omega) (by omega))⟩
  · rw [pbr_neg (show ¬ nI 1 = 0 by decide), pbr_pos (show nI 1 = 1 from rfl)]
    obtain ⟨n_dg, n_bc, n_cl, n_fr, n_to, n_lo, n_hi, n_sc, n_ms, n_od, n_yg, n_kc, n_yr, n_wt, m1, m2⟩ := become_eq (dg := f_dg) (bc := f_bc) (cl := f_cl) (fr := f_fr) (to := f_to) (lo := f_lo) (hi := f_hi) (sc := f_sc) (ms := f_ms) (od := f_od) (yg := f_yg) (kc := f_kc) (yr := f_yr) (wt := f_wt) (dg' := i1_dg) (bc' := i1_bc) (cl' := i1_cl) (fr' := i1_fr) (to' := i1_to) (lo' := i1_lo) (hi' := i1_hi) (sc' := i1_sc) (ms' := i1_ms) (od' := i1_od) (yg' := i1_yg) (kc' := i1_kc) (yr' := i1_yr) (wt' := i1_wt)
    have hN := hI.cls m2
    rw [m1, pcl_some]
    dsimp only
    rw [pbr_neg (show ¬ nI 1 = 0 by decide), pbr_pos (show nI 1 = 1 from rfl)]
    exact ⟨_, _, _, _, _, _, _, _, _, _, _, _, _, _, _, _, _, _, _, _, _, _, _, _, _, _, _, _, _, _, _, _, _, _, _, _, _, _, _, _, _, _, rfl, by rw [es], hF', h0.move (upd_n (by omega)) (q3 1 (by omega) (by omega)), ⟨(upd_s _ _ _).symm, Or.inr rfl, fun _ => hN⟩⟩
theorem op_back {k0 k1 : Int32} {isKept : A32} {f_dg : Int32} {f_bc : Int32} {f_cl : A32} {f_fr : A32} {f_to : A32} {f_lo : A32} {f_hi : A32} {f_sc : Int32} {f_ms : A32} {f_od : A32} {f_yg : A32} {f_kc : Int32} {f_yr : A32} {f_wt : A64} {i0_dg : Int32} {i0_bc : Int32} {i0_cl : A32} {i0_fr : A32} {i0_to : A32} {i0_lo : A32} {i0_hi : A32} {i0_sc : Int32} {i0_ms : A32} {i0_od : A32} {i0_yg : A32} {i0_kc : Int32} {i0_yr : A32} {i0_wt : A64} {i1_dg : Int32} {i1_bc : Int32} {i1_cl : A32} {i1_fr : A32} {i1_to : A32} {i1_lo : A32} {i1_hi : A32} {i1_sc : Int32} {i1_ms : A32} {i1_od : A32} {i1_yg : A32} {i1_kc : Int32} {i1_yr : A32} {i1_wt : A64} {books told sheets marsh oldest youngest knowns known digs : A32} {weight : A64} (hF : RFd 0 f_dg f_bc f_cl f_fr f_to f_lo f_hi f_sc f_ms f_od f_yg f_kc f_yr f_wt books told sheets marsh oldest youngest knowns known digs weight) (h0 : RIm 0 k0 isKept i0_dg i0_bc i0_cl i0_fr i0_to i0_lo i0_hi i0_sc i0_ms i0_od i0_yg i0_kc i0_yr i0_wt books told sheets marsh oldest youngest knowns known digs weight) (h1 : RIm 1 k1 isKept i1_dg i1_bc i1_cl i1_fr i1_to i1_lo i1_hi i1_sc i1_ms i1_od i1_yg i1_kc i1_yr i1_wt books told sheets marsh oldest youngest knowns known digs weight) (x1 : Int32) : ∃ r a_dg a_bc a_cl a_fr a_to a_lo a_hi a_sc a_ms a_od a_yg a_kc a_yr a_wt books' told' sheets' marsh' oldest' youngest' knowns' known' digs' weight', f_X11_back x1 i0_dg k0 f_dg f_bc i0_bc f_sc i0_sc f_kc i0_kc i0_wt f_wt i0_cl f_cl i0_fr f_fr i0_to f_to i0_lo f_lo i0_hi f_hi i0_ms f_ms i0_od f_od i0_yg f_yg i0_yr f_yr i1_dg k1 i1_bc i1_sc i1_kc i1_wt i1_cl i1_fr i1_to i1_lo i1_hi i1_ms i1_od i1_yg i1_yr = some (r, a_dg, a_bc, a_sc, a_kc, a_wt, a_cl, a_fr, a_to, a_lo, a_hi, a_ms, a_od, a_yg, a_yr) ∧ f_X12_back x1 isKept books sheets knowns digs told marsh oldest youngest known weight = some (r, books', sheets', knowns', digs', told', marsh', oldest', youngest', known', weight') ∧ RFd 0 a_dg a_bc a_cl a_fr a_to a_lo a_hi a_sc a_ms a_od a_yg a_kc a_yr a_wt books' told' sheets' marsh' oldest' youngest' knowns' known' digs' weight' ∧ RIm 0 k0 isKept i0_dg i0_bc i0_cl i0_fr i0_to i0_lo i0_hi i0_sc i0_ms i0_od i0_yg i0_kc i0_yr i0_wt books' told' sheets' marsh' oldest' youngest' knowns' known' digs' weight' ∧ RIm 1 k1 isKept i1_dg i1_bc i1_cl i1_fr i1_to i1_lo i1_hi i1_sc i1_ms i1_od i1_yg i1_kc i1_yr i1_wt books' told' sheets' marsh' oldest' youngest' knowns' known' digs' weight' := by
  unfold f_X11_back f_X12_back
  simp only [isImage_eq, in_eq, pcl_some, pbr_bI]
  by_cases c : 0 ≤ x1 ∧ x1 ≤ 1
  case neg =>
    rw [pbr_neg c, pbr_neg c]
    exact ⟨_, _, _, _, _, _, _, _, _, _, _, _, _, _, _, _, _, _, _, _, _, _, _, _, _, rfl, rfl, hF, h0, h1⟩
  rw [pbr_pos c, pbr_pos c]
  obtain ⟨i, -, hi, rfl⟩ := of_span (a := 0) (b := 1) (by omega) (by omega) c.1 c.2
  have e1 : (1 : Int32) + nI i = nI (1 + i) := nI_add 1 i
  obtain ⟨books', told', sheets', marsh', oldest', youngest', knowns', known', digs', weight', q1, q2, q3, q4⟩ := copy_slots (a := 1 + i) (b := 0) (by omega) (by omega) (by omega) books told sheets marsh oldest youngest knowns known digs weight
  have n10 : ¬ (1 : Int32) = 0 := by decide
  rw [pgd_pos (pin_nI (by omega) (by omega)), nI_cl (by omega), cl_0, e1]
  rcases (show i = 0 ∨ i = 1 by omega) with rfl | rfl
  · rw [pbr_pos (show nI 0 = 0 from rfl)]
    have hk := h0.1
    rcases h0.2.1 with z | z
    · rw [pbr_pos z, pbr_pos (hk ▸ z)]
      exact ⟨_, _, _, _, _, _, _, _, _, _, _, _, _, _, _, _, _, _, _, _, _, _, _, _, _, rfl, rfl, hF, h0, h1⟩
    · have hI := (h0.2.2 z).move q2
      obtain ⟨n_dg, n_bc, n_cl, n_fr, n_to, n_lo, n_hi, n_sc, n_ms, n_od, n_yg, n_kc, n_yr, n_wt, m1, m2⟩ := become_eq (dg := i0_dg) (bc := i0_bc) (cl := i0_cl) (fr := i0_fr) (to := i0_to) (lo := i0_lo) (hi := i0_hi) (sc := i0_sc) (ms := i0_ms) (od := i0_od) (yg := i0_yg) (kc := i0_kc) (yr := i0_yr) (wt := i0_wt) (dg' := f_dg) (bc' := f_bc) (cl' := f_cl) (fr' := f_fr) (to' := f_to) (lo' := f_lo) (hi' := f_hi) (sc' := f_sc) (ms' := f_ms) (od' := f_od) (yg' := f_yg) (kc' := f_kc) (yr' := f_yr) (wt' := f_wt)
      have hN := hI.cls m2
      have es : sheets' 0 = n_sc := by
        obtain ⟨-, ⟨p, -, p2, p3, -⟩, -⟩ := hN
        rw [p2, p3]
      rw [pbr_neg (fun q => n10 (z.symm.trans q)), pbr_neg (fun q => n10 (z.symm.trans (hk.trans q)))]
      rw [pbr_pos (show nI 0 = 0 from rfl)]
      rw [m1, pcl_some, show (0 : Int32) = nI 0 from rfl, q1, pcl_some]
      dsimp only
      exact ⟨_, _, _, _, _, _, _, _, _, _, _, _, _, _, _, _, _, _, _, _, _, _, _, _, _, rfl, by rw [es], hN, h0.move rfl (q3 1 (by omega) (by omega)), h1.move rfl (q3 2 (by omega) (by omega))⟩
  · rw [pbr_neg (show ¬ nI 1 = 0 by decide), pbr_pos (show nI 1 = 1 from rfl)]
    have hk := h1.1
    rcases h1.2.1 with z | z
    · rw [pbr_pos z, pbr_pos (hk ▸ z)]
      exact ⟨_, _, _, _, _, _, _, _, _, _, _, _, _, _, _, _, _, _, _, _, _, _, _, _, _, rfl, rfl, hF, h0, h1⟩
    · have hI := (h1.2.2 z).move q2
      obtain ⟨n_dg, n_bc, n_cl, n_fr, n_to, n_lo, n_hi, n_sc, n_ms, n_od, n_yg, n_kc, n_yr, n_wt, m1, m2⟩ := become_eq (dg := i1_dg) (bc := i1_bc) (cl := i1_cl) (fr := i1_fr) (to := i1_to) (lo := i1_lo) (hi := i1_hi) (sc := i1_sc) (ms := i1_ms) (od := i1_od) (yg := i1_yg) (kc := i1_kc) (yr := i1_yr) (wt := i1_wt) (dg' := f_dg) (bc' := f_bc) (cl' := f_cl) (fr' := f_fr) (to' := f_to) (lo' := f_lo) (hi' := f_hi) (sc' := f_sc) (ms' := f_ms) (od' := f_od) (yg' := f_yg) (kc' := f_kc) (yr' := f_yr) (wt' := f_wt)
      have hN := hI.cls m2
      have es : sheets' 0 = n_sc := by
        obtain ⟨-, ⟨p, -, p2, p3, -⟩, -⟩ := hN
        rw [p2, p3]
      rw [pbr_neg (fun q => n10 (z.symm.trans q)), pbr_neg (fun q => n10 (z.symm.trans (hk.trans q)))]
      rw [pbr_neg (show ¬ nI 1 = 0 by decide), pbr_pos (show nI 1 = 1 from rfl)]
      rw [m1, pcl_some, show (0 : Int32) = nI 0 from rfl, q1, pcl_some]
      dsimp only
      exact ⟨_, _, _, _, _, _, _, _, _, _, _, _, _, _, _, _, _, _, _, _, _, _, _, _, _, rfl, by rw [es], hN, h0.move rfl (q3 1 (by omega) (by omega)), h1.move rfl (q3 2 (by omega) (by omega))⟩
