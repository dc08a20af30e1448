/-! The law's loop. -/
set_option maxHeartbeats 8000000 in
set_option maxRecDepth 100000 in
theorem kl_loop {p : Program} {l : Launch} {e : Env} {s : State} {m : MethodId} {below : List Frame} {meth : Method} {c : Code} {b L : Nat} {xs : Nat → Int32} {dC : Nat → ClassId} {dI : Nat → Nat → Nat} {cI cL : ClassId} {s1 s2 s3 s4 : Nat} {oX oS oR oN o2 oF oT rv rs rp rt rl q1 q2 q3 rc oM rz r2 rb rq ro : Nat} (C0 : kl_C p l s m meth c b L xs dC dI cI cL s1 s2 s3 s4) : ∀ (f j : Nat), L < 6 * j + 6 + f → 6 * j ≤ L → kl_K p l e s m below meth c b dC dI cI cL oX oS oR oN o2 oF oT rv rs rp rt rl q1 q2 q3 rc oM rz r2 rb rq ro 23 (j) (j) := by
  intro f
  induction f with
  | zero =>
    intro j hf hj0
    obtain ⟨hls, ⟨hx, hb, hr, hml, hown, hts0, hX, hbl, hlocks, hgv⟩, hL, hK, hKL, hT⟩ := id C0
    intro kc n v sv fp ft fl z1 z2 z3 cd z zs pt th tp lf hg wd pm stt hh fo hI9 H locs hP hD hS ls hl
    have hb : c.code = cL_law := hb
    have hbA : ¬ (fun q => s.heap.size ≤ q) b := Nat.not_le.mpr hbl
    refine lv_iload hx hb dL_law_23 (lv_at hl 4 rfl) ?_
    refine lv_aload_n hx hb dL_law_25 rfl (lv_at hl 0 rfl) ?_
    refine va_slen hx hb hX hbl hbA hS dL_law_26 ?_
    refine lv_bipush (v := 6) hx hb dL_law_27 (by decide) ?_
    refine lv_isub hx hb dL_law_29 ?_
    refine lv_icmp_gt (tgt := 1568) hx hb dL_law_30 (by decide) (fun _ => ?_) (fun hc => absurd ((kl_len hL (i := 6 * j) (by omega)).mpr (by omega)) hc)
    refine lv_iconst (v := 1) hx hb dL_law_1568 (by decide) ?_
    refine va_forget (fun q hq => hS.2.2 q hq) ?_
    refine W.widen (k := 1050) (n := 14295) (by omega) (by omega) ?_
    refine W.base ?_
    exact lw_ret (Drawn.sameBut.refl s.drawn lw_cs) hx hb hr hlocks dL_law_1569
  | succ f ih =>
    intro j hf hj0
    obtain ⟨hls, ⟨hx, hb, hr, hml, hown, hts0, hX, hbl, hlocks, hgv⟩, hL, hK, hKL, hT⟩ := id C0
    intro kc n v sv fp ft fl z1 z2 z3 cd z zs pt th tp lf hg wd pm stt hh fo hI9 H locs hP hD hS ls hl
    have hb : c.code = cL_law := hb
    have hbA : ¬ (fun q => s.heap.size ≤ q) b := Nat.not_le.mpr hbl
    refine lv_iload hx hb dL_law_23 (lv_at hl 4 rfl) ?_
    refine lv_aload_n hx hb dL_law_25 rfl (lv_at hl 0 rfl) ?_
    refine va_slen hx hb hX hbl hbA hS dL_law_26 ?_
    refine lv_bipush (v := 6) hx hb dL_law_27 (by decide) ?_
    refine lv_isub hx hb dL_law_29 ?_
    refine lv_icmp_gt (tgt := 1568) hx hb dL_law_30 (by decide) (fun _ => ?_) (fun hc => ?_)
    · refine lv_iconst (v := 1) hx hb dL_law_1568 (by decide) ?_
      refine va_forget (fun q hq => hS.2.2 q hq) ?_
      refine W.widen (k := 1050) (n := 14295) (by omega) (by omega) ?_
      refine W.base ?_
      exact lw_ret (Drawn.sameBut.refl s.drawn lw_cs) hx hb hr hlocks dL_law_1569
    · have hj : 6 * j + 6 ≤ L := Nat.le_of_not_lt fun q => hc ((kl_len hL (i := 6 * j) (by omega)).mpr (by omega))
      have KK : kl_K p l e s m below meth c b dC dI cI cL oX oS oR oN o2 oF oT rv rs rp rt rl q1 q2 q3 rc oM rz r2 rb rq ro 1562 (j) (j + 1) := by
        intro kc n v sv fp ft fl z1 z2 z3 cd z zs pt th tp lf hg wd pm stt hh fo hI9 H locs hP hD hS ls hl
        refine lv_iinc (v := nI (6 * (j + 1))) (lv' := [(4, .int (nI (6 * (j + 1)))), (0, .ref b), (1, .ref oX), (2, .ref oM), (3, .ref ro)]) hx hb dL_law_1562 hl (k := 4) rfl (nI_add (6 * j) 6) (by decide) rfl (fun ls hl => ?_)
        refine lv_goto (tgt := 23) hx hb dL_law_1565 (by decide) ?_
        exact ih (j + 1) (by omega) (by omega) kc n v sv fp ft fl z1 z2 z3 cd z zs pt th tp lf hg wd pm stt hh fo hI9 _ _ hP hD hS ls (lv_sub hl [1, 2, 3, 4, 0] rfl)
      refine lv_aload_n hx hb dL_law_33 rfl (lv_at hl 0 rfl) ?_
      refine lv_iload hx hb dL_law_34 (lv_at hl 4 rfl) ?_
      refine va_sld hx hb hX hbl hbA hS (vp_in_nI (show 6 * j < L from by omega) (by omega)) dL_law_36 ?_
      refine lv_bipush (v := 31) hx hb dL_law_37 (by decide) ?_
      refine lv_iand hx hb dL_law_39 ?_
      obtain ⟨t, ht, et⟩ := kl_and (xs (nI (6 * j)).toNatClampNeg)
      refine kq_top (z := nI t) et ?_
      rcases (show t = 0 ∨ t = 1 ∨ t = 2 ∨ t = 3 ∨ t = 4 ∨ t = 5 ∨ t = 6 ∨ t = 7 ∨ t = 8 ∨ t = 9 ∨ t = 10 ∨ t = 11 ∨ t = 12 ∨ t = 13 ∨ t = 14 ∨ t = 15 ∨ t = 16 ∨ t = 17 ∨ t = 18 ∨ t = 19 ∨ t = 20 ∨ t = 21 ∨ t = 22 ∨ t = 23 ∨ t = 24 ∨ t = 25 ∨ t = 26 ∨ t = 27 ∨ t = 28 ∨ t = 29 ∨ t = 30 ∨ t = 31 from by omega) with rfl | rfl | rfl | rfl | rfl | rfl | rfl | rfl | rfl | rfl | rfl | rfl | rfl | rfl | rfl | rfl | rfl | rfl | rfl | rfl | rfl | rfl | rfl | rfl | rfl | rfl | rfl | rfl | rfl | rfl | rfl | rfl
      · refine lv_tableIn (off := 112) (tgt := 152) hx hb dL_law_40 (by decide) (by decide) (by decide) (by decide) ?_
        exact kl_wire C0 j hj KK kc n v sv fp ft fl z1 z2 z3 cd z zs pt th tp lf hg wd pm stt hh fo hI9 _ _ hP hD hS ls hl
      · refine lv_tableIn (off := 204) (tgt := 244) hx hb dL_law_40 (by decide) (by decide) (by decide) (by decide) ?_
        exact kl_size C0 j hj KK kc n v sv fp ft fl z1 z2 z3 cd z zs pt th tp lf hg wd pm stt hh fo hI9 _ _ hP hD hS ls hl
      · refine lv_tableIn (off := 272) (tgt := 312) hx hb dL_law_40 (by decide) (by decide) (by decide) (by decide) ?_
        exact kl_turn C0 j hj KK kc n v sv fp ft fl z1 z2 z3 cd z zs pt th tp lf hg wd pm stt hh fo hI9 _ _ hP hD hS ls hl
      · refine lv_tableIn (off := 340) (tgt := 380) hx hb dL_law_40 (by decide) (by decide) (by decide) (by decide) ?_
        exact kl_clear C0 j hj KK kc n v sv fp ft fl z1 z2 z3 cd z zs pt th tp lf hg wd pm stt hh fo hI9 _ _ hP hD hS ls hl
      · refine lv_tableIn (off := 396) (tgt := 436) hx hb dL_law_40 (by decide) (by decide) (by decide) (by decide) ?_
        exact kl_ink C0 j hj KK kc n v sv fp ft fl z1 z2 z3 cd z zs pt th tp lf hg wd pm stt hh fo hI9 _ _ hP hD hS ls hl
      · refine lv_tableIn (off := 500) (tgt := 540) hx hb dL_law_40 (by decide) (by decide) (by decide) (by decide) ?_
        exact kl_figure C0 j hj KK kc n v sv fp ft fl z1 z2 z3 cd z zs pt th tp lf hg wd pm stt hh fo hI9 _ _ hP hD hS ls hl
      · refine lv_tableIn (off := 604) (tgt := 644) hx hb dL_law_40 (by decide) (by decide) (by decide) (by decide) ?_
        exact kl_drop C0 j hj KK kc n v sv fp ft fl z1 z2 z3 cd z zs pt th tp lf hg wd pm stt hh fo hI9 _ _ hP hD hS ls hl
      · refine lv_tableIn (off := 660) (tgt := 700) hx hb dL_law_40 (by decide) (by decide) (by decide) (by decide) ?_
        exact kl_set C0 j hj KK kc n v sv fp ft fl z1 z2 z3 cd z zs pt th tp lf hg wd pm stt hh fo hI9 _ _ hP hD hS ls hl
      · refine lv_tableIn (off := 728) (tgt := 768) hx hb dL_law_40 (by decide) (by decide) (by decide) (by decide) ?_
        exact kl_append C0 j hj KK kc n v sv fp ft fl z1 z2 z3 cd z zs pt th tp lf hg wd pm stt hh fo hI9 _ _ hP hD hS ls hl
      · refine lv_tableIn (off := 784) (tgt := 824) hx hb dL_law_40 (by decide) (by decide) (by decide) (by decide) ?_
        exact kl_clearBuffer C0 j hj KK kc n v sv fp ft fl z1 z2 z3 cd z zs pt th tp lf hg wd pm stt hh fo hI9 _ _ hP hD hS ls hl
      · refine lv_tableIn (off := 797) (tgt := 837) hx hb dL_law_40 (by decide) (by decide) (by decide) (by decide) ?_
        exact kl_firstError C0 j hj KK kc n v sv fp ft fl z1 z2 z3 cd z zs pt th tp lf hg wd pm stt hh fo hI9 _ _ hP hD hS ls hl
      · refine lv_tableIn (off := 810) (tgt := 850) hx hb dL_law_40 (by decide) (by decide) (by decide) (by decide) ?_
        exact kl_bend C0 j hj KK kc n v sv fp ft fl z1 z2 z3 cd z zs pt th tp lf hg wd pm stt hh fo hI9 _ _ hP hD hS ls hl
      · refine lv_tableIn (off := 854) (tgt := 894) hx hb dL_law_40 (by decide) (by decide) (by decide) (by decide) ?_
        exact kl_undo C0 j hj KK kc n v sv fp ft fl z1 z2 z3 cd z zs pt th tp lf hg wd pm stt hh fo hI9 _ _ hP hD hS ls hl
      · refine lv_tableIn (off := 898) (tgt := 938) hx hb dL_law_40 (by decide) (by decide) (by decide) (by decide) ?_
        exact kl_roll C0 j hj KK kc n v sv fp ft fl z1 z2 z3 cd z zs pt th tp lf hg wd pm stt hh fo hI9 _ _ hP hD hS ls hl
      · refine lv_tableIn (off := 966) (tgt := 1006) hx hb dL_law_40 (by decide) (by decide) (by decide) (by decide) ?_
        exact kl_cell C0 j hj KK kc n v sv fp ft fl z1 z2 z3 cd z zs pt th tp lf hg wd pm stt hh fo hI9 _ _ hP hD hS ls hl
      · refine lv_tableIn (off := 1058) (tgt := 1098) hx hb dL_law_40 (by decide) (by decide) (by decide) (by decide) ?_
        exact kl_figureOf C0 j hj KK kc n v sv fp ft fl z1 z2 z3 cd z zs pt th tp lf hg wd pm stt hh fo hI9 _ _ hP hD hS ls hl
      · refine lv_tableIn (off := 1126) (tgt := 1166) hx hb dL_law_40 (by decide) (by decide) (by decide) (by decide) ?_
        exact kl_contrast C0 j hj KK kc n v sv fp ft fl z1 z2 z3 cd z zs pt th tp lf hg wd pm stt hh fo hI9 _ _ hP hD hS ls hl
      · refine lv_tableIn (off := 1194) (tgt := 1234) hx hb dL_law_40 (by decide) (by decide) (by decide) (by decide) ?_
        exact kl_count C0 j hj KK kc n v sv fp ft fl z1 z2 z3 cd z zs pt th tp lf hg wd pm stt hh fo hI9 _ _ hP hD hS ls hl
      · refine lv_tableIn (off := 1250) (tgt := 1290) hx hb dL_law_40 (by decide) (by decide) (by decide) (by decide) ?_
        exact kl_setting C0 j hj KK kc n v sv fp ft fl z1 z2 z3 cd z zs pt th tp lf hg wd pm stt hh fo hI9 _ _ hP hD hS ls hl
      · refine lv_tableIn (off := 1306) (tgt := 1346) hx hb dL_law_40 (by decide) (by decide) (by decide) (by decide) ?_
        exact kl_bestPhase C0 j hj KK kc n v sv fp ft fl z1 z2 z3 cd z zs pt th tp lf hg wd pm stt hh fo hI9 _ _ hP hD hS ls hl
      · refine lv_tableIn (off := 1374) (tgt := 1414) hx hb dL_law_40 (by decide) (by decide) (by decide) (by decide) ?_
        exact kl_bestPitch C0 j hj KK kc n v sv fp ft fl z1 z2 z3 cd z zs pt th tp lf hg wd pm stt hh fo hI9 _ _ hP hD hS ls hl
      · refine lv_tableIn (off := 1387) (tgt := 1427) hx hb dL_law_40 (by decide) (by decide) (by decide) (by decide) ?_
        exact kl_standsOut C0 j hj KK kc n v sv fp ft fl z1 z2 z3 cd z zs pt th tp lf hg wd pm stt hh fo hI9 _ _ hP hD hS ls hl
      · refine lv_tableIn (off := 1467) (tgt := 1507) hx hb dL_law_40 (by decide) (by decide) (by decide) (by decide) ?_
        exact kl_goodness C0 j hj KK kc n v sv fp ft fl z1 z2 z3 cd z zs pt th tp lf hg wd pm stt hh fo hI9 _ _ hP hD hS ls hl
      · refine lv_tableIn (off := 1508) (tgt := 1548) hx hb dL_law_40 (by decide) (by decide) (by decide) (by decide) ?_
        exact kl_digest C0 j hj KK kc n v sv fp ft fl z1 z2 z3 cd z zs pt th tp lf hg wd pm stt hh fo hI9 _ _ hP hD hS ls hl
      · refine lv_tableOut (tgt := 1562) hx hb dL_law_40 (by decide) (by decide) ?_
        refine W.widen (k := 28 + (j + 1)) (n := 6079 + 6 * (j + 1)) (by omega) (by omega) ?_
        exact KK kc n v sv fp ft fl z1 z2 z3 cd z zs pt th tp lf hg wd pm stt hh fo hI9 _ _ hP hD hS ls hl
      · refine lv_tableOut (tgt := 1562) hx hb dL_law_40 (by decide) (by decide) ?_
        refine W.widen (k := 28 + (j + 1)) (n := 6079 + 6 * (j + 1)) (by omega) (by omega) ?_
        exact KK kc n v sv fp ft fl z1 z2 z3 cd z zs pt th tp lf hg wd pm stt hh fo hI9 _ _ hP hD hS ls hl
      · refine lv_tableOut (tgt := 1562) hx hb dL_law_40 (by decide) (by decide) ?_
        refine W.widen (k := 28 + (j + 1)) (n := 6079 + 6 * (j + 1)) (by omega) (by omega) ?_
        exact KK kc n v sv fp ft fl z1 z2 z3 cd z zs pt th tp lf hg wd pm stt hh fo hI9 _ _ hP hD hS ls hl
      · refine lv_tableOut (tgt := 1562) hx hb dL_law_40 (by decide) (by decide) ?_
        refine W.widen (k := 28 + (j + 1)) (n := 6079 + 6 * (j + 1)) (by omega) (by omega) ?_
        exact KK kc n v sv fp ft fl z1 z2 z3 cd z zs pt th tp lf hg wd pm stt hh fo hI9 _ _ hP hD hS ls hl
      · refine lv_tableOut (tgt := 1562) hx hb dL_law_40 (by decide) (by decide) ?_
        refine W.widen (k := 28 + (j + 1)) (n := 6079 + 6 * (j + 1)) (by omega) (by omega) ?_
        exact KK kc n v sv fp ft fl z1 z2 z3 cd z zs pt th tp lf hg wd pm stt hh fo hI9 _ _ hP hD hS ls hl
      · refine lv_tableOut (tgt := 1562) hx hb dL_law_40 (by decide) (by decide) ?_
        refine W.widen (k := 28 + (j + 1)) (n := 6079 + 6 * (j + 1)) (by omega) (by omega) ?_
        exact KK kc n v sv fp ft fl z1 z2 z3 cd z zs pt th tp lf hg wd pm stt hh fo hI9 _ _ hP hD hS ls hl
      · refine lv_tableOut (tgt := 1562) hx hb dL_law_40 (by decide) (by decide) ?_
        refine W.widen (k := 28 + (j + 1)) (n := 6079 + 6 * (j + 1)) (by omega) (by omega) ?_
        exact KK kc n v sv fp ft fl z1 z2 z3 cd z zs pt th tp lf hg wd pm stt hh fo hI9 _ _ hP hD hS ls hl
      · refine lv_tableOut (tgt := 1562) hx hb dL_law_40 (by decide) (by decide) ?_
        refine W.widen (k := 28 + (j + 1)) (n := 6079 + 6 * (j + 1)) (by omega) (by omega) ?_
        exact KK kc n v sv fp ft fl z1 z2 z3 cd z zs pt th tp lf hg wd pm stt hh fo hI9 _ _ hP hD hS ls hl
