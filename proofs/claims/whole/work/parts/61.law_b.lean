set_option maxHeartbeats 8000000 in
set_option maxRecDepth 100000 in
theorem kl_size {p : Program} {l : Launch} {e : Env} {s : State} {m : MethodId} {below : List Frame} {meth : Method} {c : Code} {b L : Nat} {xs : Nat → Int32} {dC : Nat → ClassId} {dI : Nat → Nat → Nat} {cI cL : ClassId} {s1 s2 s3 s4 : Nat} {oX oS oR oN o2 oF oT rv rs rp rt rl q1 q2 q3 rc oM rz r2 rb rq ro : Nat} (C0 : kl_C p l s m meth c b L xs dC dI cI cL s1 s2 s3 s4) (j : Nat) (hj : 6 * j + 6 ≤ L) (kk : kl_K p l e s m below meth c b dC dI cI cL oX oS oR oN o2 oF oT rv rs rp rt rl q1 q2 q3 rc oM rz r2 rb rq ro 1562 (j) (j + 1)) : kl_K p l e s m below meth c b dC dI cI cL oX oS oR oN o2 oF oT rv rs rp rt rl q1 q2 q3 rc oM rz r2 rb rq ro 244 (j) (j) := by
  obtain ⟨hls, ⟨hx, hb, hr, hml, hown, hts0, hX, hbl, hlocks, hgv⟩, hL, hK, hKL, hT⟩ := C0
  intro kc n v sv fp ft fl z1 z2 z3 cd z zs pt th tp lf hg wd pm stt hh fo hI9 H locs hP hD hS ls hl
  have hown : s.vm.findClass RL = some m.cls := hown
  have hb : c.code = cL_law := hb
  have hts : ∀ w ∈ wsL_law, w.before #[Value.ref b] s = true := fun w h => hts0 w (wsL_law_in w h)
  have hA : ∀ q : Nat, s.heap.size ≤ q → (fun q => s.heap.size ≤ q) q := fun _ h => h
  have hbA : ¬ (fun q => s.heap.size ≤ q) b := Nat.not_le.mpr hbl
  generalize hAe : (fun q => s.heap.size ≤ q) = A at hP hD hS hT hA hbA
  obtain ⟨hkc, hn, hI, hz, hsv⟩ := id hI9
  obtain ⟨x1, e1⟩ : ∃ x, x = xs (6 * j + 1) := ⟨_, rfl⟩
  obtain ⟨x2, e2⟩ : ∃ x, x = xs (6 * j + 2) := ⟨_, rfl⟩
  by_cases hG : (0 ≤ x1 ∧ x1 < 3) ∧ (4 ≤ x2 ∧ x2 ≤ 16)
  · skip
    obtain ⟨a9, ha9, rfl⟩ := kq_nat (k := 3) hG.1 (by decide)
    obtain ⟨k9, hk9, rfl⟩ := kq_nat2 (lo := 4) (up := 16) hG.2 (by decide) (by decide)
    refine lv_aload_n hx hb dL_law_244 rfl (lv_at hl 1 rfl) ?_
    refine lv_aload_n hx hb dL_law_245 rfl (lv_at hl 0 rfl) ?_
    refine lv_iload hx hb dL_law_246 (lv_at hl 4 rfl) ?_
    refine lv_iconst (v := 1) hx hb dL_law_248 (by decide) ?_
    refine lv_iadd hx hb dL_law_249 ?_
    refine kq_top (z := nI ((6 * j) + 1)) (nI_add (6 * j) 1) ?_
    refine va_sld hx hb hX hbl hbA hS (vp_in_nI (show (6 * j) + 1 < L from by omega) (by omega)) dL_law_250 ?_
    refine kq_top (z := nI a9) ((congrArg xs (nI_clamp (Nat.lt_trans (show (6 * j) + 1 < L from by omega) (by omega)))).trans e1.symm) ?_
    refine lv_aload_n hx hb dL_law_251 rfl (lv_at hl 0 rfl) ?_
    refine lv_iload hx hb dL_law_252 (lv_at hl 4 rfl) ?_
    refine lv_iconst (v := 2) hx hb dL_law_254 (by decide) ?_
    refine lv_iadd hx hb dL_law_255 ?_
    refine kq_top (z := nI ((6 * j) + 2)) (nI_add (6 * j) 2) ?_
    refine va_sld hx hb hX hbl hbA hS (vp_in_nI (show (6 * j) + 2 < L from by omega) (by omega)) dL_law_256 ?_
    refine kq_top (z := nI k9) ((congrArg xs (nI_clamp (Nat.lt_trans (show (6 * j) + 2 < L from by omega) (by omega)))).trans e2.symm) ?_
    refine lv_aload_n hx hb dL_law_257 rfl (lv_at hl 3 rfl) ?_
    refine kq_callMi (wr := [(oN, .inr (1, [.ref oS, .ref rp, .ref rt, .ref rl])), (rp, .inl (cI, 72, .inl fp)), (rt, .inl (cI, 72, .inl ft)), (rl, .inl (cI, 72, .inl fl)), (o2, .inr (1, [.ref oS, .ref q1, .ref q2, .ref q3])), (q1, .inl (cI, 72, .inl z1)), (q2, .inl (cI, 72, .inl z2)), (q3, .inl (cI, 72, .inl z3)), (oF, .inr (0, [.ref oS, .ref oN])), (oT, .inr (4, [.ref rc, .int (nI n)])), (rc, .inl (cI, 60, .inl cd)), (oM, .inr (6, [.int th, .ref rz, .ref r2, .int (nI kc), .ref rb, .int (nI n), .int tp, .int lf, .int hg, .int wd, .ref rq, .int pm, .int stt, .long hh])), (rz, .inl (cI, 389, .inl z)), (r2, .inl (cI, 2334, .inl zs)), (rb, .inl (cI, 60, .inl cd)), (rq, .inl (cI, 72, .inl pt))]) (vx_runSW (As := [.ref oX, .int (nI a9), .int (nI k9), .ref ro]) (rest := []) ⟨hx, hb, hml, hown, hts⟩ (c_L_size_o l hls dC dI cI cL s1 s2 s3 s4 H.size oX oS oR oN o2 oF oT rv rs kc v sv a9 k9 ro fo (by first | assumption | omega) (by first | assumption | omega) (by first | assumption | omega) (by first | assumption | omega)) (vx_cwSW 4 hts gL_law_L_size rfl rfl rfl (by decide +kernel) ⟨Nat.le_of_ble_eq_true rfl, Nat.le_of_ble_eq_true rfl⟩) (kq_preSH (hP.sub [0, 1, 2, 3, 4, 21] rfl) (hD.sub [0, 1, 2, 3, 4, 21] (by decide) rfl) hS hA hK hKL hT) rfl rfl hl.1 rfl (lv_room (Nat.le_of_ble_eq_true rfl)) dL_law_258 (kl_room (by omega) (by omega))) hP hD hS hA [0, 1, 2, 3, 4, 21] [5, 6, 7, 8, 9, 10, 11, 12, 13, 14, 15, 16, 17, 18, 19, 20] rfl rfl (by decide) (by decide) (fun r_1 u_2 H locs hw_3 hP hD hS => ?_)
    obtain ⟨go_4, rfl⟩ : ∃ z, z = u_2 := ⟨_, rfl⟩
    have hP : va_P (dC, dI) vwCl [(oN, .inr (1, [.ref oS, .ref rp, .ref rt, .ref rl])), (rp, .inl (cI, 72, .inl fp)), (rt, .inl (cI, 72, .inl ft)), (rl, .inl (cI, 72, .inl fl)), (o2, .inr (1, [.ref oS, .ref q1, .ref q2, .ref q3])), (q1, .inl (cI, 72, .inl z1)), (q2, .inl (cI, 72, .inl z2)), (q3, .inl (cI, 72, .inl z3)), (oF, .inr (0, [.ref oS, .ref oN])), (oT, .inr (4, [.ref rc, .int (nI n)])), (rc, .inl (cI, 60, .inl cd)), (oM, .inr (6, [.int th, .ref rz, .ref r2, .int (nI kc), .ref rb, .int (nI n), .int tp, .int lf, .int hg, .int wd, .ref rq, .int pm, .int stt, .long hh])), (rz, .inl (cI, 389, .inl z)), (r2, .inl (cI, 2334, .inl zs)), (rb, .inl (cI, 60, .inl cd)), (rq, .inl (cI, 72, .inl pt)), (oX, .inr (5, [.ref oS, .ref oR, .ref oN, .ref o2, .ref oF, .ref oT])), (oS, .inr (3, [.ref rv, .ref rs, .int (nI (min (kc + 1) 6))])), (rv, .inl (cI, 385, .inl (upd (upd v (288 + a9) (nI k9)) (291 + a9) (nI (n_p v a9 % k9))))), (rs, .inl (cI, 2310, .inl (n_push v sv))), (oR, .inr (2, [.ref oS])), (ro, .inl (cL, 1, .inr (.inl go_4)))] H := hP
    have hD : va_D A [(oN, .inr (1, [.ref oS, .ref rp, .ref rt, .ref rl])), (rp, .inl (cI, 72, .inl fp)), (rt, .inl (cI, 72, .inl ft)), (rl, .inl (cI, 72, .inl fl)), (o2, .inr (1, [.ref oS, .ref q1, .ref q2, .ref q3])), (q1, .inl (cI, 72, .inl z1)), (q2, .inl (cI, 72, .inl z2)), (q3, .inl (cI, 72, .inl z3)), (oF, .inr (0, [.ref oS, .ref oN])), (oT, .inr (4, [.ref rc, .int (nI n)])), (rc, .inl (cI, 60, .inl cd)), (oM, .inr (6, [.int th, .ref rz, .ref r2, .int (nI kc), .ref rb, .int (nI n), .int tp, .int lf, .int hg, .int wd, .ref rq, .int pm, .int stt, .long hh])), (rz, .inl (cI, 389, .inl z)), (r2, .inl (cI, 2334, .inl zs)), (rb, .inl (cI, 60, .inl cd)), (rq, .inl (cI, 72, .inl pt)), (oX, .inr (5, [.ref oS, .ref oR, .ref oN, .ref o2, .ref oF, .ref oT])), (oS, .inr (3, [.ref rv, .ref rs, .int (nI (min (kc + 1) 6))])), (rv, .inl (cI, 385, .inl (upd (upd v (288 + a9) (nI k9)) (291 + a9) (nI (n_p v a9 % k9))))), (rs, .inl (cI, 2310, .inl (n_push v sv))), (oR, .inr (2, [.ref oS])), (ro, .inl (cL, 1, .inr (.inl go_4)))] := hD
    try dsimp only at hw_3
    obtain ⟨rfl, hgo⟩ := hw_3
    have hP : va_P (dC, dI) vwCl [(oN, .inr (1, [.ref oS, .ref rp, .ref rt, .ref rl])), (rp, .inl (cI, 72, .inl fp)), (rt, .inl (cI, 72, .inl ft)), (rl, .inl (cI, 72, .inl fl)), (o2, .inr (1, [.ref oS, .ref q1, .ref q2, .ref q3])), (q1, .inl (cI, 72, .inl z1)), (q2, .inl (cI, 72, .inl z2)), (q3, .inl (cI, 72, .inl z3)), (oF, .inr (0, [.ref oS, .ref oN])), (oT, .inr (4, [.ref rc, .int (nI n)])), (rc, .inl (cI, 60, .inl cd)), (oM, .inr (6, [.int th, .ref rz, .ref r2, .int (nI kc), .ref rb, .int (nI n), .int tp, .int lf, .int hg, .int wd, .ref rq, .int pm, .int stt, .long hh])), (rz, .inl (cI, 389, .inl z)), (r2, .inl (cI, 2334, .inl zs)), (rb, .inl (cI, 60, .inl cd)), (rq, .inl (cI, 72, .inl pt)), (oX, .inr (5, [.ref oS, .ref oR, .ref oN, .ref o2, .ref oF, .ref oT])), (oS, .inr (3, [.ref rv, .ref rs, .int (nI (min (kc + 1) 6))])), (rv, .inl (cI, 385, .inl (upd (upd v (288 + a9) (nI k9)) (291 + a9) (nI (n_p v a9 % k9))))), (rs, .inl (cI, 2310, .inl (n_push v sv))), (oR, .inr (2, [.ref oS])), (ro, .inl (cL, 1, .inr (.inl go_4)))] H := hP
    have hD : va_D A [(oN, .inr (1, [.ref oS, .ref rp, .ref rt, .ref rl])), (rp, .inl (cI, 72, .inl fp)), (rt, .inl (cI, 72, .inl ft)), (rl, .inl (cI, 72, .inl fl)), (o2, .inr (1, [.ref oS, .ref q1, .ref q2, .ref q3])), (q1, .inl (cI, 72, .inl z1)), (q2, .inl (cI, 72, .inl z2)), (q3, .inl (cI, 72, .inl z3)), (oF, .inr (0, [.ref oS, .ref oN])), (oT, .inr (4, [.ref rc, .int (nI n)])), (rc, .inl (cI, 60, .inl cd)), (oM, .inr (6, [.int th, .ref rz, .ref r2, .int (nI kc), .ref rb, .int (nI n), .int tp, .int lf, .int hg, .int wd, .ref rq, .int pm, .int stt, .long hh])), (rz, .inl (cI, 389, .inl z)), (r2, .inl (cI, 2334, .inl zs)), (rb, .inl (cI, 60, .inl cd)), (rq, .inl (cI, 72, .inl pt)), (oX, .inr (5, [.ref oS, .ref oR, .ref oN, .ref o2, .ref oF, .ref oT])), (oS, .inr (3, [.ref rv, .ref rs, .int (nI (min (kc + 1) 6))])), (rv, .inl (cI, 385, .inl (upd (upd v (288 + a9) (nI k9)) (291 + a9) (nI (n_p v a9 % k9))))), (rs, .inl (cI, 2310, .inl (n_push v sv))), (oR, .inr (2, [.ref oS])), (ro, .inl (cL, 1, .inr (.inl go_4)))] := hD
    refine lv_istore (lv' := [(5, .int 0), (0, .ref b), (1, .ref oX), (2, .ref oM), (3, .ref ro), (4, .int (nI (6 * j)))]) hx hb dL_law_261 hl (by decide) rfl (fun ls hl => ?_)
    refine lv_aload_n hx hb dL_law_263 rfl (lv_at hl 3 rfl) ?_
    refine lv_aload_n hx hb dL_law_264 rfl (lv_at hl 1 rfl) ?_
    refine lv_iload hx hb dL_law_265 (lv_at hl 5 rfl) ?_
    refine lv_iconst (v := 1) hx hb dL_law_267 (by decide) ?_
    refine lv_iadd hx hb dL_law_268 ?_
    refine kq_top (z := nI ((6 * j) + 1)) (nI_add (6 * j) 1) ?_
    refine va_sld hx hb hX hbl hbA hS (vp_in_nI (show (6 * j) + 1 < L from by omega) (by omega)) dL_law_269 ?_
    refine kq_top (z := nI a9) ((congrArg xs (nI_clamp (Nat.lt_trans (show (6 * j) + 1 < L from by omega) (by omega)))).trans e1.symm) ?_
    refine lv_aload_n hx hb dL_law_270 rfl (lv_at hl 1 rfl) ?_
    refine lv_iload hx hb dL_law_271 (lv_at hl 5 rfl) ?_
    refine lv_iconst (v := 2) hx hb dL_law_273 (by decide) ?_
    refine lv_iadd hx hb dL_law_274 ?_
    refine kq_top (z := nI ((6 * j) + 2)) (nI_add (6 * j) 2) ?_
    refine va_sld hx hb hX hbl hbA hS (vp_in_nI (show (6 * j) + 2 < L from by omega) (by omega)) dL_law_275 ?_
    refine kq_top (z := nI k9) ((congrArg xs (nI_clamp (Nat.lt_trans (show (6 * j) + 2 < L from by omega) (by omega)))).trans e2.symm) ?_
    refine kq_callMi (wr := [(oN, .inr (1, [.ref oS, .ref rp, .ref rt, .ref rl])), (rp, .inl (cI, 72, .inl fp)), (rt, .inl (cI, 72, .inl ft)), (rl, .inl (cI, 72, .inl fl)), (o2, .inr (1, [.ref oS, .ref q1, .ref q2, .ref q3])), (q1, .inl (cI, 72, .inl z1)), (q2, .inl (cI, 72, .inl z2)), (q3, .inl (cI, 72, .inl z3)), (oF, .inr (0, [.ref oS, .ref oN])), (oT, .inr (4, [.ref rc, .int (nI n)])), (rc, .inl (cI, 60, .inl cd)), (rb, .inl (cI, 60, .inl cd)), (rq, .inl (cI, 72, .inl pt)), (oX, .inr (5, [.ref oS, .ref oR, .ref oN, .ref o2, .ref oF, .ref oT])), (oS, .inr (3, [.ref rv, .ref rs, .int (nI (min (kc + 1) 6))])), (rv, .inl (cI, 385, .inl (upd (upd v (288 + a9) (nI k9)) (291 + a9) (nI (n_p v a9 % k9))))), (rs, .inl (cI, 2310, .inl (n_push v sv))), (oR, .inr (2, [.ref oS])), (ro, .inl (cL, 1, .inr (.inl go_4)))]) (va_runV (As := [.int (nI a9), .int (nI k9)]) (rest := []) ⟨hx, hb, hml, hown, hts⟩ (c_X6_size l dC dI cI H.size oM rz r2 rb rq kc n th tp lf hg wd pm stt hh z zs cd pt v a9 k9 (by first | assumption | omega) (by first | assumption | omega) (by first | assumption | omega) (by first | assumption | omega) (by first | assumption | omega)) (cwV 2 hts gL_law_X6_size rfl rfl rfl (by decide +kernel) ⟨Nat.le_of_ble_eq_true rfl, Nat.le_of_ble_eq_true rfl⟩) (kq_preV (ci := 6) (q0 := 0) (hP.sub [11, 12, 13] rfl) (hD.sub [11, 12, 13] (by decide) rfl) hK rfl rfl) rfl rfl hl.1 rfl (lv_room (Nat.le_of_ble_eq_true rfl)) dL_law_276 (kl_room (by omega) (by omega))) hP hD hS hA [11, 12, 13] [0, 1, 2, 3, 4, 5, 6, 7, 8, 9, 10, 14, 15, 16, 17, 18, 19, 20, 21] rfl rfl (by decide) (by decide) (fun r_5 u_6 H locs hw_7 hP hD hS => ?_)
    obtain ⟨ys_8, rfl⟩ : ∃ z, z = u_6 := ⟨_, rfl⟩
    have hP : va_P (dC, dI) vwCl [(oN, .inr (1, [.ref oS, .ref rp, .ref rt, .ref rl])), (rp, .inl (cI, 72, .inl fp)), (rt, .inl (cI, 72, .inl ft)), (rl, .inl (cI, 72, .inl fl)), (o2, .inr (1, [.ref oS, .ref q1, .ref q2, .ref q3])), (q1, .inl (cI, 72, .inl z1)), (q2, .inl (cI, 72, .inl z2)), (q3, .inl (cI, 72, .inl z3)), (oF, .inr (0, [.ref oS, .ref oN])), (oT, .inr (4, [.ref rc, .int (nI n)])), (rc, .inl (cI, 60, .inl cd)), (rb, .inl (cI, 60, .inl cd)), (rq, .inl (cI, 72, .inl pt)), (oX, .inr (5, [.ref oS, .ref oR, .ref oN, .ref o2, .ref oF, .ref oT])), (oS, .inr (3, [.ref rv, .ref rs, .int (nI (min (kc + 1) 6))])), (rv, .inl (cI, 385, .inl (upd (upd v (288 + a9) (nI k9)) (291 + a9) (nI (n_p v a9 % k9))))), (rs, .inl (cI, 2310, .inl (n_push v sv))), (oR, .inr (2, [.ref oS])), (ro, .inl (cL, 1, .inr (.inl go_4))), (oM, .inr (6, [.int 0, .ref rz, .ref r2, .int (nI (min (kc + 1) 6)), .ref rb, .int (nI n), .int tp, .int lf, .int hg, .int wd, .ref rq, .int pm, .int stt, .long hh])), (rz, .inl (cI, 389, .inl (upd (upd z (3 + a9) (nI k9)) (6 + a9) (nI (n_p v a9 % k9))))), (r2, .inl (cI, 2334, .inl ys_8))] H := hP
    have hD : va_D A [(oN, .inr (1, [.ref oS, .ref rp, .ref rt, .ref rl])), (rp, .inl (cI, 72, .inl fp)), (rt, .inl (cI, 72, .inl ft)), (rl, .inl (cI, 72, .inl fl)), (o2, .inr (1, [.ref oS, .ref q1, .ref q2, .ref q3])), (q1, .inl (cI, 72, .inl z1)), (q2, .inl (cI, 72, .inl z2)), (q3, .inl (cI, 72, .inl z3)), (oF, .inr (0, [.ref oS, .ref oN])), (oT, .inr (4, [.ref rc, .int (nI n)])), (rc, .inl (cI, 60, .inl cd)), (rb, .inl (cI, 60, .inl cd)), (rq, .inl (cI, 72, .inl pt)), (oX, .inr (5, [.ref oS, .ref oR, .ref oN, .ref o2, .ref oF, .ref oT])), (oS, .inr (3, [.ref rv, .ref rs, .int (nI (min (kc + 1) 6))])), (rv, .inl (cI, 385, .inl (upd (upd v (288 + a9) (nI k9)) (291 + a9) (nI (n_p v a9 % k9))))), (rs, .inl (cI, 2310, .inl (n_push v sv))), (oR, .inr (2, [.ref oS])), (ro, .inl (cL, 1, .inr (.inl go_4))), (oM, .inr (6, [.int 0, .ref rz, .ref r2, .int (nI (min (kc + 1) 6)), .ref rb, .int (nI n), .int tp, .int lf, .int hg, .int wd, .ref rq, .int pm, .int stt, .long hh])), (rz, .inl (cI, 389, .inl (upd (upd z (3 + a9) (nI k9)) (6 + a9) (nI (n_p v a9 % k9))))), (r2, .inl (cI, 2334, .inl ys_8))] := hD
    try dsimp only at hw_7
    obtain ⟨hr2, hsv2⟩ := hw_7
    refine lv_istore (lv' := [(6, .int r_5), (5, .int 0), (0, .ref b), (1, .ref oX), (2, .ref oM), (3, .ref ro), (4, .int (nI (6 * j)))]) hx hb dL_law_279 hl (by decide) rfl (fun ls hl => ?_)
    refine lv_aload_n hx hb dL_law_281 rfl (lv_at hl 4 rfl) ?_
    refine kq_cV (As := []) (rest := []) ⟨hx, hb, hml, hown, hts⟩ (c_X6_thrown l dC dI cI oM rz r2 rb rq (min (kc + 1) 6) n 0 tp lf hg wd pm stt hh z v ) (cwV 0 hts gL_law_X6_thrown rfl rfl rfl (by decide +kernel) ⟨Nat.le_of_ble_eq_true rfl, Nat.le_of_ble_eq_true rfl⟩) (hP.sub [19] rfl) hK (ci := 6) (q0 := 0) rfl rfl rfl rfl hl.1 rfl (Nat.le_of_ble_eq_true rfl) dL_law_282 (kl_room (by omega) (by omega)) ?_
    refine lv_iload hx hb dL_law_285 (lv_at hl 1 rfl) ?_
    refine lv_icmp_eq (tgt := 292) hx hb dL_law_287 (by decide) (fun _ => ?_) (fun q => absurd q (by decide))
    refine lv_iload hx hb dL_law_292 (lv_at hl 1 rfl) ?_
    refine lv_if_ne (tgt := 309) hx hb dL_law_294 (by decide) (fun q => absurd q (by decide)) (fun _ => ?_)
    refine lv_aload_n hx hb dL_law_297 rfl (lv_at hl 5 rfl) ?_
    refine lv_iconst (v := 0) hx hb dL_law_298 (by decide) ?_
    refine va_lald hx hb hKL hP 18 0 rfl rfl (show ¬ ((0:Int32) < 0 ∨ 1 ≤ Int32.toNatClampNeg 0) by decide) dL_law_299 ?_
    refine kq_topl (z := (v (288 + a9) : Int32).toInt64) (hgo) ?_
    refine lv_iload hx hb dL_law_300 (lv_at hl 0 rfl) ?_
    refine lv_i2l (v := (r_5 : Int32).toInt64) hx hb dL_law_302 rfl ?_
    refine W.lcmp hx hb dL_law_303 ?_
    refine lv_if_eq (tgt := 309) hx hb dL_law_304 (by decide) (fun _ => ?_) (fun c_9 => absurd (kq_lce ((n_I_c hI ha9).trans hr2.symm)) c_9)
    refine lv_goto (tgt := 1562) hx hb dL_law_309 (by decide) ?_
    refine W.widen (k := 28 + (j + 1)) (n := 6079 + 6 * (j + 1)) (by omega) (by omega) ?_
    subst hAe
    exact kk (min (kc + 1) 6) n (upd (upd v (288 + a9) (nI k9)) (291 + a9) (nI (n_p v a9 % k9))) (n_push v sv) fp ft fl z1 z2 z3 cd (upd (upd z (3 + a9) (nI k9)) (6 + a9) (nI (n_p v a9 % k9))) ys_8 pt 0 tp lf hg wd pm stt hh go_4 (⟨by omega, hn, n_I_size hI ha9 hk9, n_Z_phase (n_Z_circ hz ha9) ha9, n_SV_push hkc hsv hI hz hsv2⟩) _ _ (hP.sub [13, 14, 15, 16, 17, 0, 1, 2, 3, 4, 5, 6, 7, 8, 9, 10, 19, 20, 21, 11, 12, 18] rfl) (hD.sub [13, 14, 15, 16, 17, 0, 1, 2, 3, 4, 5, 6, 7, 8, 9, 10, 19, 20, 21, 11, 12, 18] (by decide) rfl) hS ls (lv_sub hl [2, 3, 4, 5, 6] rfl)
  · skip
    refine lv_aload_n hx hb dL_law_244 rfl (lv_at hl 1 rfl) ?_
    refine lv_aload_n hx hb dL_law_245 rfl (lv_at hl 0 rfl) ?_
    refine lv_iload hx hb dL_law_246 (lv_at hl 4 rfl) ?_
    refine lv_iconst (v := 1) hx hb dL_law_248 (by decide) ?_
    refine lv_iadd hx hb dL_law_249 ?_
    refine kq_top (z := nI ((6 * j) + 1)) (nI_add (6 * j) 1) ?_
    refine va_sld hx hb hX hbl hbA hS (vp_in_nI (show (6 * j) + 1 < L from by omega) (by omega)) dL_law_250 ?_
    refine kq_top (z := x1) ((congrArg xs (nI_clamp (Nat.lt_trans (show (6 * j) + 1 < L from by omega) (by omega)))).trans e1.symm) ?_
    refine lv_aload_n hx hb dL_law_251 rfl (lv_at hl 0 rfl) ?_
    refine lv_iload hx hb dL_law_252 (lv_at hl 4 rfl) ?_
    refine lv_iconst (v := 2) hx hb dL_law_254 (by decide) ?_
    refine lv_iadd hx hb dL_law_255 ?_
    refine kq_top (z := nI ((6 * j) + 2)) (nI_add (6 * j) 2) ?_
    refine va_sld hx hb hX hbl hbA hS (vp_in_nI (show (6 * j) + 2 < L from by omega) (by omega)) dL_law_256 ?_
    refine kq_top (z := x2) ((congrArg xs (nI_clamp (Nat.lt_trans (show (6 * j) + 2 < L from by omega) (by omega)))).trans e2.symm) ?_
    refine lv_aload_n hx hb dL_law_257 rfl (lv_at hl 3 rfl) ?_
    refine kq_callMi (wr := [(oR, .inr (2, [.ref oS])), (oN, .inr (1, [.ref oS, .ref rp, .ref rt, .ref rl])), (rp, .inl (cI, 72, .inl fp)), (rt, .inl (cI, 72, .inl ft)), (rl, .inl (cI, 72, .inl fl)), (o2, .inr (1, [.ref oS, .ref q1, .ref q2, .ref q3])), (q1, .inl (cI, 72, .inl z1)), (q2, .inl (cI, 72, .inl z2)), (q3, .inl (cI, 72, .inl z3)), (oF, .inr (0, [.ref oS, .ref oN])), (oT, .inr (4, [.ref rc, .int (nI n)])), (rc, .inl (cI, 60, .inl cd)), (oM, .inr (6, [.int th, .ref rz, .ref r2, .int (nI kc), .ref rb, .int (nI n), .int tp, .int lf, .int hg, .int wd, .ref rq, .int pm, .int stt, .long hh])), (rz, .inl (cI, 389, .inl z)), (r2, .inl (cI, 2334, .inl zs)), (rb, .inl (cI, 60, .inl cd)), (rq, .inl (cI, 72, .inl pt))]) (vx_runSW (As := [.ref oX, .int x1, .int x2, .ref ro]) (rest := []) ⟨hx, hb, hml, hown, hts⟩ (c_L_size_x l hls dC dI cI cL s1 s2 s3 s4 H.size oX oS oR oN o2 oF oT rv rs kc v sv x1 x2 ro fo (by first | assumption | omega)) (vx_cwSW 4 hts gL_law_L_size rfl rfl rfl (by decide +kernel) ⟨Nat.le_of_ble_eq_true rfl, Nat.le_of_ble_eq_true rfl⟩) (kq_preSH (hP.sub [0, 1, 2, 3, 21] rfl) (hD.sub [0, 1, 2, 3, 21] (by decide) rfl) hS hA hK hKL hT) rfl rfl hl.1 rfl (lv_room (Nat.le_of_ble_eq_true rfl)) dL_law_258 (kl_room (by omega) (by omega))) hP hD hS hA [0, 1, 2, 3, 21] [4, 5, 6, 7, 8, 9, 10, 11, 12, 13, 14, 15, 16, 17, 18, 19, 20] rfl rfl (by decide) (by decide) (fun r_10 u_11 H locs hw_12 hP hD hS => ?_)
    have hP : va_P (dC, dI) vwCl [(oR, .inr (2, [.ref oS])), (oN, .inr (1, [.ref oS, .ref rp, .ref rt, .ref rl])), (rp, .inl (cI, 72, .inl fp)), (rt, .inl (cI, 72, .inl ft)), (rl, .inl (cI, 72, .inl fl)), (o2, .inr (1, [.ref oS, .ref q1, .ref q2, .ref q3])), (q1, .inl (cI, 72, .inl z1)), (q2, .inl (cI, 72, .inl z2)), (q3, .inl (cI, 72, .inl z3)), (oF, .inr (0, [.ref oS, .ref oN])), (oT, .inr (4, [.ref rc, .int (nI n)])), (rc, .inl (cI, 60, .inl cd)), (oM, .inr (6, [.int th, .ref rz, .ref r2, .int (nI kc), .ref rb, .int (nI n), .int tp, .int lf, .int hg, .int wd, .ref rq, .int pm, .int stt, .long hh])), (rz, .inl (cI, 389, .inl z)), (r2, .inl (cI, 2334, .inl zs)), (rb, .inl (cI, 60, .inl cd)), (rq, .inl (cI, 72, .inl pt)), (oX, .inr (5, [.ref oS, .ref oR, .ref oN, .ref o2, .ref oF, .ref oT])), (oS, .inr (3, [.ref rv, .ref rs, .int (nI kc)])), (rv, .inl (cI, 385, .inl v)), (rs, .inl (cI, 2310, .inl sv)), (ro, .inl (cL, 1, .inr (.inl fo)))] H := hP
    have hD : va_D A [(oR, .inr (2, [.ref oS])), (oN, .inr (1, [.ref oS, .ref rp, .ref rt, .ref rl])), (rp, .inl (cI, 72, .inl fp)), (rt, .inl (cI, 72, .inl ft)), (rl, .inl (cI, 72, .inl fl)), (o2, .inr (1, [.ref oS, .ref q1, .ref q2, .ref q3])), (q1, .inl (cI, 72, .inl z1)), (q2, .inl (cI, 72, .inl z2)), (q3, .inl (cI, 72, .inl z3)), (oF, .inr (0, [.ref oS, .ref oN])), (oT, .inr (4, [.ref rc, .int (nI n)])), (rc, .inl (cI, 60, .inl cd)), (oM, .inr (6, [.int th, .ref rz, .ref r2, .int (nI kc), .ref rb, .int (nI n), .int tp, .int lf, .int hg, .int wd, .ref rq, .int pm, .int stt, .long hh])), (rz, .inl (cI, 389, .inl z)), (r2, .inl (cI, 2334, .inl zs)), (rb, .inl (cI, 60, .inl cd)), (rq, .inl (cI, 72, .inl pt)), (oX, .inr (5, [.ref oS, .ref oR, .ref oN, .ref o2, .ref oF, .ref oT])), (oS, .inr (3, [.ref rv, .ref rs, .int (nI kc)])), (rv, .inl (cI, 385, .inl v)), (rs, .inl (cI, 2310, .inl sv)), (ro, .inl (cL, 1, .inr (.inl fo)))] := hD
    try dsimp only at hw_12
    have hr1 := hw_12
    refine lv_istore (lv' := [(5, .int r_10), (0, .ref b), (1, .ref oX), (2, .ref oM), (3, .ref ro), (4, .int (nI (6 * j)))]) hx hb dL_law_261 hl (by decide) rfl (fun ls hl => ?_)
    refine lv_aload_n hx hb dL_law_263 rfl (lv_at hl 3 rfl) ?_
    refine lv_aload_n hx hb dL_law_264 rfl (lv_at hl 1 rfl) ?_
    refine lv_iload hx hb dL_law_265 (lv_at hl 5 rfl) ?_
    refine lv_iconst (v := 1) hx hb dL_law_267 (by decide) ?_
    refine lv_iadd hx hb dL_law_268 ?_
    refine kq_top (z := nI ((6 * j) + 1)) (nI_add (6 * j) 1) ?_
    refine va_sld hx hb hX hbl hbA hS (vp_in_nI (show (6 * j) + 1 < L from by omega) (by omega)) dL_law_269 ?_
    refine kq_top (z := x1) ((congrArg xs (nI_clamp (Nat.lt_trans (show (6 * j) + 1 < L from by omega) (by omega)))).trans e1.symm) ?_
    refine lv_aload_n hx hb dL_law_270 rfl (lv_at hl 1 rfl) ?_
    refine lv_iload hx hb dL_law_271 (lv_at hl 5 rfl) ?_
    refine lv_iconst (v := 2) hx hb dL_law_273 (by decide) ?_
    refine lv_iadd hx hb dL_law_274 ?_
    refine kq_top (z := nI ((6 * j) + 2)) (nI_add (6 * j) 2) ?_
    refine va_sld hx hb hX hbl hbA hS (vp_in_nI (show (6 * j) + 2 < L from by omega) (by omega)) dL_law_275 ?_
    refine kq_top (z := x2) ((congrArg xs (nI_clamp (Nat.lt_trans (show (6 * j) + 2 < L from by omega) (by omega)))).trans e2.symm) ?_
    refine kq_callMi (wr := [(oR, .inr (2, [.ref oS])), (oN, .inr (1, [.ref oS, .ref rp, .ref rt, .ref rl])), (rp, .inl (cI, 72, .inl fp)), (rt, .inl (cI, 72, .inl ft)), (rl, .inl (cI, 72, .inl fl)), (o2, .inr (1, [.ref oS, .ref q1, .ref q2, .ref q3])), (q1, .inl (cI, 72, .inl z1)), (q2, .inl (cI, 72, .inl z2)), (q3, .inl (cI, 72, .inl z3)), (oF, .inr (0, [.ref oS, .ref oN])), (oT, .inr (4, [.ref rc, .int (nI n)])), (rc, .inl (cI, 60, .inl cd)), (rz, .inl (cI, 389, .inl z)), (r2, .inl (cI, 2334, .inl zs)), (rb, .inl (cI, 60, .inl cd)), (rq, .inl (cI, 72, .inl pt)), (oX, .inr (5, [.ref oS, .ref oR, .ref oN, .ref o2, .ref oF, .ref oT])), (oS, .inr (3, [.ref rv, .ref rs, .int (nI kc)])), (rv, .inl (cI, 385, .inl v)), (rs, .inl (cI, 2310, .inl sv)), (ro, .inl (cL, 1, .inr (.inl fo)))]) (va_runV (As := [.int x1, .int x2]) (rest := []) ⟨hx, hb, hml, hown, hts⟩ (c_X6_size_t l dC dI cI H.size oM rz r2 rb rq kc n th tp lf hg wd pm stt hh z v x1 x2 (fun q => hG (by simpa only [kq_l3, kq_l6, kq_l16, kq_l12, kq_l4, kq_lk, and_assoc] using q))) (cwV 2 hts gL_law_X6_size rfl rfl rfl (by decide +kernel) ⟨Nat.le_of_ble_eq_true rfl, Nat.le_of_ble_eq_true rfl⟩) (kq_preV (ci := 6) (q0 := 0) (hP.sub [12] rfl) (hD.sub [12] (by decide) rfl) hK rfl rfl) rfl rfl hl.1 rfl (lv_room (Nat.le_of_ble_eq_true rfl)) dL_law_276 (kl_room (by omega) (by omega))) hP hD hS hA [12] [0, 1, 2, 3, 4, 5, 6, 7, 8, 9, 10, 11, 13, 14, 15, 16, 17, 18, 19, 20, 21] rfl rfl (by decide) (by decide) (fun r_13 u_14 H locs hw_15 hP hD hS => ?_)
    obtain ⟨t9_16, rfl⟩ : ∃ z, z = u_14 := ⟨_, rfl⟩
    have hP : va_P (dC, dI) vwCl [(oR, .inr (2, [.ref oS])), (oN, .inr (1, [.ref oS, .ref rp, .ref rt, .ref rl])), (rp, .inl (cI, 72, .inl fp)), (rt, .inl (cI, 72, .inl ft)), (rl, .inl (cI, 72, .inl fl)), (o2, .inr (1, [.ref oS, .ref q1, .ref q2, .ref q3])), (q1, .inl (cI, 72, .inl z1)), (q2, .inl (cI, 72, .inl z2)), (q3, .inl (cI, 72, .inl z3)), (oF, .inr (0, [.ref oS, .ref oN])), (oT, .inr (4, [.ref rc, .int (nI n)])), (rc, .inl (cI, 60, .inl cd)), (rz, .inl (cI, 389, .inl z)), (r2, .inl (cI, 2334, .inl zs)), (rb, .inl (cI, 60, .inl cd)), (rq, .inl (cI, 72, .inl pt)), (oX, .inr (5, [.ref oS, .ref oR, .ref oN, .ref o2, .ref oF, .ref oT])), (oS, .inr (3, [.ref rv, .ref rs, .int (nI kc)])), (rv, .inl (cI, 385, .inl v)), (rs, .inl (cI, 2310, .inl sv)), (ro, .inl (cL, 1, .inr (.inl fo))), (oM, .inr (6, [.int t9_16, .ref rz, .ref r2, .int (nI kc), .ref rb, .int (nI n), .int tp, .int lf, .int hg, .int wd, .ref rq, .int pm, .int stt, .long hh]))] H := hP
    have hD : va_D A [(oR, .inr (2, [.ref oS])), (oN, .inr (1, [.ref oS, .ref rp, .ref rt, .ref rl])), (rp, .inl (cI, 72, .inl fp)), (rt, .inl (cI, 72, .inl ft)), (rl, .inl (cI, 72, .inl fl)), (o2, .inr (1, [.ref oS, .ref q1, .ref q2, .ref q3])), (q1, .inl (cI, 72, .inl z1)), (q2, .inl (cI, 72, .inl z2)), (q3, .inl (cI, 72, .inl z3)), (oF, .inr (0, [.ref oS, .ref oN])), (oT, .inr (4, [.ref rc, .int (nI n)])), (rc, .inl (cI, 60, .inl cd)), (rz, .inl (cI, 389, .inl z)), (r2, .inl (cI, 2334, .inl zs)), (rb, .inl (cI, 60, .inl cd)), (rq, .inl (cI, 72, .inl pt)), (oX, .inr (5, [.ref oS, .ref oR, .ref oN, .ref o2, .ref oF, .ref oT])), (oS, .inr (3, [.ref rv, .ref rs, .int (nI kc)])), (rv, .inl (cI, 385, .inl v)), (rs, .inl (cI, 2310, .inl sv)), (ro, .inl (cL, 1, .inr (.inl fo))), (oM, .inr (6, [.int t9_16, .ref rz, .ref r2, .int (nI kc), .ref rb, .int (nI n), .int tp, .int lf, .int hg, .int wd, .ref rq, .int pm, .int stt, .long hh]))] := hD
    try dsimp only at hw_15
    have ht1 := hw_15
    obtain ⟨hth, hr0⟩ := kq_tr (A := (0 ≤ x1 ∧ x1 < 3)) (B := (4 ≤ x2 ∧ x2 ≤ 16)) (A' := (0 ≤ x1 ∧ x1 ≤ 2)) (B' := (4 ≤ x2 ∧ x2 ≤ 16)) (by first | exact Iff.rfl | simp only [kq_l3, kq_l6, kq_l16, kq_l12, kq_l4, kq_lk, and_assoc]) (by first | exact Iff.rfl | simp only [kq_l3, kq_l6, kq_l16, kq_l12, kq_l4, kq_lk, and_assoc]) (fun q => hG (by first | exact q | simpa only [and_assoc] using q)) hr1 ht1
    refine lv_istore (lv' := [(6, .int r_13), (5, .int r_10), (0, .ref b), (1, .ref oX), (2, .ref oM), (3, .ref ro), (4, .int (nI (6 * j)))]) hx hb dL_law_279 hl (by decide) rfl (fun ls hl => ?_)
    refine lv_aload_n hx hb dL_law_281 rfl (lv_at hl 4 rfl) ?_
    refine kq_cV (As := []) (rest := []) ⟨hx, hb, hml, hown, hts⟩ (c_X6_thrown l dC dI cI oM rz r2 rb rq kc n t9_16 tp lf hg wd pm stt hh z v ) (cwV 0 hts gL_law_X6_thrown rfl rfl rfl (by decide +kernel) ⟨Nat.le_of_ble_eq_true rfl, Nat.le_of_ble_eq_true rfl⟩) (hP.sub [21] rfl) hK (ci := 6) (q0 := 0) rfl rfl rfl rfl hl.1 rfl (Nat.le_of_ble_eq_true rfl) dL_law_282 (kl_room (by omega) (by omega)) ?_
    refine lv_iload hx hb dL_law_285 (lv_at hl 1 rfl) ?_
    refine lv_icmp_eq (tgt := 292) hx hb dL_law_287 (by decide) (fun _ => ?_) (fun c_17 => absurd hth c_17)
    refine lv_iload hx hb dL_law_292 (lv_at hl 1 rfl) ?_
    refine lv_if_ne (tgt := 309) hx hb dL_law_294 (by decide) (fun _ => ?_) (fun c_18 => absurd c_18 hr0)
    refine lv_goto (tgt := 1562) hx hb dL_law_309 (by decide) ?_
    refine W.widen (k := 28 + (j + 1)) (n := 6079 + 6 * (j + 1)) (by omega) (by omega) ?_
    subst hAe
    exact kk kc n v sv fp ft fl z1 z2 z3 cd z zs pt t9_16 tp lf hg wd pm stt hh fo (hI9) _ _ (hP.sub [16, 17, 18, 19, 0, 1, 2, 3, 4, 5, 6, 7, 8, 9, 10, 11, 21, 12, 13, 14, 15, 20] rfl) (hD.sub [16, 17, 18, 19, 0, 1, 2, 3, 4, 5, 6, 7, 8, 9, 10, 11, 21, 12, 13, 14, 15, 20] (by decide) rfl) hS ls (lv_sub hl [2, 3, 4, 5, 6] rfl)
set_option maxHeartbeats 8000000 in
set_option maxRecDepth 100000 in
theorem kl_turn {p : Program} {l : Launch} {e : Env} {s : State} {m : MethodId} {below : List Frame} {meth : Method} {c : Code} {b L : Nat} {xs : Nat → Int32} {dC : Nat → ClassId} {dI : Nat → Nat → Nat} {cI cL : ClassId} {s1 s2 s3 s4 : Nat} {oX oS oR oN o2 oF oT rv rs rp rt rl q1 q2 q3 rc oM rz r2 rb rq ro : Nat} (C0 : kl_C p l s m meth c b L xs dC dI cI cL s1 s2 s3 s4) (j : Nat) (hj : 6 * j + 6 ≤ L) (kk : kl_K p l e s m below meth c b dC dI cI cL oX oS oR oN o2 oF oT rv rs rp rt rl q1 q2 q3 rc oM rz r2 rb rq ro 1562 (j) (j + 1)) : kl_K p l e s m below meth c b dC dI cI cL oX oS oR oN o2 oF oT rv rs rp rt rl q1 q2 q3 rc oM rz r2 rb rq ro 312 (j) (j) := by
  obtain ⟨hls, ⟨hx, hb, hr, hml, hown, hts0, hX, hbl, hlocks, hgv⟩, hL, hK, hKL, hT⟩ := C0
  intro kc n v sv fp ft fl z1 z2 z3 cd z zs pt th tp lf hg wd pm stt hh fo hI9 H locs hP hD hS ls hl
  have hown : s.vm.findClass RL = some m.cls := hown
  have hb : c.code = cL_law := hb
  have hts : ∀ w ∈ wsL_law, w.before #[Value.ref b] s = true := fun w h => hts0 w (wsL_law_in w h)
  have hA : ∀ q : Nat, s.heap.size ≤ q → (fun q => s.heap.size ≤ q) q := fun _ h => h
  have hbA : ¬ (fun q => s.heap.size ≤ q) b := Nat.not_le.mpr hbl
  generalize hAe : (fun q => s.heap.size ≤ q) = A at hP hD hS hT hA hbA
  obtain ⟨hkc, hn, hI, hz, hsv⟩ := id hI9
  obtain ⟨x1, e1⟩ : ∃ x, x = xs (6 * j + 1) := ⟨_, rfl⟩
  obtain ⟨x2, e2⟩ : ∃ x, x = xs (6 * j + 2) := ⟨_, rfl⟩
  by_cases hG : (0 ≤ x1 ∧ x1 < 3) ∧ (-99 ≤ x2 ∧ x2 ≤ 99)
  · skip
    obtain ⟨a9, ha9, rfl⟩ := kq_nat (k := 3) hG.1 (by decide)
    have hx8 := hG.2
    obtain ⟨k9, hu9, hx9⟩ := kq_99x hx8
    refine lv_aload_n hx hb dL_law_312 rfl (lv_at hl 1 rfl) ?_
    refine lv_aload_n hx hb dL_law_313 rfl (lv_at hl 0 rfl) ?_
    refine lv_iload hx hb dL_law_314 (lv_at hl 4 rfl) ?_
    refine lv_iconst (v := 1) hx hb dL_law_316 (by decide) ?_
    refine lv_iadd hx hb dL_law_317 ?_
    refine kq_top (z := nI ((6 * j) + 1)) (nI_add (6 * j) 1) ?_
    refine va_sld hx hb hX hbl hbA hS (vp_in_nI (show (6 * j) + 1 < L from by omega) (by omega)) dL_law_318 ?_
    refine kq_top (z := nI a9) ((congrArg xs (nI_clamp (Nat.lt_trans (show (6 * j) + 1 < L from by omega) (by omega)))).trans e1.symm) ?_
    refine lv_aload_n hx hb dL_law_319 rfl (lv_at hl 0 rfl) ?_
    refine lv_iload hx hb dL_law_320 (lv_at hl 4 rfl) ?_
    refine lv_iconst (v := 2) hx hb dL_law_322 (by decide) ?_
    refine lv_iadd hx hb dL_law_323 ?_
    refine kq_top (z := nI ((6 * j) + 2)) (nI_add (6 * j) 2) ?_
    refine va_sld hx hb hX hbl hbA hS (vp_in_nI (show (6 * j) + 2 < L from by omega) (by omega)) dL_law_324 ?_
    refine kq_top (z := x2) ((congrArg xs (nI_clamp (Nat.lt_trans (show (6 * j) + 2 < L from by omega) (by omega)))).trans e2.symm) ?_
    refine lv_aload_n hx hb dL_law_325 rfl (lv_at hl 3 rfl) ?_
    refine kq_callMi (wr := [(oN, .inr (1, [.ref oS, .ref rp, .ref rt, .ref rl])), (rp, .inl (cI, 72, .inl fp)), (rt, .inl (cI, 72, .inl ft)), (rl, .inl (cI, 72, .inl fl)), (o2, .inr (1, [.ref oS, .ref q1, .ref q2, .ref q3])), (q1, .inl (cI, 72, .inl z1)), (q2, .inl (cI, 72, .inl z2)), (q3, .inl (cI, 72, .inl z3)), (oF, .inr (0, [.ref oS, .ref oN])), (oT, .inr (4, [.ref rc, .int (nI n)])), (rc, .inl (cI, 60, .inl cd)), (oM, .inr (6, [.int th, .ref rz, .ref r2, .int (nI kc), .ref rb, .int (nI n), .int tp, .int lf, .int hg, .int wd, .ref rq, .int pm, .int stt, .long hh])), (rz, .inl (cI, 389, .inl z)), (r2, .inl (cI, 2334, .inl zs)), (rb, .inl (cI, 60, .inl cd)), (rq, .inl (cI, 72, .inl pt))]) (vx_runSW (As := [.ref oX, .int (nI a9), .int x2, .ref ro]) (rest := []) ⟨hx, hb, hml, hown, hts⟩ (c_L_turn_o l hls dC dI cI cL s1 s2 s3 s4 H.size oX oS oR oN o2 oF oT rv rs kc v sv a9 k9 x2 ro fo (by first | assumption | omega) (by first | assumption | omega) (by first | assumption | omega) (by first | assumption | omega) (by first | assumption | omega) (by first | assumption | omega)) (vx_cwSW 4 hts gL_law_L_turn rfl rfl rfl (by decide +kernel) ⟨Nat.le_of_ble_eq_true rfl, Nat.le_of_ble_eq_true rfl⟩) (kq_preSH (hP.sub [0, 1, 2, 3, 4, 21] rfl) (hD.sub [0, 1, 2, 3, 4, 21] (by decide) rfl) hS hA hK hKL hT) rfl rfl hl.1 rfl (lv_room (Nat.le_of_ble_eq_true rfl)) dL_law_326 (kl_room (by omega) (by omega))) hP hD hS hA [0, 1, 2, 3, 4, 21] [5, 6, 7, 8, 9, 10, 11, 12, 13, 14, 15, 16, 17, 18, 19, 20] rfl rfl (by decide) (by decide) (fun r_1 u_2 H locs hw_3 hP hD hS => ?_)
    obtain ⟨go_4, rfl⟩ : ∃ z, z = u_2 := ⟨_, rfl⟩
    have hP : va_P (dC, dI) vwCl [(oN, .inr (1, [.ref oS, .ref rp, .ref rt, .ref rl])), (rp, .inl (cI, 72, .inl fp)), (rt, .inl (cI, 72, .inl ft)), (rl, .inl (cI, 72, .inl fl)), (o2, .inr (1, [.ref oS, .ref q1, .ref q2, .ref q3])), (q1, .inl (cI, 72, .inl z1)), (q2, .inl (cI, 72, .inl z2)), (q3, .inl (cI, 72, .inl z3)), (oF, .inr (0, [.ref oS, .ref oN])), (oT, .inr (4, [.ref rc, .int (nI n)])), (rc, .inl (cI, 60, .inl cd)), (oM, .inr (6, [.int th, .ref rz, .ref r2, .int (nI kc), .ref rb, .int (nI n), .int tp, .int lf, .int hg, .int wd, .ref rq, .int pm, .int stt, .long hh])), (rz, .inl (cI, 389, .inl z)), (r2, .inl (cI, 2334, .inl zs)), (rb, .inl (cI, 60, .inl cd)), (rq, .inl (cI, 72, .inl pt)), (oX, .inr (5, [.ref oS, .ref oR, .ref oN, .ref o2, .ref oF, .ref oT])), (oS, .inr (3, [.ref rv, .ref rs, .int (nI (min (kc + 1) 6))])), (rv, .inl (cI, 385, .inl (upd v (291 + a9) (nI ((n_p v a9 + k9 + 100 * n_c v a9 - 99) % n_c v a9))))), (rs, .inl (cI, 2310, .inl (n_push v sv))), (oR, .inr (2, [.ref oS])), (ro, .inl (cL, 1, .inr (.inl go_4)))] H := hP
    have hD : va_D A [(oN, .inr (1, [.ref oS, .ref rp, .ref rt, .ref rl])), (rp, .inl (cI, 72, .inl fp)), (rt, .inl (cI, 72, .inl ft)), (rl, .inl (cI, 72, .inl fl)), (o2, .inr (1, [.ref oS, .ref q1, .ref q2, .ref q3])), (q1, .inl (cI, 72, .inl z1)), (q2, .inl (cI, 72, .inl z2)), (q3, .inl (cI, 72, .inl z3)), (oF, .inr (0, [.ref oS, .ref oN])), (oT, .inr (4, [.ref rc, .int (nI n)])), (rc, .inl (cI, 60, .inl cd)), (oM, .inr (6, [.int th, .ref rz, .ref r2, .int (nI kc), .ref rb, .int (nI n), .int tp, .int lf, .int hg, .int wd, .ref rq, .int pm, .int stt, .long hh])), (rz, .inl (cI, 389, .inl z)), (r2, .inl (cI, 2334, .inl zs)), (rb, .inl (cI, 60, .inl cd)), (rq, .inl (cI, 72, .inl pt)), (oX, .inr (5, [.ref oS, .ref oR, .ref oN, .ref o2, .ref oF, .ref oT])), (oS, .inr (3, [.ref rv, .ref rs, .int (nI (min (kc + 1) 6))])), (rv, .inl (cI, 385, .inl (upd v (291 + a9) (nI ((n_p v a9 + k9 + 100 * n_c v a9 - 99) % n_c v a9))))), (rs, .inl (cI, 2310, .inl (n_push v sv))), (oR, .inr (2, [.ref oS])), (ro, .inl (cL, 1, .inr (.inl go_4)))] := hD
    try dsimp only at hw_3
    obtain ⟨rfl, hgo⟩ := hw_3
    have hP : va_P (dC, dI) vwCl [(oN, .inr (1, [.ref oS, .ref rp, .ref rt, .ref rl])), (rp, .inl (cI, 72, .inl fp)), (rt, .inl (cI, 72, .inl ft)), (rl, .inl (cI, 72, .inl fl)), (o2, .inr (1, [.ref oS, .ref q1, .ref q2, .ref q3])), (q1, .inl (cI, 72, .inl z1)), (q2, .inl (cI, 72, .inl z2)), (q3, .inl (cI, 72, .inl z3)), (oF, .inr (0, [.ref oS, .ref oN])), (oT, .inr (4, [.ref rc, .int (nI n)])), (rc, .inl (cI, 60, .inl cd)), (oM, .inr (6, [.int th, .ref rz, .ref r2, .int (nI kc), .ref rb, .int (nI n), .int tp, .int lf, .int hg, .int wd, .ref rq, .int pm, .int stt, .long hh])), (rz, .inl (cI, 389, .inl z)), (r2, .inl (cI, 2334, .inl zs)), (rb, .inl (cI, 60, .inl cd)), (rq, .inl (cI, 72, .inl pt)), (oX, .inr (5, [.ref oS, .ref oR, .ref oN, .ref o2, .ref oF, .ref oT])), (oS, .inr (3, [.ref rv, .ref rs, .int (nI (min (kc + 1) 6))])), (rv, .inl (cI, 385, .inl (upd v (291 + a9) (nI ((n_p v a9 + k9 + 100 * n_c v a9 - 99) % n_c v a9))))), (rs, .inl (cI, 2310, .inl (n_push v sv))), (oR, .inr (2, [.ref oS])), (ro, .inl (cL, 1, .inr (.inl go_4)))] H := hP
    have hD : va_D A [(oN, .inr (1, [.ref oS, .ref rp, .ref rt, .ref rl])), (rp, .inl (cI, 72, .inl fp)), (rt, .inl (cI, 72, .inl ft)), (rl, .inl (cI, 72, .inl fl)), (o2, .inr (1, [.ref oS, .ref q1, .ref q2, .ref q3])), (q1, .inl (cI, 72, .inl z1)), (q2, .inl (cI, 72, .inl z2)), (q3, .inl (cI, 72, .inl z3)), (oF, .inr (0, [.ref oS, .ref oN])), (oT, .inr (4, [.ref rc, .int (nI n)])), (rc, .inl (cI, 60, .inl cd)), (oM, .inr (6, [.int th, .ref rz, .ref r2, .int (nI kc), .ref rb, .int (nI n), .int tp, .int lf, .int hg, .int wd, .ref rq, .int pm, .int stt, .long hh])), (rz, .inl (cI, 389, .inl z)), (r2, .inl (cI, 2334, .inl zs)), (rb, .inl (cI, 60, .inl cd)), (rq, .inl (cI, 72, .inl pt)), (oX, .inr (5, [.ref oS, .ref oR, .ref oN, .ref o2, .ref oF, .ref oT])), (oS, .inr (3, [.ref rv, .ref rs, .int (nI (min (kc + 1) 6))])), (rv, .inl (cI, 385, .inl (upd v (291 + a9) (nI ((n_p v a9 + k9 + 100 * n_c v a9 - 99) % n_c v a9))))), (rs, .inl (cI, 2310, .inl (n_push v sv))), (oR, .inr (2, [.ref oS])), (ro, .inl (cL, 1, .inr (.inl go_4)))] := hD
    refine lv_istore (lv' := [(5, .int 0), (0, .ref b), (1, .ref oX), (2, .ref oM), (3, .ref ro), (4, .int (nI (6 * j)))]) hx hb dL_law_329 hl (by decide) rfl (fun ls hl => ?_)
    refine lv_aload_n hx hb dL_law_331 rfl (lv_at hl 3 rfl) ?_
    refine lv_aload_n hx hb dL_law_332 rfl (lv_at hl 1 rfl) ?_
    refine lv_iload hx hb dL_law_333 (lv_at hl 5 rfl) ?_
    refine lv_iconst (v := 1) hx hb dL_law_335 (by decide) ?_
    refine lv_iadd hx hb dL_law_336 ?_
    refine kq_top (z := nI ((6 * j) + 1)) (nI_add (6 * j) 1) ?_
    refine va_sld hx hb hX hbl hbA hS (vp_in_nI (show (6 * j) + 1 < L from by omega) (by omega)) dL_law_337 ?_
    refine kq_top (z := nI a9) ((congrArg xs (nI_clamp (Nat.lt_trans (show (6 * j) + 1 < L from by omega) (by omega)))).trans e1.symm) ?_
    refine lv_aload_n hx hb dL_law_338 rfl (lv_at hl 1 rfl) ?_
    refine lv_iload hx hb dL_law_339 (lv_at hl 5 rfl) ?_
    refine lv_iconst (v := 2) hx hb dL_law_341 (by decide) ?_
    refine lv_iadd hx hb dL_law_342 ?_
    refine kq_top (z := nI ((6 * j) + 2)) (nI_add (6 * j) 2) ?_
    refine va_sld hx hb hX hbl hbA hS (vp_in_nI (show (6 * j) + 2 < L from by omega) (by omega)) dL_law_343 ?_
    refine kq_top (z := x2) ((congrArg xs (nI_clamp (Nat.lt_trans (show (6 * j) + 2 < L from by omega) (by omega)))).trans e2.symm) ?_
    refine kq_callMi (wr := [(oN, .inr (1, [.ref oS, .ref rp, .ref rt, .ref rl])), (rp, .inl (cI, 72, .inl fp)), (rt, .inl (cI, 72, .inl ft)), (rl, .inl (cI, 72, .inl fl)), (o2, .inr (1, [.ref oS, .ref q1, .ref q2, .ref q3])), (q1, .inl (cI, 72, .inl z1)), (q2, .inl (cI, 72, .inl z2)), (q3, .inl (cI, 72, .inl z3)), (oF, .inr (0, [.ref oS, .ref oN])), (oT, .inr (4, [.ref rc, .int (nI n)])), (rc, .inl (cI, 60, .inl cd)), (rb, .inl (cI, 60, .inl cd)), (rq, .inl (cI, 72, .inl pt)), (oX, .inr (5, [.ref oS, .ref oR, .ref oN, .ref o2, .ref oF, .ref oT])), (oS, .inr (3, [.ref rv, .ref rs, .int (nI (min (kc + 1) 6))])), (rv, .inl (cI, 385, .inl (upd v (291 + a9) (nI ((n_p v a9 + k9 + 100 * n_c v a9 - 99) % n_c v a9))))), (rs, .inl (cI, 2310, .inl (n_push v sv))), (oR, .inr (2, [.ref oS])), (ro, .inl (cL, 1, .inr (.inl go_4)))]) (va_runV (As := [.int (nI a9), .int x2]) (rest := []) ⟨hx, hb, hml, hown, hts⟩ (c_X6_turn l dC dI cI H.size oM rz r2 rb rq kc n th tp lf hg wd pm stt hh z zs cd pt v a9 k9 x2 (by first | assumption | omega) (by first | assumption | omega) (by first | assumption | omega) (by first | assumption | omega) (by first | assumption | omega) (by first | assumption | omega) (by first | assumption | omega)) (cwV 2 hts gL_law_X6_turn rfl rfl rfl (by decide +kernel) ⟨Nat.le_of_ble_eq_true rfl, Nat.le_of_ble_eq_true rfl⟩) (kq_preV (ci := 6) (q0 := 0) (hP.sub [11, 12, 13] rfl) (hD.sub [11, 12, 13] (by decide) rfl) hK rfl rfl) rfl rfl hl.1 rfl (lv_room (Nat.le_of_ble_eq_true rfl)) dL_law_344 (kl_room (by omega) (by omega))) hP hD hS hA [11, 12, 13] [0, 1, 2, 3, 4, 5, 6, 7, 8, 9, 10, 14, 15, 16, 17, 18, 19, 20, 21] rfl rfl (by decide) (by decide) (fun r_5 u_6 H locs hw_7 hP hD hS => ?_)
    obtain ⟨ys_8, rfl⟩ : ∃ z, z = u_6 := ⟨_, rfl⟩
    have hP : va_P (dC, dI) vwCl [(oN, .inr (1, [.ref oS, .ref rp, .ref rt, .ref rl])), (rp, .inl (cI, 72, .inl fp)), (rt, .inl (cI, 72, .inl ft)), (rl, .inl (cI, 72, .inl fl)), (o2, .inr (1, [.ref oS, .ref q1, .ref q2, .ref q3])), (q1, .inl (cI, 72, .inl z1)), (q2, .inl (cI, 72, .inl z2)), (q3, .inl (cI, 72, .inl z3)), (oF, .inr (0, [.ref oS, .ref oN])), (oT, .inr (4, [.ref rc, .int (nI n)])), (rc, .inl (cI, 60, .inl cd)), (rb, .inl (cI, 60, .inl cd)), (rq, .inl (cI, 72, .inl pt)), (oX, .inr (5, [.ref oS, .ref oR, .ref oN, .ref o2, .ref oF, .ref oT])), (oS, .inr (3, [.ref rv, .ref rs, .int (nI (min (kc + 1) 6))])), (rv, .inl (cI, 385, .inl (upd v (291 + a9) (nI ((n_p v a9 + k9 + 100 * n_c v a9 - 99) % n_c v a9))))), (rs, .inl (cI, 2310, .inl (n_push v sv))), (oR, .inr (2, [.ref oS])), (ro, .inl (cL, 1, .inr (.inl go_4))), (oM, .inr (6, [.int 0, .ref rz, .ref r2, .int (nI (min (kc + 1) 6)), .ref rb, .int (nI n), .int tp, .int lf, .int hg, .int wd, .ref rq, .int pm, .int stt, .long hh])), (rz, .inl (cI, 389, .inl (upd z (6 + a9) (nI ((n_p v a9 + k9 + 100 * n_c v a9 - 99) % n_c v a9))))), (r2, .inl (cI, 2334, .inl ys_8))] H := hP
    have hD : va_D A [(oN, .inr (1, [.ref oS, .ref rp, .ref rt, .ref rl])), (rp, .inl (cI, 72, .inl fp)), (rt, .inl (cI, 72, .inl ft)), (rl, .inl (cI, 72, .inl fl)), (o2, .inr (1, [.ref oS, .ref q1, .ref q2, .ref q3])), (q1, .inl (cI, 72, .inl z1)), (q2, .inl (cI, 72, .inl z2)), (q3, .inl (cI, 72, .inl z3)), (oF, .inr (0, [.ref oS, .ref oN])), (oT, .inr (4, [.ref rc, .int (nI n)])), (rc, .inl (cI, 60, .inl cd)), (rb, .inl (cI, 60, .inl cd)), (rq, .inl (cI, 72, .inl pt)), (oX, .inr (5, [.ref oS, .ref oR, .ref oN, .ref o2, .ref oF, .ref oT])), (oS, .inr (3, [.ref rv, .ref rs, .int (nI (min (kc + 1) 6))])), (rv, .inl (cI, 385, .inl (upd v (291 + a9) (nI ((n_p v a9 + k9 + 100 * n_c v a9 - 99) % n_c v a9))))), (rs, .inl (cI, 2310, .inl (n_push v sv))), (oR, .inr (2, [.ref oS])), (ro, .inl (cL, 1, .inr (.inl go_4))), (oM, .inr (6, [.int 0, .ref rz, .ref r2, .int (nI (min (kc + 1) 6)), .ref rb, .int (nI n), .int tp, .int lf, .int hg, .int wd, .ref rq, .int pm, .int stt, .long hh])), (rz, .inl (cI, 389, .inl (upd z (6 + a9) (nI ((n_p v a9 + k9 + 100 * n_c v a9 - 99) % n_c v a9))))), (r2, .inl (cI, 2334, .inl ys_8))] := hD
    try dsimp only at hw_7
    obtain ⟨hr2, hsv2⟩ := hw_7
    refine lv_istore (lv' := [(6, .int r_5), (5, .int 0), (0, .ref b), (1, .ref oX), (2, .ref oM), (3, .ref ro), (4, .int (nI (6 * j)))]) hx hb dL_law_347 hl (by decide) rfl (fun ls hl => ?_)
    refine lv_aload_n hx hb dL_law_349 rfl (lv_at hl 4 rfl) ?_
    refine kq_cV (As := []) (rest := []) ⟨hx, hb, hml, hown, hts⟩ (c_X6_thrown l dC dI cI oM rz r2 rb rq (min (kc + 1) 6) n 0 tp lf hg wd pm stt hh z v ) (cwV 0 hts gL_law_X6_thrown rfl rfl rfl (by decide +kernel) ⟨Nat.le_of_ble_eq_true rfl, Nat.le_of_ble_eq_true rfl⟩) (hP.sub [19] rfl) hK (ci := 6) (q0 := 0) rfl rfl rfl rfl hl.1 rfl (Nat.le_of_ble_eq_true rfl) dL_law_350 (kl_room (by omega) (by omega)) ?_
    refine lv_iload hx hb dL_law_353 (lv_at hl 1 rfl) ?_
    refine lv_icmp_eq (tgt := 360) hx hb dL_law_355 (by decide) (fun _ => ?_) (fun q => absurd q (by decide))
    refine lv_iload hx hb dL_law_360 (lv_at hl 1 rfl) ?_
    refine lv_if_ne (tgt := 377) hx hb dL_law_362 (by decide) (fun q => absurd q (by decide)) (fun _ => ?_)
    refine lv_aload_n hx hb dL_law_365 rfl (lv_at hl 5 rfl) ?_
    refine lv_iconst (v := 0) hx hb dL_law_366 (by decide) ?_
    refine va_lald hx hb hKL hP 18 0 rfl rfl (show ¬ ((0:Int32) < 0 ∨ 1 ≤ Int32.toNatClampNeg 0) by decide) dL_law_367 ?_
    refine kq_topl (z := (nI ((n_p v a9 + k9 + 100 * n_c v a9 - 99) % n_c v a9) : Int32).toInt64) (hgo) ?_
    refine lv_iload hx hb dL_law_368 (lv_at hl 0 rfl) ?_
    refine lv_i2l (v := (r_5 : Int32).toInt64) hx hb dL_law_370 rfl ?_
    refine W.lcmp hx hb dL_law_371 ?_
    refine lv_if_eq (tgt := 377) hx hb dL_law_372 (by decide) (fun _ => ?_) (fun c_9 => absurd (kq_lce (hr2.symm)) c_9)
    refine lv_goto (tgt := 1562) hx hb dL_law_377 (by decide) ?_
    refine W.widen (k := 28 + (j + 1)) (n := 6079 + 6 * (j + 1)) (by omega) (by omega) ?_
    subst hAe
    exact kk (min (kc + 1) 6) n (upd v (291 + a9) (nI ((n_p v a9 + k9 + 100 * n_c v a9 - 99) % n_c v a9))) (n_push v sv) fp ft fl z1 z2 z3 cd (upd z (6 + a9) (nI ((n_p v a9 + k9 + 100 * n_c v a9 - 99) % n_c v a9))) ys_8 pt 0 tp lf hg wd pm stt hh go_4 (⟨by omega, hn, n_I_phase hI ha9 (Nat.mod_lt _ (by have := n_I_c4 hI ha9; omega)), n_Z_phase hz ha9, n_SV_push hkc hsv hI hz hsv2⟩) _ _ (hP.sub [13, 14, 15, 16, 17, 0, 1, 2, 3, 4, 5, 6, 7, 8, 9, 10, 19, 20, 21, 11, 12, 18] rfl) (hD.sub [13, 14, 15, 16, 17, 0, 1, 2, 3, 4, 5, 6, 7, 8, 9, 10, 19, 20, 21, 11, 12, 18] (by decide) rfl) hS ls (lv_sub hl [2, 3, 4, 5, 6] rfl)
  · skip
    refine lv_aload_n hx hb dL_law_312 rfl (lv_at hl 1 rfl) ?_
    refine lv_aload_n hx hb dL_law_313 rfl (lv_at hl 0 rfl) ?_
    refine lv_iload hx hb dL_law_314 (lv_at hl 4 rfl) ?_
    refine lv_iconst (v := 1) hx hb dL_law_316 (by decide) ?_
    refine lv_iadd hx hb dL_law_317 ?_
    refine kq_top (z := nI ((6 * j) + 1)) (nI_add (6 * j) 1) ?_
    refine va_sld hx hb hX hbl hbA hS (vp_in_nI (show (6 * j) + 1 < L from by omega) (by omega)) dL_law_318 ?_
    refine kq_top (z := x1) ((congrArg xs (nI_clamp (Nat.lt_trans (show (6 * j) + 1 < L from by omega) (by omega)))).trans e1.symm) ?_
    refine lv_aload_n hx hb dL_law_319 rfl (lv_at hl 0 rfl) ?_
    refine lv_iload hx hb dL_law_320 (lv_at hl 4 rfl) ?_
    refine lv_iconst (v := 2) hx hb dL_law_322 (by decide) ?_
    refine lv_iadd hx hb dL_law_323 ?_
    refine kq_top (z := nI ((6 * j) + 2)) (nI_add (6 * j) 2) ?_
    refine va_sld hx hb hX hbl hbA hS (vp_in_nI (show (6 * j) + 2 < L from by omega) (by omega)) dL_law_324 ?_
    refine kq_top (z := x2) ((congrArg xs (nI_clamp (Nat.lt_trans (show (6 * j) + 2 < L from by omega) (by omega)))).trans e2.symm) ?_
    refine lv_aload_n hx hb dL_law_325 rfl (lv_at hl 3 rfl) ?_
    refine kq_callMi (wr := [(oR, .inr (2, [.ref oS])), (oN, .inr (1, [.ref oS, .ref rp, .ref rt, .ref rl])), (rp, .inl (cI, 72, .inl fp)), (rt, .inl (cI, 72, .inl ft)), (rl, .inl (cI, 72, .inl fl)), (o2, .inr (1, [.ref oS, .ref q1, .ref q2, .ref q3])), (q1, .inl (cI, 72, .inl z1)), (q2, .inl (cI, 72, .inl z2)), (q3, .inl (cI, 72, .inl z3)), (oF, .inr (0, [.ref oS, .ref oN])), (oT, .inr (4, [.ref rc, .int (nI n)])), (rc, .inl (cI, 60, .inl cd)), (oM, .inr (6, [.int th, .ref rz, .ref r2, .int (nI kc), .ref rb, .int (nI n), .int tp, .int lf, .int hg, .int wd, .ref rq, .int pm, .int stt, .long hh])), (rz, .inl (cI, 389, .inl z)), (r2, .inl (cI, 2334, .inl zs)), (rb, .inl (cI, 60, .inl cd)), (rq, .inl (cI, 72, .inl pt))]) (vx_runSW (As := [.ref oX, .int x1, .int x2, .ref ro]) (rest := []) ⟨hx, hb, hml, hown, hts⟩ (c_L_turn_x l hls dC dI cI cL s1 s2 s3 s4 H.size oX oS oR oN o2 oF oT rv rs kc v sv x1 x2 ro fo (by first | assumption | omega)) (vx_cwSW 4 hts gL_law_L_turn rfl rfl rfl (by decide +kernel) ⟨Nat.le_of_ble_eq_true rfl, Nat.le_of_ble_eq_true rfl⟩) (kq_preSH (hP.sub [0, 1, 2, 3, 21] rfl) (hD.sub [0, 1, 2, 3, 21] (by decide) rfl) hS hA hK hKL hT) rfl rfl hl.1 rfl (lv_room (Nat.le_of_ble_eq_true rfl)) dL_law_326 (kl_room (by omega) (by omega))) hP hD hS hA [0, 1, 2, 3, 21] [4, 5, 6, 7, 8, 9, 10, 11, 12, 13, 14, 15, 16, 17, 18, 19, 20] rfl rfl (by decide) (by decide) (fun r_10 u_11 H locs hw_12 hP hD hS => ?_)
    have hP : va_P (dC, dI) vwCl [(oR, .inr (2, [.ref oS])), (oN, .inr (1, [.ref oS, .ref rp, .ref rt, .ref rl])), (rp, .inl (cI, 72, .inl fp)), (rt, .inl (cI, 72, .inl ft)), (rl, .inl (cI, 72, .inl fl)), (o2, .inr (1, [.ref oS, .ref q1, .ref q2, .ref q3])), (q1, .inl (cI, 72, .inl z1)), (q2, .inl (cI, 72, .inl z2)), (q3, .inl (cI, 72, .inl z3)), (oF, .inr (0, [.ref oS, .ref oN])), (oT, .inr (4, [.ref rc, .int (nI n)])), (rc, .inl (cI, 60, .inl cd)), (oM, .inr (6, [.int th, .ref rz, .ref r2, .int (nI kc), .ref rb, .int (nI n), .int tp, .int lf, .int hg, .int wd, .ref rq, .int pm, .int stt, .long hh])), (rz, .inl (cI, 389, .inl z)), (r2, .inl (cI, 2334, .inl zs)), (rb, .inl (cI, 60, .inl cd)), (rq, .inl (cI, 72, .inl pt)), (oX, .inr (5, [.ref oS, .ref oR, .ref oN, .ref o2, .ref oF, .ref oT])), (oS, .inr (3, [.ref rv, .ref rs, .int (nI kc)])), (rv, .inl (cI, 385, .inl v)), (rs, .inl (cI, 2310, .inl sv)), (ro, .inl (cL, 1, .inr (.inl fo)))] H := hP
    have hD : va_D A [(oR, .inr (2, [.ref oS])), (oN, .inr (1, [.ref oS, .ref rp, .ref rt, .ref rl])), (rp, .inl (cI, 72, .inl fp)), (rt, .inl (cI, 72, .inl ft)), (rl, .inl (cI, 72, .inl fl)), (o2, .inr (1, [.ref oS, .ref q1, .ref q2, .ref q3])), (q1, .inl (cI, 72, .inl z1)), (q2, .inl (cI, 72, .inl z2)), (q3, .inl (cI, 72, .inl z3)), (oF, .inr (0, [.ref oS, .ref oN])), (oT, .inr (4, [.ref rc, .int (nI n)])), (rc, .inl (cI, 60, .inl cd)), (oM, .inr (6, [.int th, .ref rz, .ref r2, .int (nI kc), .ref rb, .int (nI n), .int tp, .int lf, .int hg, .int wd, .ref rq, .int pm, .int stt, .long hh])), (rz, .inl (cI, 389, .inl z)), (r2, .inl (cI, 2334, .inl zs)), (rb, .inl (cI, 60, .inl cd)), (rq, .inl (cI, 72, .inl pt)), (oX, .inr (5, [.ref oS, .ref oR, .ref oN, .ref o2, .ref oF, .ref oT])), (oS, .inr (3, [.ref rv, .ref rs, .int (nI kc)])), (rv, .inl (cI, 385, .inl v)), (rs, .inl (cI, 2310, .inl sv)), (ro, .inl (cL, 1, .inr (.inl fo)))] := hD
    try dsimp only at hw_12
    have hr1 := hw_12
    refine lv_istore (lv' := [(5, .int r_10), (0, .ref b), (1, .ref oX), (2, .ref oM), (3, .ref ro), (4, .int (nI (6 * j)))]) hx hb dL_law_329 hl (by decide) rfl (fun ls hl => ?_)
    refine lv_aload_n hx hb dL_law_331 rfl (lv_at hl 3 rfl) ?_
    refine lv_aload_n hx hb dL_law_332 rfl (lv_at hl 1 rfl) ?_
    refine lv_iload hx hb dL_law_333 (lv_at hl 5 rfl) ?_
    refine lv_iconst (v := 1) hx hb dL_law_335 (by decide) ?_
    refine lv_iadd hx hb dL_law_336 ?_
    refine kq_top (z := nI ((6 * j) + 1)) (nI_add (6 * j) 1) ?_
    refine va_sld hx hb hX hbl hbA hS (vp_in_nI (show (6 * j) + 1 < L from by omega) (by omega)) dL_law_337 ?_
    refine kq_top (z := x1) ((congrArg xs (nI_clamp (Nat.lt_trans (show (6 * j) + 1 < L from by omega) (by omega)))).trans e1.symm) ?_
    refine lv_aload_n hx hb dL_law_338 rfl (lv_at hl 1 rfl) ?_
    refine lv_iload hx hb dL_law_339 (lv_at hl 5 rfl) ?_
    refine lv_iconst (v := 2) hx hb dL_law_341 (by decide) ?_
    refine lv_iadd hx hb dL_law_342 ?_
    refine kq_top (z := nI ((6 * j) + 2)) (nI_add (6 * j) 2) ?_
    refine va_sld hx hb hX hbl hbA hS (vp_in_nI (show (6 * j) + 2 < L from by omega) (by omega)) dL_law_343 ?_
    refine kq_top (z := x2) ((congrArg xs (nI_clamp (Nat.lt_trans (show (6 * j) + 2 < L from by omega) (by omega)))).trans e2.symm) ?_
    refine kq_callMi (wr := [(oR, .inr (2, [.ref oS])), (oN, .inr (1, [.ref oS, .ref rp, .ref rt, .ref rl])), (rp, .inl (cI, 72, .inl fp)), (rt, .inl (cI, 72, .inl ft)), (rl, .inl (cI, 72, .inl fl)), (o2, .inr (1, [.ref oS, .ref q1, .ref q2, .ref q3])), (q1, .inl (cI, 72, .inl z1)), (q2, .inl (cI, 72, .inl z2)), (q3, .inl (cI, 72, .inl z3)), (oF, .inr (0, [.ref oS, .ref oN])), (oT, .inr (4, [.ref rc, .int (nI n)])), (rc, .inl (cI, 60, .inl cd)), (rz, .inl (cI, 389, .inl z)), (r2, .inl (cI, 2334, .inl zs)), (rb, .inl (cI, 60, .inl cd)), (rq, .inl (cI, 72, .inl pt)), (oX, .inr (5, [.ref oS, .ref oR, .ref oN, .ref o2, .ref oF, .ref oT])), (oS, .inr (3, [.ref rv, .ref rs, .int (nI kc)])), (rv, .inl (cI, 385, .inl v)), (rs, .inl (cI, 2310, .inl sv)), (ro, .inl (cL, 1, .inr (.inl fo)))]) (va_runV (As := [.int x1, .int x2]) (rest := []) ⟨hx, hb, hml, hown, hts⟩ (c_X6_turn_t l dC dI cI H.size oM rz r2 rb rq kc n th tp lf hg wd pm stt hh z v x1 x2 (fun q => hG (by simpa only [kq_l3, kq_l6, kq_l16, kq_l12, kq_l4, kq_lk, and_assoc] using q))) (cwV 2 hts gL_law_X6_turn rfl rfl rfl (by decide +kernel) ⟨Nat.le_of_ble_eq_true rfl, Nat.le_of_ble_eq_true rfl⟩) (kq_preV (ci := 6) (q0 := 0) (hP.sub [12] rfl) (hD.sub [12] (by decide) rfl) hK rfl rfl) rfl rfl hl.1 rfl (lv_room (Nat.le_of_ble_eq_true rfl)) dL_law_344 (kl_room (by omega) (by omega))) hP hD hS hA [12] [0, 1, 2, 3, 4, 5, 6, 7, 8, 9, 10, 11, 13, 14, 15, 16, 17, 18, 19, 20, 21] rfl rfl (by decide) (by decide) (fun r_13 u_14 H locs hw_15 hP hD hS => ?_)
    obtain ⟨t9_16, rfl⟩ : ∃ z, z = u_14 := ⟨_, rfl⟩
    have hP : va_P (dC, dI) vwCl [(oR, .inr (2, [.ref oS])), (oN, .inr (1, [.ref oS, .ref rp, .ref rt, .ref rl])), (rp, .inl (cI, 72, .inl fp)), (rt, .inl (cI, 72, .inl ft)), (rl, .inl (cI, 72, .inl fl)), (o2, .inr (1, [.ref oS, .ref q1, .ref q2, .ref q3])), (q1, .inl (cI, 72, .inl z1)), (q2, .inl (cI, 72, .inl z2)), (q3, .inl (cI, 72, .inl z3)), (oF, .inr (0, [.ref oS, .ref oN])), (oT, .inr (4, [.ref rc, .int (nI n)])), (rc, .inl (cI, 60, .inl cd)), (rz, .inl (cI, 389, .inl z)), (r2, .inl (cI, 2334, .inl zs)), (rb, .inl (cI, 60, .inl cd)), (rq, .inl (cI, 72, .inl pt)), (oX, .inr (5, [.ref oS, .ref oR, .ref oN, .ref o2, .ref oF, .ref oT])), (oS, .inr (3, [.ref rv, .ref rs, .int (nI kc)])), (rv, .inl (cI, 385, .inl v)), (rs, .inl (cI, 2310, .inl sv)), (ro, .inl (cL, 1, .inr (.inl fo))), (oM, .inr (6, [.int t9_16, .ref rz, .ref r2, .int (nI kc), .ref rb, .int (nI n), .int tp, .int lf, .int hg, .int wd, .ref rq, .int pm, .int stt, .long hh]))] H := hP
    have hD : va_D A [(oR, .inr (2, [.ref oS])), (oN, .inr (1, [.ref oS, .ref rp, .ref rt, .ref rl])), (rp, .inl (cI, 72, .inl fp)), (rt, .inl (cI, 72, .inl ft)), (rl, .inl (cI, 72, .inl fl)), (o2, .inr (1, [.ref oS, .ref q1, .ref q2, .ref q3])), (q1, .inl (cI, 72, .inl z1)), (q2, .inl (cI, 72, .inl z2)), (q3, .inl (cI, 72, .inl z3)), (oF, .inr (0, [.ref oS, .ref oN])), (oT, .inr (4, [.ref rc, .int (nI n)])), (rc, .inl (cI, 60, .inl cd)), (rz, .inl (cI, 389, .inl z)), (r2, .inl (cI, 2334, .inl zs)), (rb, .inl (cI, 60, .inl cd)), (rq, .inl (cI, 72, .inl pt)), (oX, .inr (5, [.ref oS, .ref oR, .ref oN, .ref o2, .ref oF, .ref oT])), (oS, .inr (3, [.ref rv, .ref rs, .int (nI kc)])), (rv, .inl (cI, 385, .inl v)), (rs, .inl (cI, 2310, .inl sv)), (ro, .inl (cL, 1, .inr (.inl fo))), (oM, .inr (6, [.int t9_16, .ref rz, .ref r2, .int (nI kc), .ref rb, .int (nI n), .int tp, .int lf, .int hg, .int wd, .ref rq, .int pm, .int stt, .long hh]))] := hD
    try dsimp only at hw_15
    have ht1 := hw_15
    obtain ⟨hth, hr0⟩ := kq_tr (A := (0 ≤ x1 ∧ x1 < 3)) (B := (-99 ≤ x2 ∧ x2 ≤ 99)) (A' := (0 ≤ x1 ∧ x1 ≤ 2)) (B' := (-99 ≤ x2 ∧ x2 ≤ 99)) (by first | exact Iff.rfl | simp only [kq_l3, kq_l6, kq_l16, kq_l12, kq_l4, kq_lk, and_assoc]) (by first | exact Iff.rfl | simp only [kq_l3, kq_l6, kq_l16, kq_l12, kq_l4, kq_lk, and_assoc]) (fun q => hG (by first | exact q | simpa only [and_assoc] using q)) hr1 ht1
    refine lv_istore (lv' := [(6, .int r_13), (5, .int r_10), (0, .ref b), (1, .ref oX), (2, .ref oM), (3, .ref ro), (4, .int (nI (6 * j)))]) hx hb dL_law_347 hl (by decide) rfl (fun ls hl => ?_)
    refine lv_aload_n hx hb dL_law_349 rfl (lv_at hl 4 rfl) ?_
    refine kq_cV (As := []) (rest := []) ⟨hx, hb, hml, hown, hts⟩ (c_X6_thrown l dC dI cI oM rz r2 rb rq kc n t9_16 tp lf hg wd pm stt hh z v ) (cwV 0 hts gL_law_X6_thrown rfl rfl rfl (by decide +kernel) ⟨Nat.le_of_ble_eq_true rfl, Nat.le_of_ble_eq_true rfl⟩) (hP.sub [21] rfl) hK (ci := 6) (q0 := 0) rfl rfl rfl rfl hl.1 rfl (Nat.le_of_ble_eq_true rfl) dL_law_350 (kl_room (by omega) (by omega)) ?_
    refine lv_iload hx hb dL_law_353 (lv_at hl 1 rfl) ?_
    refine lv_icmp_eq (tgt := 360) hx hb dL_law_355 (by decide) (fun _ => ?_) (fun c_17 => absurd hth c_17)
    refine lv_iload hx hb dL_law_360 (lv_at hl 1 rfl) ?_
    refine lv_if_ne (tgt := 377) hx hb dL_law_362 (by decide) (fun _ => ?_) (fun c_18 => absurd c_18 hr0)
    refine lv_goto (tgt := 1562) hx hb dL_law_377 (by decide) ?_
    refine W.widen (k := 28 + (j + 1)) (n := 6079 + 6 * (j + 1)) (by omega) (by omega) ?_
    subst hAe
    exact kk kc n v sv fp ft fl z1 z2 z3 cd z zs pt t9_16 tp lf hg wd pm stt hh fo (hI9) _ _ (hP.sub [16, 17, 18, 19, 0, 1, 2, 3, 4, 5, 6, 7, 8, 9, 10, 11, 21, 12, 13, 14, 15, 20] rfl) (hD.sub [16, 17, 18, 19, 0, 1, 2, 3, 4, 5, 6, 7, 8, 9, 10, 11, 21, 12, 13, 14, 15, 20] (by decide) rfl) hS ls (lv_sub hl [2, 3, 4, 5, 6] rfl)
set_option maxHeartbeats 8000000 in
set_option maxRecDepth 100000 in
theorem kl_clear {p : Program} {l : Launch} {e : Env} {s : State} {m : MethodId} {below : List Frame} {meth : Method} {c : Code} {b L : Nat} {xs : Nat → Int32} {dC : Nat → ClassId} {dI : Nat → Nat → Nat} {cI cL : ClassId} {s1 s2 s3 s4 : Nat} {oX oS oR oN o2 oF oT rv rs rp rt rl q1 q2 q3 rc oM rz r2 rb rq ro : Nat} (C0 : kl_C p l s m meth c b L xs dC dI cI cL s1 s2 s3 s4) (j : Nat) (hj : 6 * j + 6 ≤ L) (kk : kl_K p l e s m below meth c b dC dI cI cL oX oS oR oN o2 oF oT rv rs rp rt rl q1 q2 q3 rc oM rz r2 rb rq ro 1562 (j) (j + 1)) : kl_K p l e s m below meth c b dC dI cI cL oX oS oR oN o2 oF oT rv rs rp rt rl q1 q2 q3 rc oM rz r2 rb rq ro 380 (j) (j) := by
  obtain ⟨hls, ⟨hx, hb, hr, hml, hown, hts0, hX, hbl, hlocks, hgv⟩, hL, hK, hKL, hT⟩ := C0
  intro kc n v sv fp ft fl z1 z2 z3 cd z zs pt th tp lf hg wd pm stt hh fo hI9 H locs hP hD hS ls hl
  have hown : s.vm.findClass RL = some m.cls := hown
  have hb : c.code = cL_law := hb
  have hts : ∀ w ∈ wsL_law, w.before #[Value.ref b] s = true := fun w h => hts0 w (wsL_law_in w h)
  have hA : ∀ q : Nat, s.heap.size ≤ q → (fun q => s.heap.size ≤ q) q := fun _ h => h
  have hbA : ¬ (fun q => s.heap.size ≤ q) b := Nat.not_le.mpr hbl
  generalize hAe : (fun q => s.heap.size ≤ q) = A at hP hD hS hT hA hbA
  obtain ⟨hkc, hn, hI, hz, hsv⟩ := id hI9
  obtain ⟨x1, e1⟩ : ∃ x, x = xs (6 * j + 1) := ⟨_, rfl⟩
  by_cases hG : (0 ≤ x1 ∧ x1 < 3)
  · skip
    obtain ⟨a9, ha9, rfl⟩ := kq_nat (k := 3) hG (by decide)
    refine lv_aload_n hx hb dL_law_380 rfl (lv_at hl 1 rfl) ?_
    refine lv_aload_n hx hb dL_law_381 rfl (lv_at hl 0 rfl) ?_
    refine lv_iload hx hb dL_law_382 (lv_at hl 4 rfl) ?_
    refine lv_iconst (v := 1) hx hb dL_law_384 (by decide) ?_
    refine lv_iadd hx hb dL_law_385 ?_
    refine kq_top (z := nI ((6 * j) + 1)) (nI_add (6 * j) 1) ?_
    refine va_sld hx hb hX hbl hbA hS (vp_in_nI (show (6 * j) + 1 < L from by omega) (by omega)) dL_law_386 ?_
    refine kq_top (z := nI a9) ((congrArg xs (nI_clamp (Nat.lt_trans (show (6 * j) + 1 < L from by omega) (by omega)))).trans e1.symm) ?_
    refine lv_aload_n hx hb dL_law_387 rfl (lv_at hl 3 rfl) ?_
    refine kq_callMi (wr := [(oN, .inr (1, [.ref oS, .ref rp, .ref rt, .ref rl])), (rp, .inl (cI, 72, .inl fp)), (rt, .inl (cI, 72, .inl ft)), (rl, .inl (cI, 72, .inl fl)), (o2, .inr (1, [.ref oS, .ref q1, .ref q2, .ref q3])), (q1, .inl (cI, 72, .inl z1)), (q2, .inl (cI, 72, .inl z2)), (q3, .inl (cI, 72, .inl z3)), (oF, .inr (0, [.ref oS, .ref oN])), (oT, .inr (4, [.ref rc, .int (nI n)])), (rc, .inl (cI, 60, .inl cd)), (oM, .inr (6, [.int th, .ref rz, .ref r2, .int (nI kc), .ref rb, .int (nI n), .int tp, .int lf, .int hg, .int wd, .ref rq, .int pm, .int stt, .long hh])), (rz, .inl (cI, 389, .inl z)), (r2, .inl (cI, 2334, .inl zs)), (rb, .inl (cI, 60, .inl cd)), (rq, .inl (cI, 72, .inl pt))]) (vx_runSW (As := [.ref oX, .int (nI a9), .ref ro]) (rest := []) ⟨hx, hb, hml, hown, hts⟩ (c_L_clear_o l hls dC dI cI cL s1 s2 s3 s4 H.size oX oS oR oN o2 oF oT rv rs kc v sv a9 ro fo (by first | assumption | omega) (by first | assumption | omega)) (vx_cwSW 3 hts gL_law_L_clear rfl rfl rfl (by decide +kernel) ⟨Nat.le_of_ble_eq_true rfl, Nat.le_of_ble_eq_true rfl⟩) (kq_preSH (hP.sub [0, 1, 2, 3, 4, 21] rfl) (hD.sub [0, 1, 2, 3, 4, 21] (by decide) rfl) hS hA hK hKL hT) rfl rfl hl.1 rfl (lv_room (Nat.le_of_ble_eq_true rfl)) dL_law_388 (kl_room (by omega) (by omega))) hP hD hS hA [0, 1, 2, 3, 4, 21] [5, 6, 7, 8, 9, 10, 11, 12, 13, 14, 15, 16, 17, 18, 19, 20] rfl rfl (by decide) (by decide) (fun r_1 u_2 H locs hw_3 hP hD hS => ?_)
    obtain ⟨go_4, rfl⟩ : ∃ z, z = u_2 := ⟨_, rfl⟩
    have hP : va_P (dC, dI) vwCl [(oN, .inr (1, [.ref oS, .ref rp, .ref rt, .ref rl])), (rp, .inl (cI, 72, .inl fp)), (rt, .inl (cI, 72, .inl ft)), (rl, .inl (cI, 72, .inl fl)), (o2, .inr (1, [.ref oS, .ref q1, .ref q2, .ref q3])), (q1, .inl (cI, 72, .inl z1)), (q2, .inl (cI, 72, .inl z2)), (q3, .inl (cI, 72, .inl z3)), (oF, .inr (0, [.ref oS, .ref oN])), (oT, .inr (4, [.ref rc, .int (nI n)])), (rc, .inl (cI, 60, .inl cd)), (oM, .inr (6, [.int th, .ref rz, .ref r2, .int (nI kc), .ref rb, .int (nI n), .int tp, .int lf, .int hg, .int wd, .ref rq, .int pm, .int stt, .long hh])), (rz, .inl (cI, 389, .inl z)), (r2, .inl (cI, 2334, .inl zs)), (rb, .inl (cI, 60, .inl cd)), (rq, .inl (cI, 72, .inl pt)), (oX, .inr (5, [.ref oS, .ref oR, .ref oN, .ref o2, .ref oF, .ref oT])), (oS, .inr (3, [.ref rv, .ref rs, .int (nI (min (kc + 1) 6))])), (rv, .inl (cI, 385, .inl (n_flat v a9))), (rs, .inl (cI, 2310, .inl (n_push v sv))), (oR, .inr (2, [.ref oS])), (ro, .inl (cL, 1, .inr (.inl go_4)))] H := hP
    have hD : va_D A [(oN, .inr (1, [.ref oS, .ref rp, .ref rt, .ref rl])), (rp, .inl (cI, 72, .inl fp)), (rt, .inl (cI, 72, .inl ft)), (rl, .inl (cI, 72, .inl fl)), (o2, .inr (1, [.ref oS, .ref q1, .ref q2, .ref q3])), (q1, .inl (cI, 72, .inl z1)), (q2, .inl (cI, 72, .inl z2)), (q3, .inl (cI, 72, .inl z3)), (oF, .inr (0, [.ref oS, .ref oN])), (oT, .inr (4, [.ref rc, .int (nI n)])), (rc, .inl (cI, 60, .inl cd)), (oM, .inr (6, [.int th, .ref rz, .ref r2, .int (nI kc), .ref rb, .int (nI n), .int tp, .int lf, .int hg, .int wd, .ref rq, .int pm, .int stt, .long hh])), (rz, .inl (cI, 389, .inl z)), (r2, .inl (cI, 2334, .inl zs)), (rb, .inl (cI, 60, .inl cd)), (rq, .inl (cI, 72, .inl pt)), (oX, .inr (5, [.ref oS, .ref oR, .ref oN, .ref o2, .ref oF, .ref oT])), (oS, .inr (3, [.ref rv, .ref rs, .int (nI (min (kc + 1) 6))])), (rv, .inl (cI, 385, .inl (n_flat v a9))), (rs, .inl (cI, 2310, .inl (n_push v sv))), (oR, .inr (2, [.ref oS])), (ro, .inl (cL, 1, .inr (.inl go_4)))] := hD
    try dsimp only at hw_3
    obtain ⟨rfl, hgo⟩ := hw_3
    have hP : va_P (dC, dI) vwCl [(oN, .inr (1, [.ref oS, .ref rp, .ref rt, .ref rl])), (rp, .inl (cI, 72, .inl fp)), (rt, .inl (cI, 72, .inl ft)), (rl, .inl (cI, 72, .inl fl)), (o2, .inr (1, [.ref oS, .ref q1, .ref q2, .ref q3])), (q1, .inl (cI, 72, .inl z1)), (q2, .inl (cI, 72, .inl z2)), (q3, .inl (cI, 72, .inl z3)), (oF, .inr (0, [.ref oS, .ref oN])), (oT, .inr (4, [.ref rc, .int (nI n)])), (rc, .inl (cI, 60, .inl cd)), (oM, .inr (6, [.int th, .ref rz, .ref r2, .int (nI kc), .ref rb, .int (nI n), .int tp, .int lf, .int hg, .int wd, .ref rq, .int pm, .int stt, .long hh])), (rz, .inl (cI, 389, .inl z)), (r2, .inl (cI, 2334, .inl zs)), (rb, .inl (cI, 60, .inl cd)), (rq, .inl (cI, 72, .inl pt)), (oX, .inr (5, [.ref oS, .ref oR, .ref oN, .ref o2, .ref oF, .ref oT])), (oS, .inr (3, [.ref rv, .ref rs, .int (nI (min (kc + 1) 6))])), (rv, .inl (cI, 385, .inl (n_flat v a9))), (rs, .inl (cI, 2310, .inl (n_push v sv))), (oR, .inr (2, [.ref oS])), (ro, .inl (cL, 1, .inr (.inl go_4)))] H := hP
    have hD : va_D A [(oN, .inr (1, [.ref oS, .ref rp, .ref rt, .ref rl])), (rp, .inl (cI, 72, .inl fp)), (rt, .inl (cI, 72, .inl ft)), (rl, .inl (cI, 72, .inl fl)), (o2, .inr (1, [.ref oS, .ref q1, .ref q2, .ref q3])), (q1, .inl (cI, 72, .inl z1)), (q2, .inl (cI, 72, .inl z2)), (q3, .inl (cI, 72, .inl z3)), (oF, .inr (0, [.ref oS, .ref oN])), (oT, .inr (4, [.ref rc, .int (nI n)])), (rc, .inl (cI, 60, .inl cd)), (oM, .inr (6, [.int th, .ref rz, .ref r2, .int (nI kc), .ref rb, .int (nI n), .int tp, .int lf, .int hg, .int wd, .ref rq, .int pm, .int stt, .long hh])), (rz, .inl (cI, 389, .inl z)), (r2, .inl (cI, 2334, .inl zs)), (rb, .inl (cI, 60, .inl cd)), (rq, .inl (cI, 72, .inl pt)), (oX, .inr (5, [.ref oS, .ref oR, .ref oN, .ref o2, .ref oF, .ref oT])), (oS, .inr (3, [.ref rv, .ref rs, .int (nI (min (kc + 1) 6))])), (rv, .inl (cI, 385, .inl (n_flat v a9))), (rs, .inl (cI, 2310, .inl (n_push v sv))), (oR, .inr (2, [.ref oS])), (ro, .inl (cL, 1, .inr (.inl go_4)))] := hD
    refine lv_istore (lv' := [(5, .int 0), (0, .ref b), (1, .ref oX), (2, .ref oM), (3, .ref ro), (4, .int (nI (6 * j)))]) hx hb dL_law_391 hl (by decide) rfl (fun ls hl => ?_)
    refine lv_aload_n hx hb dL_law_393 rfl (lv_at hl 3 rfl) ?_
    refine lv_aload_n hx hb dL_law_394 rfl (lv_at hl 1 rfl) ?_
    refine lv_iload hx hb dL_law_395 (lv_at hl 5 rfl) ?_
    refine lv_iconst (v := 1) hx hb dL_law_397 (by decide) ?_
    refine lv_iadd hx hb dL_law_398 ?_
    refine kq_top (z := nI ((6 * j) + 1)) (nI_add (6 * j) 1) ?_
    refine va_sld hx hb hX hbl hbA hS (vp_in_nI (show (6 * j) + 1 < L from by omega) (by omega)) dL_law_399 ?_
    refine kq_top (z := nI a9) ((congrArg xs (nI_clamp (Nat.lt_trans (show (6 * j) + 1 < L from by omega) (by omega)))).trans e1.symm) ?_
    refine kq_callMi (wr := [(oN, .inr (1, [.ref oS, .ref rp, .ref rt, .ref rl])), (rp, .inl (cI, 72, .inl fp)), (rt, .inl (cI, 72, .inl ft)), (rl, .inl (cI, 72, .inl fl)), (o2, .inr (1, [.ref oS, .ref q1, .ref q2, .ref q3])), (q1, .inl (cI, 72, .inl z1)), (q2, .inl (cI, 72, .inl z2)), (q3, .inl (cI, 72, .inl z3)), (oF, .inr (0, [.ref oS, .ref oN])), (oT, .inr (4, [.ref rc, .int (nI n)])), (rc, .inl (cI, 60, .inl cd)), (rb, .inl (cI, 60, .inl cd)), (rq, .inl (cI, 72, .inl pt)), (oX, .inr (5, [.ref oS, .ref oR, .ref oN, .ref o2, .ref oF, .ref oT])), (oS, .inr (3, [.ref rv, .ref rs, .int (nI (min (kc + 1) 6))])), (rv, .inl (cI, 385, .inl (n_flat v a9))), (rs, .inl (cI, 2310, .inl (n_push v sv))), (oR, .inr (2, [.ref oS])), (ro, .inl (cL, 1, .inr (.inl go_4)))]) (va_runV (As := [.int (nI a9)]) (rest := []) ⟨hx, hb, hml, hown, hts⟩ (c_X6_clear l dC dI cI H.size oM rz r2 rb rq kc n th tp lf hg wd pm stt hh z zs cd pt v a9 (by first | assumption | omega) (by first | assumption | omega) (by first | assumption | omega)) (cwV 1 hts gL_law_X6_clear rfl rfl rfl (by decide +kernel) ⟨Nat.le_of_ble_eq_true rfl, Nat.le_of_ble_eq_true rfl⟩) (kq_preV (ci := 6) (q0 := 0) (hP.sub [11, 12, 13] rfl) (hD.sub [11, 12, 13] (by decide) rfl) hK rfl rfl) rfl rfl hl.1 rfl (lv_room (Nat.le_of_ble_eq_true rfl)) dL_law_400 (kl_room (by omega) (by omega))) hP hD hS hA [11, 12, 13] [0, 1, 2, 3, 4, 5, 6, 7, 8, 9, 10, 14, 15, 16, 17, 18, 19, 20, 21] rfl rfl (by decide) (by decide) (fun r_5 u_6 H locs hw_7 hP hD hS => ?_)
    obtain ⟨ys_8, rfl⟩ : ∃ z, z = u_6 := ⟨_, rfl⟩
    have hP : va_P (dC, dI) vwCl [(oN, .inr (1, [.ref oS, .ref rp, .ref rt, .ref rl])), (rp, .inl (cI, 72, .inl fp)), (rt, .inl (cI, 72, .inl ft)), (rl, .inl (cI, 72, .inl fl)), (o2, .inr (1, [.ref oS, .ref q1, .ref q2, .ref q3])), (q1, .inl (cI, 72, .inl z1)), (q2, .inl (cI, 72, .inl z2)), (q3, .inl (cI, 72, .inl z3)), (oF, .inr (0, [.ref oS, .ref oN])), (oT, .inr (4, [.ref rc, .int (nI n)])), (rc, .inl (cI, 60, .inl cd)), (rb, .inl (cI, 60, .inl cd)), (rq, .inl (cI, 72, .inl pt)), (oX, .inr (5, [.ref oS, .ref oR, .ref oN, .ref o2, .ref oF, .ref oT])), (oS, .inr (3, [.ref rv, .ref rs, .int (nI (min (kc + 1) 6))])), (rv, .inl (cI, 385, .inl (n_flat v a9))), (rs, .inl (cI, 2310, .inl (n_push v sv))), (oR, .inr (2, [.ref oS])), (ro, .inl (cL, 1, .inr (.inl go_4))), (oM, .inr (6, [.int 0, .ref rz, .ref r2, .int (nI (min (kc + 1) 6)), .ref rb, .int (nI n), .int tp, .int lf, .int hg, .int wd, .ref rq, .int pm, .int stt, .long hh])), (rz, .inl (cI, 389, .inl (n_flatZ z a9))), (r2, .inl (cI, 2334, .inl ys_8))] H := hP
    have hD : va_D A [(oN, .inr (1, [.ref oS, .ref rp, .ref rt, .ref rl])), (rp, .inl (cI, 72, .inl fp)), (rt, .inl (cI, 72, .inl ft)), (rl, .inl (cI, 72, .inl fl)), (o2, .inr (1, [.ref oS, .ref q1, .ref q2, .ref q3])), (q1, .inl (cI, 72, .inl z1)), (q2, .inl (cI, 72, .inl z2)), (q3, .inl (cI, 72, .inl z3)), (oF, .inr (0, [.ref oS, .ref oN])), (oT, .inr (4, [.ref rc, .int (nI n)])), (rc, .inl (cI, 60, .inl cd)), (rb, .inl (cI, 60, .inl cd)), (rq, .inl (cI, 72, .inl pt)), (oX, .inr (5, [.ref oS, .ref oR, .ref oN, .ref o2, .ref oF, .ref oT])), (oS, .inr (3, [.ref rv, .ref rs, .int (nI (min (kc + 1) 6))])), (rv, .inl (cI, 385, .inl (n_flat v a9))), (rs, .inl (cI, 2310, .inl (n_push v sv))), (oR, .inr (2, [.ref oS])), (ro, .inl (cL, 1, .inr (.inl go_4))), (oM, .inr (6, [.int 0, .ref rz, .ref r2, .int (nI (min (kc + 1) 6)), .ref rb, .int (nI n), .int tp, .int lf, .int hg, .int wd, .ref rq, .int pm, .int stt, .long hh])), (rz, .inl (cI, 389, .inl (n_flatZ z a9))), (r2, .inl (cI, 2334, .inl ys_8))] := hD
    try dsimp only at hw_7
    obtain ⟨hr2, hsv2⟩ := hw_7
    refine lv_istore (lv' := [(6, .int r_5), (5, .int 0), (0, .ref b), (1, .ref oX), (2, .ref oM), (3, .ref ro), (4, .int (nI (6 * j)))]) hx hb dL_law_403 hl (by decide) rfl (fun ls hl => ?_)
    refine lv_aload_n hx hb dL_law_405 rfl (lv_at hl 4 rfl) ?_
    refine kq_cV (As := []) (rest := []) ⟨hx, hb, hml, hown, hts⟩ (c_X6_thrown l dC dI cI oM rz r2 rb rq (min (kc + 1) 6) n 0 tp lf hg wd pm stt hh z v ) (cwV 0 hts gL_law_X6_thrown rfl rfl rfl (by decide +kernel) ⟨Nat.le_of_ble_eq_true rfl, Nat.le_of_ble_eq_true rfl⟩) (hP.sub [19] rfl) hK (ci := 6) (q0 := 0) rfl rfl rfl rfl hl.1 rfl (Nat.le_of_ble_eq_true rfl) dL_law_406 (kl_room (by omega) (by omega)) ?_
    refine lv_iload hx hb dL_law_409 (lv_at hl 1 rfl) ?_
    refine lv_icmp_eq (tgt := 416) hx hb dL_law_411 (by decide) (fun _ => ?_) (fun q => absurd q (by decide))
    refine lv_iload hx hb dL_law_416 (lv_at hl 1 rfl) ?_
    refine lv_if_ne (tgt := 433) hx hb dL_law_418 (by decide) (fun q => absurd q (by decide)) (fun _ => ?_)
    refine lv_aload_n hx hb dL_law_421 rfl (lv_at hl 5 rfl) ?_
    refine lv_iconst (v := 0) hx hb dL_law_422 (by decide) ?_
    refine va_lald hx hb hKL hP 18 0 rfl rfl (show ¬ ((0:Int32) < 0 ∨ 1 ≤ Int32.toNatClampNeg 0) by decide) dL_law_423 ?_
    refine kq_topl (z := (n_cw v a9 16 : Int32).toInt64) (hgo) ?_
    refine lv_iload hx hb dL_law_424 (lv_at hl 0 rfl) ?_
    refine lv_i2l (v := (r_5 : Int32).toInt64) hx hb dL_law_426 rfl ?_
    refine W.lcmp hx hb dL_law_427 ?_
    refine lv_if_eq (tgt := 433) hx hb dL_law_428 (by decide) (fun _ => ?_) (fun c_9 => absurd (kq_lce (hr2.symm)) c_9)
    refine lv_goto (tgt := 1562) hx hb dL_law_433 (by decide) ?_
    refine W.widen (k := 28 + (j + 1)) (n := 6079 + 6 * (j + 1)) (by omega) (by omega) ?_
    subst hAe
    exact kk (min (kc + 1) 6) n (n_flat v a9) (n_push v sv) fp ft fl z1 z2 z3 cd (n_flatZ z a9) ys_8 pt 0 tp lf hg wd pm stt hh go_4 (⟨by omega, hn, n_I_flat hI ha9, n_Z_flat hz ha9, n_SV_push hkc hsv hI hz hsv2⟩) _ _ (hP.sub [13, 14, 15, 16, 17, 0, 1, 2, 3, 4, 5, 6, 7, 8, 9, 10, 19, 20, 21, 11, 12, 18] rfl) (hD.sub [13, 14, 15, 16, 17, 0, 1, 2, 3, 4, 5, 6, 7, 8, 9, 10, 19, 20, 21, 11, 12, 18] (by decide) rfl) hS ls (lv_sub hl [2, 3, 4, 5, 6] rfl)
  · skip
    refine lv_aload_n hx hb dL_law_380 rfl (lv_at hl 1 rfl) ?_
    refine lv_aload_n hx hb dL_law_381 rfl (lv_at hl 0 rfl) ?_
    refine lv_iload hx hb dL_law_382 (lv_at hl 4 rfl) ?_
    refine lv_iconst (v := 1) hx hb dL_law_384 (by decide) ?_
    refine lv_iadd hx hb dL_law_385 ?_
    refine kq_top (z := nI ((6 * j) + 1)) (nI_add (6 * j) 1) ?_
    refine va_sld hx hb hX hbl hbA hS (vp_in_nI (show (6 * j) + 1 < L from by omega) (by omega)) dL_law_386 ?_
    refine kq_top (z := x1) ((congrArg xs (nI_clamp (Nat.lt_trans (show (6 * j) + 1 < L from by omega) (by omega)))).trans e1.symm) ?_
    refine lv_aload_n hx hb dL_law_387 rfl (lv_at hl 3 rfl) ?_
    refine kq_callMi (wr := [(oR, .inr (2, [.ref oS])), (oN, .inr (1, [.ref oS, .ref rp, .ref rt, .ref rl])), (rp, .inl (cI, 72, .inl fp)), (rt, .inl (cI, 72, .inl ft)), (rl, .inl (cI, 72, .inl fl)), (o2, .inr (1, [.ref oS, .ref q1, .ref q2, .ref q3])), (q1, .inl (cI, 72, .inl z1)), (q2, .inl (cI, 72, .inl z2)), (q3, .inl (cI, 72, .inl z3)), (oF, .inr (0, [.ref oS, .ref oN])), (oT, .inr (4, [.ref rc, .int (nI n)])), (rc, .inl (cI, 60, .inl cd)), (oM, .inr (6, [.int th, .ref rz, .ref r2, .int (nI kc), .ref rb, .int (nI n), .int tp, .int lf, .int hg, .int wd, .ref rq, .int pm, .int stt, .long hh])), (rz, .inl (cI, 389, .inl z)), (r2, .inl (cI, 2334, .inl zs)), (rb, .inl (cI, 60, .inl cd)), (rq, .inl (cI, 72, .inl pt))]) (vx_runSW (As := [.ref oX, .int x1, .ref ro]) (rest := []) ⟨hx, hb, hml, hown, hts⟩ (c_L_clear_x l hls dC dI cI cL s1 s2 s3 s4 H.size oX oS oR oN o2 oF oT rv rs kc v sv x1 ro fo (by first | assumption | omega)) (vx_cwSW 3 hts gL_law_L_clear rfl rfl rfl (by decide +kernel) ⟨Nat.le_of_ble_eq_true rfl, Nat.le_of_ble_eq_true rfl⟩) (kq_preSH (hP.sub [0, 1, 2, 3, 21] rfl) (hD.sub [0, 1, 2, 3, 21] (by decide) rfl) hS hA hK hKL hT) rfl rfl hl.1 rfl (lv_room (Nat.le_of_ble_eq_true rfl)) dL_law_388 (kl_room (by omega) (by omega))) hP hD hS hA [0, 1, 2, 3, 21] [4, 5, 6, 7, 8, 9, 10, 11, 12, 13, 14, 15, 16, 17, 18, 19, 20] rfl rfl (by decide) (by decide) (fun r_10 u_11 H locs hw_12 hP hD hS => ?_)
    have hP : va_P (dC, dI) vwCl [(oR, .inr (2, [.ref oS])), (oN, .inr (1, [.ref oS, .ref rp, .ref rt, .ref rl])), (rp, .inl (cI, 72, .inl fp)), (rt, .inl (cI, 72, .inl ft)), (rl, .inl (cI, 72, .inl fl)), (o2, .inr (1, [.ref oS, .ref q1, .ref q2, .ref q3])), (q1, .inl (cI, 72, .inl z1)), (q2, .inl (cI, 72, .inl z2)), (q3, .inl (cI, 72, .inl z3)), (oF, .inr (0, [.ref oS, .ref oN])), (oT, .inr (4, [.ref rc, .int (nI n)])), (rc, .inl (cI, 60, .inl cd)), (oM, .inr (6, [.int th, .ref rz, .ref r2, .int (nI kc), .ref rb, .int (nI n), .int tp, .int lf, .int hg, .int wd, .ref rq, .int pm, .int stt, .long hh])), (rz, .inl (cI, 389, .inl z)), (r2, .inl (cI, 2334, .inl zs)), (rb, .inl (cI, 60, .inl cd)), (rq, .inl (cI, 72, .inl pt)), (oX, .inr (5, [.ref oS, .ref oR, .ref oN, .ref o2, .ref oF, .ref oT])), (oS, .inr (3, [.ref rv, .ref rs, .int (nI kc)])), (rv, .inl (cI, 385, .inl v)), (rs, .inl (cI, 2310, .inl sv)), (ro, .inl (cL, 1, .inr (.inl fo)))] H := hP
    have hD : va_D A [(oR, .inr (2, [.ref oS])), (oN, .inr (1, [.ref oS, .ref rp, .ref rt, .ref rl])), (rp, .inl (cI, 72, .inl fp)), (rt, .inl (cI, 72, .inl ft)), (rl, .inl (cI, 72, .inl fl)), (o2, .inr (1, [.ref oS, .ref q1, .ref q2, .ref q3])), (q1, .inl (cI, 72, .inl z1)), (q2, .inl (cI, 72, .inl z2)), (q3, .inl (cI, 72, .inl z3)), (oF, .inr (0, [.ref oS, .ref oN])), (oT, .inr (4, [.ref rc, .int (nI n)])), (rc, .inl (cI, 60, .inl cd)), (oM, .inr (6, [.int th, .ref rz, .ref r2, .int (nI kc), .ref rb, .int (nI n), .int tp, .int lf, .int hg, .int wd, .ref rq, .int pm, .int stt, .long hh])), (rz, .inl (cI, 389, .inl z)), (r2, .inl (cI, 2334, .inl zs)), (rb, .inl (cI, 60, .inl cd)), (rq, .inl (cI, 72, .inl pt)), (oX, .inr (5, [.ref oS, .ref oR, .ref oN, .ref o2, .ref oF, .ref oT])), (oS, .inr (3, [.ref rv, .ref rs, .int (nI kc)])), (rv, .inl (cI, 385, .inl v)), (rs, .inl (cI, 2310, .inl sv)), (ro, .inl (cL, 1, .inr (.inl fo)))] := hD
    try dsimp only at hw_12
    obtain rfl := hw_12
    have hP : va_P (dC, dI) vwCl [(oR, .inr (2, [.ref oS])), (oN, .inr (1, [.ref oS, .ref rp, .ref rt, .ref rl])), (rp, .inl (cI, 72, .inl fp)), (rt, .inl (cI, 72, .inl ft)), (rl, .inl (cI, 72, .inl fl)), (o2, .inr (1, [.ref oS, .ref q1, .ref q2, .ref q3])), (q1, .inl (cI, 72, .inl z1)), (q2, .inl (cI, 72, .inl z2)), (q3, .inl (cI, 72, .inl z3)), (oF, .inr (0, [.ref oS, .ref oN])), (oT, .inr (4, [.ref rc, .int (nI n)])), (rc, .inl (cI, 60, .inl cd)), (oM, .inr (6, [.int th, .ref rz, .ref r2, .int (nI kc), .ref rb, .int (nI n), .int tp, .int lf, .int hg, .int wd, .ref rq, .int pm, .int stt, .long hh])), (rz, .inl (cI, 389, .inl z)), (r2, .inl (cI, 2334, .inl zs)), (rb, .inl (cI, 60, .inl cd)), (rq, .inl (cI, 72, .inl pt)), (oX, .inr (5, [.ref oS, .ref oR, .ref oN, .ref o2, .ref oF, .ref oT])), (oS, .inr (3, [.ref rv, .ref rs, .int (nI kc)])), (rv, .inl (cI, 385, .inl v)), (rs, .inl (cI, 2310, .inl sv)), (ro, .inl (cL, 1, .inr (.inl fo)))] H := hP
    have hD : va_D A [(oR, .inr (2, [.ref oS])), (oN, .inr (1, [.ref oS, .ref rp, .ref rt, .ref rl])), (rp, .inl (cI, 72, .inl fp)), (rt, .inl (cI, 72, .inl ft)), (rl, .inl (cI, 72, .inl fl)), (o2, .inr (1, [.ref oS, .ref q1, .ref q2, .ref q3])), (q1, .inl (cI, 72, .inl z1)), (q2, .inl (cI, 72, .inl z2)), (q3, .inl (cI, 72, .inl z3)), (oF, .inr (0, [.ref oS, .ref oN])), (oT, .inr (4, [.ref rc, .int (nI n)])), (rc, .inl (cI, 60, .inl cd)), (oM, .inr (6, [.int th, .ref rz, .ref r2, .int (nI kc), .ref rb, .int (nI n), .int tp, .int lf, .int hg, .int wd, .ref rq, .int pm, .int stt, .long hh])), (rz, .inl (cI, 389, .inl z)), (r2, .inl (cI, 2334, .inl zs)), (rb, .inl (cI, 60, .inl cd)), (rq, .inl (cI, 72, .inl pt)), (oX, .inr (5, [.ref oS, .ref oR, .ref oN, .ref o2, .ref oF, .ref oT])), (oS, .inr (3, [.ref rv, .ref rs, .int (nI kc)])), (rv, .inl (cI, 385, .inl v)), (rs, .inl (cI, 2310, .inl sv)), (ro, .inl (cL, 1, .inr (.inl fo)))] := hD
    refine lv_istore (lv' := [(5, .int 1), (0, .ref b), (1, .ref oX), (2, .ref oM), (3, .ref ro), (4, .int (nI (6 * j)))]) hx hb dL_law_391 hl (by decide) rfl (fun ls hl => ?_)
    refine lv_aload_n hx hb dL_law_393 rfl (lv_at hl 3 rfl) ?_
    refine lv_aload_n hx hb dL_law_394 rfl (lv_at hl 1 rfl) ?_
    refine lv_iload hx hb dL_law_395 (lv_at hl 5 rfl) ?_
    refine lv_iconst (v := 1) hx hb dL_law_397 (by decide) ?_
    refine lv_iadd hx hb dL_law_398 ?_
    refine kq_top (z := nI ((6 * j) + 1)) (nI_add (6 * j) 1) ?_
    refine va_sld hx hb hX hbl hbA hS (vp_in_nI (show (6 * j) + 1 < L from by omega) (by omega)) dL_law_399 ?_
    refine kq_top (z := x1) ((congrArg xs (nI_clamp (Nat.lt_trans (show (6 * j) + 1 < L from by omega) (by omega)))).trans e1.symm) ?_
    refine kq_callMi (wr := [(oR, .inr (2, [.ref oS])), (oN, .inr (1, [.ref oS, .ref rp, .ref rt, .ref rl])), (rp, .inl (cI, 72, .inl fp)), (rt, .inl (cI, 72, .inl ft)), (rl, .inl (cI, 72, .inl fl)), (o2, .inr (1, [.ref oS, .ref q1, .ref q2, .ref q3])), (q1, .inl (cI, 72, .inl z1)), (q2, .inl (cI, 72, .inl z2)), (q3, .inl (cI, 72, .inl z3)), (oF, .inr (0, [.ref oS, .ref oN])), (oT, .inr (4, [.ref rc, .int (nI n)])), (rc, .inl (cI, 60, .inl cd)), (rz, .inl (cI, 389, .inl z)), (r2, .inl (cI, 2334, .inl zs)), (rb, .inl (cI, 60, .inl cd)), (rq, .inl (cI, 72, .inl pt)), (oX, .inr (5, [.ref oS, .ref oR, .ref oN, .ref o2, .ref oF, .ref oT])), (oS, .inr (3, [.ref rv, .ref rs, .int (nI kc)])), (rv, .inl (cI, 385, .inl v)), (rs, .inl (cI, 2310, .inl sv)), (ro, .inl (cL, 1, .inr (.inl fo)))]) (va_runV (As := [.int x1]) (rest := []) ⟨hx, hb, hml, hown, hts⟩ (c_X6_clear_t l dC dI cI H.size oM rz r2 rb rq kc n th tp lf hg wd pm stt hh z v x1 (fun q => hG (by simpa only [kq_l3, kq_l6, kq_l16, kq_l12, kq_l4, kq_lk, and_assoc] using q))) (cwV 1 hts gL_law_X6_clear rfl rfl rfl (by decide +kernel) ⟨Nat.le_of_ble_eq_true rfl, Nat.le_of_ble_eq_true rfl⟩) (kq_preV (ci := 6) (q0 := 0) (hP.sub [12] rfl) (hD.sub [12] (by decide) rfl) hK rfl rfl) rfl rfl hl.1 rfl (lv_room (Nat.le_of_ble_eq_true rfl)) dL_law_400 (kl_room (by omega) (by omega))) hP hD hS hA [12] [0, 1, 2, 3, 4, 5, 6, 7, 8, 9, 10, 11, 13, 14, 15, 16, 17, 18, 19, 20, 21] rfl rfl (by decide) (by decide) (fun r_13 u_14 H locs hw_15 hP hD hS => ?_)
    obtain ⟨t9_16, rfl⟩ : ∃ z, z = u_14 := ⟨_, rfl⟩
    have hP : va_P (dC, dI) vwCl [(oR, .inr (2, [.ref oS])), (oN, .inr (1, [.ref oS, .ref rp, .ref rt, .ref rl])), (rp, .inl (cI, 72, .inl fp)), (rt, .inl (cI, 72, .inl ft)), (rl, .inl (cI, 72, .inl fl)), (o2, .inr (1, [.ref oS, .ref q1, .ref q2, .ref q3])), (q1, .inl (cI, 72, .inl z1)), (q2, .inl (cI, 72, .inl z2)), (q3, .inl (cI, 72, .inl z3)), (oF, .inr (0, [.ref oS, .ref oN])), (oT, .inr (4, [.ref rc, .int (nI n)])), (rc, .inl (cI, 60, .inl cd)), (rz, .inl (cI, 389, .inl z)), (r2, .inl (cI, 2334, .inl zs)), (rb, .inl (cI, 60, .inl cd)), (rq, .inl (cI, 72, .inl pt)), (oX, .inr (5, [.ref oS, .ref oR, .ref oN, .ref o2, .ref oF, .ref oT])), (oS, .inr (3, [.ref rv, .ref rs, .int (nI kc)])), (rv, .inl (cI, 385, .inl v)), (rs, .inl (cI, 2310, .inl sv)), (ro, .inl (cL, 1, .inr (.inl fo))), (oM, .inr (6, [.int t9_16, .ref rz, .ref r2, .int (nI kc), .ref rb, .int (nI n), .int tp, .int lf, .int hg, .int wd, .ref rq, .int pm, .int stt, .long hh]))] H := hP
    have hD : va_D A [(oR, .inr (2, [.ref oS])), (oN, .inr (1, [.ref oS, .ref rp, .ref rt, .ref rl])), (rp, .inl (cI, 72, .inl fp)), (rt, .inl (cI, 72, .inl ft)), (rl, .inl (cI, 72, .inl fl)), (o2, .inr (1, [.ref oS, .ref q1, .ref q2, .ref q3])), (q1, .inl (cI, 72, .inl z1)), (q2, .inl (cI, 72, .inl z2)), (q3, .inl (cI, 72, .inl z3)), (oF, .inr (0, [.ref oS, .ref oN])), (oT, .inr (4, [.ref rc, .int (nI n)])), (rc, .inl (cI, 60, .inl cd)), (rz, .inl (cI, 389, .inl z)), (r2, .inl (cI, 2334, .inl zs)), (rb, .inl (cI, 60, .inl cd)), (rq, .inl (cI, 72, .inl pt)), (oX, .inr (5, [.ref oS, .ref oR, .ref oN, .ref o2, .ref oF, .ref oT])), (oS, .inr (3, [.ref rv, .ref rs, .int (nI kc)])), (rv, .inl (cI, 385, .inl v)), (rs, .inl (cI, 2310, .inl sv)), (ro, .inl (cL, 1, .inr (.inl fo))), (oM, .inr (6, [.int t9_16, .ref rz, .ref r2, .int (nI kc), .ref rb, .int (nI n), .int tp, .int lf, .int hg, .int wd, .ref rq, .int pm, .int stt, .long hh]))] := hD
    try dsimp only at hw_15
    have ht1 := hw_15
    refine lv_istore (lv' := [(6, .int r_13), (5, .int 1), (0, .ref b), (1, .ref oX), (2, .ref oM), (3, .ref ro), (4, .int (nI (6 * j)))]) hx hb dL_law_403 hl (by decide) rfl (fun ls hl => ?_)
    refine lv_aload_n hx hb dL_law_405 rfl (lv_at hl 4 rfl) ?_
    refine kq_cV (As := []) (rest := []) ⟨hx, hb, hml, hown, hts⟩ (c_X6_thrown l dC dI cI oM rz r2 rb rq kc n t9_16 tp lf hg wd pm stt hh z v ) (cwV 0 hts gL_law_X6_thrown rfl rfl rfl (by decide +kernel) ⟨Nat.le_of_ble_eq_true rfl, Nat.le_of_ble_eq_true rfl⟩) (hP.sub [21] rfl) hK (ci := 6) (q0 := 0) rfl rfl rfl rfl hl.1 rfl (Nat.le_of_ble_eq_true rfl) dL_law_406 (kl_room (by omega) (by omega)) ?_
    refine lv_iload hx hb dL_law_409 (lv_at hl 1 rfl) ?_
    refine lv_icmp_eq (tgt := 416) hx hb dL_law_411 (by decide) (fun _ => ?_) (fun c_17 => absurd (ht1.1 (fun q => hG (by simpa only [kq_l3, kq_l6, kq_l16, kq_l12, kq_l4, kq_lk, and_assoc] using q))) c_17)
    refine lv_iload hx hb dL_law_416 (lv_at hl 1 rfl) ?_
    refine lv_if_ne (tgt := 433) hx hb dL_law_418 (by decide) (fun _ => ?_) (fun q => absurd q (by decide))
    refine lv_goto (tgt := 1562) hx hb dL_law_433 (by decide) ?_
    refine W.widen (k := 28 + (j + 1)) (n := 6079 + 6 * (j + 1)) (by omega) (by omega) ?_
    subst hAe
    exact kk kc n v sv fp ft fl z1 z2 z3 cd z zs pt t9_16 tp lf hg wd pm stt hh fo (hI9) _ _ (hP.sub [16, 17, 18, 19, 0, 1, 2, 3, 4, 5, 6, 7, 8, 9, 10, 11, 21, 12, 13, 14, 15, 20] rfl) (hD.sub [16, 17, 18, 19, 0, 1, 2, 3, 4, 5, 6, 7, 8, 9, 10, 11, 21, 12, 13, 14, 15, 20] (by decide) rfl) hS ls (lv_sub hl [2, 3, 4, 5, 6] rfl)
set_option maxHeartbeats 8000000 in
set_option maxRecDepth 100000 in
theorem kl_ink {p : Program} {l : Launch} {e : Env} {s : State} {m : MethodId} {below : List Frame} {meth : Method} {c : Code} {b L : Nat} {xs : Nat → Int32} {dC : Nat → ClassId} {dI : Nat → Nat → Nat} {cI cL : ClassId} {s1 s2 s3 s4 : Nat} {oX oS oR oN o2 oF oT rv rs rp rt rl q1 q2 q3 rc oM rz r2 rb rq ro : Nat} (C0 : kl_C p l s m meth c b L xs dC dI cI cL s1 s2 s3 s4) (j : Nat) (hj : 6 * j + 6 ≤ L) (kk : kl_K p l e s m below meth c b dC dI cI cL oX oS oR oN o2 oF oT rv rs rp rt rl q1 q2 q3 rc oM rz r2 rb rq ro 1562 (j) (j + 1)) : kl_K p l e s m below meth c b dC dI cI cL oX oS oR oN o2 oF oT rv rs rp rt rl q1 q2 q3 rc oM rz r2 rb rq ro 436 (j) (j) := by
  obtain ⟨hls, ⟨hx, hb, hr, hml, hown, hts0, hX, hbl, hlocks, hgv⟩, hL, hK, hKL, hT⟩ := C0
  intro kc n v sv fp ft fl z1 z2 z3 cd z zs pt th tp lf hg wd pm stt hh fo hI9 H locs hP hD hS ls hl
  have hown : s.vm.findClass RL = some m.cls := hown
  have hb : c.code = cL_law := hb
  have hts : ∀ w ∈ wsL_law, w.before #[Value.ref b] s = true := fun w h => hts0 w (wsL_law_in w h)
  have hA : ∀ q : Nat, s.heap.size ≤ q → (fun q => s.heap.size ≤ q) q := fun _ h => h
  have hbA : ¬ (fun q => s.heap.size ≤ q) b := Nat.not_le.mpr hbl
  generalize hAe : (fun q => s.heap.size ≤ q) = A at hP hD hS hT hA hbA
  obtain ⟨hkc, hn, hI, hz, hsv⟩ := id hI9
  obtain ⟨x1, e1⟩ : ∃ x, x = xs (6 * j + 1) := ⟨_, rfl⟩
  obtain ⟨x2, e2⟩ : ∃ x, x = xs (6 * j + 2) := ⟨_, rfl⟩
  obtain ⟨x3, e3⟩ : ∃ x, x = xs (6 * j + 3) := ⟨_, rfl⟩
  obtain ⟨x4, e4⟩ : ∃ x, x = xs (6 * j + 4) := ⟨_, rfl⟩
  obtain ⟨x5, e5⟩ : ∃ x, x = xs (6 * j + 5) := ⟨_, rfl⟩
  by_cases hG : (0 ≤ x1 ∧ x1 < 6) ∧ (0 ≤ x2 ∧ x2 < 12) ∧ (1 ≤ x3 ∧ x3 ≤ 6 - x1) ∧ (1 ≤ x4 ∧ x4 ≤ 12 - x2) ∧ (0 ≤ x5 ∧ x5 ≤ 9)
  · skip
    obtain ⟨b9, hb9, rfl⟩ := kq_nat (k := 6) hG.1 (by decide)
    obtain ⟨d9, hd9, rfl⟩ := kq_nat (k := 12) hG.2.1 (by decide)
    have hR2 := hG.2.2.1
    rw [kq_6m (by omega)] at hR2
    obtain ⟨h9, hh9, rfl⟩ := kq_nat2 (lo := 1) hR2 (by decide) (by omega)
    have hR3 := hG.2.2.2.1
    rw [kq_12m (by omega)] at hR3
    obtain ⟨w9, hw9, rfl⟩ := kq_nat2 (lo := 1) hR3 (by decide) (by omega)
    obtain ⟨x9, hx9, rfl⟩ := kq_nat2 (lo := 0) (up := 9) hG.2.2.2.2 (by decide) (by decide)
    have hx5 := hG.2.2.2.2
    refine lv_aload_n hx hb dL_law_436 rfl (lv_at hl 1 rfl) ?_
    refine lv_aload_n hx hb dL_law_437 rfl (lv_at hl 0 rfl) ?_
    refine lv_iload hx hb dL_law_438 (lv_at hl 4 rfl) ?_
    refine lv_iconst (v := 1) hx hb dL_law_440 (by decide) ?_
    refine lv_iadd hx hb dL_law_441 ?_
    refine kq_top (z := nI ((6 * j) + 1)) (nI_add (6 * j) 1) ?_
    refine va_sld hx hb hX hbl hbA hS (vp_in_nI (show (6 * j) + 1 < L from by omega) (by omega)) dL_law_442 ?_
    refine kq_top (z := nI b9) ((congrArg xs (nI_clamp (Nat.lt_trans (show (6 * j) + 1 < L from by omega) (by omega)))).trans e1.symm) ?_
    refine lv_aload_n hx hb dL_law_443 rfl (lv_at hl 0 rfl) ?_
    refine lv_iload hx hb dL_law_444 (lv_at hl 4 rfl) ?_
    refine lv_iconst (v := 2) hx hb dL_law_446 (by decide) ?_
    refine lv_iadd hx hb dL_law_447 ?_
    refine kq_top (z := nI ((6 * j) + 2)) (nI_add (6 * j) 2) ?_
    refine va_sld hx hb hX hbl hbA hS (vp_in_nI (show (6 * j) + 2 < L from by omega) (by omega)) dL_law_448 ?_
    refine kq_top (z := nI d9) ((congrArg xs (nI_clamp (Nat.lt_trans (show (6 * j) + 2 < L from by omega) (by omega)))).trans e2.symm) ?_
    refine lv_aload_n hx hb dL_law_449 rfl (lv_at hl 0 rfl) ?_
    refine lv_iload hx hb dL_law_450 (lv_at hl 4 rfl) ?_
    refine lv_iconst (v := 3) hx hb dL_law_452 (by decide) ?_
    refine lv_iadd hx hb dL_law_453 ?_
    refine kq_top (z := nI ((6 * j) + 3)) (nI_add (6 * j) 3) ?_
    refine va_sld hx hb hX hbl hbA hS (vp_in_nI (show (6 * j) + 3 < L from by omega) (by omega)) dL_law_454 ?_
    refine kq_top (z := nI h9) ((congrArg xs (nI_clamp (Nat.lt_trans (show (6 * j) + 3 < L from by omega) (by omega)))).trans e3.symm) ?_
    refine lv_aload_n hx hb dL_law_455 rfl (lv_at hl 0 rfl) ?_
    refine lv_iload hx hb dL_law_456 (lv_at hl 4 rfl) ?_
    refine lv_iconst (v := 4) hx hb dL_law_458 (by decide) ?_
    refine lv_iadd hx hb dL_law_459 ?_
    refine kq_top (z := nI ((6 * j) + 4)) (nI_add (6 * j) 4) ?_
    refine va_sld hx hb hX hbl hbA hS (vp_in_nI (show (6 * j) + 4 < L from by omega) (by omega)) dL_law_460 ?_
    refine kq_top (z := nI w9) ((congrArg xs (nI_clamp (Nat.lt_trans (show (6 * j) + 4 < L from by omega) (by omega)))).trans e4.symm) ?_
    refine lv_aload_n hx hb dL_law_461 rfl (lv_at hl 0 rfl) ?_
    refine lv_iload hx hb dL_law_462 (lv_at hl 4 rfl) ?_
    refine lv_iconst (v := 5) hx hb dL_law_464 (by decide) ?_
    refine lv_iadd hx hb dL_law_465 ?_
    refine kq_top (z := nI ((6 * j) + 5)) (nI_add (6 * j) 5) ?_
    refine va_sld hx hb hX hbl hbA hS (vp_in_nI (show (6 * j) + 5 < L from by omega) (by omega)) dL_law_466 ?_
    refine kq_top (z := nI x9) ((congrArg xs (nI_clamp (Nat.lt_trans (show (6 * j) + 5 < L from by omega) (by omega)))).trans e5.symm) ?_
    refine lv_aload_n hx hb dL_law_467 rfl (lv_at hl 3 rfl) ?_
    refine kq_callMi (wr := [(oR, .inr (2, [.ref oS])), (oN, .inr (1, [.ref oS, .ref rp, .ref rt, .ref rl])), (rp, .inl (cI, 72, .inl fp)), (rt, .inl (cI, 72, .inl ft)), (rl, .inl (cI, 72, .inl fl)), (o2, .inr (1, [.ref oS, .ref q1, .ref q2, .ref q3])), (q1, .inl (cI, 72, .inl z1)), (q2, .inl (cI, 72, .inl z2)), (q3, .inl (cI, 72, .inl z3)), (oF, .inr (0, [.ref oS, .ref oN])), (oT, .inr (4, [.ref rc, .int (nI n)])), (rc, .inl (cI, 60, .inl cd)), (oM, .inr (6, [.int th, .ref rz, .ref r2, .int (nI kc), .ref rb, .int (nI n), .int tp, .int lf, .int hg, .int wd, .ref rq, .int pm, .int stt, .long hh])), (rz, .inl (cI, 389, .inl z)), (r2, .inl (cI, 2334, .inl zs)), (rb, .inl (cI, 60, .inl cd)), (rq, .inl (cI, 72, .inl pt))]) (vx_runSW (As := [.ref oX, .int (nI b9), .int (nI d9), .int (nI h9), .int (nI w9), .int (nI x9), .ref ro]) (rest := []) ⟨hx, hb, hml, hown, hts⟩ (c_L_ink_o l hls dC dI cI cL s1 s2 s3 s4 H.size oX oS oR oN o2 oF oT rv rs kc v sv b9 d9 h9 w9 (nI x9) ro fo (by first | assumption | omega) (by first | assumption | omega) (by first | assumption | omega) (by first | assumption | omega) (by first | assumption | omega) (by first | assumption | omega)) (vx_cwSW 7 hts gL_law_L_ink rfl rfl rfl (by decide +kernel) ⟨Nat.le_of_ble_eq_true rfl, Nat.le_of_ble_eq_true rfl⟩) (kq_preSH (hP.sub [0, 1, 2, 3, 21] rfl) (hD.sub [0, 1, 2, 3, 21] (by decide) rfl) hS hA hK hKL hT) rfl rfl hl.1 rfl (lv_room (Nat.le_of_ble_eq_true rfl)) dL_law_468 (kl_room (by omega) (by omega))) hP hD hS hA [0, 1, 2, 3, 21] [4, 5, 6, 7, 8, 9, 10, 11, 12, 13, 14, 15, 16, 17, 18, 19, 20] rfl rfl (by decide) (by decide) (fun r_1 u_2 H locs hw_3 hP hD hS => ?_)
    obtain ⟨go_4, rfl⟩ : ∃ z, z = u_2 := ⟨_, rfl⟩
    have hP : va_P (dC, dI) vwCl [(oR, .inr (2, [.ref oS])), (oN, .inr (1, [.ref oS, .ref rp, .ref rt, .ref rl])), (rp, .inl (cI, 72, .inl fp)), (rt, .inl (cI, 72, .inl ft)), (rl, .inl (cI, 72, .inl fl)), (o2, .inr (1, [.ref oS, .ref q1, .ref q2, .ref q3])), (q1, .inl (cI, 72, .inl z1)), (q2, .inl (cI, 72, .inl z2)), (q3, .inl (cI, 72, .inl z3)), (oF, .inr (0, [.ref oS, .ref oN])), (oT, .inr (4, [.ref rc, .int (nI n)])), (rc, .inl (cI, 60, .inl cd)), (oM, .inr (6, [.int th, .ref rz, .ref r2, .int (nI kc), .ref rb, .int (nI n), .int tp, .int lf, .int hg, .int wd, .ref rq, .int pm, .int stt, .long hh])), (rz, .inl (cI, 389, .inl z)), (r2, .inl (cI, 2334, .inl zs)), (rb, .inl (cI, 60, .inl cd)), (rq, .inl (cI, 72, .inl pt)), (oX, .inr (5, [.ref oS, .ref oR, .ref oN, .ref o2, .ref oF, .ref oT])), (oS, .inr (3, [.ref rv, .ref rs, .int (nI (min (kc + 1) 6))])), (rv, .inl (cI, 385, .inl (n_ink v b9 d9 h9 w9 (nI x9)))), (rs, .inl (cI, 2310, .inl (n_push v sv))), (ro, .inl (cL, 1, .inr (.inl go_4)))] H := hP
    have hD : va_D A [(oR, .inr (2, [.ref oS])), (oN, .inr (1, [.ref oS, .ref rp, .ref rt, .ref rl])), (rp, .inl (cI, 72, .inl fp)), (rt, .inl (cI, 72, .inl ft)), (rl, .inl (cI, 72, .inl fl)), (o2, .inr (1, [.ref oS, .ref q1, .ref q2, .ref q3])), (q1, .inl (cI, 72, .inl z1)), (q2, .inl (cI, 72, .inl z2)), (q3, .inl (cI, 72, .inl z3)), (oF, .inr (0, [.ref oS, .ref oN])), (oT, .inr (4, [.ref rc, .int (nI n)])), (rc, .inl (cI, 60, .inl cd)), (oM, .inr (6, [.int th, .ref rz, .ref r2, .int (nI kc), .ref rb, .int (nI n), .int tp, .int lf, .int hg, .int wd, .ref rq, .int pm, .int stt, .long hh])), (rz, .inl (cI, 389, .inl z)), (r2, .inl (cI, 2334, .inl zs)), (rb, .inl (cI, 60, .inl cd)), (rq, .inl (cI, 72, .inl pt)), (oX, .inr (5, [.ref oS, .ref oR, .ref oN, .ref o2, .ref oF, .ref oT])), (oS, .inr (3, [.ref rv, .ref rs, .int (nI (min (kc + 1) 6))])), (rv, .inl (cI, 385, .inl (n_ink v b9 d9 h9 w9 (nI x9)))), (rs, .inl (cI, 2310, .inl (n_push v sv))), (ro, .inl (cL, 1, .inr (.inl go_4)))] := hD
    try dsimp only at hw_3
    obtain ⟨rfl, hgo⟩ := hw_3
    have hP : va_P (dC, dI) vwCl [(oR, .inr (2, [.ref oS])), (oN, .inr (1, [.ref oS, .ref rp, .ref rt, .ref rl])), (rp, .inl (cI, 72, .inl fp)), (rt, .inl (cI, 72, .inl ft)), (rl, .inl (cI, 72, .inl fl)), (o2, .inr (1, [.ref oS, .ref q1, .ref q2, .ref q3])), (q1, .inl (cI, 72, .inl z1)), (q2, .inl (cI, 72, .inl z2)), (q3, .inl (cI, 72, .inl z3)), (oF, .inr (0, [.ref oS, .ref oN])), (oT, .inr (4, [.ref rc, .int (nI n)])), (rc, .inl (cI, 60, .inl cd)), (oM, .inr (6, [.int th, .ref rz, .ref r2, .int (nI kc), .ref rb, .int (nI n), .int tp, .int lf, .int hg, .int wd, .ref rq, .int pm, .int stt, .long hh])), (rz, .inl (cI, 389, .inl z)), (r2, .inl (cI, 2334, .inl zs)), (rb, .inl (cI, 60, .inl cd)), (rq, .inl (cI, 72, .inl pt)), (oX, .inr (5, [.ref oS, .ref oR, .ref oN, .ref o2, .ref oF, .ref oT])), (oS, .inr (3, [.ref rv, .ref rs, .int (nI (min (kc + 1) 6))])), (rv, .inl (cI, 385, .inl (n_ink v b9 d9 h9 w9 (nI x9)))), (rs, .inl (cI, 2310, .inl (n_push v sv))), (ro, .inl (cL, 1, .inr (.inl go_4)))] H := hP
    have hD : va_D A [(oR, .inr (2, [.ref oS])), (oN, .inr (1, [.ref oS, .ref rp, .ref rt, .ref rl])), (rp, .inl (cI, 72, .inl fp)), (rt, .inl (cI, 72, .inl ft)), (rl, .inl (cI, 72, .inl fl)), (o2, .inr (1, [.ref oS, .ref q1, .ref q2, .ref q3])), (q1, .inl (cI, 72, .inl z1)), (q2, .inl (cI, 72, .inl z2)), (q3, .inl (cI, 72, .inl z3)), (oF, .inr (0, [.ref oS, .ref oN])), (oT, .inr (4, [.ref rc, .int (nI n)])), (rc, .inl (cI, 60, .inl cd)), (oM, .inr (6, [.int th, .ref rz, .ref r2, .int (nI kc), .ref rb, .int (nI n), .int tp, .int lf, .int hg, .int wd, .ref rq, .int pm, .int stt, .long hh])), (rz, .inl (cI, 389, .inl z)), (r2, .inl (cI, 2334, .inl zs)), (rb, .inl (cI, 60, .inl cd)), (rq, .inl (cI, 72, .inl pt)), (oX, .inr (5, [.ref oS, .ref oR, .ref oN, .ref o2, .ref oF, .ref oT])), (oS, .inr (3, [.ref rv, .ref rs, .int (nI (min (kc + 1) 6))])), (rv, .inl (cI, 385, .inl (n_ink v b9 d9 h9 w9 (nI x9)))), (rs, .inl (cI, 2310, .inl (n_push v sv))), (ro, .inl (cL, 1, .inr (.inl go_4)))] := hD
    refine lv_istore (lv' := [(5, .int 0), (0, .ref b), (1, .ref oX), (2, .ref oM), (3, .ref ro), (4, .int (nI (6 * j)))]) hx hb dL_law_471 hl (by decide) rfl (fun ls hl => ?_)
    refine lv_aload_n hx hb dL_law_473 rfl (lv_at hl 3 rfl) ?_
    refine lv_aload_n hx hb dL_law_474 rfl (lv_at hl 1 rfl) ?_
    refine lv_iload hx hb dL_law_475 (lv_at hl 5 rfl) ?_
    refine lv_iconst (v := 1) hx hb dL_law_477 (by decide) ?_
    refine lv_iadd hx hb dL_law_478 ?_
    refine kq_top (z := nI ((6 * j) + 1)) (nI_add (6 * j) 1) ?_
    refine va_sld hx hb hX hbl hbA hS (vp_in_nI (show (6 * j) + 1 < L from by omega) (by omega)) dL_law_479 ?_
    refine kq_top (z := nI b9) ((congrArg xs (nI_clamp (Nat.lt_trans (show (6 * j) + 1 < L from by omega) (by omega)))).trans e1.symm) ?_
    refine lv_aload_n hx hb dL_law_480 rfl (lv_at hl 1 rfl) ?_
    refine lv_iload hx hb dL_law_481 (lv_at hl 5 rfl) ?_
    refine lv_iconst (v := 2) hx hb dL_law_483 (by decide) ?_
    refine lv_iadd hx hb dL_law_484 ?_
    refine kq_top (z := nI ((6 * j) + 2)) (nI_add (6 * j) 2) ?_
    refine va_sld hx hb hX hbl hbA hS (vp_in_nI (show (6 * j) + 2 < L from by omega) (by omega)) dL_law_485 ?_
    refine kq_top (z := nI d9) ((congrArg xs (nI_clamp (Nat.lt_trans (show (6 * j) + 2 < L from by omega) (by omega)))).trans e2.symm) ?_
    refine lv_aload_n hx hb dL_law_486 rfl (lv_at hl 1 rfl) ?_
    refine lv_iload hx hb dL_law_487 (lv_at hl 5 rfl) ?_
    refine lv_iconst (v := 3) hx hb dL_law_489 (by decide) ?_
    refine lv_iadd hx hb dL_law_490 ?_
    refine kq_top (z := nI ((6 * j) + 3)) (nI_add (6 * j) 3) ?_
    refine va_sld hx hb hX hbl hbA hS (vp_in_nI (show (6 * j) + 3 < L from by omega) (by omega)) dL_law_491 ?_
    refine kq_top (z := nI h9) ((congrArg xs (nI_clamp (Nat.lt_trans (show (6 * j) + 3 < L from by omega) (by omega)))).trans e3.symm) ?_
    refine lv_aload_n hx hb dL_law_492 rfl (lv_at hl 1 rfl) ?_
    refine lv_iload hx hb dL_law_493 (lv_at hl 5 rfl) ?_
    refine lv_iconst (v := 4) hx hb dL_law_495 (by decide) ?_
    refine lv_iadd hx hb dL_law_496 ?_
    refine kq_top (z := nI ((6 * j) + 4)) (nI_add (6 * j) 4) ?_
    refine va_sld hx hb hX hbl hbA hS (vp_in_nI (show (6 * j) + 4 < L from by omega) (by omega)) dL_law_497 ?_
    refine kq_top (z := nI w9) ((congrArg xs (nI_clamp (Nat.lt_trans (show (6 * j) + 4 < L from by omega) (by omega)))).trans e4.symm) ?_
    refine lv_aload_n hx hb dL_law_498 rfl (lv_at hl 1 rfl) ?_
    refine lv_iload hx hb dL_law_499 (lv_at hl 5 rfl) ?_
    refine lv_iconst (v := 5) hx hb dL_law_501 (by decide) ?_
    refine lv_iadd hx hb dL_law_502 ?_
    refine kq_top (z := nI ((6 * j) + 5)) (nI_add (6 * j) 5) ?_
    refine va_sld hx hb hX hbl hbA hS (vp_in_nI (show (6 * j) + 5 < L from by omega) (by omega)) dL_law_503 ?_
    refine kq_top (z := nI x9) ((congrArg xs (nI_clamp (Nat.lt_trans (show (6 * j) + 5 < L from by omega) (by omega)))).trans e5.symm) ?_
    refine kq_callMi (wr := [(oR, .inr (2, [.ref oS])), (oN, .inr (1, [.ref oS, .ref rp, .ref rt, .ref rl])), (rp, .inl (cI, 72, .inl fp)), (rt, .inl (cI, 72, .inl ft)), (rl, .inl (cI, 72, .inl fl)), (o2, .inr (1, [.ref oS, .ref q1, .ref q2, .ref q3])), (q1, .inl (cI, 72, .inl z1)), (q2, .inl (cI, 72, .inl z2)), (q3, .inl (cI, 72, .inl z3)), (oF, .inr (0, [.ref oS, .ref oN])), (oT, .inr (4, [.ref rc, .int (nI n)])), (rc, .inl (cI, 60, .inl cd)), (rb, .inl (cI, 60, .inl cd)), (rq, .inl (cI, 72, .inl pt)), (oX, .inr (5, [.ref oS, .ref oR, .ref oN, .ref o2, .ref oF, .ref oT])), (oS, .inr (3, [.ref rv, .ref rs, .int (nI (min (kc + 1) 6))])), (rv, .inl (cI, 385, .inl (n_ink v b9 d9 h9 w9 (nI x9)))), (rs, .inl (cI, 2310, .inl (n_push v sv))), (ro, .inl (cL, 1, .inr (.inl go_4)))]) (va_runV (As := [.int (nI b9), .int (nI d9), .int (nI h9), .int (nI w9), .int (nI x9)]) (rest := []) ⟨hx, hb, hml, hown, hts⟩ (c_X6_ink l dC dI cI H.size oM rz r2 rb rq kc n th tp lf hg wd pm stt hh z zs cd pt v b9 d9 h9 w9 (nI x9) (by first | assumption | omega) (by first | assumption | omega) (by first | assumption | omega) (by first | assumption | omega) (by first | assumption | omega) (by first | assumption | omega) (by first | assumption | omega)) (cwV 5 hts gL_law_X6_ink rfl rfl rfl (by decide +kernel) ⟨Nat.le_of_ble_eq_true rfl, Nat.le_of_ble_eq_true rfl⟩) (kq_preV (ci := 6) (q0 := 0) (hP.sub [12, 13, 14] rfl) (hD.sub [12, 13, 14] (by decide) rfl) hK rfl rfl) rfl rfl hl.1 rfl (lv_room (Nat.le_of_ble_eq_true rfl)) dL_law_504 (kl_room (by omega) (by omega))) hP hD hS hA [12, 13, 14] [0, 1, 2, 3, 4, 5, 6, 7, 8, 9, 10, 11, 15, 16, 17, 18, 19, 20, 21] rfl rfl (by decide) (by decide) (fun r_5 u_6 H locs hw_7 hP hD hS => ?_)
    obtain ⟨ys_8, rfl⟩ : ∃ z, z = u_6 := ⟨_, rfl⟩
    have hP : va_P (dC, dI) vwCl [(oR, .inr (2, [.ref oS])), (oN, .inr (1, [.ref oS, .ref rp, .ref rt, .ref rl])), (rp, .inl (cI, 72, .inl fp)), (rt, .inl (cI, 72, .inl ft)), (rl, .inl (cI, 72, .inl fl)), (o2, .inr (1, [.ref oS, .ref q1, .ref q2, .ref q3])), (q1, .inl (cI, 72, .inl z1)), (q2, .inl (cI, 72, .inl z2)), (q3, .inl (cI, 72, .inl z3)), (oF, .inr (0, [.ref oS, .ref oN])), (oT, .inr (4, [.ref rc, .int (nI n)])), (rc, .inl (cI, 60, .inl cd)), (rb, .inl (cI, 60, .inl cd)), (rq, .inl (cI, 72, .inl pt)), (oX, .inr (5, [.ref oS, .ref oR, .ref oN, .ref o2, .ref oF, .ref oT])), (oS, .inr (3, [.ref rv, .ref rs, .int (nI (min (kc + 1) 6))])), (rv, .inl (cI, 385, .inl (n_ink v b9 d9 h9 w9 (nI x9)))), (rs, .inl (cI, 2310, .inl (n_push v sv))), (ro, .inl (cL, 1, .inr (.inl go_4))), (oM, .inr (6, [.int 0, .ref rz, .ref r2, .int (nI (min (kc + 1) 6)), .ref rb, .int (nI n), .int (nI b9), .int (nI d9), .int (nI h9), .int (nI w9), .ref rq, .int pm, .int stt, .long hh])), (rz, .inl (cI, 389, .inl (n_inkZ z b9 d9 h9 w9 (nI x9)))), (r2, .inl (cI, 2334, .inl ys_8))] H := hP
    have hD : va_D A [(oR, .inr (2, [.ref oS])), (oN, .inr (1, [.ref oS, .ref rp, .ref rt, .ref rl])), (rp, .inl (cI, 72, .inl fp)), (rt, .inl (cI, 72, .inl ft)), (rl, .inl (cI, 72, .inl fl)), (o2, .inr (1, [.ref oS, .ref q1, .ref q2, .ref q3])), (q1, .inl (cI, 72, .inl z1)), (q2, .inl (cI, 72, .inl z2)), (q3, .inl (cI, 72, .inl z3)), (oF, .inr (0, [.ref oS, .ref oN])), (oT, .inr (4, [.ref rc, .int (nI n)])), (rc, .inl (cI, 60, .inl cd)), (rb, .inl (cI, 60, .inl cd)), (rq, .inl (cI, 72, .inl pt)), (oX, .inr (5, [.ref oS, .ref oR, .ref oN, .ref o2, .ref oF, .ref oT])), (oS, .inr (3, [.ref rv, .ref rs, .int (nI (min (kc + 1) 6))])), (rv, .inl (cI, 385, .inl (n_ink v b9 d9 h9 w9 (nI x9)))), (rs, .inl (cI, 2310, .inl (n_push v sv))), (ro, .inl (cL, 1, .inr (.inl go_4))), (oM, .inr (6, [.int 0, .ref rz, .ref r2, .int (nI (min (kc + 1) 6)), .ref rb, .int (nI n), .int (nI b9), .int (nI d9), .int (nI h9), .int (nI w9), .ref rq, .int pm, .int stt, .long hh])), (rz, .inl (cI, 389, .inl (n_inkZ z b9 d9 h9 w9 (nI x9)))), (r2, .inl (cI, 2334, .inl ys_8))] := hD
    try dsimp only at hw_7
    obtain ⟨hr2, hsv2⟩ := hw_7
    refine lv_istore (lv' := [(6, .int r_5), (5, .int 0), (0, .ref b), (1, .ref oX), (2, .ref oM), (3, .ref ro), (4, .int (nI (6 * j)))]) hx hb dL_law_507 hl (by decide) rfl (fun ls hl => ?_)
    refine lv_aload_n hx hb dL_law_509 rfl (lv_at hl 4 rfl) ?_
    refine kq_cV (As := []) (rest := []) ⟨hx, hb, hml, hown, hts⟩ (c_X6_thrown l dC dI cI oM rz r2 rb rq (min (kc + 1) 6) n 0 (nI b9) (nI d9) (nI h9) (nI w9) pm stt hh z v ) (cwV 0 hts gL_law_X6_thrown rfl rfl rfl (by decide +kernel) ⟨Nat.le_of_ble_eq_true rfl, Nat.le_of_ble_eq_true rfl⟩) (hP.sub [19] rfl) hK (ci := 6) (q0 := 0) rfl rfl rfl rfl hl.1 rfl (Nat.le_of_ble_eq_true rfl) dL_law_510 (kl_room (by omega) (by omega)) ?_
    refine lv_iload hx hb dL_law_513 (lv_at hl 1 rfl) ?_
    refine lv_icmp_eq (tgt := 520) hx hb dL_law_515 (by decide) (fun _ => ?_) (fun q => absurd q (by decide))
    refine lv_iload hx hb dL_law_520 (lv_at hl 1 rfl) ?_
    refine lv_if_ne (tgt := 537) hx hb dL_law_522 (by decide) (fun q => absurd q (by decide)) (fun _ => ?_)
    refine lv_aload_n hx hb dL_law_525 rfl (lv_at hl 5 rfl) ?_
    refine lv_iconst (v := 0) hx hb dL_law_526 (by decide) ?_
    refine va_lald hx hb hKL hP 18 0 rfl rfl (show ¬ ((0:Int32) < 0 ∨ 1 ≤ Int32.toNatClampNeg 0) by decide) dL_law_527 ?_
    refine kq_topl (z := (n_inkn v b9 d9 h9 w9 (nI x9) : Int32).toInt64) (hgo) ?_
    refine lv_iload hx hb dL_law_528 (lv_at hl 0 rfl) ?_
    refine lv_i2l (v := (r_5 : Int32).toInt64) hx hb dL_law_530 rfl ?_
    refine W.lcmp hx hb dL_law_531 ?_
    refine lv_if_eq (tgt := 537) hx hb dL_law_532 (by decide) (fun _ => ?_) (fun c_9 => absurd (kq_lce ((n_inkm_eq (by omega) (by omega)).trans hr2.symm)) c_9)
    refine lv_goto (tgt := 1562) hx hb dL_law_537 (by decide) ?_
    refine W.widen (k := 28 + (j + 1)) (n := 6079 + 6 * (j + 1)) (by omega) (by omega) ?_
    subst hAe
    exact kk (min (kc + 1) 6) n (n_ink v b9 d9 h9 w9 (nI x9)) (n_push v sv) fp ft fl z1 z2 z3 cd (n_inkZ z b9 d9 h9 w9 (nI x9)) ys_8 pt 0 (nI b9) (nI d9) (nI h9) (nI w9) pm stt hh go_4 (⟨by omega, hn, n_I_ink hI hx9.2, n_Z_ink hz, n_SV_push hkc hsv hI hz hsv2⟩) _ _ (hP.sub [14, 15, 16, 17, 0, 1, 2, 3, 4, 5, 6, 7, 8, 9, 10, 11, 19, 20, 21, 12, 13, 18] rfl) (hD.sub [14, 15, 16, 17, 0, 1, 2, 3, 4, 5, 6, 7, 8, 9, 10, 11, 19, 20, 21, 12, 13, 18] (by decide) rfl) hS ls (lv_sub hl [2, 3, 4, 5, 6] rfl)
  · skip
    refine lv_aload_n hx hb dL_law_436 rfl (lv_at hl 1 rfl) ?_
    refine lv_aload_n hx hb dL_law_437 rfl (lv_at hl 0 rfl) ?_
    refine lv_iload hx hb dL_law_438 (lv_at hl 4 rfl) ?_
    refine lv_iconst (v := 1) hx hb dL_law_440 (by decide) ?_
    refine lv_iadd hx hb dL_law_441 ?_
    refine kq_top (z := nI ((6 * j) + 1)) (nI_add (6 * j) 1) ?_
    refine va_sld hx hb hX hbl hbA hS (vp_in_nI (show (6 * j) + 1 < L from by omega) (by omega)) dL_law_442 ?_
    refine kq_top (z := x1) ((congrArg xs (nI_clamp (Nat.lt_trans (show (6 * j) + 1 < L from by omega) (by omega)))).trans e1.symm) ?_
    refine lv_aload_n hx hb dL_law_443 rfl (lv_at hl 0 rfl) ?_
    refine lv_iload hx hb dL_law_444 (lv_at hl 4 rfl) ?_
    refine lv_iconst (v := 2) hx hb dL_law_446 (by decide) ?_
    refine lv_iadd hx hb dL_law_447 ?_
    refine kq_top (z := nI ((6 * j) + 2)) (nI_add (6 * j) 2) ?_
    refine va_sld hx hb hX hbl hbA hS (vp_in_nI (show (6 * j) + 2 < L from by omega) (by omega)) dL_law_448 ?_
    refine kq_top (z := x2) ((congrArg xs (nI_clamp (Nat.lt_trans (show (6 * j) + 2 < L from by omega) (by omega)))).trans e2.symm) ?_
    refine lv_aload_n hx hb dL_law_449 rfl (lv_at hl 0 rfl) ?_
    refine lv_iload hx hb dL_law_450 (lv_at hl 4 rfl) ?_
    refine lv_iconst (v := 3) hx hb dL_law_452 (by decide) ?_
    refine lv_iadd hx hb dL_law_453 ?_
    refine kq_top (z := nI ((6 * j) + 3)) (nI_add (6 * j) 3) ?_
    refine va_sld hx hb hX hbl hbA hS (vp_in_nI (show (6 * j) + 3 < L from by omega) (by omega)) dL_law_454 ?_
    refine kq_top (z := x3) ((congrArg xs (nI_clamp (Nat.lt_trans (show (6 * j) + 3 < L from by omega) (by omega)))).trans e3.symm) ?_
    refine lv_aload_n hx hb dL_law_455 rfl (lv_at hl 0 rfl) ?_
    refine lv_iload hx hb dL_law_456 (lv_at hl 4 rfl) ?_
    refine lv_iconst (v := 4) hx hb dL_law_458 (by decide) ?_
    refine lv_iadd hx hb dL_law_459 ?_
    refine kq_top (z := nI ((6 * j) + 4)) (nI_add (6 * j) 4) ?_
    refine va_sld hx hb hX hbl hbA hS (vp_in_nI (show (6 * j) + 4 < L from by omega) (by omega)) dL_law_460 ?_
    refine kq_top (z := x4) ((congrArg xs (nI_clamp (Nat.lt_trans (show (6 * j) + 4 < L from by omega) (by omega)))).trans e4.symm) ?_
    refine lv_aload_n hx hb dL_law_461 rfl (lv_at hl 0 rfl) ?_
    refine lv_iload hx hb dL_law_462 (lv_at hl 4 rfl) ?_
    refine lv_iconst (v := 5) hx hb dL_law_464 (by decide) ?_
    refine lv_iadd hx hb dL_law_465 ?_
    refine kq_top (z := nI ((6 * j) + 5)) (nI_add (6 * j) 5) ?_
    refine va_sld hx hb hX hbl hbA hS (vp_in_nI (show (6 * j) + 5 < L from by omega) (by omega)) dL_law_466 ?_
    refine kq_top (z := x5) ((congrArg xs (nI_clamp (Nat.lt_trans (show (6 * j) + 5 < L from by omega) (by omega)))).trans e5.symm) ?_
    refine lv_aload_n hx hb dL_law_467 rfl (lv_at hl 3 rfl) ?_
    refine kq_callMi (wr := [(oS, .inr (3, [.ref rv, .ref rs, .int (nI kc)])), (rv, .inl (cI, 385, .inl v)), (rs, .inl (cI, 2310, .inl sv)), (oR, .inr (2, [.ref oS])), (oN, .inr (1, [.ref oS, .ref rp, .ref rt, .ref rl])), (rp, .inl (cI, 72, .inl fp)), (rt, .inl (cI, 72, .inl ft)), (rl, .inl (cI, 72, .inl fl)), (o2, .inr (1, [.ref oS, .ref q1, .ref q2, .ref q3])), (q1, .inl (cI, 72, .inl z1)), (q2, .inl (cI, 72, .inl z2)), (q3, .inl (cI, 72, .inl z3)), (oF, .inr (0, [.ref oS, .ref oN])), (oT, .inr (4, [.ref rc, .int (nI n)])), (rc, .inl (cI, 60, .inl cd)), (oM, .inr (6, [.int th, .ref rz, .ref r2, .int (nI kc), .ref rb, .int (nI n), .int tp, .int lf, .int hg, .int wd, .ref rq, .int pm, .int stt, .long hh])), (rz, .inl (cI, 389, .inl z)), (r2, .inl (cI, 2334, .inl zs)), (rb, .inl (cI, 60, .inl cd)), (rq, .inl (cI, 72, .inl pt))]) (vx_runSW (As := [.ref oX, .int x1, .int x2, .int x3, .int x4, .int x5, .ref ro]) (rest := []) ⟨hx, hb, hml, hown, hts⟩ (c_L_ink_x l hls dC dI cI cL s1 s2 s3 s4 H.size oX oS oR oN o2 oF oT rv rs kc v sv x1 x2 x3 x4 x5 ro fo (by first | assumption | omega)) (vx_cwSW 7 hts gL_law_L_ink rfl rfl rfl (by decide +kernel) ⟨Nat.le_of_ble_eq_true rfl, Nat.le_of_ble_eq_true rfl⟩) (kq_preSH (hP.sub [0, 21] rfl) (hD.sub [0, 21] (by decide) rfl) hS hA hK hKL hT) rfl rfl hl.1 rfl (lv_room (Nat.le_of_ble_eq_true rfl)) dL_law_468 (kl_room (by omega) (by omega))) hP hD hS hA [0, 21] [1, 2, 3, 4, 5, 6, 7, 8, 9, 10, 11, 12, 13, 14, 15, 16, 17, 18, 19, 20] rfl rfl (by decide) (by decide) (fun r_10 u_11 H locs hw_12 hP hD hS => ?_)
    have hP : va_P (dC, dI) vwCl [(oS, .inr (3, [.ref rv, .ref rs, .int (nI kc)])), (rv, .inl (cI, 385, .inl v)), (rs, .inl (cI, 2310, .inl sv)), (oR, .inr (2, [.ref oS])), (oN, .inr (1, [.ref oS, .ref rp, .ref rt, .ref rl])), (rp, .inl (cI, 72, .inl fp)), (rt, .inl (cI, 72, .inl ft)), (rl, .inl (cI, 72, .inl fl)), (o2, .inr (1, [.ref oS, .ref q1, .ref q2, .ref q3])), (q1, .inl (cI, 72, .inl z1)), (q2, .inl (cI, 72, .inl z2)), (q3, .inl (cI, 72, .inl z3)), (oF, .inr (0, [.ref oS, .ref oN])), (oT, .inr (4, [.ref rc, .int (nI n)])), (rc, .inl (cI, 60, .inl cd)), (oM, .inr (6, [.int th, .ref rz, .ref r2, .int (nI kc), .ref rb, .int (nI n), .int tp, .int lf, .int hg, .int wd, .ref rq, .int pm, .int stt, .long hh])), (rz, .inl (cI, 389, .inl z)), (r2, .inl (cI, 2334, .inl zs)), (rb, .inl (cI, 60, .inl cd)), (rq, .inl (cI, 72, .inl pt)), (oX, .inr (5, [.ref oS, .ref oR, .ref oN, .ref o2, .ref oF, .ref oT])), (ro, .inl (cL, 1, .inr (.inl fo)))] H := hP
    have hD : va_D A [(oS, .inr (3, [.ref rv, .ref rs, .int (nI kc)])), (rv, .inl (cI, 385, .inl v)), (rs, .inl (cI, 2310, .inl sv)), (oR, .inr (2, [.ref oS])), (oN, .inr (1, [.ref oS, .ref rp, .ref rt, .ref rl])), (rp, .inl (cI, 72, .inl fp)), (rt, .inl (cI, 72, .inl ft)), (rl, .inl (cI, 72, .inl fl)), (o2, .inr (1, [.ref oS, .ref q1, .ref q2, .ref q3])), (q1, .inl (cI, 72, .inl z1)), (q2, .inl (cI, 72, .inl z2)), (q3, .inl (cI, 72, .inl z3)), (oF, .inr (0, [.ref oS, .ref oN])), (oT, .inr (4, [.ref rc, .int (nI n)])), (rc, .inl (cI, 60, .inl cd)), (oM, .inr (6, [.int th, .ref rz, .ref r2, .int (nI kc), .ref rb, .int (nI n), .int tp, .int lf, .int hg, .int wd, .ref rq, .int pm, .int stt, .long hh])), (rz, .inl (cI, 389, .inl z)), (r2, .inl (cI, 2334, .inl zs)), (rb, .inl (cI, 60, .inl cd)), (rq, .inl (cI, 72, .inl pt)), (oX, .inr (5, [.ref oS, .ref oR, .ref oN, .ref o2, .ref oF, .ref oT])), (ro, .inl (cL, 1, .inr (.inl fo)))] := hD
    try dsimp only at hw_12
    have hr1 := hw_12
    refine lv_istore (lv' := [(5, .int r_10), (0, .ref b), (1, .ref oX), (2, .ref oM), (3, .ref ro), (4, .int (nI (6 * j)))]) hx hb dL_law_471 hl (by decide) rfl (fun ls hl => ?_)
    refine lv_aload_n hx hb dL_law_473 rfl (lv_at hl 3 rfl) ?_
    refine lv_aload_n hx hb dL_law_474 rfl (lv_at hl 1 rfl) ?_
    refine lv_iload hx hb dL_law_475 (lv_at hl 5 rfl) ?_
    refine lv_iconst (v := 1) hx hb dL_law_477 (by decide) ?_
    refine lv_iadd hx hb dL_law_478 ?_
    refine kq_top (z := nI ((6 * j) + 1)) (nI_add (6 * j) 1) ?_
    refine va_sld hx hb hX hbl hbA hS (vp_in_nI (show (6 * j) + 1 < L from by omega) (by omega)) dL_law_479 ?_
    refine kq_top (z := x1) ((congrArg xs (nI_clamp (Nat.lt_trans (show (6 * j) + 1 < L from by omega) (by omega)))).trans e1.symm) ?_
    refine lv_aload_n hx hb dL_law_480 rfl (lv_at hl 1 rfl) ?_
    refine lv_iload hx hb dL_law_481 (lv_at hl 5 rfl) ?_
    refine lv_iconst (v := 2) hx hb dL_law_483 (by decide) ?_
    refine lv_iadd hx hb dL_law_484 ?_
    refine kq_top (z := nI ((6 * j) + 2)) (nI_add (6 * j) 2) ?_
    refine va_sld hx hb hX hbl hbA hS (vp_in_nI (show (6 * j) + 2 < L from by omega) (by omega)) dL_law_485 ?_
    refine kq_top (z := x2) ((congrArg xs (nI_clamp (Nat.lt_trans (show (6 * j) + 2 < L from by omega) (by omega)))).trans e2.symm) ?_
    refine lv_aload_n hx hb dL_law_486 rfl (lv_at hl 1 rfl) ?_
    refine lv_iload hx hb dL_law_487 (lv_at hl 5 rfl) ?_
    refine lv_iconst (v := 3) hx hb dL_law_489 (by decide) ?_
    refine lv_iadd hx hb dL_law_490 ?_
    refine kq_top (z := nI ((6 * j) + 3)) (nI_add (6 * j) 3) ?_
    refine va_sld hx hb hX hbl hbA hS (vp_in_nI (show (6 * j) + 3 < L from by omega) (by omega)) dL_law_491 ?_
    refine kq_top (z := x3) ((congrArg xs (nI_clamp (Nat.lt_trans (show (6 * j) + 3 < L from by omega) (by omega)))).trans e3.symm) ?_
    refine lv_aload_n hx hb dL_law_492 rfl (lv_at hl 1 rfl) ?_
    refine lv_iload hx hb dL_law_493 (lv_at hl 5 rfl) ?_
    refine lv_iconst (v := 4) hx hb dL_law_495 (by decide) ?_
    refine lv_iadd hx hb dL_law_496 ?_
    refine kq_top (z := nI ((6 * j) + 4)) (nI_add (6 * j) 4) ?_
    refine va_sld hx hb hX hbl hbA hS (vp_in_nI (show (6 * j) + 4 < L from by omega) (by omega)) dL_law_497 ?_
    refine kq_top (z := x4) ((congrArg xs (nI_clamp (Nat.lt_trans (show (6 * j) + 4 < L from by omega) (by omega)))).trans e4.symm) ?_
    refine lv_aload_n hx hb dL_law_498 rfl (lv_at hl 1 rfl) ?_
    refine lv_iload hx hb dL_law_499 (lv_at hl 5 rfl) ?_
    refine lv_iconst (v := 5) hx hb dL_law_501 (by decide) ?_
    refine lv_iadd hx hb dL_law_502 ?_
    refine kq_top (z := nI ((6 * j) + 5)) (nI_add (6 * j) 5) ?_
    refine va_sld hx hb hX hbl hbA hS (vp_in_nI (show (6 * j) + 5 < L from by omega) (by omega)) dL_law_503 ?_
    refine kq_top (z := x5) ((congrArg xs (nI_clamp (Nat.lt_trans (show (6 * j) + 5 < L from by omega) (by omega)))).trans e5.symm) ?_
    refine kq_callMi (wr := [(oS, .inr (3, [.ref rv, .ref rs, .int (nI kc)])), (rv, .inl (cI, 385, .inl v)), (rs, .inl (cI, 2310, .inl sv)), (oR, .inr (2, [.ref oS])), (oN, .inr (1, [.ref oS, .ref rp, .ref rt, .ref rl])), (rp, .inl (cI, 72, .inl fp)), (rt, .inl (cI, 72, .inl ft)), (rl, .inl (cI, 72, .inl fl)), (o2, .inr (1, [.ref oS, .ref q1, .ref q2, .ref q3])), (q1, .inl (cI, 72, .inl z1)), (q2, .inl (cI, 72, .inl z2)), (q3, .inl (cI, 72, .inl z3)), (oF, .inr (0, [.ref oS, .ref oN])), (oT, .inr (4, [.ref rc, .int (nI n)])), (rc, .inl (cI, 60, .inl cd)), (rz, .inl (cI, 389, .inl z)), (r2, .inl (cI, 2334, .inl zs)), (rb, .inl (cI, 60, .inl cd)), (rq, .inl (cI, 72, .inl pt)), (oX, .inr (5, [.ref oS, .ref oR, .ref oN, .ref o2, .ref oF, .ref oT])), (ro, .inl (cL, 1, .inr (.inl fo)))]) (va_runV (As := [.int x1, .int x2, .int x3, .int x4, .int x5]) (rest := []) ⟨hx, hb, hml, hown, hts⟩ (c_X6_ink_t l dC dI cI H.size oM rz r2 rb rq kc n th tp lf hg wd pm stt hh z v x1 x2 x3 x4 x5 (fun q => hG (by simpa only [kq_l3, kq_l6, kq_l16, kq_l12, kq_l4, kq_lk, and_assoc] using q))) (cwV 5 hts gL_law_X6_ink rfl rfl rfl (by decide +kernel) ⟨Nat.le_of_ble_eq_true rfl, Nat.le_of_ble_eq_true rfl⟩) (kq_preV (ci := 6) (q0 := 0) (hP.sub [15] rfl) (hD.sub [15] (by decide) rfl) hK rfl rfl) rfl rfl hl.1 rfl (lv_room (Nat.le_of_ble_eq_true rfl)) dL_law_504 (kl_room (by omega) (by omega))) hP hD hS hA [15] [0, 1, 2, 3, 4, 5, 6, 7, 8, 9, 10, 11, 12, 13, 14, 16, 17, 18, 19, 20, 21] rfl rfl (by decide) (by decide) (fun r_13 u_14 H locs hw_15 hP hD hS => ?_)
    obtain ⟨t9_16, rfl⟩ : ∃ z, z = u_14 := ⟨_, rfl⟩
    have hP : va_P (dC, dI) vwCl [(oS, .inr (3, [.ref rv, .ref rs, .int (nI kc)])), (rv, .inl (cI, 385, .inl v)), (rs, .inl (cI, 2310, .inl sv)), (oR, .inr (2, [.ref oS])), (oN, .inr (1, [.ref oS, .ref rp, .ref rt, .ref rl])), (rp, .inl (cI, 72, .inl fp)), (rt, .inl (cI, 72, .inl ft)), (rl, .inl (cI, 72, .inl fl)), (o2, .inr (1, [.ref oS, .ref q1, .ref q2, .ref q3])), (q1, .inl (cI, 72, .inl z1)), (q2, .inl (cI, 72, .inl z2)), (q3, .inl (cI, 72, .inl z3)), (oF, .inr (0, [.ref oS, .ref oN])), (oT, .inr (4, [.ref rc, .int (nI n)])), (rc, .inl (cI, 60, .inl cd)), (rz, .inl (cI, 389, .inl z)), (r2, .inl (cI, 2334, .inl zs)), (rb, .inl (cI, 60, .inl cd)), (rq, .inl (cI, 72, .inl pt)), (oX, .inr (5, [.ref oS, .ref oR, .ref oN, .ref o2, .ref oF, .ref oT])), (ro, .inl (cL, 1, .inr (.inl fo))), (oM, .inr (6, [.int t9_16, .ref rz, .ref r2, .int (nI kc), .ref rb, .int (nI n), .int tp, .int lf, .int hg, .int wd, .ref rq, .int pm, .int stt, .long hh]))] H := hP
    have hD : va_D A [(oS, .inr (3, [.ref rv, .ref rs, .int (nI kc)])), (rv, .inl (cI, 385, .inl v)), (rs, .inl (cI, 2310, .inl sv)), (oR, .inr (2, [.ref oS])), (oN, .inr (1, [.ref oS, .ref rp, .ref rt, .ref rl])), (rp, .inl (cI, 72, .inl fp)), (rt, .inl (cI, 72, .inl ft)), (rl, .inl (cI, 72, .inl fl)), (o2, .inr (1, [.ref oS, .ref q1, .ref q2, .ref q3])), (q1, .inl (cI, 72, .inl z1)), (q2, .inl (cI, 72, .inl z2)), (q3, .inl (cI, 72, .inl z3)), (oF, .inr (0, [.ref oS, .ref oN])), (oT, .inr (4, [.ref rc, .int (nI n)])), (rc, .inl (cI, 60, .inl cd)), (rz, .inl (cI, 389, .inl z)), (r2, .inl (cI, 2334, .inl zs)), (rb, .inl (cI, 60, .inl cd)), (rq, .inl (cI, 72, .inl pt)), (oX, .inr (5, [.ref oS, .ref oR, .ref oN, .ref o2, .ref oF, .ref oT])), (ro, .inl (cL, 1, .inr (.inl fo))), (oM, .inr (6, [.int t9_16, .ref rz, .ref r2, .int (nI kc), .ref rb, .int (nI n), .int tp, .int lf, .int hg, .int wd, .ref rq, .int pm, .int stt, .long hh]))] := hD
    try dsimp only at hw_15
    have ht1 := hw_15
    obtain ⟨hth, hr0⟩ := kq_tr (A := (0 ≤ x1 ∧ x1 < 6) ∧ (0 ≤ x2 ∧ x2 < 12)) (B := (1 ≤ x3 ∧ x3 ≤ 6 - x1) ∧ (1 ≤ x4 ∧ x4 ≤ 12 - x2) ∧ (0 ≤ x5 ∧ x5 ≤ 9)) (A' := ((0 ≤ x1 ∧ x1 ≤ 5) ∧ (0 ≤ x2 ∧ x2 ≤ 11))) (B' := ((1 ≤ x3 ∧ x3 ≤ 6 - x1) ∧ (1 ≤ x4 ∧ x4 ≤ 12 - x2)) ∧ (0 ≤ x5 ∧ x5 ≤ 9)) (by first | exact Iff.rfl | simp only [kq_l3, kq_l6, kq_l16, kq_l12, kq_l4, kq_lk, and_assoc]) (by first | exact Iff.rfl | simp only [kq_l3, kq_l6, kq_l16, kq_l12, kq_l4, kq_lk, and_assoc]) (fun q => hG (by first | exact q | simpa only [and_assoc] using q)) hr1 ht1
    refine lv_istore (lv' := [(6, .int r_13), (5, .int r_10), (0, .ref b), (1, .ref oX), (2, .ref oM), (3, .ref ro), (4, .int (nI (6 * j)))]) hx hb dL_law_507 hl (by decide) rfl (fun ls hl => ?_)
    refine lv_aload_n hx hb dL_law_509 rfl (lv_at hl 4 rfl) ?_
    refine kq_cV (As := []) (rest := []) ⟨hx, hb, hml, hown, hts⟩ (c_X6_thrown l dC dI cI oM rz r2 rb rq kc n t9_16 tp lf hg wd pm stt hh z v ) (cwV 0 hts gL_law_X6_thrown rfl rfl rfl (by decide +kernel) ⟨Nat.le_of_ble_eq_true rfl, Nat.le_of_ble_eq_true rfl⟩) (hP.sub [21] rfl) hK (ci := 6) (q0 := 0) rfl rfl rfl rfl hl.1 rfl (Nat.le_of_ble_eq_true rfl) dL_law_510 (kl_room (by omega) (by omega)) ?_
    refine lv_iload hx hb dL_law_513 (lv_at hl 1 rfl) ?_
    refine lv_icmp_eq (tgt := 520) hx hb dL_law_515 (by decide) (fun _ => ?_) (fun c_17 => absurd hth c_17)
    refine lv_iload hx hb dL_law_520 (lv_at hl 1 rfl) ?_
    refine lv_if_ne (tgt := 537) hx hb dL_law_522 (by decide) (fun _ => ?_) (fun c_18 => absurd c_18 hr0)
    refine lv_goto (tgt := 1562) hx hb dL_law_537 (by decide) ?_
    refine W.widen (k := 28 + (j + 1)) (n := 6079 + 6 * (j + 1)) (by omega) (by omega) ?_
    subst hAe
    exact kk kc n v sv fp ft fl z1 z2 z3 cd z zs pt t9_16 tp lf hg wd pm stt hh fo (hI9) _ _ (hP.sub [19, 0, 1, 2, 3, 4, 5, 6, 7, 8, 9, 10, 11, 12, 13, 14, 21, 15, 16, 17, 18, 20] rfl) (hD.sub [19, 0, 1, 2, 3, 4, 5, 6, 7, 8, 9, 10, 11, 12, 13, 14, 21, 15, 16, 17, 18, 20] (by decide) rfl) hS ls (lv_sub hl [2, 3, 4, 5, 6] rfl)
set_option maxHeartbeats 8000000 in
set_option maxRecDepth 100000 in
theorem kl_figure {p : Program} {l : Launch} {e : Env} {s : State} {m : MethodId} {below : List Frame} {meth : Method} {c : Code} {b L : Nat} {xs : Nat → Int32} {dC : Nat → ClassId} {dI : Nat → Nat → Nat} {cI cL : ClassId} {s1 s2 s3 s4 : Nat} {oX oS oR oN o2 oF oT rv rs rp rt rl q1 q2 q3 rc oM rz r2 rb rq ro : Nat} (C0 : kl_C p l s m meth c b L xs dC dI cI cL s1 s2 s3 s4) (j : Nat) (hj : 6 * j + 6 ≤ L) (kk : kl_K p l e s m below meth c b dC dI cI cL oX oS oR oN o2 oF oT rv rs rp rt rl q1 q2 q3 rc oM rz r2 rb rq ro 1562 (j) (j + 1)) : kl_K p l e s m below meth c b dC dI cI cL oX oS oR oN o2 oF oT rv rs rp rt rl q1 q2 q3 rc oM rz r2 rb rq ro 540 (j) (j) := by
  obtain ⟨hls, ⟨hx, hb, hr, hml, hown, hts0, hX, hbl, hlocks, hgv⟩, hL, hK, hKL, hT⟩ := C0
  intro kc n v sv fp ft fl z1 z2 z3 cd z zs pt th tp lf hg wd pm stt hh fo hI9 H locs hP hD hS ls hl
  have hown : s.vm.findClass RL = some m.cls := hown
  have hb : c.code = cL_law := hb
  have hts : ∀ w ∈ wsL_law, w.before #[Value.ref b] s = true := fun w h => hts0 w (wsL_law_in w h)
  have hA : ∀ q : Nat, s.heap.size ≤ q → (fun q => s.heap.size ≤ q) q := fun _ h => h
  have hbA : ¬ (fun q => s.heap.size ≤ q) b := Nat.not_le.mpr hbl
  generalize hAe : (fun q => s.heap.size ≤ q) = A at hP hD hS hT hA hbA
  obtain ⟨hkc, hn, hI, hz, hsv⟩ := id hI9
  obtain ⟨x0, e1⟩ : ∃ x, x = xs (6 * j + 1) := ⟨_, rfl⟩
  obtain ⟨x1, e2⟩ : ∃ x, x = xs (6 * j + 2) := ⟨_, rfl⟩
  obtain ⟨x2, e3⟩ : ∃ x, x = xs (6 * j + 3) := ⟨_, rfl⟩
  obtain ⟨x3, e4⟩ : ∃ x, x = xs (6 * j + 4) := ⟨_, rfl⟩
  obtain ⟨x4, e5⟩ : ∃ x, x = xs (6 * j + 5) := ⟨_, rfl⟩
  by_cases hG : (0 ≤ x0 ∧ x0 < 4) ∧ (0 ≤ x1 ∧ x1 < 6) ∧ (0 ≤ x2 ∧ x2 < 12) ∧ (1 ≤ x3 ∧ x3 ≤ 6 - x1) ∧ (1 ≤ x4 ∧ x4 ≤ 12 - x2)
  · skip
    obtain ⟨f9, hf9, rfl⟩ := kq_nat (k := 4) hG.1 (by decide)
    obtain ⟨b9, hb9, rfl⟩ := kq_nat (k := 6) hG.2.1 (by decide)
    obtain ⟨d9, hd9, rfl⟩ := kq_nat (k := 12) hG.2.2.1 (by decide)
    have hR3 := hG.2.2.2.1
    rw [kq_6m (by omega)] at hR3
    obtain ⟨h9, hh9, rfl⟩ := kq_nat2 (lo := 1) hR3 (by decide) (by omega)
    have hR4 := hG.2.2.2.2
    rw [kq_12m (by omega)] at hR4
    obtain ⟨w9, hw9, rfl⟩ := kq_nat2 (lo := 1) hR4 (by decide) (by omega)
    refine lv_aload_n hx hb dL_law_540 rfl (lv_at hl 1 rfl) ?_
    refine lv_aload_n hx hb dL_law_541 rfl (lv_at hl 0 rfl) ?_
    refine lv_iload hx hb dL_law_542 (lv_at hl 4 rfl) ?_
    refine lv_iconst (v := 1) hx hb dL_law_544 (by decide) ?_
    refine lv_iadd hx hb dL_law_545 ?_
    refine kq_top (z := nI ((6 * j) + 1)) (nI_add (6 * j) 1) ?_
    refine va_sld hx hb hX hbl hbA hS (vp_in_nI (show (6 * j) + 1 < L from by omega) (by omega)) dL_law_546 ?_
    refine kq_top (z := nI f9) ((congrArg xs (nI_clamp (Nat.lt_trans (show (6 * j) + 1 < L from by omega) (by omega)))).trans e1.symm) ?_
    refine lv_aload_n hx hb dL_law_547 rfl (lv_at hl 0 rfl) ?_
    refine lv_iload hx hb dL_law_548 (lv_at hl 4 rfl) ?_
    refine lv_iconst (v := 2) hx hb dL_law_550 (by decide) ?_
    refine lv_iadd hx hb dL_law_551 ?_
    refine kq_top (z := nI ((6 * j) + 2)) (nI_add (6 * j) 2) ?_
    refine va_sld hx hb hX hbl hbA hS (vp_in_nI (show (6 * j) + 2 < L from by omega) (by omega)) dL_law_552 ?_
    refine kq_top (z := nI b9) ((congrArg xs (nI_clamp (Nat.lt_trans (show (6 * j) + 2 < L from by omega) (by omega)))).trans e2.symm) ?_
    refine lv_aload_n hx hb dL_law_553 rfl (lv_at hl 0 rfl) ?_
    refine lv_iload hx hb dL_law_554 (lv_at hl 4 rfl) ?_
    refine lv_iconst (v := 3) hx hb dL_law_556 (by decide) ?_
    refine lv_iadd hx hb dL_law_557 ?_
    refine kq_top (z := nI ((6 * j) + 3)) (nI_add (6 * j) 3) ?_
    refine va_sld hx hb hX hbl hbA hS (vp_in_nI (show (6 * j) + 3 < L from by omega) (by omega)) dL_law_558 ?_
    refine kq_top (z := nI d9) ((congrArg xs (nI_clamp (Nat.lt_trans (show (6 * j) + 3 < L from by omega) (by omega)))).trans e3.symm) ?_
    refine lv_aload_n hx hb dL_law_559 rfl (lv_at hl 0 rfl) ?_
    refine lv_iload hx hb dL_law_560 (lv_at hl 4 rfl) ?_
    refine lv_iconst (v := 4) hx hb dL_law_562 (by decide) ?_
    refine lv_iadd hx hb dL_law_563 ?_
    refine kq_top (z := nI ((6 * j) + 4)) (nI_add (6 * j) 4) ?_
    refine va_sld hx hb hX hbl hbA hS (vp_in_nI (show (6 * j) + 4 < L from by omega) (by omega)) dL_law_564 ?_
    refine kq_top (z := nI h9) ((congrArg xs (nI_clamp (Nat.lt_trans (show (6 * j) + 4 < L from by omega) (by omega)))).trans e4.symm) ?_
    refine lv_aload_n hx hb dL_law_565 rfl (lv_at hl 0 rfl) ?_
    refine lv_iload hx hb dL_law_566 (lv_at hl 4 rfl) ?_
    refine lv_iconst (v := 5) hx hb dL_law_568 (by decide) ?_
    refine lv_iadd hx hb dL_law_569 ?_
    refine kq_top (z := nI ((6 * j) + 5)) (nI_add (6 * j) 5) ?_
    refine va_sld hx hb hX hbl hbA hS (vp_in_nI (show (6 * j) + 5 < L from by omega) (by omega)) dL_law_570 ?_
    refine kq_top (z := nI w9) ((congrArg xs (nI_clamp (Nat.lt_trans (show (6 * j) + 5 < L from by omega) (by omega)))).trans e5.symm) ?_
    refine lv_aload_n hx hb dL_law_571 rfl (lv_at hl 3 rfl) ?_
    refine kq_callMi (wr := [(oR, .inr (2, [.ref oS])), (oN, .inr (1, [.ref oS, .ref rp, .ref rt, .ref rl])), (rp, .inl (cI, 72, .inl fp)), (rt, .inl (cI, 72, .inl ft)), (rl, .inl (cI, 72, .inl fl)), (o2, .inr (1, [.ref oS, .ref q1, .ref q2, .ref q3])), (q1, .inl (cI, 72, .inl z1)), (q2, .inl (cI, 72, .inl z2)), (q3, .inl (cI, 72, .inl z3)), (oT, .inr (4, [.ref rc, .int (nI n)])), (rc, .inl (cI, 60, .inl cd)), (oM, .inr (6, [.int th, .ref rz, .ref r2, .int (nI kc), .ref rb, .int (nI n), .int tp, .int lf, .int hg, .int wd, .ref rq, .int pm, .int stt, .long hh])), (rz, .inl (cI, 389, .inl z)), (r2, .inl (cI, 2334, .inl zs)), (rb, .inl (cI, 60, .inl cd)), (rq, .inl (cI, 72, .inl pt))]) (vx_runSW (As := [.ref oX, .int (nI f9), .int (nI b9), .int (nI d9), .int (nI h9), .int (nI w9), .ref ro]) (rest := []) ⟨hx, hb, hml, hown, hts⟩ (c_L_figure_o l hls dC dI cI cL s1 s2 s3 s4 H.size oX oS oR oN o2 oF oT rv rs kc v sv f9 b9 d9 h9 w9 ro fo (by first | assumption | omega) (by first | assumption | omega) (by first | assumption | omega) (by first | assumption | omega) (by first | assumption | omega) (by first | assumption | omega) (by first | assumption | omega)) (vx_cwSW 7 hts gL_law_L_figure rfl rfl rfl (by decide +kernel) ⟨Nat.le_of_ble_eq_true rfl, Nat.le_of_ble_eq_true rfl⟩) (kq_preSH (hP.sub [0, 1, 2, 3, 13, 21] rfl) (hD.sub [0, 1, 2, 3, 13, 21] (by decide) rfl) hS hA hK hKL hT) rfl rfl hl.1 rfl (lv_room (Nat.le_of_ble_eq_true rfl)) dL_law_572 (kl_room (by omega) (by omega))) hP hD hS hA [0, 1, 2, 3, 13, 21] [4, 5, 6, 7, 8, 9, 10, 11, 12, 14, 15, 16, 17, 18, 19, 20] rfl rfl (by decide) (by decide) (fun r_1 u_2 H locs hw_3 hP hD hS => ?_)
    obtain ⟨go_4, rfl⟩ : ∃ z, z = u_2 := ⟨_, rfl⟩
    have hP : va_P (dC, dI) vwCl [(oR, .inr (2, [.ref oS])), (oN, .inr (1, [.ref oS, .ref rp, .ref rt, .ref rl])), (rp, .inl (cI, 72, .inl fp)), (rt, .inl (cI, 72, .inl ft)), (rl, .inl (cI, 72, .inl fl)), (o2, .inr (1, [.ref oS, .ref q1, .ref q2, .ref q3])), (q1, .inl (cI, 72, .inl z1)), (q2, .inl (cI, 72, .inl z2)), (q3, .inl (cI, 72, .inl z3)), (oT, .inr (4, [.ref rc, .int (nI n)])), (rc, .inl (cI, 60, .inl cd)), (oM, .inr (6, [.int th, .ref rz, .ref r2, .int (nI kc), .ref rb, .int (nI n), .int tp, .int lf, .int hg, .int wd, .ref rq, .int pm, .int stt, .long hh])), (rz, .inl (cI, 389, .inl z)), (r2, .inl (cI, 2334, .inl zs)), (rb, .inl (cI, 60, .inl cd)), (rq, .inl (cI, 72, .inl pt)), (oX, .inr (5, [.ref oS, .ref oR, .ref oN, .ref o2, .ref oF, .ref oT])), (oS, .inr (3, [.ref rv, .ref rs, .int (nI (min (kc + 1) 6))])), (rv, .inl (cI, 385, .inl (n_fig v f9 b9 d9 h9 w9))), (rs, .inl (cI, 2310, .inl (n_push v sv))), (oF, .inr (0, [.ref oS, .ref oN])), (ro, .inl (cL, 1, .inr (.inl go_4)))] H := hP
    have hD : va_D A [(oR, .inr (2, [.ref oS])), (oN, .inr (1, [.ref oS, .ref rp, .ref rt, .ref rl])), (rp, .inl (cI, 72, .inl fp)), (rt, .inl (cI, 72, .inl ft)), (rl, .inl (cI, 72, .inl fl)), (o2, .inr (1, [.ref oS, .ref q1, .ref q2, .ref q3])), (q1, .inl (cI, 72, .inl z1)), (q2, .inl (cI, 72, .inl z2)), (q3, .inl (cI, 72, .inl z3)), (oT, .inr (4, [.ref rc, .int (nI n)])), (rc, .inl (cI, 60, .inl cd)), (oM, .inr (6, [.int th, .ref rz, .ref r2, .int (nI kc), .ref rb, .int (nI n), .int tp, .int lf, .int hg, .int wd, .ref rq, .int pm, .int stt, .long hh])), (rz, .inl (cI, 389, .inl z)), (r2, .inl (cI, 2334, .inl zs)), (rb, .inl (cI, 60, .inl cd)), (rq, .inl (cI, 72, .inl pt)), (oX, .inr (5, [.ref oS, .ref oR, .ref oN, .ref o2, .ref oF, .ref oT])), (oS, .inr (3, [.ref rv, .ref rs, .int (nI (min (kc + 1) 6))])), (rv, .inl (cI, 385, .inl (n_fig v f9 b9 d9 h9 w9))), (rs, .inl (cI, 2310, .inl (n_push v sv))), (oF, .inr (0, [.ref oS, .ref oN])), (ro, .inl (cL, 1, .inr (.inl go_4)))] := hD
    try dsimp only at hw_3
    obtain ⟨rfl, hgo⟩ := hw_3
    have hP : va_P (dC, dI) vwCl [(oR, .inr (2, [.ref oS])), (oN, .inr (1, [.ref oS, .ref rp, .ref rt, .ref rl])), (rp, .inl (cI, 72, .inl fp)), (rt, .inl (cI, 72, .inl ft)), (rl, .inl (cI, 72, .inl fl)), (o2, .inr (1, [.ref oS, .ref q1, .ref q2, .ref q3])), (q1, .inl (cI, 72, .inl z1)), (q2, .inl (cI, 72, .inl z2)), (q3, .inl (cI, 72, .inl z3)), (oT, .inr (4, [.ref rc, .int (nI n)])), (rc, .inl (cI, 60, .inl cd)), (oM, .inr (6, [.int th, .ref rz, .ref r2, .int (nI kc), .ref rb, .int (nI n), .int tp, .int lf, .int hg, .int wd, .ref rq, .int pm, .int stt, .long hh])), (rz, .inl (cI, 389, .inl z)), (r2, .inl (cI, 2334, .inl zs)), (rb, .inl (cI, 60, .inl cd)), (rq, .inl (cI, 72, .inl pt)), (oX, .inr (5, [.ref oS, .ref oR, .ref oN, .ref o2, .ref oF, .ref oT])), (oS, .inr (3, [.ref rv, .ref rs, .int (nI (min (kc + 1) 6))])), (rv, .inl (cI, 385, .inl (n_fig v f9 b9 d9 h9 w9))), (rs, .inl (cI, 2310, .inl (n_push v sv))), (oF, .inr (0, [.ref oS, .ref oN])), (ro, .inl (cL, 1, .inr (.inl go_4)))] H := hP
    have hD : va_D A [(oR, .inr (2, [.ref oS])), (oN, .inr (1, [.ref oS, .ref rp, .ref rt, .ref rl])), (rp, .inl (cI, 72, .inl fp)), (rt, .inl (cI, 72, .inl ft)), (rl, .inl (cI, 72, .inl fl)), (o2, .inr (1, [.ref oS, .ref q1, .ref q2, .ref q3])), (q1, .inl (cI, 72, .inl z1)), (q2, .inl (cI, 72, .inl z2)), (q3, .inl (cI, 72, .inl z3)), (oT, .inr (4, [.ref rc, .int (nI n)])), (rc, .inl (cI, 60, .inl cd)), (oM, .inr (6, [.int th, .ref rz, .ref r2, .int (nI kc), .ref rb, .int (nI n), .int tp, .int lf, .int hg, .int wd, .ref rq, .int pm, .int stt, .long hh])), (rz, .inl (cI, 389, .inl z)), (r2, .inl (cI, 2334, .inl zs)), (rb, .inl (cI, 60, .inl cd)), (rq, .inl (cI, 72, .inl pt)), (oX, .inr (5, [.ref oS, .ref oR, .ref oN, .ref o2, .ref oF, .ref oT])), (oS, .inr (3, [.ref rv, .ref rs, .int (nI (min (kc + 1) 6))])), (rv, .inl (cI, 385, .inl (n_fig v f9 b9 d9 h9 w9))), (rs, .inl (cI, 2310, .inl (n_push v sv))), (oF, .inr (0, [.ref oS, .ref oN])), (ro, .inl (cL, 1, .inr (.inl go_4)))] := hD
    refine lv_istore (lv' := [(5, .int 0), (0, .ref b), (1, .ref oX), (2, .ref oM), (3, .ref ro), (4, .int (nI (6 * j)))]) hx hb dL_law_575 hl (by decide) rfl (fun ls hl => ?_)
    refine lv_aload_n hx hb dL_law_577 rfl (lv_at hl 3 rfl) ?_
    refine lv_aload_n hx hb dL_law_578 rfl (lv_at hl 1 rfl) ?_
    refine lv_iload hx hb dL_law_579 (lv_at hl 5 rfl) ?_
    refine lv_iconst (v := 1) hx hb dL_law_581 (by decide) ?_
    refine lv_iadd hx hb dL_law_582 ?_
    refine kq_top (z := nI ((6 * j) + 1)) (nI_add (6 * j) 1) ?_
    refine va_sld hx hb hX hbl hbA hS (vp_in_nI (show (6 * j) + 1 < L from by omega) (by omega)) dL_law_583 ?_
    refine kq_top (z := nI f9) ((congrArg xs (nI_clamp (Nat.lt_trans (show (6 * j) + 1 < L from by omega) (by omega)))).trans e1.symm) ?_
    refine lv_aload_n hx hb dL_law_584 rfl (lv_at hl 1 rfl) ?_
    refine lv_iload hx hb dL_law_585 (lv_at hl 5 rfl) ?_
    refine lv_iconst (v := 2) hx hb dL_law_587 (by decide) ?_
    refine lv_iadd hx hb dL_law_588 ?_
    refine kq_top (z := nI ((6 * j) + 2)) (nI_add (6 * j) 2) ?_
    refine va_sld hx hb hX hbl hbA hS (vp_in_nI (show (6 * j) + 2 < L from by omega) (by omega)) dL_law_589 ?_
    refine kq_top (z := nI b9) ((congrArg xs (nI_clamp (Nat.lt_trans (show (6 * j) + 2 < L from by omega) (by omega)))).trans e2.symm) ?_
    refine lv_aload_n hx hb dL_law_590 rfl (lv_at hl 1 rfl) ?_
    refine lv_iload hx hb dL_law_591 (lv_at hl 5 rfl) ?_
    refine lv_iconst (v := 3) hx hb dL_law_593 (by decide) ?_
    refine lv_iadd hx hb dL_law_594 ?_
    refine kq_top (z := nI ((6 * j) + 3)) (nI_add (6 * j) 3) ?_
    refine va_sld hx hb hX hbl hbA hS (vp_in_nI (show (6 * j) + 3 < L from by omega) (by omega)) dL_law_595 ?_
    refine kq_top (z := nI d9) ((congrArg xs (nI_clamp (Nat.lt_trans (show (6 * j) + 3 < L from by omega) (by omega)))).trans e3.symm) ?_
    refine lv_aload_n hx hb dL_law_596 rfl (lv_at hl 1 rfl) ?_
    refine lv_iload hx hb dL_law_597 (lv_at hl 5 rfl) ?_
    refine lv_iconst (v := 4) hx hb dL_law_599 (by decide) ?_
    refine lv_iadd hx hb dL_law_600 ?_
    refine kq_top (z := nI ((6 * j) + 4)) (nI_add (6 * j) 4) ?_
    refine va_sld hx hb hX hbl hbA hS (vp_in_nI (show (6 * j) + 4 < L from by omega) (by omega)) dL_law_601 ?_
    refine kq_top (z := nI h9) ((congrArg xs (nI_clamp (Nat.lt_trans (show (6 * j) + 4 < L from by omega) (by omega)))).trans e4.symm) ?_
    refine lv_aload_n hx hb dL_law_602 rfl (lv_at hl 1 rfl) ?_
    refine lv_iload hx hb dL_law_603 (lv_at hl 5 rfl) ?_
    refine lv_iconst (v := 5) hx hb dL_law_605 (by decide) ?_
    refine lv_iadd hx hb dL_law_606 ?_
    refine kq_top (z := nI ((6 * j) + 5)) (nI_add (6 * j) 5) ?_
    refine va_sld hx hb hX hbl hbA hS (vp_in_nI (show (6 * j) + 5 < L from by omega) (by omega)) dL_law_607 ?_
    refine kq_top (z := nI w9) ((congrArg xs (nI_clamp (Nat.lt_trans (show (6 * j) + 5 < L from by omega) (by omega)))).trans e5.symm) ?_
    refine kq_callMi (wr := [(oR, .inr (2, [.ref oS])), (oN, .inr (1, [.ref oS, .ref rp, .ref rt, .ref rl])), (rp, .inl (cI, 72, .inl fp)), (rt, .inl (cI, 72, .inl ft)), (rl, .inl (cI, 72, .inl fl)), (o2, .inr (1, [.ref oS, .ref q1, .ref q2, .ref q3])), (q1, .inl (cI, 72, .inl z1)), (q2, .inl (cI, 72, .inl z2)), (q3, .inl (cI, 72, .inl z3)), (oT, .inr (4, [.ref rc, .int (nI n)])), (rc, .inl (cI, 60, .inl cd)), (rb, .inl (cI, 60, .inl cd)), (rq, .inl (cI, 72, .inl pt)), (oX, .inr (5, [.ref oS, .ref oR, .ref oN, .ref o2, .ref oF, .ref oT])), (oS, .inr (3, [.ref rv, .ref rs, .int (nI (min (kc + 1) 6))])), (rv, .inl (cI, 385, .inl (n_fig v f9 b9 d9 h9 w9))), (rs, .inl (cI, 2310, .inl (n_push v sv))), (oF, .inr (0, [.ref oS, .ref oN])), (ro, .inl (cL, 1, .inr (.inl go_4)))]) (va_runV (As := [.int (nI f9), .int (nI b9), .int (nI d9), .int (nI h9), .int (nI w9)]) (rest := []) ⟨hx, hb, hml, hown, hts⟩ (c_X6_figure l dC dI cI H.size oM rz r2 rb rq kc n th tp lf hg wd pm stt hh z zs cd pt v f9 b9 d9 h9 w9 (by first | assumption | omega) (by first | assumption | omega) (by first | assumption | omega) (by first | assumption | omega) (by first | assumption | omega) (by first | assumption | omega) (by first | assumption | omega) (by first | assumption | omega)) (cwV 5 hts gL_law_X6_figure rfl rfl rfl (by decide +kernel) ⟨Nat.le_of_ble_eq_true rfl, Nat.le_of_ble_eq_true rfl⟩) (kq_preV (ci := 6) (q0 := 0) (hP.sub [11, 12, 13] rfl) (hD.sub [11, 12, 13] (by decide) rfl) hK rfl rfl) rfl rfl hl.1 rfl (lv_room (Nat.le_of_ble_eq_true rfl)) dL_law_608 (kl_room (by omega) (by omega))) hP hD hS hA [11, 12, 13] [0, 1, 2, 3, 4, 5, 6, 7, 8, 9, 10, 14, 15, 16, 17, 18, 19, 20, 21] rfl rfl (by decide) (by decide) (fun r_5 u_6 H locs hw_7 hP hD hS => ?_)
    obtain ⟨ys_8, rfl⟩ : ∃ z, z = u_6 := ⟨_, rfl⟩
    have hP : va_P (dC, dI) vwCl [(oR, .inr (2, [.ref oS])), (oN, .inr (1, [.ref oS, .ref rp, .ref rt, .ref rl])), (rp, .inl (cI, 72, .inl fp)), (rt, .inl (cI, 72, .inl ft)), (rl, .inl (cI, 72, .inl fl)), (o2, .inr (1, [.ref oS, .ref q1, .ref q2, .ref q3])), (q1, .inl (cI, 72, .inl z1)), (q2, .inl (cI, 72, .inl z2)), (q3, .inl (cI, 72, .inl z3)), (oT, .inr (4, [.ref rc, .int (nI n)])), (rc, .inl (cI, 60, .inl cd)), (rb, .inl (cI, 60, .inl cd)), (rq, .inl (cI, 72, .inl pt)), (oX, .inr (5, [.ref oS, .ref oR, .ref oN, .ref o2, .ref oF, .ref oT])), (oS, .inr (3, [.ref rv, .ref rs, .int (nI (min (kc + 1) 6))])), (rv, .inl (cI, 385, .inl (n_fig v f9 b9 d9 h9 w9))), (rs, .inl (cI, 2310, .inl (n_push v sv))), (oF, .inr (0, [.ref oS, .ref oN])), (ro, .inl (cL, 1, .inr (.inl go_4))), (oM, .inr (6, [.int 0, .ref rz, .ref r2, .int (nI (min (kc + 1) 6)), .ref rb, .int (nI n), .int (nI b9), .int (nI d9), .int (nI h9), .int (nI w9), .ref rq, .int pm, .int stt, .long hh])), (rz, .inl (cI, 389, .inl (n_figZ z f9 1 b9 d9 h9 w9))), (r2, .inl (cI, 2334, .inl ys_8))] H := hP
    have hD : va_D A [(oR, .inr (2, [.ref oS])), (oN, .inr (1, [.ref oS, .ref rp, .ref rt, .ref rl])), (rp, .inl (cI, 72, .inl fp)), (rt, .inl (cI, 72, .inl ft)), (rl, .inl (cI, 72, .inl fl)), (o2, .inr (1, [.ref oS, .ref q1, .ref q2, .ref q3])), (q1, .inl (cI, 72, .inl z1)), (q2, .inl (cI, 72, .inl z2)), (q3, .inl (cI, 72, .inl z3)), (oT, .inr (4, [.ref rc, .int (nI n)])), (rc, .inl (cI, 60, .inl cd)), (rb, .inl (cI, 60, .inl cd)), (rq, .inl (cI, 72, .inl pt)), (oX, .inr (5, [.ref oS, .ref oR, .ref oN, .ref o2, .ref oF, .ref oT])), (oS, .inr (3, [.ref rv, .ref rs, .int (nI (min (kc + 1) 6))])), (rv, .inl (cI, 385, .inl (n_fig v f9 b9 d9 h9 w9))), (rs, .inl (cI, 2310, .inl (n_push v sv))), (oF, .inr (0, [.ref oS, .ref oN])), (ro, .inl (cL, 1, .inr (.inl go_4))), (oM, .inr (6, [.int 0, .ref rz, .ref r2, .int (nI (min (kc + 1) 6)), .ref rb, .int (nI n), .int (nI b9), .int (nI d9), .int (nI h9), .int (nI w9), .ref rq, .int pm, .int stt, .long hh])), (rz, .inl (cI, 389, .inl (n_figZ z f9 1 b9 d9 h9 w9))), (r2, .inl (cI, 2334, .inl ys_8))] := hD
    try dsimp only at hw_7
    obtain ⟨hr2, hsv2⟩ := hw_7
    refine lv_istore (lv' := [(6, .int r_5), (5, .int 0), (0, .ref b), (1, .ref oX), (2, .ref oM), (3, .ref ro), (4, .int (nI (6 * j)))]) hx hb dL_law_611 hl (by decide) rfl (fun ls hl => ?_)
    refine lv_aload_n hx hb dL_law_613 rfl (lv_at hl 4 rfl) ?_
    refine kq_cV (As := []) (rest := []) ⟨hx, hb, hml, hown, hts⟩ (c_X6_thrown l dC dI cI oM rz r2 rb rq (min (kc + 1) 6) n 0 (nI b9) (nI d9) (nI h9) (nI w9) pm stt hh z v ) (cwV 0 hts gL_law_X6_thrown rfl rfl rfl (by decide +kernel) ⟨Nat.le_of_ble_eq_true rfl, Nat.le_of_ble_eq_true rfl⟩) (hP.sub [19] rfl) hK (ci := 6) (q0 := 0) rfl rfl rfl rfl hl.1 rfl (Nat.le_of_ble_eq_true rfl) dL_law_614 (kl_room (by omega) (by omega)) ?_
    refine lv_iload hx hb dL_law_617 (lv_at hl 1 rfl) ?_
    refine lv_icmp_eq (tgt := 624) hx hb dL_law_619 (by decide) (fun _ => ?_) (fun q => absurd q (by decide))
    refine lv_iload hx hb dL_law_624 (lv_at hl 1 rfl) ?_
    refine lv_if_ne (tgt := 641) hx hb dL_law_626 (by decide) (fun q => absurd q (by decide)) (fun _ => ?_)
    refine lv_aload_n hx hb dL_law_629 rfl (lv_at hl 5 rfl) ?_
    refine lv_iconst (v := 0) hx hb dL_law_630 (by decide) ?_
    refine va_lald hx hb hKL hP 18 0 rfl rfl (show ¬ ((0:Int32) < 0 ∨ 1 ≤ Int32.toNatClampNeg 0) by decide) dL_law_631 ?_
    refine kq_topl (z := (nI (n_fr b9 d9 h9 w9) : Int32).toInt64) (hgo) ?_
    refine lv_iload hx hb dL_law_632 (lv_at hl 0 rfl) ?_
    refine lv_i2l (v := (r_5 : Int32).toInt64) hx hb dL_law_634 rfl ?_
    refine W.lcmp hx hb dL_law_635 ?_
    refine lv_if_eq (tgt := 641) hx hb dL_law_636 (by decide) (fun _ => ?_) (fun c_9 => absurd (kq_lce (hr2.symm)) c_9)
    refine lv_goto (tgt := 1562) hx hb dL_law_641 (by decide) ?_
    refine W.widen (k := 28 + (j + 1)) (n := 6079 + 6 * (j + 1)) (by omega) (by omega) ?_
    subst hAe
    exact kk (min (kc + 1) 6) n (n_fig v f9 b9 d9 h9 w9) (n_push v sv) fp ft fl z1 z2 z3 cd (n_figZ z f9 1 b9 d9 h9 w9) ys_8 pt 0 (nI b9) (nI d9) (nI h9) (nI w9) pm stt hh go_4 (⟨by omega, hn, n_I_fig hI hf9 (by omega) (by omega) (by omega) (by omega), n_Z_fig hz hf9 (by omega) (by omega) (if_pos (by omega)).symm, n_SV_push hkc hsv hI hz hsv2⟩) _ _ (hP.sub [13, 14, 15, 16, 0, 1, 2, 3, 4, 5, 6, 7, 8, 17, 9, 10, 19, 20, 21, 11, 12, 18] rfl) (hD.sub [13, 14, 15, 16, 0, 1, 2, 3, 4, 5, 6, 7, 8, 17, 9, 10, 19, 20, 21, 11, 12, 18] (by decide) rfl) hS ls (lv_sub hl [2, 3, 4, 5, 6] rfl)
  · skip
    refine lv_aload_n hx hb dL_law_540 rfl (lv_at hl 1 rfl) ?_
    refine lv_aload_n hx hb dL_law_541 rfl (lv_at hl 0 rfl) ?_
    refine lv_iload hx hb dL_law_542 (lv_at hl 4 rfl) ?_
    refine lv_iconst (v := 1) hx hb dL_law_544 (by decide) ?_
    refine lv_iadd hx hb dL_law_545 ?_
    refine kq_top (z := nI ((6 * j) + 1)) (nI_add (6 * j) 1) ?_
    refine va_sld hx hb hX hbl hbA hS (vp_in_nI (show (6 * j) + 1 < L from by omega) (by omega)) dL_law_546 ?_
    refine kq_top (z := x0) ((congrArg xs (nI_clamp (Nat.lt_trans (show (6 * j) + 1 < L from by omega) (by omega)))).trans e1.symm) ?_
    refine lv_aload_n hx hb dL_law_547 rfl (lv_at hl 0 rfl) ?_
    refine lv_iload hx hb dL_law_548 (lv_at hl 4 rfl) ?_
    refine lv_iconst (v := 2) hx hb dL_law_550 (by decide) ?_
    refine lv_iadd hx hb dL_law_551 ?_
    refine kq_top (z := nI ((6 * j) + 2)) (nI_add (6 * j) 2) ?_
    refine va_sld hx hb hX hbl hbA hS (vp_in_nI (show (6 * j) + 2 < L from by omega) (by omega)) dL_law_552 ?_
    refine kq_top (z := x1) ((congrArg xs (nI_clamp (Nat.lt_trans (show (6 * j) + 2 < L from by omega) (by omega)))).trans e2.symm) ?_
    refine lv_aload_n hx hb dL_law_553 rfl (lv_at hl 0 rfl) ?_
    refine lv_iload hx hb dL_law_554 (lv_at hl 4 rfl) ?_
    refine lv_iconst (v := 3) hx hb dL_law_556 (by decide) ?_
    refine lv_iadd hx hb dL_law_557 ?_
    refine kq_top (z := nI ((6 * j) + 3)) (nI_add (6 * j) 3) ?_
    refine va_sld hx hb hX hbl hbA hS (vp_in_nI (show (6 * j) + 3 < L from by omega) (by omega)) dL_law_558 ?_
    refine kq_top (z := x2) ((congrArg xs (nI_clamp (Nat.lt_trans (show (6 * j) + 3 < L from by omega) (by omega)))).trans e3.symm) ?_
    refine lv_aload_n hx hb dL_law_559 rfl (lv_at hl 0 rfl) ?_
    refine lv_iload hx hb dL_law_560 (lv_at hl 4 rfl) ?_
    refine lv_iconst (v := 4) hx hb dL_law_562 (by decide) ?_
    refine lv_iadd hx hb dL_law_563 ?_
    refine kq_top (z := nI ((6 * j) + 4)) (nI_add (6 * j) 4) ?_
    refine va_sld hx hb hX hbl hbA hS (vp_in_nI (show (6 * j) + 4 < L from by omega) (by omega)) dL_law_564 ?_
    refine kq_top (z := x3) ((congrArg xs (nI_clamp (Nat.lt_trans (show (6 * j) + 4 < L from by omega) (by omega)))).trans e4.symm) ?_
    refine lv_aload_n hx hb dL_law_565 rfl (lv_at hl 0 rfl) ?_
    refine lv_iload hx hb dL_law_566 (lv_at hl 4 rfl) ?_
    refine lv_iconst (v := 5) hx hb dL_law_568 (by decide) ?_
    refine lv_iadd hx hb dL_law_569 ?_
    refine kq_top (z := nI ((6 * j) + 5)) (nI_add (6 * j) 5) ?_
    refine va_sld hx hb hX hbl hbA hS (vp_in_nI (show (6 * j) + 5 < L from by omega) (by omega)) dL_law_570 ?_
    refine kq_top (z := x4) ((congrArg xs (nI_clamp (Nat.lt_trans (show (6 * j) + 5 < L from by omega) (by omega)))).trans e5.symm) ?_
    refine lv_aload_n hx hb dL_law_571 rfl (lv_at hl 3 rfl) ?_
    refine kq_callMi (wr := [(oS, .inr (3, [.ref rv, .ref rs, .int (nI kc)])), (rv, .inl (cI, 385, .inl v)), (rs, .inl (cI, 2310, .inl sv)), (oR, .inr (2, [.ref oS])), (oN, .inr (1, [.ref oS, .ref rp, .ref rt, .ref rl])), (rp, .inl (cI, 72, .inl fp)), (rt, .inl (cI, 72, .inl ft)), (rl, .inl (cI, 72, .inl fl)), (o2, .inr (1, [.ref oS, .ref q1, .ref q2, .ref q3])), (q1, .inl (cI, 72, .inl z1)), (q2, .inl (cI, 72, .inl z2)), (q3, .inl (cI, 72, .inl z3)), (oF, .inr (0, [.ref oS, .ref oN])), (oT, .inr (4, [.ref rc, .int (nI n)])), (rc, .inl (cI, 60, .inl cd)), (oM, .inr (6, [.int th, .ref rz, .ref r2, .int (nI kc), .ref rb, .int (nI n), .int tp, .int lf, .int hg, .int wd, .ref rq, .int pm, .int stt, .long hh])), (rz, .inl (cI, 389, .inl z)), (r2, .inl (cI, 2334, .inl zs)), (rb, .inl (cI, 60, .inl cd)), (rq, .inl (cI, 72, .inl pt))]) (vx_runSW (As := [.ref oX, .int x0, .int x1, .int x2, .int x3, .int x4, .ref ro]) (rest := []) ⟨hx, hb, hml, hown, hts⟩ (c_L_figure_x l hls dC dI cI cL s1 s2 s3 s4 H.size oX oS oR oN o2 oF oT rv rs kc v sv x0 x1 x2 x3 x4 ro fo (by first | assumption | omega)) (vx_cwSW 7 hts gL_law_L_figure rfl rfl rfl (by decide +kernel) ⟨Nat.le_of_ble_eq_true rfl, Nat.le_of_ble_eq_true rfl⟩) (kq_preSH (hP.sub [0, 21] rfl) (hD.sub [0, 21] (by decide) rfl) hS hA hK hKL hT) rfl rfl hl.1 rfl (lv_room (Nat.le_of_ble_eq_true rfl)) dL_law_572 (kl_room (by omega) (by omega))) hP hD hS hA [0, 21] [1, 2, 3, 4, 5, 6, 7, 8, 9, 10, 11, 12, 13, 14, 15, 16, 17, 18, 19, 20] rfl rfl (by decide) (by decide) (fun r_10 u_11 H locs hw_12 hP hD hS => ?_)
    have hP : va_P (dC, dI) vwCl [(oS, .inr (3, [.ref rv, .ref rs, .int (nI kc)])), (rv, .inl (cI, 385, .inl v)), (rs, .inl (cI, 2310, .inl sv)), (oR, .inr (2, [.ref oS])), (oN, .inr (1, [.ref oS, .ref rp, .ref rt, .ref rl])), (rp, .inl (cI, 72, .inl fp)), (rt, .inl (cI, 72, .inl ft)), (rl, .inl (cI, 72, .inl fl)), (o2, .inr (1, [.ref oS, .ref q1, .ref q2, .ref q3])), (q1, .inl (cI, 72, .inl z1)), (q2, .inl (cI, 72, .inl z2)), (q3, .inl (cI, 72, .inl z3)), (oF, .inr (0, [.ref oS, .ref oN])), (oT, .inr (4, [.ref rc, .int (nI n)])), (rc, .inl (cI, 60, .inl cd)), (oM, .inr (6, [.int th, .ref rz, .ref r2, .int (nI kc), .ref rb, .int (nI n), .int tp, .int lf, .int hg, .int wd, .ref rq, .int pm, .int stt, .long hh])), (rz, .inl (cI, 389, .inl z)), (r2, .inl (cI, 2334, .inl zs)), (rb, .inl (cI, 60, .inl cd)), (rq, .inl (cI, 72, .inl pt)), (oX, .inr (5, [.ref oS, .ref oR, .ref oN, .ref o2, .ref oF, .ref oT])), (ro, .inl (cL, 1, .inr (.inl fo)))] H := hP
    have hD : va_D A [(oS, .inr (3, [.ref rv, .ref rs, .int (nI kc)])), (rv, .inl (cI, 385, .inl v)), (rs, .inl (cI, 2310, .inl sv)), (oR, .inr (2, [.ref oS])), (oN, .inr (1, [.ref oS, .ref rp, .ref rt, .ref rl])), (rp, .inl (cI, 72, .inl fp)), (rt, .inl (cI, 72, .inl ft)), (rl, .inl (cI, 72, .inl fl)), (o2, .inr (1, [.ref oS, .ref q1, .ref q2, .ref q3])), (q1, .inl (cI, 72, .inl z1)), (q2, .inl (cI, 72, .inl z2)), (q3, .inl (cI, 72, .inl z3)), (oF, .inr (0, [.ref oS, .ref oN])), (oT, .inr (4, [.ref rc, .int (nI n)])), (rc, .inl (cI, 60, .inl cd)), (oM, .inr (6, [.int th, .ref rz, .ref r2, .int (nI kc), .ref rb, .int (nI n), .int tp, .int lf, .int hg, .int wd, .ref rq, .int pm, .int stt, .long hh])), (rz, .inl (cI, 389, .inl z)), (r2, .inl (cI, 2334, .inl zs)), (rb, .inl (cI, 60, .inl cd)), (rq, .inl (cI, 72, .inl pt)), (oX, .inr (5, [.ref oS, .ref oR, .ref oN, .ref o2, .ref oF, .ref oT])), (ro, .inl (cL, 1, .inr (.inl fo)))] := hD
    try dsimp only at hw_12
    have hr1 := hw_12
    refine lv_istore (lv' := [(5, .int r_10), (0, .ref b), (1, .ref oX), (2, .ref oM), (3, .ref ro), (4, .int (nI (6 * j)))]) hx hb dL_law_575 hl (by decide) rfl (fun ls hl => ?_)
    refine lv_aload_n hx hb dL_law_577 rfl (lv_at hl 3 rfl) ?_
    refine lv_aload_n hx hb dL_law_578 rfl (lv_at hl 1 rfl) ?_
    refine lv_iload hx hb dL_law_579 (lv_at hl 5 rfl) ?_
    refine lv_iconst (v := 1) hx hb dL_law_581 (by decide) ?_
    refine lv_iadd hx hb dL_law_582 ?_
    refine kq_top (z := nI ((6 * j) + 1)) (nI_add (6 * j) 1) ?_
    refine va_sld hx hb hX hbl hbA hS (vp_in_nI (show (6 * j) + 1 < L from by omega) (by omega)) dL_law_583 ?_
    refine kq_top (z := x0) ((congrArg xs (nI_clamp (Nat.lt_trans (show (6 * j) + 1 < L from by omega) (by omega)))).trans e1.symm) ?_
    refine lv_aload_n hx hb dL_law_584 rfl (lv_at hl 1 rfl) ?_
    refine lv_iload hx hb dL_law_585 (lv_at hl 5 rfl) ?_
    refine lv_iconst (v := 2) hx hb dL_law_587 (by decide) ?_
    refine lv_iadd hx hb dL_law_588 ?_
    refine kq_top (z := nI ((6 * j) + 2)) (nI_add (6 * j) 2) ?_
    refine va_sld hx hb hX hbl hbA hS (vp_in_nI (show (6 * j) + 2 < L from by omega) (by omega)) dL_law_589 ?_
    refine kq_top (z := x1) ((congrArg xs (nI_clamp (Nat.lt_trans (show (6 * j) + 2 < L from by omega) (by omega)))).trans e2.symm) ?_
    refine lv_aload_n hx hb dL_law_590 rfl (lv_at hl 1 rfl) ?_
    refine lv_iload hx hb dL_law_591 (lv_at hl 5 rfl) ?_
    refine lv_iconst (v := 3) hx hb dL_law_593 (by decide) ?_
    refine lv_iadd hx hb dL_law_594 ?_
    refine kq_top (z := nI ((6 * j) + 3)) (nI_add (6 * j) 3) ?_
    refine va_sld hx hb hX hbl hbA hS (vp_in_nI (show (6 * j) + 3 < L from by omega) (by omega)) dL_law_595 ?_
    refine kq_top (z := x2) ((congrArg xs (nI_clamp (Nat.lt_trans (show (6 * j) + 3 < L from by omega) (by omega)))).trans e3.symm) ?_
    refine lv_aload_n hx hb dL_law_596 rfl (lv_at hl 1 rfl) ?_
    refine lv_iload hx hb dL_law_597 (lv_at hl 5 rfl) ?_
    refine lv_iconst (v := 4) hx hb dL_law_599 (by decide) ?_
    refine lv_iadd hx hb dL_law_600 ?_
    refine kq_top (z := nI ((6 * j) + 4)) (nI_add (6 * j) 4) ?_
    refine va_sld hx hb hX hbl hbA hS (vp_in_nI (show (6 * j) + 4 < L from by omega) (by omega)) dL_law_601 ?_
    refine kq_top (z := x3) ((congrArg xs (nI_clamp (Nat.lt_trans (show (6 * j) + 4 < L from by omega) (by omega)))).trans e4.symm) ?_
    refine lv_aload_n hx hb dL_law_602 rfl (lv_at hl 1 rfl) ?_
    refine lv_iload hx hb dL_law_603 (lv_at hl 5 rfl) ?_
    refine lv_iconst (v := 5) hx hb dL_law_605 (by decide) ?_
    refine lv_iadd hx hb dL_law_606 ?_
    refine kq_top (z := nI ((6 * j) + 5)) (nI_add (6 * j) 5) ?_
    refine va_sld hx hb hX hbl hbA hS (vp_in_nI (show (6 * j) + 5 < L from by omega) (by omega)) dL_law_607 ?_
    refine kq_top (z := x4) ((congrArg xs (nI_clamp (Nat.lt_trans (show (6 * j) + 5 < L from by omega) (by omega)))).trans e5.symm) ?_
    refine kq_callMi (wr := [(oS, .inr (3, [.ref rv, .ref rs, .int (nI kc)])), (rv, .inl (cI, 385, .inl v)), (rs, .inl (cI, 2310, .inl sv)), (oR, .inr (2, [.ref oS])), (oN, .inr (1, [.ref oS, .ref rp, .ref rt, .ref rl])), (rp, .inl (cI, 72, .inl fp)), (rt, .inl (cI, 72, .inl ft)), (rl, .inl (cI, 72, .inl fl)), (o2, .inr (1, [.ref oS, .ref q1, .ref q2, .ref q3])), (q1, .inl (cI, 72, .inl z1)), (q2, .inl (cI, 72, .inl z2)), (q3, .inl (cI, 72, .inl z3)), (oF, .inr (0, [.ref oS, .ref oN])), (oT, .inr (4, [.ref rc, .int (nI n)])), (rc, .inl (cI, 60, .inl cd)), (rz, .inl (cI, 389, .inl z)), (r2, .inl (cI, 2334, .inl zs)), (rb, .inl (cI, 60, .inl cd)), (rq, .inl (cI, 72, .inl pt)), (oX, .inr (5, [.ref oS, .ref oR, .ref oN, .ref o2, .ref oF, .ref oT])), (ro, .inl (cL, 1, .inr (.inl fo)))]) (va_runV (As := [.int x0, .int x1, .int x2, .int x3, .int x4]) (rest := []) ⟨hx, hb, hml, hown, hts⟩ (c_X6_figure_t l dC dI cI H.size oM rz r2 rb rq kc n th tp lf hg wd pm stt hh z v x0 x1 x2 x3 x4 (fun q => hG (by simpa only [kq_l3, kq_l6, kq_l16, kq_l12, kq_l4, kq_lk, and_assoc] using q))) (cwV 5 hts gL_law_X6_figure rfl rfl rfl (by decide +kernel) ⟨Nat.le_of_ble_eq_true rfl, Nat.le_of_ble_eq_true rfl⟩) (kq_preV (ci := 6) (q0 := 0) (hP.sub [15] rfl) (hD.sub [15] (by decide) rfl) hK rfl rfl) rfl rfl hl.1 rfl (lv_room (Nat.le_of_ble_eq_true rfl)) dL_law_608 (kl_room (by omega) (by omega))) hP hD hS hA [15] [0, 1, 2, 3, 4, 5, 6, 7, 8, 9, 10, 11, 12, 13, 14, 16, 17, 18, 19, 20, 21] rfl rfl (by decide) (by decide) (fun r_13 u_14 H locs hw_15 hP hD hS => ?_)
    obtain ⟨t9_16, rfl⟩ : ∃ z, z = u_14 := ⟨_, rfl⟩
    have hP : va_P (dC, dI) vwCl [(oS, .inr (3, [.ref rv, .ref rs, .int (nI kc)])), (rv, .inl (cI, 385, .inl v)), (rs, .inl (cI, 2310, .inl sv)), (oR, .inr (2, [.ref oS])), (oN, .inr (1, [.ref oS, .ref rp, .ref rt, .ref rl])), (rp, .inl (cI, 72, .inl fp)), (rt, .inl (cI, 72, .inl ft)), (rl, .inl (cI, 72, .inl fl)), (o2, .inr (1, [.ref oS, .ref q1, .ref q2, .ref q3])), (q1, .inl (cI, 72, .inl z1)), (q2, .inl (cI, 72, .inl z2)), (q3, .inl (cI, 72, .inl z3)), (oF, .inr (0, [.ref oS, .ref oN])), (oT, .inr (4, [.ref rc, .int (nI n)])), (rc, .inl (cI, 60, .inl cd)), (rz, .inl (cI, 389, .inl z)), (r2, .inl (cI, 2334, .inl zs)), (rb, .inl (cI, 60, .inl cd)), (rq, .inl (cI, 72, .inl pt)), (oX, .inr (5, [.ref oS, .ref oR, .ref oN, .ref o2, .ref oF, .ref oT])), (ro, .inl (cL, 1, .inr (.inl fo))), (oM, .inr (6, [.int t9_16, .ref rz, .ref r2, .int (nI kc), .ref rb, .int (nI n), .int tp, .int lf, .int hg, .int wd, .ref rq, .int pm, .int stt, .long hh]))] H := hP
    have hD : va_D A [(oS, .inr (3, [.ref rv, .ref rs, .int (nI kc)])), (rv, .inl (cI, 385, .inl v)), (rs, .inl (cI, 2310, .inl sv)), (oR, .inr (2, [.ref oS])), (oN, .inr (1, [.ref oS, .ref rp, .ref rt, .ref rl])), (rp, .inl (cI, 72, .inl fp)), (rt, .inl (cI, 72, .inl ft)), (rl, .inl (cI, 72, .inl fl)), (o2, .inr (1, [.ref oS, .ref q1, .ref q2, .ref q3])), (q1, .inl (cI, 72, .inl z1)), (q2, .inl (cI, 72, .inl z2)), (q3, .inl (cI, 72, .inl z3)), (oF, .inr (0, [.ref oS, .ref oN])), (oT, .inr (4, [.ref rc, .int (nI n)])), (rc, .inl (cI, 60, .inl cd)), (rz, .inl (cI, 389, .inl z)), (r2, .inl (cI, 2334, .inl zs)), (rb, .inl (cI, 60, .inl cd)), (rq, .inl (cI, 72, .inl pt)), (oX, .inr (5, [.ref oS, .ref oR, .ref oN, .ref o2, .ref oF, .ref oT])), (ro, .inl (cL, 1, .inr (.inl fo))), (oM, .inr (6, [.int t9_16, .ref rz, .ref r2, .int (nI kc), .ref rb, .int (nI n), .int tp, .int lf, .int hg, .int wd, .ref rq, .int pm, .int stt, .long hh]))] := hD
    try dsimp only at hw_15
    have ht1 := hw_15
    obtain ⟨hth, hr0⟩ := kq_tr (A := (0 ≤ x0 ∧ x0 < 4) ∧ (0 ≤ x1 ∧ x1 < 6) ∧ (0 ≤ x2 ∧ x2 < 12)) (B := (1 ≤ x3 ∧ x3 ≤ 6 - x1) ∧ (1 ≤ x4 ∧ x4 ≤ 12 - x2)) (A' := (0 ≤ x0 ∧ x0 ≤ 3) ∧ ((0 ≤ x1 ∧ x1 ≤ 5) ∧ (0 ≤ x2 ∧ x2 ≤ 11))) (B' := ((1 ≤ x3 ∧ x3 ≤ 6 - x1) ∧ (1 ≤ x4 ∧ x4 ≤ 12 - x2))) (by first | exact Iff.rfl | simp only [kq_l3, kq_l6, kq_l16, kq_l12, kq_l4, kq_lk, and_assoc]) (by first | exact Iff.rfl | simp only [kq_l3, kq_l6, kq_l16, kq_l12, kq_l4, kq_lk, and_assoc]) (fun q => hG (by first | exact q | simpa only [and_assoc] using q)) hr1 ht1
    refine lv_istore (lv' := [(6, .int r_13), (5, .int r_10), (0, .ref b), (1, .ref oX), (2, .ref oM), (3, .ref ro), (4, .int (nI (6 * j)))]) hx hb dL_law_611 hl (by decide) rfl (fun ls hl => ?_)
    refine lv_aload_n hx hb dL_law_613 rfl (lv_at hl 4 rfl) ?_
    refine kq_cV (As := []) (rest := []) ⟨hx, hb, hml, hown, hts⟩ (c_X6_thrown l dC dI cI oM rz r2 rb rq kc n t9_16 tp lf hg wd pm stt hh z v ) (cwV 0 hts gL_law_X6_thrown rfl rfl rfl (by decide +kernel) ⟨Nat.le_of_ble_eq_true rfl, Nat.le_of_ble_eq_true rfl⟩) (hP.sub [21] rfl) hK (ci := 6) (q0 := 0) rfl rfl rfl rfl hl.1 rfl (Nat.le_of_ble_eq_true rfl) dL_law_614 (kl_room (by omega) (by omega)) ?_
    refine lv_iload hx hb dL_law_617 (lv_at hl 1 rfl) ?_
    refine lv_icmp_eq (tgt := 624) hx hb dL_law_619 (by decide) (fun _ => ?_) (fun c_17 => absurd hth c_17)
    refine lv_iload hx hb dL_law_624 (lv_at hl 1 rfl) ?_
    refine lv_if_ne (tgt := 641) hx hb dL_law_626 (by decide) (fun _ => ?_) (fun c_18 => absurd c_18 hr0)
    refine lv_goto (tgt := 1562) hx hb dL_law_641 (by decide) ?_
    refine W.widen (k := 28 + (j + 1)) (n := 6079 + 6 * (j + 1)) (by omega) (by omega) ?_
    subst hAe
    exact kk kc n v sv fp ft fl z1 z2 z3 cd z zs pt t9_16 tp lf hg wd pm stt hh fo (hI9) _ _ (hP.sub [19, 0, 1, 2, 3, 4, 5, 6, 7, 8, 9, 10, 11, 12, 13, 14, 21, 15, 16, 17, 18, 20] rfl) (hD.sub [19, 0, 1, 2, 3, 4, 5, 6, 7, 8, 9, 10, 11, 12, 13, 14, 21, 15, 16, 17, 18, 20] (by decide) rfl) hS ls (lv_sub hl [2, 3, 4, 5, 6] rfl)
set_option maxHeartbeats 8000000 in
set_option maxRecDepth 100000 in
theorem kl_drop {p : Program} {l : Launch} {e : Env} {s : State} {m : MethodId} {below : List Frame} {meth : Method} {c : Code} {b L : Nat} {xs : Nat → Int32} {dC : Nat → ClassId} {dI : Nat → Nat → Nat} {cI cL : ClassId} {s1 s2 s3 s4 : Nat} {oX oS oR oN o2 oF oT rv rs rp rt rl q1 q2 q3 rc oM rz r2 rb rq ro : Nat} (C0 : kl_C p l s m meth c b L xs dC dI cI cL s1 s2 s3 s4) (j : Nat) (hj : 6 * j + 6 ≤ L) (kk : kl_K p l e s m below meth c b dC dI cI cL oX oS oR oN o2 oF oT rv rs rp rt rl q1 q2 q3 rc oM rz r2 rb rq ro 1562 (j) (j + 1)) : kl_K p l e s m below meth c b dC dI cI cL oX oS oR oN o2 oF oT rv rs rp rt rl q1 q2 q3 rc oM rz r2 rb rq ro 644 (j) (j) := by
  obtain ⟨hls, ⟨hx, hb, hr, hml, hown, hts0, hX, hbl, hlocks, hgv⟩, hL, hK, hKL, hT⟩ := C0
  intro kc n v sv fp ft fl z1 z2 z3 cd z zs pt th tp lf hg wd pm stt hh fo hI9 H locs hP hD hS ls hl
  have hown : s.vm.findClass RL = some m.cls := hown
  have hb : c.code = cL_law := hb
  have hts : ∀ w ∈ wsL_law, w.before #[Value.ref b] s = true := fun w h => hts0 w (wsL_law_in w h)
  have hA : ∀ q : Nat, s.heap.size ≤ q → (fun q => s.heap.size ≤ q) q := fun _ h => h
  have hbA : ¬ (fun q => s.heap.size ≤ q) b := Nat.not_le.mpr hbl
  generalize hAe : (fun q => s.heap.size ≤ q) = A at hP hD hS hT hA hbA
  obtain ⟨hkc, hn, hI, hz, hsv⟩ := id hI9
  obtain ⟨x1, e1⟩ : ∃ x, x = xs (6 * j + 1) := ⟨_, rfl⟩
  by_cases hG : (0 ≤ x1 ∧ x1 < 4)
  · skip
    obtain ⟨f9, hf9, rfl⟩ := kq_nat (k := 4) hG (by decide)
    refine lv_aload_n hx hb dL_law_644 rfl (lv_at hl 1 rfl) ?_
    refine lv_aload_n hx hb dL_law_645 rfl (lv_at hl 0 rfl) ?_
    refine lv_iload hx hb dL_law_646 (lv_at hl 4 rfl) ?_
    refine lv_iconst (v := 1) hx hb dL_law_648 (by decide) ?_
    refine lv_iadd hx hb dL_law_649 ?_
    refine kq_top (z := nI ((6 * j) + 1)) (nI_add (6 * j) 1) ?_
    refine va_sld hx hb hX hbl hbA hS (vp_in_nI (show (6 * j) + 1 < L from by omega) (by omega)) dL_law_650 ?_
    refine kq_top (z := nI f9) ((congrArg xs (nI_clamp (Nat.lt_trans (show (6 * j) + 1 < L from by omega) (by omega)))).trans e1.symm) ?_
    refine lv_aload_n hx hb dL_law_651 rfl (lv_at hl 3 rfl) ?_
    refine kq_callMi (wr := [(oR, .inr (2, [.ref oS])), (oN, .inr (1, [.ref oS, .ref rp, .ref rt, .ref rl])), (rp, .inl (cI, 72, .inl fp)), (rt, .inl (cI, 72, .inl ft)), (rl, .inl (cI, 72, .inl fl)), (o2, .inr (1, [.ref oS, .ref q1, .ref q2, .ref q3])), (q1, .inl (cI, 72, .inl z1)), (q2, .inl (cI, 72, .inl z2)), (q3, .inl (cI, 72, .inl z3)), (oT, .inr (4, [.ref rc, .int (nI n)])), (rc, .inl (cI, 60, .inl cd)), (oM, .inr (6, [.int th, .ref rz, .ref r2, .int (nI kc), .ref rb, .int (nI n), .int tp, .int lf, .int hg, .int wd, .ref rq, .int pm, .int stt, .long hh])), (rz, .inl (cI, 389, .inl z)), (r2, .inl (cI, 2334, .inl zs)), (rb, .inl (cI, 60, .inl cd)), (rq, .inl (cI, 72, .inl pt))]) (vx_runSW (As := [.ref oX, .int (nI f9), .ref ro]) (rest := []) ⟨hx, hb, hml, hown, hts⟩ (c_L_drop_o l hls dC dI cI cL s1 s2 s3 s4 H.size oX oS oR oN o2 oF oT rv rs kc v sv f9 ro fo (by first | assumption | omega) (by first | assumption | omega) (by first | assumption | omega)) (vx_cwSW 3 hts gL_law_L_drop rfl rfl rfl (by decide +kernel) ⟨Nat.le_of_ble_eq_true rfl, Nat.le_of_ble_eq_true rfl⟩) (kq_preSH (hP.sub [0, 1, 2, 3, 13, 21] rfl) (hD.sub [0, 1, 2, 3, 13, 21] (by decide) rfl) hS hA hK hKL hT) rfl rfl hl.1 rfl (lv_room (Nat.le_of_ble_eq_true rfl)) dL_law_652 (kl_room (by omega) (by omega))) hP hD hS hA [0, 1, 2, 3, 13, 21] [4, 5, 6, 7, 8, 9, 10, 11, 12, 14, 15, 16, 17, 18, 19, 20] rfl rfl (by decide) (by decide) (fun r_1 u_2 H locs hw_3 hP hD hS => ?_)
    obtain ⟨go_4, rfl⟩ : ∃ z, z = u_2 := ⟨_, rfl⟩
    have hP : va_P (dC, dI) vwCl [(oR, .inr (2, [.ref oS])), (oN, .inr (1, [.ref oS, .ref rp, .ref rt, .ref rl])), (rp, .inl (cI, 72, .inl fp)), (rt, .inl (cI, 72, .inl ft)), (rl, .inl (cI, 72, .inl fl)), (o2, .inr (1, [.ref oS, .ref q1, .ref q2, .ref q3])), (q1, .inl (cI, 72, .inl z1)), (q2, .inl (cI, 72, .inl z2)), (q3, .inl (cI, 72, .inl z3)), (oT, .inr (4, [.ref rc, .int (nI n)])), (rc, .inl (cI, 60, .inl cd)), (oM, .inr (6, [.int th, .ref rz, .ref r2, .int (nI kc), .ref rb, .int (nI n), .int tp, .int lf, .int hg, .int wd, .ref rq, .int pm, .int stt, .long hh])), (rz, .inl (cI, 389, .inl z)), (r2, .inl (cI, 2334, .inl zs)), (rb, .inl (cI, 60, .inl cd)), (rq, .inl (cI, 72, .inl pt)), (oX, .inr (5, [.ref oS, .ref oR, .ref oN, .ref o2, .ref oF, .ref oT])), (oS, .inr (3, [.ref rv, .ref rs, .int (nI (min (kc + 1) 6))])), (rv, .inl (cI, 385, .inl (n_fig v f9 0 0 0 0))), (rs, .inl (cI, 2310, .inl (n_push v sv))), (oF, .inr (0, [.ref oS, .ref oN])), (ro, .inl (cL, 1, .inr (.inl go_4)))] H := hP
    have hD : va_D A [(oR, .inr (2, [.ref oS])), (oN, .inr (1, [.ref oS, .ref rp, .ref rt, .ref rl])), (rp, .inl (cI, 72, .inl fp)), (rt, .inl (cI, 72, .inl ft)), (rl, .inl (cI, 72, .inl fl)), (o2, .inr (1, [.ref oS, .ref q1, .ref q2, .ref q3])), (q1, .inl (cI, 72, .inl z1)), (q2, .inl (cI, 72, .inl z2)), (q3, .inl (cI, 72, .inl z3)), (oT, .inr (4, [.ref rc, .int (nI n)])), (rc, .inl (cI, 60, .inl cd)), (oM, .inr (6, [.int th, .ref rz, .ref r2, .int (nI kc), .ref rb, .int (nI n), .int tp, .int lf, .int hg, .int wd, .ref rq, .int pm, .int stt, .long hh])), (rz, .inl (cI, 389, .inl z)), (r2, .inl (cI, 2334, .inl zs)), (rb, .inl (cI, 60, .inl cd)), (rq, .inl (cI, 72, .inl pt)), (oX, .inr (5, [.ref oS, .ref oR, .ref oN, .ref o2, .ref oF, .ref oT])), (oS, .inr (3, [.ref rv, .ref rs, .int (nI (min (kc + 1) 6))])), (rv, .inl (cI, 385, .inl (n_fig v f9 0 0 0 0))), (rs, .inl (cI, 2310, .inl (n_push v sv))), (oF, .inr (0, [.ref oS, .ref oN])), (ro, .inl (cL, 1, .inr (.inl go_4)))] := hD
    try dsimp only at hw_3
    obtain ⟨rfl, hgo⟩ := hw_3
    have hP : va_P (dC, dI) vwCl [(oR, .inr (2, [.ref oS])), (oN, .inr (1, [.ref oS, .ref rp, .ref rt, .ref rl])), (rp, .inl (cI, 72, .inl fp)), (rt, .inl (cI, 72, .inl ft)), (rl, .inl (cI, 72, .inl fl)), (o2, .inr (1, [.ref oS, .ref q1, .ref q2, .ref q3])), (q1, .inl (cI, 72, .inl z1)), (q2, .inl (cI, 72, .inl z2)), (q3, .inl (cI, 72, .inl z3)), (oT, .inr (4, [.ref rc, .int (nI n)])), (rc, .inl (cI, 60, .inl cd)), (oM, .inr (6, [.int th, .ref rz, .ref r2, .int (nI kc), .ref rb, .int (nI n), .int tp, .int lf, .int hg, .int wd, .ref rq, .int pm, .int stt, .long hh])), (rz, .inl (cI, 389, .inl z)), (r2, .inl (cI, 2334, .inl zs)), (rb, .inl (cI, 60, .inl cd)), (rq, .inl (cI, 72, .inl pt)), (oX, .inr (5, [.ref oS, .ref oR, .ref oN, .ref o2, .ref oF, .ref oT])), (oS, .inr (3, [.ref rv, .ref rs, .int (nI (min (kc + 1) 6))])), (rv, .inl (cI, 385, .inl (n_fig v f9 0 0 0 0))), (rs, .inl (cI, 2310, .inl (n_push v sv))), (oF, .inr (0, [.ref oS, .ref oN])), (ro, .inl (cL, 1, .inr (.inl go_4)))] H := hP
    have hD : va_D A [(oR, .inr (2, [.ref oS])), (oN, .inr (1, [.ref oS, .ref rp, .ref rt, .ref rl])), (rp, .inl (cI, 72, .inl fp)), (rt, .inl (cI, 72, .inl ft)), (rl, .inl (cI, 72, .inl fl)), (o2, .inr (1, [.ref oS, .ref q1, .ref q2, .ref q3])), (q1, .inl (cI, 72, .inl z1)), (q2, .inl (cI, 72, .inl z2)), (q3, .inl (cI, 72, .inl z3)), (oT, .inr (4, [.ref rc, .int (nI n)])), (rc, .inl (cI, 60, .inl cd)), (oM, .inr (6, [.int th, .ref rz, .ref r2, .int (nI kc), .ref rb, .int (nI n), .int tp, .int lf, .int hg, .int wd, .ref rq, .int pm, .int stt, .long hh])), (rz, .inl (cI, 389, .inl z)), (r2, .inl (cI, 2334, .inl zs)), (rb, .inl (cI, 60, .inl cd)), (rq, .inl (cI, 72, .inl pt)), (oX, .inr (5, [.ref oS, .ref oR, .ref oN, .ref o2, .ref oF, .ref oT])), (oS, .inr (3, [.ref rv, .ref rs, .int (nI (min (kc + 1) 6))])), (rv, .inl (cI, 385, .inl (n_fig v f9 0 0 0 0))), (rs, .inl (cI, 2310, .inl (n_push v sv))), (oF, .inr (0, [.ref oS, .ref oN])), (ro, .inl (cL, 1, .inr (.inl go_4)))] := hD
    refine lv_istore (lv' := [(5, .int 0), (0, .ref b), (1, .ref oX), (2, .ref oM), (3, .ref ro), (4, .int (nI (6 * j)))]) hx hb dL_law_655 hl (by decide) rfl (fun ls hl => ?_)
    refine lv_aload_n hx hb dL_law_657 rfl (lv_at hl 3 rfl) ?_
    refine lv_aload_n hx hb dL_law_658 rfl (lv_at hl 1 rfl) ?_
    refine lv_iload hx hb dL_law_659 (lv_at hl 5 rfl) ?_
    refine lv_iconst (v := 1) hx hb dL_law_661 (by decide) ?_
    refine lv_iadd hx hb dL_law_662 ?_
    refine kq_top (z := nI ((6 * j) + 1)) (nI_add (6 * j) 1) ?_
    refine va_sld hx hb hX hbl hbA hS (vp_in_nI (show (6 * j) + 1 < L from by omega) (by omega)) dL_law_663 ?_
    refine kq_top (z := nI f9) ((congrArg xs (nI_clamp (Nat.lt_trans (show (6 * j) + 1 < L from by omega) (by omega)))).trans e1.symm) ?_
    refine kq_callMi (wr := [(oR, .inr (2, [.ref oS])), (oN, .inr (1, [.ref oS, .ref rp, .ref rt, .ref rl])), (rp, .inl (cI, 72, .inl fp)), (rt, .inl (cI, 72, .inl ft)), (rl, .inl (cI, 72, .inl fl)), (o2, .inr (1, [.ref oS, .ref q1, .ref q2, .ref q3])), (q1, .inl (cI, 72, .inl z1)), (q2, .inl (cI, 72, .inl z2)), (q3, .inl (cI, 72, .inl z3)), (oT, .inr (4, [.ref rc, .int (nI n)])), (rc, .inl (cI, 60, .inl cd)), (rb, .inl (cI, 60, .inl cd)), (rq, .inl (cI, 72, .inl pt)), (oX, .inr (5, [.ref oS, .ref oR, .ref oN, .ref o2, .ref oF, .ref oT])), (oS, .inr (3, [.ref rv, .ref rs, .int (nI (min (kc + 1) 6))])), (rv, .inl (cI, 385, .inl (n_fig v f9 0 0 0 0))), (rs, .inl (cI, 2310, .inl (n_push v sv))), (oF, .inr (0, [.ref oS, .ref oN])), (ro, .inl (cL, 1, .inr (.inl go_4)))]) (va_runV (As := [.int (nI f9)]) (rest := []) ⟨hx, hb, hml, hown, hts⟩ (c_X6_drop l dC dI cI H.size oM rz r2 rb rq kc n th tp lf hg wd pm stt hh z zs cd pt v f9 (by first | assumption | omega) (by first | assumption | omega) (by first | assumption | omega)) (cwV 1 hts gL_law_X6_drop rfl rfl rfl (by decide +kernel) ⟨Nat.le_of_ble_eq_true rfl, Nat.le_of_ble_eq_true rfl⟩) (kq_preV (ci := 6) (q0 := 0) (hP.sub [11, 12, 13] rfl) (hD.sub [11, 12, 13] (by decide) rfl) hK rfl rfl) rfl rfl hl.1 rfl (lv_room (Nat.le_of_ble_eq_true rfl)) dL_law_664 (kl_room (by omega) (by omega))) hP hD hS hA [11, 12, 13] [0, 1, 2, 3, 4, 5, 6, 7, 8, 9, 10, 14, 15, 16, 17, 18, 19, 20, 21] rfl rfl (by decide) (by decide) (fun r_5 u_6 H locs hw_7 hP hD hS => ?_)
    obtain ⟨ys_8, rfl⟩ : ∃ z, z = u_6 := ⟨_, rfl⟩
    have hP : va_P (dC, dI) vwCl [(oR, .inr (2, [.ref oS])), (oN, .inr (1, [.ref oS, .ref rp, .ref rt, .ref rl])), (rp, .inl (cI, 72, .inl fp)), (rt, .inl (cI, 72, .inl ft)), (rl, .inl (cI, 72, .inl fl)), (o2, .inr (1, [.ref oS, .ref q1, .ref q2, .ref q3])), (q1, .inl (cI, 72, .inl z1)), (q2, .inl (cI, 72, .inl z2)), (q3, .inl (cI, 72, .inl z3)), (oT, .inr (4, [.ref rc, .int (nI n)])), (rc, .inl (cI, 60, .inl cd)), (rb, .inl (cI, 60, .inl cd)), (rq, .inl (cI, 72, .inl pt)), (oX, .inr (5, [.ref oS, .ref oR, .ref oN, .ref o2, .ref oF, .ref oT])), (oS, .inr (3, [.ref rv, .ref rs, .int (nI (min (kc + 1) 6))])), (rv, .inl (cI, 385, .inl (n_fig v f9 0 0 0 0))), (rs, .inl (cI, 2310, .inl (n_push v sv))), (oF, .inr (0, [.ref oS, .ref oN])), (ro, .inl (cL, 1, .inr (.inl go_4))), (oM, .inr (6, [.int 0, .ref rz, .ref r2, .int (nI (min (kc + 1) 6)), .ref rb, .int (nI n), .int tp, .int lf, .int hg, .int wd, .ref rq, .int pm, .int stt, .long hh])), (rz, .inl (cI, 389, .inl (n_figZ z f9 0 0 0 0 0))), (r2, .inl (cI, 2334, .inl ys_8))] H := hP
    have hD : va_D A [(oR, .inr (2, [.ref oS])), (oN, .inr (1, [.ref oS, .ref rp, .ref rt, .ref rl])), (rp, .inl (cI, 72, .inl fp)), (rt, .inl (cI, 72, .inl ft)), (rl, .inl (cI, 72, .inl fl)), (o2, .inr (1, [.ref oS, .ref q1, .ref q2, .ref q3])), (q1, .inl (cI, 72, .inl z1)), (q2, .inl (cI, 72, .inl z2)), (q3, .inl (cI, 72, .inl z3)), (oT, .inr (4, [.ref rc, .int (nI n)])), (rc, .inl (cI, 60, .inl cd)), (rb, .inl (cI, 60, .inl cd)), (rq, .inl (cI, 72, .inl pt)), (oX, .inr (5, [.ref oS, .ref oR, .ref oN, .ref o2, .ref oF, .ref oT])), (oS, .inr (3, [.ref rv, .ref rs, .int (nI (min (kc + 1) 6))])), (rv, .inl (cI, 385, .inl (n_fig v f9 0 0 0 0))), (rs, .inl (cI, 2310, .inl (n_push v sv))), (oF, .inr (0, [.ref oS, .ref oN])), (ro, .inl (cL, 1, .inr (.inl go_4))), (oM, .inr (6, [.int 0, .ref rz, .ref r2, .int (nI (min (kc + 1) 6)), .ref rb, .int (nI n), .int tp, .int lf, .int hg, .int wd, .ref rq, .int pm, .int stt, .long hh])), (rz, .inl (cI, 389, .inl (n_figZ z f9 0 0 0 0 0))), (r2, .inl (cI, 2334, .inl ys_8))] := hD
    try dsimp only at hw_7
    obtain ⟨hr2, hsv2⟩ := hw_7
    refine lv_istore (lv' := [(6, .int r_5), (5, .int 0), (0, .ref b), (1, .ref oX), (2, .ref oM), (3, .ref ro), (4, .int (nI (6 * j)))]) hx hb dL_law_667 hl (by decide) rfl (fun ls hl => ?_)
    refine lv_aload_n hx hb dL_law_669 rfl (lv_at hl 4 rfl) ?_
    refine kq_cV (As := []) (rest := []) ⟨hx, hb, hml, hown, hts⟩ (c_X6_thrown l dC dI cI oM rz r2 rb rq (min (kc + 1) 6) n 0 tp lf hg wd pm stt hh z v ) (cwV 0 hts gL_law_X6_thrown rfl rfl rfl (by decide +kernel) ⟨Nat.le_of_ble_eq_true rfl, Nat.le_of_ble_eq_true rfl⟩) (hP.sub [19] rfl) hK (ci := 6) (q0 := 0) rfl rfl rfl rfl hl.1 rfl (Nat.le_of_ble_eq_true rfl) dL_law_670 (kl_room (by omega) (by omega)) ?_
    refine lv_iload hx hb dL_law_673 (lv_at hl 1 rfl) ?_
    refine lv_icmp_eq (tgt := 680) hx hb dL_law_675 (by decide) (fun _ => ?_) (fun q => absurd q (by decide))
    refine lv_iload hx hb dL_law_680 (lv_at hl 1 rfl) ?_
    refine lv_if_ne (tgt := 697) hx hb dL_law_682 (by decide) (fun q => absurd q (by decide)) (fun _ => ?_)
    refine lv_aload_n hx hb dL_law_685 rfl (lv_at hl 5 rfl) ?_
    refine lv_iconst (v := 0) hx hb dL_law_686 (by decide) ?_
    refine va_lald hx hb hKL hP 18 0 rfl rfl (show ¬ ((0:Int32) < 0 ∨ 1 ≤ Int32.toNatClampNeg 0) by decide) dL_law_687 ?_
    refine kq_topl (z := (if 0 < n_f v f9 2 then 1 else 0 : Int32).toInt64) (hgo) ?_
    refine lv_iload hx hb dL_law_688 (lv_at hl 0 rfl) ?_
    refine lv_i2l (v := (r_5 : Int32).toInt64) hx hb dL_law_690 rfl ?_
    refine W.lcmp hx hb dL_law_691 ?_
    refine lv_if_eq (tgt := 697) hx hb dL_law_692 (by decide) (fun _ => ?_) (fun c_9 => absurd (kq_lce (hr2.symm)) c_9)
    refine lv_goto (tgt := 1562) hx hb dL_law_697 (by decide) ?_
    refine W.widen (k := 28 + (j + 1)) (n := 6079 + 6 * (j + 1)) (by omega) (by omega) ?_
    subst hAe
    exact kk (min (kc + 1) 6) n (n_fig v f9 0 0 0 0) (n_push v sv) fp ft fl z1 z2 z3 cd (n_figZ z f9 0 0 0 0 0) ys_8 pt 0 tp lf hg wd pm stt hh go_4 (⟨by omega, hn, n_I_fig hI hf9 (fun _ => ⟨rfl, rfl, rfl⟩) (fun q => absurd q (by decide)) (by decide) (by decide), n_Z_fig hz hf9 (by decide) (by decide) (if_neg (by decide)).symm, n_SV_push hkc hsv hI hz hsv2⟩) _ _ (hP.sub [13, 14, 15, 16, 0, 1, 2, 3, 4, 5, 6, 7, 8, 17, 9, 10, 19, 20, 21, 11, 12, 18] rfl) (hD.sub [13, 14, 15, 16, 0, 1, 2, 3, 4, 5, 6, 7, 8, 17, 9, 10, 19, 20, 21, 11, 12, 18] (by decide) rfl) hS ls (lv_sub hl [2, 3, 4, 5, 6] rfl)
  · skip
    refine lv_aload_n hx hb dL_law_644 rfl (lv_at hl 1 rfl) ?_
    refine lv_aload_n hx hb dL_law_645 rfl (lv_at hl 0 rfl) ?_
    refine lv_iload hx hb dL_law_646 (lv_at hl 4 rfl) ?_
    refine lv_iconst (v := 1) hx hb dL_law_648 (by decide) ?_
    refine lv_iadd hx hb dL_law_649 ?_
    refine kq_top (z := nI ((6 * j) + 1)) (nI_add (6 * j) 1) ?_
    refine va_sld hx hb hX hbl hbA hS (vp_in_nI (show (6 * j) + 1 < L from by omega) (by omega)) dL_law_650 ?_
    refine kq_top (z := x1) ((congrArg xs (nI_clamp (Nat.lt_trans (show (6 * j) + 1 < L from by omega) (by omega)))).trans e1.symm) ?_
    refine lv_aload_n hx hb dL_law_651 rfl (lv_at hl 3 rfl) ?_
    refine kq_callMi (wr := [(oS, .inr (3, [.ref rv, .ref rs, .int (nI kc)])), (rv, .inl (cI, 385, .inl v)), (rs, .inl (cI, 2310, .inl sv)), (oR, .inr (2, [.ref oS])), (oN, .inr (1, [.ref oS, .ref rp, .ref rt, .ref rl])), (rp, .inl (cI, 72, .inl fp)), (rt, .inl (cI, 72, .inl ft)), (rl, .inl (cI, 72, .inl fl)), (o2, .inr (1, [.ref oS, .ref q1, .ref q2, .ref q3])), (q1, .inl (cI, 72, .inl z1)), (q2, .inl (cI, 72, .inl z2)), (q3, .inl (cI, 72, .inl z3)), (oF, .inr (0, [.ref oS, .ref oN])), (oT, .inr (4, [.ref rc, .int (nI n)])), (rc, .inl (cI, 60, .inl cd)), (oM, .inr (6, [.int th, .ref rz, .ref r2, .int (nI kc), .ref rb, .int (nI n), .int tp, .int lf, .int hg, .int wd, .ref rq, .int pm, .int stt, .long hh])), (rz, .inl (cI, 389, .inl z)), (r2, .inl (cI, 2334, .inl zs)), (rb, .inl (cI, 60, .inl cd)), (rq, .inl (cI, 72, .inl pt))]) (vx_runSW (As := [.ref oX, .int x1, .ref ro]) (rest := []) ⟨hx, hb, hml, hown, hts⟩ (c_L_drop_x l hls dC dI cI cL s1 s2 s3 s4 H.size oX oS oR oN o2 oF oT rv rs kc v sv x1 ro fo (by first | assumption | omega)) (vx_cwSW 3 hts gL_law_L_drop rfl rfl rfl (by decide +kernel) ⟨Nat.le_of_ble_eq_true rfl, Nat.le_of_ble_eq_true rfl⟩) (kq_preSH (hP.sub [0, 21] rfl) (hD.sub [0, 21] (by decide) rfl) hS hA hK hKL hT) rfl rfl hl.1 rfl (lv_room (Nat.le_of_ble_eq_true rfl)) dL_law_652 (kl_room (by omega) (by omega))) hP hD hS hA [0, 21] [1, 2, 3, 4, 5, 6, 7, 8, 9, 10, 11, 12, 13, 14, 15, 16, 17, 18, 19, 20] rfl rfl (by decide) (by decide) (fun r_10 u_11 H locs hw_12 hP hD hS => ?_)
    have hP : va_P (dC, dI) vwCl [(oS, .inr (3, [.ref rv, .ref rs, .int (nI kc)])), (rv, .inl (cI, 385, .inl v)), (rs, .inl (cI, 2310, .inl sv)), (oR, .inr (2, [.ref oS])), (oN, .inr (1, [.ref oS, .ref rp, .ref rt, .ref rl])), (rp, .inl (cI, 72, .inl fp)), (rt, .inl (cI, 72, .inl ft)), (rl, .inl (cI, 72, .inl fl)), (o2, .inr (1, [.ref oS, .ref q1, .ref q2, .ref q3])), (q1, .inl (cI, 72, .inl z1)), (q2, .inl (cI, 72, .inl z2)), (q3, .inl (cI, 72, .inl z3)), (oF, .inr (0, [.ref oS, .ref oN])), (oT, .inr (4, [.ref rc, .int (nI n)])), (rc, .inl (cI, 60, .inl cd)), (oM, .inr (6, [.int th, .ref rz, .ref r2, .int (nI kc), .ref rb, .int (nI n), .int tp, .int lf, .int hg, .int wd, .ref rq, .int pm, .int stt, .long hh])), (rz, .inl (cI, 389, .inl z)), (r2, .inl (cI, 2334, .inl zs)), (rb, .inl (cI, 60, .inl cd)), (rq, .inl (cI, 72, .inl pt)), (oX, .inr (5, [.ref oS, .ref oR, .ref oN, .ref o2, .ref oF, .ref oT])), (ro, .inl (cL, 1, .inr (.inl fo)))] H := hP
    have hD : va_D A [(oS, .inr (3, [.ref rv, .ref rs, .int (nI kc)])), (rv, .inl (cI, 385, .inl v)), (rs, .inl (cI, 2310, .inl sv)), (oR, .inr (2, [.ref oS])), (oN, .inr (1, [.ref oS, .ref rp, .ref rt, .ref rl])), (rp, .inl (cI, 72, .inl fp)), (rt, .inl (cI, 72, .inl ft)), (rl, .inl (cI, 72, .inl fl)), (o2, .inr (1, [.ref oS, .ref q1, .ref q2, .ref q3])), (q1, .inl (cI, 72, .inl z1)), (q2, .inl (cI, 72, .inl z2)), (q3, .inl (cI, 72, .inl z3)), (oF, .inr (0, [.ref oS, .ref oN])), (oT, .inr (4, [.ref rc, .int (nI n)])), (rc, .inl (cI, 60, .inl cd)), (oM, .inr (6, [.int th, .ref rz, .ref r2, .int (nI kc), .ref rb, .int (nI n), .int tp, .int lf, .int hg, .int wd, .ref rq, .int pm, .int stt, .long hh])), (rz, .inl (cI, 389, .inl z)), (r2, .inl (cI, 2334, .inl zs)), (rb, .inl (cI, 60, .inl cd)), (rq, .inl (cI, 72, .inl pt)), (oX, .inr (5, [.ref oS, .ref oR, .ref oN, .ref o2, .ref oF, .ref oT])), (ro, .inl (cL, 1, .inr (.inl fo)))] := hD
    try dsimp only at hw_12
    obtain rfl := hw_12
    have hP : va_P (dC, dI) vwCl [(oS, .inr (3, [.ref rv, .ref rs, .int (nI kc)])), (rv, .inl (cI, 385, .inl v)), (rs, .inl (cI, 2310, .inl sv)), (oR, .inr (2, [.ref oS])), (oN, .inr (1, [.ref oS, .ref rp, .ref rt, .ref rl])), (rp, .inl (cI, 72, .inl fp)), (rt, .inl (cI, 72, .inl ft)), (rl, .inl (cI, 72, .inl fl)), (o2, .inr (1, [.ref oS, .ref q1, .ref q2, .ref q3])), (q1, .inl (cI, 72, .inl z1)), (q2, .inl (cI, 72, .inl z2)), (q3, .inl (cI, 72, .inl z3)), (oF, .inr (0, [.ref oS, .ref oN])), (oT, .inr (4, [.ref rc, .int (nI n)])), (rc, .inl (cI, 60, .inl cd)), (oM, .inr (6, [.int th, .ref rz, .ref r2, .int (nI kc), .ref rb, .int (nI n), .int tp, .int lf, .int hg, .int wd, .ref rq, .int pm, .int stt, .long hh])), (rz, .inl (cI, 389, .inl z)), (r2, .inl (cI, 2334, .inl zs)), (rb, .inl (cI, 60, .inl cd)), (rq, .inl (cI, 72, .inl pt)), (oX, .inr (5, [.ref oS, .ref oR, .ref oN, .ref o2, .ref oF, .ref oT])), (ro, .inl (cL, 1, .inr (.inl fo)))] H := hP
    have hD : va_D A [(oS, .inr (3, [.ref rv, .ref rs, .int (nI kc)])), (rv, .inl (cI, 385, .inl v)), (rs, .inl (cI, 2310, .inl sv)), (oR, .inr (2, [.ref oS])), (oN, .inr (1, [.ref oS, .ref rp, .ref rt, .ref rl])), (rp, .inl (cI, 72, .inl fp)), (rt, .inl (cI, 72, .inl ft)), (rl, .inl (cI, 72, .inl fl)), (o2, .inr (1, [.ref oS, .ref q1, .ref q2, .ref q3])), (q1, .inl (cI, 72, .inl z1)), (q2, .inl (cI, 72, .inl z2)), (q3, .inl (cI, 72, .inl z3)), (oF, .inr (0, [.ref oS, .ref oN])), (oT, .inr (4, [.ref rc, .int (nI n)])), (rc, .inl (cI, 60, .inl cd)), (oM, .inr (6, [.int th, .ref rz, .ref r2, .int (nI kc), .ref rb, .int (nI n), .int tp, .int lf, .int hg, .int wd, .ref rq, .int pm, .int stt, .long hh])), (rz, .inl (cI, 389, .inl z)), (r2, .inl (cI, 2334, .inl zs)), (rb, .inl (cI, 60, .inl cd)), (rq, .inl (cI, 72, .inl pt)), (oX, .inr (5, [.ref oS, .ref oR, .ref oN, .ref o2, .ref oF, .ref oT])), (ro, .inl (cL, 1, .inr (.inl fo)))] := hD
    refine lv_istore (lv' := [(5, .int 1), (0, .ref b), (1, .ref oX), (2, .ref oM), (3, .ref ro), (4, .int (nI (6 * j)))]) hx hb dL_law_655 hl (by decide) rfl (fun ls hl => ?_)
    refine lv_aload_n hx hb dL_law_657 rfl (lv_at hl 3 rfl) ?_
    refine lv_aload_n hx hb dL_law_658 rfl (lv_at hl 1 rfl) ?_
    refine lv_iload hx hb dL_law_659 (lv_at hl 5 rfl) ?_
    refine lv_iconst (v := 1) hx hb dL_law_661 (by decide) ?_
    refine lv_iadd hx hb dL_law_662 ?_
    refine kq_top (z := nI ((6 * j) + 1)) (nI_add (6 * j) 1) ?_
    refine va_sld hx hb hX hbl hbA hS (vp_in_nI (show (6 * j) + 1 < L from by omega) (by omega)) dL_law_663 ?_
    refine kq_top (z := x1) ((congrArg xs (nI_clamp (Nat.lt_trans (show (6 * j) + 1 < L from by omega) (by omega)))).trans e1.symm) ?_
    refine kq_callMi (wr := [(oS, .inr (3, [.ref rv, .ref rs, .int (nI kc)])), (rv, .inl (cI, 385, .inl v)), (rs, .inl (cI, 2310, .inl sv)), (oR, .inr (2, [.ref oS])), (oN, .inr (1, [.ref oS, .ref rp, .ref rt, .ref rl])), (rp, .inl (cI, 72, .inl fp)), (rt, .inl (cI, 72, .inl ft)), (rl, .inl (cI, 72, .inl fl)), (o2, .inr (1, [.ref oS, .ref q1, .ref q2, .ref q3])), (q1, .inl (cI, 72, .inl z1)), (q2, .inl (cI, 72, .inl z2)), (q3, .inl (cI, 72, .inl z3)), (oF, .inr (0, [.ref oS, .ref oN])), (oT, .inr (4, [.ref rc, .int (nI n)])), (rc, .inl (cI, 60, .inl cd)), (rz, .inl (cI, 389, .inl z)), (r2, .inl (cI, 2334, .inl zs)), (rb, .inl (cI, 60, .inl cd)), (rq, .inl (cI, 72, .inl pt)), (oX, .inr (5, [.ref oS, .ref oR, .ref oN, .ref o2, .ref oF, .ref oT])), (ro, .inl (cL, 1, .inr (.inl fo)))]) (va_runV (As := [.int x1]) (rest := []) ⟨hx, hb, hml, hown, hts⟩ (c_X6_drop_t l dC dI cI H.size oM rz r2 rb rq kc n th tp lf hg wd pm stt hh z v x1 (fun q => hG (by simpa only [kq_l3, kq_l6, kq_l16, kq_l12, kq_l4, kq_lk, and_assoc] using q))) (cwV 1 hts gL_law_X6_drop rfl rfl rfl (by decide +kernel) ⟨Nat.le_of_ble_eq_true rfl, Nat.le_of_ble_eq_true rfl⟩) (kq_preV (ci := 6) (q0 := 0) (hP.sub [15] rfl) (hD.sub [15] (by decide) rfl) hK rfl rfl) rfl rfl hl.1 rfl (lv_room (Nat.le_of_ble_eq_true rfl)) dL_law_664 (kl_room (by omega) (by omega))) hP hD hS hA [15] [0, 1, 2, 3, 4, 5, 6, 7, 8, 9, 10, 11, 12, 13, 14, 16, 17, 18, 19, 20, 21] rfl rfl (by decide) (by decide) (fun r_13 u_14 H locs hw_15 hP hD hS => ?_)
    obtain ⟨t9_16, rfl⟩ : ∃ z, z = u_14 := ⟨_, rfl⟩
    have hP : va_P (dC, dI) vwCl [(oS, .inr (3, [.ref rv, .ref rs, .int (nI kc)])), (rv, .inl (cI, 385, .inl v)), (rs, .inl (cI, 2310, .inl sv)), (oR, .inr (2, [.ref oS])), (oN, .inr (1, [.ref oS, .ref rp, .ref rt, .ref rl])), (rp, .inl (cI, 72, .inl fp)), (rt, .inl (cI, 72, .inl ft)), (rl, .inl (cI, 72, .inl fl)), (o2, .inr (1, [.ref oS, .ref q1, .ref q2, .ref q3])), (q1, .inl (cI, 72, .inl z1)), (q2, .inl (cI, 72, .inl z2)), (q3, .inl (cI, 72, .inl z3)), (oF, .inr (0, [.ref oS, .ref oN])), (oT, .inr (4, [.ref rc, .int (nI n)])), (rc, .inl (cI, 60, .inl cd)), (rz, .inl (cI, 389, .inl z)), (r2, .inl (cI, 2334, .inl zs)), (rb, .inl (cI, 60, .inl cd)), (rq, .inl (cI, 72, .inl pt)), (oX, .inr (5, [.ref oS, .ref oR, .ref oN, .ref o2, .ref oF, .ref oT])), (ro, .inl (cL, 1, .inr (.inl fo))), (oM, .inr (6, [.int t9_16, .ref rz, .ref r2, .int (nI kc), .ref rb, .int (nI n), .int tp, .int lf, .int hg, .int wd, .ref rq, .int pm, .int stt, .long hh]))] H := hP
    have hD : va_D A [(oS, .inr (3, [.ref rv, .ref rs, .int (nI kc)])), (rv, .inl (cI, 385, .inl v)), (rs, .inl (cI, 2310, .inl sv)), (oR, .inr (2, [.ref oS])), (oN, .inr (1, [.ref oS, .ref rp, .ref rt, .ref rl])), (rp, .inl (cI, 72, .inl fp)), (rt, .inl (cI, 72, .inl ft)), (rl, .inl (cI, 72, .inl fl)), (o2, .inr (1, [.ref oS, .ref q1, .ref q2, .ref q3])), (q1, .inl (cI, 72, .inl z1)), (q2, .inl (cI, 72, .inl z2)), (q3, .inl (cI, 72, .inl z3)), (oF, .inr (0, [.ref oS, .ref oN])), (oT, .inr (4, [.ref rc, .int (nI n)])), (rc, .inl (cI, 60, .inl cd)), (rz, .inl (cI, 389, .inl z)), (r2, .inl (cI, 2334, .inl zs)), (rb, .inl (cI, 60, .inl cd)), (rq, .inl (cI, 72, .inl pt)), (oX, .inr (5, [.ref oS, .ref oR, .ref oN, .ref o2, .ref oF, .ref oT])), (ro, .inl (cL, 1, .inr (.inl fo))), (oM, .inr (6, [.int t9_16, .ref rz, .ref r2, .int (nI kc), .ref rb, .int (nI n), .int tp, .int lf, .int hg, .int wd, .ref rq, .int pm, .int stt, .long hh]))] := hD
    try dsimp only at hw_15
    have ht1 := hw_15
    refine lv_istore (lv' := [(6, .int r_13), (5, .int 1), (0, .ref b), (1, .ref oX), (2, .ref oM), (3, .ref ro), (4, .int (nI (6 * j)))]) hx hb dL_law_667 hl (by decide) rfl (fun ls hl => ?_)
    refine lv_aload_n hx hb dL_law_669 rfl (lv_at hl 4 rfl) ?_
    refine kq_cV (As := []) (rest := []) ⟨hx, hb, hml, hown, hts⟩ (c_X6_thrown l dC dI cI oM rz r2 rb rq kc n t9_16 tp lf hg wd pm stt hh z v ) (cwV 0 hts gL_law_X6_thrown rfl rfl rfl (by decide +kernel) ⟨Nat.le_of_ble_eq_true rfl, Nat.le_of_ble_eq_true rfl⟩) (hP.sub [21] rfl) hK (ci := 6) (q0 := 0) rfl rfl rfl rfl hl.1 rfl (Nat.le_of_ble_eq_true rfl) dL_law_670 (kl_room (by omega) (by omega)) ?_
    refine lv_iload hx hb dL_law_673 (lv_at hl 1 rfl) ?_
    refine lv_icmp_eq (tgt := 680) hx hb dL_law_675 (by decide) (fun _ => ?_) (fun c_17 => absurd (ht1.1 (fun q => hG (by simpa only [kq_l3, kq_l6, kq_l16, kq_l12, kq_l4, kq_lk, and_assoc] using q))) c_17)
    refine lv_iload hx hb dL_law_680 (lv_at hl 1 rfl) ?_
    refine lv_if_ne (tgt := 697) hx hb dL_law_682 (by decide) (fun _ => ?_) (fun q => absurd q (by decide))
    refine lv_goto (tgt := 1562) hx hb dL_law_697 (by decide) ?_
    refine W.widen (k := 28 + (j + 1)) (n := 6079 + 6 * (j + 1)) (by omega) (by omega) ?_
    subst hAe
    exact kk kc n v sv fp ft fl z1 z2 z3 cd z zs pt t9_16 tp lf hg wd pm stt hh fo (hI9) _ _ (hP.sub [19, 0, 1, 2, 3, 4, 5, 6, 7, 8, 9, 10, 11, 12, 13, 14, 21, 15, 16, 17, 18, 20] rfl) (hD.sub [19, 0, 1, 2, 3, 4, 5, 6, 7, 8, 9, 10, 11, 12, 13, 14, 21, 15, 16, 17, 18, 20] (by decide) rfl) hS ls (lv_sub hl [2, 3, 4, 5, 6] rfl)
