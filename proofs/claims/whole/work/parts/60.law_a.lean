/-! The world at the head of the law's loop. -/
/-- the law goes on from pc, from every world of this kind -/
def kl_K (p : Program) (l : Launch) (e : Env) (s : State) (m : MethodId) (below : List Frame) (meth : Method) (c : Code) (b : Nat) (dC : Nat → ClassId) (dI : Nat → Nat → Nat) (cI cL : ClassId) (oX oS oR oN o2 oF oT rv rs rp rt rl q1 q2 q3 rc oM rz r2 rb rq ro : Nat) (pc j k : Nat) : Prop :=
  ∀ (kc n : Nat) (v sv fp ft fl z1 z2 z3 cd z zs pt : Nat → Int32) (th tp lf hg wd pm stt : Int32) (hh : Int64) (fo : Nat → Int64), kl_I kc n v sv z zs → ∀ (H : Heap) (locs : List Loc), va_P (dC, dI) vwCl [(oX, .inr (5, [.ref oS, .ref oR, .ref oN, .ref o2, .ref oF, .ref oT])), (oS, .inr (3, [.ref rv, .ref rs, .int (nI kc)])), (rv, .inl (cI, 385, .inl v)), (rs, .inl (cI, 2310, .inl sv)), (oR, .inr (2, [.ref oS])), (oN, .inr (1, [.ref oS, .ref rp, .ref rt, .ref rl])), (rp, .inl (cI, 72, .inl fp)), (rt, .inl (cI, 72, .inl ft)), (rl, .inl (cI, 72, .inl fl)), (o2, .inr (1, [.ref oS, .ref q1, .ref q2, .ref q3])), (q1, .inl (cI, 72, .inl z1)), (q2, .inl (cI, 72, .inl z2)), (q3, .inl (cI, 72, .inl z3)), (oF, .inr (0, [.ref oS, .ref oN])), (oT, .inr (4, [.ref rc, .int (nI n)])), (rc, .inl (cI, 60, .inl cd)), (oM, .inr (6, [.int th, .ref rz, .ref r2, .int (nI kc), .ref rb, .int (nI n), .int tp, .int lf, .int hg, .int wd, .ref rq, .int pm, .int stt, .long hh])), (rz, .inl (cI, 389, .inl z)), (r2, .inl (cI, 2334, .inl zs)), (rb, .inl (cI, 60, .inl cd)), (rq, .inl (cI, 72, .inl pt)), (ro, .inl (cL, 1, .inr (.inl fo)))] H → va_D (fun q => s.heap.size ≤ q) [(oX, .inr (5, [.ref oS, .ref oR, .ref oN, .ref o2, .ref oF, .ref oT])), (oS, .inr (3, [.ref rv, .ref rs, .int (nI kc)])), (rv, .inl (cI, 385, .inl v)), (rs, .inl (cI, 2310, .inl sv)), (oR, .inr (2, [.ref oS])), (oN, .inr (1, [.ref oS, .ref rp, .ref rt, .ref rl])), (rp, .inl (cI, 72, .inl fp)), (rt, .inl (cI, 72, .inl ft)), (rl, .inl (cI, 72, .inl fl)), (o2, .inr (1, [.ref oS, .ref q1, .ref q2, .ref q3])), (q1, .inl (cI, 72, .inl z1)), (q2, .inl (cI, 72, .inl z2)), (q3, .inl (cI, 72, .inl z3)), (oF, .inr (0, [.ref oS, .ref oN])), (oT, .inr (4, [.ref rc, .int (nI n)])), (rc, .inl (cI, 60, .inl cd)), (oM, .inr (6, [.int th, .ref rz, .ref r2, .int (nI kc), .ref rb, .int (nI n), .int tp, .int lf, .int hg, .int wd, .ref rq, .int pm, .int stt, .long hh])), (rz, .inl (cI, 389, .inl z)), (r2, .inl (cI, 2334, .inl zs)), (rb, .inl (cI, 60, .inl cd)), (rq, .inl (cI, 72, .inl pt)), (ro, .inl (cL, 1, .inr (.inl fo)))] → va_S (fun q => s.heap.size ≤ q) s.heap H locs → ∀ ls : Array Slot, lv_has ls 9 [(0, .ref b), (1, .ref oX), (2, .ref oM), (3, .ref ro), (4, .int (nI (6 * j)))] → W p l e room_1 s m #[Value.ref b] below meth c H locs (28 + k) (6079 + 6 * k) (lw_Z below #[Value.ref b] s) (F0 m pc ls [])
/-- what stands all along -/
def kl_C (p : Program) (l : Launch) (s : State) (m : MethodId) (meth : Method) (c : Code) (b L : Nat) (xs : Nat → Int32) (dC : Nat → ClassId) (dI : Nat → Nat → Nat) (cI cL : ClassId) (s1 s2 s3 s4 : Nat) : Prop :=
  l.stackTraces = false ∧ lw_At p s m meth c b L xs ∧ L ≤ 3072 ∧ kq_K dC dI cI s ∧ kq_L dC dI cL s ∧ kq_T s1 s2 s3 s4 (fun q => s.heap.size ≤ q) s s.heap

set_option maxHeartbeats 8000000 in
set_option maxRecDepth 100000 in
theorem kl_wire {p : Program} {l : Launch} {e : Env} {s : State} {m : MethodId} {below : List Frame} {meth : Method} {c : Code} {b L : Nat} {xs : Nat → Int32} {dC : Nat → ClassId} {dI : Nat → Nat → Nat} {cI cL : ClassId} {s1 s2 s3 s4 : Nat} {oX oS oR oN o2 oF oT rv rs rp rt rl q1 q2 q3 rc oM rz r2 rb rq ro : Nat} (C0 : kl_C p l s m meth c b L xs dC dI cI cL s1 s2 s3 s4) (j : Nat) (hj : 6 * j + 6 ≤ L) (kk : kl_K p l e s m below meth c b dC dI cI cL oX oS oR oN o2 oF oT rv rs rp rt rl q1 q2 q3 rc oM rz r2 rb rq ro 1562 (j) (j + 1)) : kl_K p l e s m below meth c b dC dI cI cL oX oS oR oN o2 oF oT rv rs rp rt rl q1 q2 q3 rc oM rz r2 rb rq ro 152 (j) (j) := by
  obtain ⟨hls, ⟨hx, hb, hr, hml, hown, hts0, hX, hbl, hlocks, hgv⟩, hL, hK, hKL, hT⟩ := C0
  intro kc n v sv fp ft fl z1 z2 z3 cd z zs pt th tp lf hg wd pm stt hh fo hI9 H locs hP hD hS ls hl
  have hown : s.vm.findClass RL = some m.cls := hown
  have hb : c.code = cL_law := hb
  have hts : ∀ w ∈ wsL_law, w.before #[Value.ref b] s = true := fun w h => hts0 w (wsL_law_in w h)
  have hA : ∀ q : Nat, s.heap.size ≤ q → (fun q => s.heap.size ≤ q) q := fun _ h => h
  have hbA : ¬ (fun q => s.heap.size ≤ q) b := Nat.not_le.mpr hbl
  generalize hAe : (fun q => s.heap.size ≤ q) = A at hP hD hS hT hA hbA
  obtain ⟨hkc, hn, hI, hz, hsv⟩ := id hI9
  obtain ⟨x1, e1⟩ : ∃ x, x = xs (6 * j + 1) := ⟨_, rfl⟩
  obtain ⟨x2, e2⟩ : ∃ x, x = xs (6 * j + 2) := ⟨_, rfl⟩
  obtain ⟨x3, e3⟩ : ∃ x, x = xs (6 * j + 3) := ⟨_, rfl⟩
  obtain ⟨x4, e4⟩ : ∃ x, x = xs (6 * j + 4) := ⟨_, rfl⟩
  by_cases hG : (0 ≤ x1 ∧ x1 < 3) ∧ (0 ≤ x2 ∧ x2 < 6) ∧ (0 ≤ x3 ∧ x3 < 16) ∧ (-3 ≤ x4 ∧ x4 ≤ 3)
  · skip
    obtain ⟨a9, ha9, rfl⟩ := kq_nat (k := 3) hG.1 (by decide)
    obtain ⟨b9, hb9, rfl⟩ := kq_nat (k := 6) hG.2.1 (by decide)
    obtain ⟨d9, hd9, rfl⟩ := kq_nat (k := 16) hG.2.2.1 (by decide)
    have hx4 := hG.2.2.2
    refine lv_aload_n hx hb dL_law_152 rfl (lv_at hl 1 rfl) ?_
    refine lv_aload_n hx hb dL_law_153 rfl (lv_at hl 0 rfl) ?_
    refine lv_iload hx hb dL_law_154 (lv_at hl 4 rfl) ?_
    refine lv_iconst (v := 1) hx hb dL_law_156 (by decide) ?_
    refine lv_iadd hx hb dL_law_157 ?_
    refine kq_top (z := nI ((6 * j) + 1)) (nI_add (6 * j) 1) ?_
    refine va_sld hx hb hX hbl hbA hS (vp_in_nI (show (6 * j) + 1 < L from by omega) (by omega)) dL_law_158 ?_
    refine kq_top (z := nI a9) ((congrArg xs (nI_clamp (Nat.lt_trans (show (6 * j) + 1 < L from by omega) (by omega)))).trans e1.symm) ?_
    refine lv_aload_n hx hb dL_law_159 rfl (lv_at hl 0 rfl) ?_
    refine lv_iload hx hb dL_law_160 (lv_at hl 4 rfl) ?_
    refine lv_iconst (v := 2) hx hb dL_law_162 (by decide) ?_
    refine lv_iadd hx hb dL_law_163 ?_
    refine kq_top (z := nI ((6 * j) + 2)) (nI_add (6 * j) 2) ?_
    refine va_sld hx hb hX hbl hbA hS (vp_in_nI (show (6 * j) + 2 < L from by omega) (by omega)) dL_law_164 ?_
    refine kq_top (z := nI b9) ((congrArg xs (nI_clamp (Nat.lt_trans (show (6 * j) + 2 < L from by omega) (by omega)))).trans e2.symm) ?_
    refine lv_aload_n hx hb dL_law_165 rfl (lv_at hl 0 rfl) ?_
    refine lv_iload hx hb dL_law_166 (lv_at hl 4 rfl) ?_
    refine lv_iconst (v := 3) hx hb dL_law_168 (by decide) ?_
    refine lv_iadd hx hb dL_law_169 ?_
    refine kq_top (z := nI ((6 * j) + 3)) (nI_add (6 * j) 3) ?_
    refine va_sld hx hb hX hbl hbA hS (vp_in_nI (show (6 * j) + 3 < L from by omega) (by omega)) dL_law_170 ?_
    refine kq_top (z := nI d9) ((congrArg xs (nI_clamp (Nat.lt_trans (show (6 * j) + 3 < L from by omega) (by omega)))).trans e3.symm) ?_
    refine lv_aload_n hx hb dL_law_171 rfl (lv_at hl 0 rfl) ?_
    refine lv_iload hx hb dL_law_172 (lv_at hl 4 rfl) ?_
    refine lv_iconst (v := 4) hx hb dL_law_174 (by decide) ?_
    refine lv_iadd hx hb dL_law_175 ?_
    refine kq_top (z := nI ((6 * j) + 4)) (nI_add (6 * j) 4) ?_
    refine va_sld hx hb hX hbl hbA hS (vp_in_nI (show (6 * j) + 4 < L from by omega) (by omega)) dL_law_176 ?_
    refine kq_top (z := x4) ((congrArg xs (nI_clamp (Nat.lt_trans (show (6 * j) + 4 < L from by omega) (by omega)))).trans e4.symm) ?_
    refine lv_aload_n hx hb dL_law_177 rfl (lv_at hl 3 rfl) ?_
    refine kq_callMi (wr := [(oR, .inr (2, [.ref oS])), (oN, .inr (1, [.ref oS, .ref rp, .ref rt, .ref rl])), (rp, .inl (cI, 72, .inl fp)), (rt, .inl (cI, 72, .inl ft)), (rl, .inl (cI, 72, .inl fl)), (o2, .inr (1, [.ref oS, .ref q1, .ref q2, .ref q3])), (q1, .inl (cI, 72, .inl z1)), (q2, .inl (cI, 72, .inl z2)), (q3, .inl (cI, 72, .inl z3)), (oF, .inr (0, [.ref oS, .ref oN])), (oT, .inr (4, [.ref rc, .int (nI n)])), (rc, .inl (cI, 60, .inl cd)), (oM, .inr (6, [.int th, .ref rz, .ref r2, .int (nI kc), .ref rb, .int (nI n), .int tp, .int lf, .int hg, .int wd, .ref rq, .int pm, .int stt, .long hh])), (rz, .inl (cI, 389, .inl z)), (r2, .inl (cI, 2334, .inl zs)), (rb, .inl (cI, 60, .inl cd)), (rq, .inl (cI, 72, .inl pt))]) (vx_runSW (As := [.ref oX, .int (nI a9), .int (nI b9), .int (nI d9), .int x4, .ref ro]) (rest := []) ⟨hx, hb, hml, hown, hts⟩ (c_L_wire_o l hls dC dI cI cL s1 s2 s3 s4 H.size oX oS oR oN o2 oF oT rv rs kc v sv a9 b9 d9 x4 ro fo (by first | assumption | omega) (by first | assumption | omega) (by first | assumption | omega) (by first | assumption | omega) (by first | assumption | omega)) (vx_cwSW 6 hts gL_law_L_wire rfl rfl rfl (by decide +kernel) ⟨Nat.le_of_ble_eq_true rfl, Nat.le_of_ble_eq_true rfl⟩) (kq_preSH (hP.sub [0, 1, 2, 3, 21] rfl) (hD.sub [0, 1, 2, 3, 21] (by decide) rfl) hS hA hK hKL hT) rfl rfl hl.1 rfl (lv_room (Nat.le_of_ble_eq_true rfl)) dL_law_178 (kl_room (by omega) (by omega))) hP hD hS hA [0, 1, 2, 3, 21] [4, 5, 6, 7, 8, 9, 10, 11, 12, 13, 14, 15, 16, 17, 18, 19, 20] rfl rfl (by decide) (by decide) (fun r_1 u_2 H locs hw_3 hP hD hS => ?_)
    obtain ⟨go_4, rfl⟩ : ∃ z, z = u_2 := ⟨_, rfl⟩
    have hP : va_P (dC, dI) vwCl [(oR, .inr (2, [.ref oS])), (oN, .inr (1, [.ref oS, .ref rp, .ref rt, .ref rl])), (rp, .inl (cI, 72, .inl fp)), (rt, .inl (cI, 72, .inl ft)), (rl, .inl (cI, 72, .inl fl)), (o2, .inr (1, [.ref oS, .ref q1, .ref q2, .ref q3])), (q1, .inl (cI, 72, .inl z1)), (q2, .inl (cI, 72, .inl z2)), (q3, .inl (cI, 72, .inl z3)), (oF, .inr (0, [.ref oS, .ref oN])), (oT, .inr (4, [.ref rc, .int (nI n)])), (rc, .inl (cI, 60, .inl cd)), (oM, .inr (6, [.int th, .ref rz, .ref r2, .int (nI kc), .ref rb, .int (nI n), .int tp, .int lf, .int hg, .int wd, .ref rq, .int pm, .int stt, .long hh])), (rz, .inl (cI, 389, .inl z)), (r2, .inl (cI, 2334, .inl zs)), (rb, .inl (cI, 60, .inl cd)), (rq, .inl (cI, 72, .inl pt)), (oX, .inr (5, [.ref oS, .ref oR, .ref oN, .ref o2, .ref oF, .ref oT])), (oS, .inr (3, [.ref rv, .ref rs, .int (nI (min (kc + 1) 6))])), (rv, .inl (cI, 385, .inl (upd v ((a9 * 6 + b9) * 16 + d9) x4))), (rs, .inl (cI, 2310, .inl (n_push v sv))), (ro, .inl (cL, 1, .inr (.inl go_4)))] H := hP
    have hD : va_D A [(oR, .inr (2, [.ref oS])), (oN, .inr (1, [.ref oS, .ref rp, .ref rt, .ref rl])), (rp, .inl (cI, 72, .inl fp)), (rt, .inl (cI, 72, .inl ft)), (rl, .inl (cI, 72, .inl fl)), (o2, .inr (1, [.ref oS, .ref q1, .ref q2, .ref q3])), (q1, .inl (cI, 72, .inl z1)), (q2, .inl (cI, 72, .inl z2)), (q3, .inl (cI, 72, .inl z3)), (oF, .inr (0, [.ref oS, .ref oN])), (oT, .inr (4, [.ref rc, .int (nI n)])), (rc, .inl (cI, 60, .inl cd)), (oM, .inr (6, [.int th, .ref rz, .ref r2, .int (nI kc), .ref rb, .int (nI n), .int tp, .int lf, .int hg, .int wd, .ref rq, .int pm, .int stt, .long hh])), (rz, .inl (cI, 389, .inl z)), (r2, .inl (cI, 2334, .inl zs)), (rb, .inl (cI, 60, .inl cd)), (rq, .inl (cI, 72, .inl pt)), (oX, .inr (5, [.ref oS, .ref oR, .ref oN, .ref o2, .ref oF, .ref oT])), (oS, .inr (3, [.ref rv, .ref rs, .int (nI (min (kc + 1) 6))])), (rv, .inl (cI, 385, .inl (upd v ((a9 * 6 + b9) * 16 + d9) x4))), (rs, .inl (cI, 2310, .inl (n_push v sv))), (ro, .inl (cL, 1, .inr (.inl go_4)))] := hD
    try dsimp only at hw_3
    obtain ⟨rfl, hgo⟩ := hw_3
    have hP : va_P (dC, dI) vwCl [(oR, .inr (2, [.ref oS])), (oN, .inr (1, [.ref oS, .ref rp, .ref rt, .ref rl])), (rp, .inl (cI, 72, .inl fp)), (rt, .inl (cI, 72, .inl ft)), (rl, .inl (cI, 72, .inl fl)), (o2, .inr (1, [.ref oS, .ref q1, .ref q2, .ref q3])), (q1, .inl (cI, 72, .inl z1)), (q2, .inl (cI, 72, .inl z2)), (q3, .inl (cI, 72, .inl z3)), (oF, .inr (0, [.ref oS, .ref oN])), (oT, .inr (4, [.ref rc, .int (nI n)])), (rc, .inl (cI, 60, .inl cd)), (oM, .inr (6, [.int th, .ref rz, .ref r2, .int (nI kc), .ref rb, .int (nI n), .int tp, .int lf, .int hg, .int wd, .ref rq, .int pm, .int stt, .long hh])), (rz, .inl (cI, 389, .inl z)), (r2, .inl (cI, 2334, .inl zs)), (rb, .inl (cI, 60, .inl cd)), (rq, .inl (cI, 72, .inl pt)), (oX, .inr (5, [.ref oS, .ref oR, .ref oN, .ref o2, .ref oF, .ref oT])), (oS, .inr (3, [.ref rv, .ref rs, .int (nI (min (kc + 1) 6))])), (rv, .inl (cI, 385, .inl (upd v ((a9 * 6 + b9) * 16 + d9) x4))), (rs, .inl (cI, 2310, .inl (n_push v sv))), (ro, .inl (cL, 1, .inr (.inl go_4)))] H := hP
    have hD : va_D A [(oR, .inr (2, [.ref oS])), (oN, .inr (1, [.ref oS, .ref rp, .ref rt, .ref rl])), (rp, .inl (cI, 72, .inl fp)), (rt, .inl (cI, 72, .inl ft)), (rl, .inl (cI, 72, .inl fl)), (o2, .inr (1, [.ref oS, .ref q1, .ref q2, .ref q3])), (q1, .inl (cI, 72, .inl z1)), (q2, .inl (cI, 72, .inl z2)), (q3, .inl (cI, 72, .inl z3)), (oF, .inr (0, [.ref oS, .ref oN])), (oT, .inr (4, [.ref rc, .int (nI n)])), (rc, .inl (cI, 60, .inl cd)), (oM, .inr (6, [.int th, .ref rz, .ref r2, .int (nI kc), .ref rb, .int (nI n), .int tp, .int lf, .int hg, .int wd, .ref rq, .int pm, .int stt, .long hh])), (rz, .inl (cI, 389, .inl z)), (r2, .inl (cI, 2334, .inl zs)), (rb, .inl (cI, 60, .inl cd)), (rq, .inl (cI, 72, .inl pt)), (oX, .inr (5, [.ref oS, .ref oR, .ref oN, .ref o2, .ref oF, .ref oT])), (oS, .inr (3, [.ref rv, .ref rs, .int (nI (min (kc + 1) 6))])), (rv, .inl (cI, 385, .inl (upd v ((a9 * 6 + b9) * 16 + d9) x4))), (rs, .inl (cI, 2310, .inl (n_push v sv))), (ro, .inl (cL, 1, .inr (.inl go_4)))] := hD
    refine lv_istore (lv' := [(5, .int 0), (0, .ref b), (1, .ref oX), (2, .ref oM), (3, .ref ro), (4, .int (nI (6 * j)))]) hx hb dL_law_181 hl (by decide) rfl (fun ls hl => ?_)
    refine lv_aload_n hx hb dL_law_183 rfl (lv_at hl 3 rfl) ?_
    refine lv_aload_n hx hb dL_law_184 rfl (lv_at hl 1 rfl) ?_
    refine lv_iload hx hb dL_law_185 (lv_at hl 5 rfl) ?_
    refine lv_iconst (v := 1) hx hb dL_law_187 (by decide) ?_
    refine lv_iadd hx hb dL_law_188 ?_
    refine kq_top (z := nI ((6 * j) + 1)) (nI_add (6 * j) 1) ?_
    refine va_sld hx hb hX hbl hbA hS (vp_in_nI (show (6 * j) + 1 < L from by omega) (by omega)) dL_law_189 ?_
    refine kq_top (z := nI a9) ((congrArg xs (nI_clamp (Nat.lt_trans (show (6 * j) + 1 < L from by omega) (by omega)))).trans e1.symm) ?_
    refine lv_aload_n hx hb dL_law_190 rfl (lv_at hl 1 rfl) ?_
    refine lv_iload hx hb dL_law_191 (lv_at hl 5 rfl) ?_
    refine lv_iconst (v := 2) hx hb dL_law_193 (by decide) ?_
    refine lv_iadd hx hb dL_law_194 ?_
    refine kq_top (z := nI ((6 * j) + 2)) (nI_add (6 * j) 2) ?_
    refine va_sld hx hb hX hbl hbA hS (vp_in_nI (show (6 * j) + 2 < L from by omega) (by omega)) dL_law_195 ?_
    refine kq_top (z := nI b9) ((congrArg xs (nI_clamp (Nat.lt_trans (show (6 * j) + 2 < L from by omega) (by omega)))).trans e2.symm) ?_
    refine lv_aload_n hx hb dL_law_196 rfl (lv_at hl 1 rfl) ?_
    refine lv_iload hx hb dL_law_197 (lv_at hl 5 rfl) ?_
    refine lv_iconst (v := 3) hx hb dL_law_199 (by decide) ?_
    refine lv_iadd hx hb dL_law_200 ?_
    refine kq_top (z := nI ((6 * j) + 3)) (nI_add (6 * j) 3) ?_
    refine va_sld hx hb hX hbl hbA hS (vp_in_nI (show (6 * j) + 3 < L from by omega) (by omega)) dL_law_201 ?_
    refine kq_top (z := nI d9) ((congrArg xs (nI_clamp (Nat.lt_trans (show (6 * j) + 3 < L from by omega) (by omega)))).trans e3.symm) ?_
    refine lv_aload_n hx hb dL_law_202 rfl (lv_at hl 1 rfl) ?_
    refine lv_iload hx hb dL_law_203 (lv_at hl 5 rfl) ?_
    refine lv_iconst (v := 4) hx hb dL_law_205 (by decide) ?_
    refine lv_iadd hx hb dL_law_206 ?_
    refine kq_top (z := nI ((6 * j) + 4)) (nI_add (6 * j) 4) ?_
    refine va_sld hx hb hX hbl hbA hS (vp_in_nI (show (6 * j) + 4 < L from by omega) (by omega)) dL_law_207 ?_
    refine kq_top (z := x4) ((congrArg xs (nI_clamp (Nat.lt_trans (show (6 * j) + 4 < L from by omega) (by omega)))).trans e4.symm) ?_
    refine kq_callMi (wr := [(oR, .inr (2, [.ref oS])), (oN, .inr (1, [.ref oS, .ref rp, .ref rt, .ref rl])), (rp, .inl (cI, 72, .inl fp)), (rt, .inl (cI, 72, .inl ft)), (rl, .inl (cI, 72, .inl fl)), (o2, .inr (1, [.ref oS, .ref q1, .ref q2, .ref q3])), (q1, .inl (cI, 72, .inl z1)), (q2, .inl (cI, 72, .inl z2)), (q3, .inl (cI, 72, .inl z3)), (oF, .inr (0, [.ref oS, .ref oN])), (oT, .inr (4, [.ref rc, .int (nI n)])), (rc, .inl (cI, 60, .inl cd)), (rb, .inl (cI, 60, .inl cd)), (rq, .inl (cI, 72, .inl pt)), (oX, .inr (5, [.ref oS, .ref oR, .ref oN, .ref o2, .ref oF, .ref oT])), (oS, .inr (3, [.ref rv, .ref rs, .int (nI (min (kc + 1) 6))])), (rv, .inl (cI, 385, .inl (upd v ((a9 * 6 + b9) * 16 + d9) x4))), (rs, .inl (cI, 2310, .inl (n_push v sv))), (ro, .inl (cL, 1, .inr (.inl go_4)))]) (va_runV (As := [.int (nI a9), .int (nI b9), .int (nI d9), .int x4]) (rest := []) ⟨hx, hb, hml, hown, hts⟩ (c_X6_wire l dC dI cI H.size oM rz r2 rb rq kc n th tp lf hg wd pm stt hh z zs cd pt v a9 b9 d9 x4 (by first | assumption | omega) (by first | assumption | omega) (by first | assumption | omega) (by first | assumption | omega) (by first | assumption | omega) (by first | assumption | omega)) (cwV 4 hts gL_law_X6_wire rfl rfl rfl (by decide +kernel) ⟨Nat.le_of_ble_eq_true rfl, Nat.le_of_ble_eq_true rfl⟩) (kq_preV (ci := 6) (q0 := 0) (hP.sub [12, 13, 14] rfl) (hD.sub [12, 13, 14] (by decide) rfl) hK rfl rfl) rfl rfl hl.1 rfl (lv_room (Nat.le_of_ble_eq_true rfl)) dL_law_208 (kl_room (by omega) (by omega))) hP hD hS hA [12, 13, 14] [0, 1, 2, 3, 4, 5, 6, 7, 8, 9, 10, 11, 15, 16, 17, 18, 19, 20, 21] rfl rfl (by decide) (by decide) (fun r_5 u_6 H locs hw_7 hP hD hS => ?_)
    obtain ⟨ys_8, rfl⟩ : ∃ z, z = u_6 := ⟨_, rfl⟩
    have hP : va_P (dC, dI) vwCl [(oR, .inr (2, [.ref oS])), (oN, .inr (1, [.ref oS, .ref rp, .ref rt, .ref rl])), (rp, .inl (cI, 72, .inl fp)), (rt, .inl (cI, 72, .inl ft)), (rl, .inl (cI, 72, .inl fl)), (o2, .inr (1, [.ref oS, .ref q1, .ref q2, .ref q3])), (q1, .inl (cI, 72, .inl z1)), (q2, .inl (cI, 72, .inl z2)), (q3, .inl (cI, 72, .inl z3)), (oF, .inr (0, [.ref oS, .ref oN])), (oT, .inr (4, [.ref rc, .int (nI n)])), (rc, .inl (cI, 60, .inl cd)), (rb, .inl (cI, 60, .inl cd)), (rq, .inl (cI, 72, .inl pt)), (oX, .inr (5, [.ref oS, .ref oR, .ref oN, .ref o2, .ref oF, .ref oT])), (oS, .inr (3, [.ref rv, .ref rs, .int (nI (min (kc + 1) 6))])), (rv, .inl (cI, 385, .inl (upd v ((a9 * 6 + b9) * 16 + d9) x4))), (rs, .inl (cI, 2310, .inl (n_push v sv))), (ro, .inl (cL, 1, .inr (.inl go_4))), (oM, .inr (6, [.int 0, .ref rz, .ref r2, .int (nI (min (kc + 1) 6)), .ref rb, .int (nI n), .int tp, .int lf, .int hg, .int wd, .ref rq, .int pm, .int stt, .long hh])), (rz, .inl (cI, 389, .inl (upd z (9 + (6 * a9 + b9) * 16 + d9) x4))), (r2, .inl (cI, 2334, .inl ys_8))] H := hP
    have hD : va_D A [(oR, .inr (2, [.ref oS])), (oN, .inr (1, [.ref oS, .ref rp, .ref rt, .ref rl])), (rp, .inl (cI, 72, .inl fp)), (rt, .inl (cI, 72, .inl ft)), (rl, .inl (cI, 72, .inl fl)), (o2, .inr (1, [.ref oS, .ref q1, .ref q2, .ref q3])), (q1, .inl (cI, 72, .inl z1)), (q2, .inl (cI, 72, .inl z2)), (q3, .inl (cI, 72, .inl z3)), (oF, .inr (0, [.ref oS, .ref oN])), (oT, .inr (4, [.ref rc, .int (nI n)])), (rc, .inl (cI, 60, .inl cd)), (rb, .inl (cI, 60, .inl cd)), (rq, .inl (cI, 72, .inl pt)), (oX, .inr (5, [.ref oS, .ref oR, .ref oN, .ref o2, .ref oF, .ref oT])), (oS, .inr (3, [.ref rv, .ref rs, .int (nI (min (kc + 1) 6))])), (rv, .inl (cI, 385, .inl (upd v ((a9 * 6 + b9) * 16 + d9) x4))), (rs, .inl (cI, 2310, .inl (n_push v sv))), (ro, .inl (cL, 1, .inr (.inl go_4))), (oM, .inr (6, [.int 0, .ref rz, .ref r2, .int (nI (min (kc + 1) 6)), .ref rb, .int (nI n), .int tp, .int lf, .int hg, .int wd, .ref rq, .int pm, .int stt, .long hh])), (rz, .inl (cI, 389, .inl (upd z (9 + (6 * a9 + b9) * 16 + d9) x4))), (r2, .inl (cI, 2334, .inl ys_8))] := hD
    try dsimp only at hw_7
    obtain ⟨hr2, hsv2⟩ := hw_7
    refine lv_istore (lv' := [(6, .int r_5), (5, .int 0), (0, .ref b), (1, .ref oX), (2, .ref oM), (3, .ref ro), (4, .int (nI (6 * j)))]) hx hb dL_law_211 hl (by decide) rfl (fun ls hl => ?_)
    refine lv_aload_n hx hb dL_law_213 rfl (lv_at hl 4 rfl) ?_
    refine kq_cV (As := []) (rest := []) ⟨hx, hb, hml, hown, hts⟩ (c_X6_thrown l dC dI cI oM rz r2 rb rq (min (kc + 1) 6) n 0 tp lf hg wd pm stt hh z v ) (cwV 0 hts gL_law_X6_thrown rfl rfl rfl (by decide +kernel) ⟨Nat.le_of_ble_eq_true rfl, Nat.le_of_ble_eq_true rfl⟩) (hP.sub [19] rfl) hK (ci := 6) (q0 := 0) rfl rfl rfl rfl hl.1 rfl (Nat.le_of_ble_eq_true rfl) dL_law_214 (kl_room (by omega) (by omega)) ?_
    refine lv_iload hx hb dL_law_217 (lv_at hl 1 rfl) ?_
    refine lv_icmp_eq (tgt := 224) hx hb dL_law_219 (by decide) (fun _ => ?_) (fun q => absurd q (by decide))
    refine lv_iload hx hb dL_law_224 (lv_at hl 1 rfl) ?_
    refine lv_if_ne (tgt := 241) hx hb dL_law_226 (by decide) (fun q => absurd q (by decide)) (fun _ => ?_)
    refine lv_aload_n hx hb dL_law_229 rfl (lv_at hl 5 rfl) ?_
    refine lv_iconst (v := 0) hx hb dL_law_230 (by decide) ?_
    refine va_lald hx hb hKL hP 18 0 rfl rfl (show ¬ ((0:Int32) < 0 ∨ 1 ≤ Int32.toNatClampNeg 0) by decide) dL_law_231 ?_
    refine kq_topl (z := (v ((a9 * 6 + b9) * 16 + d9) + 100 : Int32).toInt64) (hgo) ?_
    refine lv_iload hx hb dL_law_232 (lv_at hl 0 rfl) ?_
    refine lv_i2l (v := (r_5 : Int32).toInt64) hx hb dL_law_234 rfl ?_
    refine W.lcmp hx hb dL_law_235 ?_
    refine lv_if_eq (tgt := 241) hx hb dL_law_236 (by decide) (fun _ => ?_) (fun c_9 => absurd (kq_lce (hr2.symm)) c_9)
    refine lv_goto (tgt := 1562) hx hb dL_law_241 (by decide) ?_
    refine W.widen (k := 28 + (j + 1)) (n := 6079 + 6 * (j + 1)) (by omega) (by omega) ?_
    subst hAe
    exact kk (min (kc + 1) 6) n (upd v ((a9 * 6 + b9) * 16 + d9) x4) (n_push v sv) fp ft fl z1 z2 z3 cd (upd z (9 + (6 * a9 + b9) * 16 + d9) x4) ys_8 pt 0 tp lf hg wd pm stt hh go_4 (⟨by omega, hn, n_I_wire hI (by omega) _, by rw [show 9 + (6 * a9 + b9) * 16 + d9 = 9 + ((a9 * 6 + b9) * 16 + d9) by omega]; exact n_Z_wire hz (by omega), n_SV_push hkc hsv hI hz hsv2⟩) _ _ (hP.sub [14, 15, 16, 17, 0, 1, 2, 3, 4, 5, 6, 7, 8, 9, 10, 11, 19, 20, 21, 12, 13, 18] rfl) (hD.sub [14, 15, 16, 17, 0, 1, 2, 3, 4, 5, 6, 7, 8, 9, 10, 11, 19, 20, 21, 12, 13, 18] (by decide) rfl) hS ls (lv_sub hl [2, 3, 4, 5, 6] rfl)
  · skip
    refine lv_aload_n hx hb dL_law_152 rfl (lv_at hl 1 rfl) ?_
    refine lv_aload_n hx hb dL_law_153 rfl (lv_at hl 0 rfl) ?_
    refine lv_iload hx hb dL_law_154 (lv_at hl 4 rfl) ?_
    refine lv_iconst (v := 1) hx hb dL_law_156 (by decide) ?_
    refine lv_iadd hx hb dL_law_157 ?_
    refine kq_top (z := nI ((6 * j) + 1)) (nI_add (6 * j) 1) ?_
    refine va_sld hx hb hX hbl hbA hS (vp_in_nI (show (6 * j) + 1 < L from by omega) (by omega)) dL_law_158 ?_
    refine kq_top (z := x1) ((congrArg xs (nI_clamp (Nat.lt_trans (show (6 * j) + 1 < L from by omega) (by omega)))).trans e1.symm) ?_
    refine lv_aload_n hx hb dL_law_159 rfl (lv_at hl 0 rfl) ?_
    refine lv_iload hx hb dL_law_160 (lv_at hl 4 rfl) ?_
    refine lv_iconst (v := 2) hx hb dL_law_162 (by decide) ?_
    refine lv_iadd hx hb dL_law_163 ?_
    refine kq_top (z := nI ((6 * j) + 2)) (nI_add (6 * j) 2) ?_
    refine va_sld hx hb hX hbl hbA hS (vp_in_nI (show (6 * j) + 2 < L from by omega) (by omega)) dL_law_164 ?_
    refine kq_top (z := x2) ((congrArg xs (nI_clamp (Nat.lt_trans (show (6 * j) + 2 < L from by omega) (by omega)))).trans e2.symm) ?_
    refine lv_aload_n hx hb dL_law_165 rfl (lv_at hl 0 rfl) ?_
    refine lv_iload hx hb dL_law_166 (lv_at hl 4 rfl) ?_
    refine lv_iconst (v := 3) hx hb dL_law_168 (by decide) ?_
    refine lv_iadd hx hb dL_law_169 ?_
    refine kq_top (z := nI ((6 * j) + 3)) (nI_add (6 * j) 3) ?_
    refine va_sld hx hb hX hbl hbA hS (vp_in_nI (show (6 * j) + 3 < L from by omega) (by omega)) dL_law_170 ?_
    refine kq_top (z := x3) ((congrArg xs (nI_clamp (Nat.lt_trans (show (6 * j) + 3 < L from by omega) (by omega)))).trans e3.symm) ?_
    refine lv_aload_n hx hb dL_law_171 rfl (lv_at hl 0 rfl) ?_
    refine lv_iload hx hb dL_law_172 (lv_at hl 4 rfl) ?_
    refine lv_iconst (v := 4) hx hb dL_law_174 (by decide) ?_
    refine lv_iadd hx hb dL_law_175 ?_
    refine kq_top (z := nI ((6 * j) + 4)) (nI_add (6 * j) 4) ?_
    refine va_sld hx hb hX hbl hbA hS (vp_in_nI (show (6 * j) + 4 < L from by omega) (by omega)) dL_law_176 ?_
    refine kq_top (z := x4) ((congrArg xs (nI_clamp (Nat.lt_trans (show (6 * j) + 4 < L from by omega) (by omega)))).trans e4.symm) ?_
    refine lv_aload_n hx hb dL_law_177 rfl (lv_at hl 3 rfl) ?_
    refine kq_callMi (wr := [(oR, .inr (2, [.ref oS])), (oN, .inr (1, [.ref oS, .ref rp, .ref rt, .ref rl])), (rp, .inl (cI, 72, .inl fp)), (rt, .inl (cI, 72, .inl ft)), (rl, .inl (cI, 72, .inl fl)), (o2, .inr (1, [.ref oS, .ref q1, .ref q2, .ref q3])), (q1, .inl (cI, 72, .inl z1)), (q2, .inl (cI, 72, .inl z2)), (q3, .inl (cI, 72, .inl z3)), (oF, .inr (0, [.ref oS, .ref oN])), (oT, .inr (4, [.ref rc, .int (nI n)])), (rc, .inl (cI, 60, .inl cd)), (oM, .inr (6, [.int th, .ref rz, .ref r2, .int (nI kc), .ref rb, .int (nI n), .int tp, .int lf, .int hg, .int wd, .ref rq, .int pm, .int stt, .long hh])), (rz, .inl (cI, 389, .inl z)), (r2, .inl (cI, 2334, .inl zs)), (rb, .inl (cI, 60, .inl cd)), (rq, .inl (cI, 72, .inl pt))]) (vx_runSW (As := [.ref oX, .int x1, .int x2, .int x3, .int x4, .ref ro]) (rest := []) ⟨hx, hb, hml, hown, hts⟩ (c_L_wire_x l hls dC dI cI cL s1 s2 s3 s4 H.size oX oS oR oN o2 oF oT rv rs kc v sv x1 x2 x3 x4 ro fo (by first | assumption | omega)) (vx_cwSW 6 hts gL_law_L_wire rfl rfl rfl (by decide +kernel) ⟨Nat.le_of_ble_eq_true rfl, Nat.le_of_ble_eq_true rfl⟩) (kq_preSH (hP.sub [0, 1, 2, 3, 21] rfl) (hD.sub [0, 1, 2, 3, 21] (by decide) rfl) hS hA hK hKL hT) rfl rfl hl.1 rfl (lv_room (Nat.le_of_ble_eq_true rfl)) dL_law_178 (kl_room (by omega) (by omega))) hP hD hS hA [0, 1, 2, 3, 21] [4, 5, 6, 7, 8, 9, 10, 11, 12, 13, 14, 15, 16, 17, 18, 19, 20] rfl rfl (by decide) (by decide) (fun r_10 u_11 H locs hw_12 hP hD hS => ?_)
    have hP : va_P (dC, dI) vwCl [(oR, .inr (2, [.ref oS])), (oN, .inr (1, [.ref oS, .ref rp, .ref rt, .ref rl])), (rp, .inl (cI, 72, .inl fp)), (rt, .inl (cI, 72, .inl ft)), (rl, .inl (cI, 72, .inl fl)), (o2, .inr (1, [.ref oS, .ref q1, .ref q2, .ref q3])), (q1, .inl (cI, 72, .inl z1)), (q2, .inl (cI, 72, .inl z2)), (q3, .inl (cI, 72, .inl z3)), (oF, .inr (0, [.ref oS, .ref oN])), (oT, .inr (4, [.ref rc, .int (nI n)])), (rc, .inl (cI, 60, .inl cd)), (oM, .inr (6, [.int th, .ref rz, .ref r2, .int (nI kc), .ref rb, .int (nI n), .int tp, .int lf, .int hg, .int wd, .ref rq, .int pm, .int stt, .long hh])), (rz, .inl (cI, 389, .inl z)), (r2, .inl (cI, 2334, .inl zs)), (rb, .inl (cI, 60, .inl cd)), (rq, .inl (cI, 72, .inl pt)), (oX, .inr (5, [.ref oS, .ref oR, .ref oN, .ref o2, .ref oF, .ref oT])), (oS, .inr (3, [.ref rv, .ref rs, .int (nI kc)])), (rv, .inl (cI, 385, .inl v)), (rs, .inl (cI, 2310, .inl sv)), (ro, .inl (cL, 1, .inr (.inl fo)))] H := hP
    have hD : va_D A [(oR, .inr (2, [.ref oS])), (oN, .inr (1, [.ref oS, .ref rp, .ref rt, .ref rl])), (rp, .inl (cI, 72, .inl fp)), (rt, .inl (cI, 72, .inl ft)), (rl, .inl (cI, 72, .inl fl)), (o2, .inr (1, [.ref oS, .ref q1, .ref q2, .ref q3])), (q1, .inl (cI, 72, .inl z1)), (q2, .inl (cI, 72, .inl z2)), (q3, .inl (cI, 72, .inl z3)), (oF, .inr (0, [.ref oS, .ref oN])), (oT, .inr (4, [.ref rc, .int (nI n)])), (rc, .inl (cI, 60, .inl cd)), (oM, .inr (6, [.int th, .ref rz, .ref r2, .int (nI kc), .ref rb, .int (nI n), .int tp, .int lf, .int hg, .int wd, .ref rq, .int pm, .int stt, .long hh])), (rz, .inl (cI, 389, .inl z)), (r2, .inl (cI, 2334, .inl zs)), (rb, .inl (cI, 60, .inl cd)), (rq, .inl (cI, 72, .inl pt)), (oX, .inr (5, [.ref oS, .ref oR, .ref oN, .ref o2, .ref oF, .ref oT])), (oS, .inr (3, [.ref rv, .ref rs, .int (nI kc)])), (rv, .inl (cI, 385, .inl v)), (rs, .inl (cI, 2310, .inl sv)), (ro, .inl (cL, 1, .inr (.inl fo)))] := hD
    try dsimp only at hw_12
    have hr1 := hw_12
    refine lv_istore (lv' := [(5, .int r_10), (0, .ref b), (1, .ref oX), (2, .ref oM), (3, .ref ro), (4, .int (nI (6 * j)))]) hx hb dL_law_181 hl (by decide) rfl (fun ls hl => ?_)
    refine lv_aload_n hx hb dL_law_183 rfl (lv_at hl 3 rfl) ?_
    refine lv_aload_n hx hb dL_law_184 rfl (lv_at hl 1 rfl) ?_
    refine lv_iload hx hb dL_law_185 (lv_at hl 5 rfl) ?_
    refine lv_iconst (v := 1) hx hb dL_law_187 (by decide) ?_
    refine lv_iadd hx hb dL_law_188 ?_
    refine kq_top (z := nI ((6 * j) + 1)) (nI_add (6 * j) 1) ?_
    refine va_sld hx hb hX hbl hbA hS (vp_in_nI (show (6 * j) + 1 < L from by omega) (by omega)) dL_law_189 ?_
    refine kq_top (z := x1) ((congrArg xs (nI_clamp (Nat.lt_trans (show (6 * j) + 1 < L from by omega) (by omega)))).trans e1.symm) ?_
    refine lv_aload_n hx hb dL_law_190 rfl (lv_at hl 1 rfl) ?_
    refine lv_iload hx hb dL_law_191 (lv_at hl 5 rfl) ?_
    refine lv_iconst (v := 2) hx hb dL_law_193 (by decide) ?_
    refine lv_iadd hx hb dL_law_194 ?_
    refine kq_top (z := nI ((6 * j) + 2)) (nI_add (6 * j) 2) ?_
    refine va_sld hx hb hX hbl hbA hS (vp_in_nI (show (6 * j) + 2 < L from by omega) (by omega)) dL_law_195 ?_
    refine kq_top (z := x2) ((congrArg xs (nI_clamp (Nat.lt_trans (show (6 * j) + 2 < L from by omega) (by omega)))).trans e2.symm) ?_
    refine lv_aload_n hx hb dL_law_196 rfl (lv_at hl 1 rfl) ?_
    refine lv_iload hx hb dL_law_197 (lv_at hl 5 rfl) ?_
    refine lv_iconst (v := 3) hx hb dL_law_199 (by decide) ?_
    refine lv_iadd hx hb dL_law_200 ?_
    refine kq_top (z := nI ((6 * j) + 3)) (nI_add (6 * j) 3) ?_
    refine va_sld hx hb hX hbl hbA hS (vp_in_nI (show (6 * j) + 3 < L from by omega) (by omega)) dL_law_201 ?_
    refine kq_top (z := x3) ((congrArg xs (nI_clamp (Nat.lt_trans (show (6 * j) + 3 < L from by omega) (by omega)))).trans e3.symm) ?_
    refine lv_aload_n hx hb dL_law_202 rfl (lv_at hl 1 rfl) ?_
    refine lv_iload hx hb dL_law_203 (lv_at hl 5 rfl) ?_
    refine lv_iconst (v := 4) hx hb dL_law_205 (by decide) ?_
    refine lv_iadd hx hb dL_law_206 ?_
    refine kq_top (z := nI ((6 * j) + 4)) (nI_add (6 * j) 4) ?_
    refine va_sld hx hb hX hbl hbA hS (vp_in_nI (show (6 * j) + 4 < L from by omega) (by omega)) dL_law_207 ?_
    refine kq_top (z := x4) ((congrArg xs (nI_clamp (Nat.lt_trans (show (6 * j) + 4 < L from by omega) (by omega)))).trans e4.symm) ?_
    refine kq_callMi (wr := [(oR, .inr (2, [.ref oS])), (oN, .inr (1, [.ref oS, .ref rp, .ref rt, .ref rl])), (rp, .inl (cI, 72, .inl fp)), (rt, .inl (cI, 72, .inl ft)), (rl, .inl (cI, 72, .inl fl)), (o2, .inr (1, [.ref oS, .ref q1, .ref q2, .ref q3])), (q1, .inl (cI, 72, .inl z1)), (q2, .inl (cI, 72, .inl z2)), (q3, .inl (cI, 72, .inl z3)), (oF, .inr (0, [.ref oS, .ref oN])), (oT, .inr (4, [.ref rc, .int (nI n)])), (rc, .inl (cI, 60, .inl cd)), (rz, .inl (cI, 389, .inl z)), (r2, .inl (cI, 2334, .inl zs)), (rb, .inl (cI, 60, .inl cd)), (rq, .inl (cI, 72, .inl pt)), (oX, .inr (5, [.ref oS, .ref oR, .ref oN, .ref o2, .ref oF, .ref oT])), (oS, .inr (3, [.ref rv, .ref rs, .int (nI kc)])), (rv, .inl (cI, 385, .inl v)), (rs, .inl (cI, 2310, .inl sv)), (ro, .inl (cL, 1, .inr (.inl fo)))]) (va_runV (As := [.int x1, .int x2, .int x3, .int x4]) (rest := []) ⟨hx, hb, hml, hown, hts⟩ (c_X6_wire_t l dC dI cI H.size oM rz r2 rb rq kc n th tp lf hg wd pm stt hh z v x1 x2 x3 x4 (fun q => hG (by simpa only [kq_l3, kq_l6, kq_l16, kq_l12, kq_l4, kq_lk, and_assoc] using q))) (cwV 4 hts gL_law_X6_wire rfl rfl rfl (by decide +kernel) ⟨Nat.le_of_ble_eq_true rfl, Nat.le_of_ble_eq_true rfl⟩) (kq_preV (ci := 6) (q0 := 0) (hP.sub [12] rfl) (hD.sub [12] (by decide) rfl) hK rfl rfl) rfl rfl hl.1 rfl (lv_room (Nat.le_of_ble_eq_true rfl)) dL_law_208 (kl_room (by omega) (by omega))) hP hD hS hA [12] [0, 1, 2, 3, 4, 5, 6, 7, 8, 9, 10, 11, 13, 14, 15, 16, 17, 18, 19, 20, 21] rfl rfl (by decide) (by decide) (fun r_13 u_14 H locs hw_15 hP hD hS => ?_)
    obtain ⟨t9_16, rfl⟩ : ∃ z, z = u_14 := ⟨_, rfl⟩
    have hP : va_P (dC, dI) vwCl [(oR, .inr (2, [.ref oS])), (oN, .inr (1, [.ref oS, .ref rp, .ref rt, .ref rl])), (rp, .inl (cI, 72, .inl fp)), (rt, .inl (cI, 72, .inl ft)), (rl, .inl (cI, 72, .inl fl)), (o2, .inr (1, [.ref oS, .ref q1, .ref q2, .ref q3])), (q1, .inl (cI, 72, .inl z1)), (q2, .inl (cI, 72, .inl z2)), (q3, .inl (cI, 72, .inl z3)), (oF, .inr (0, [.ref oS, .ref oN])), (oT, .inr (4, [.ref rc, .int (nI n)])), (rc, .inl (cI, 60, .inl cd)), (rz, .inl (cI, 389, .inl z)), (r2, .inl (cI, 2334, .inl zs)), (rb, .inl (cI, 60, .inl cd)), (rq, .inl (cI, 72, .inl pt)), (oX, .inr (5, [.ref oS, .ref oR, .ref oN, .ref o2, .ref oF, .ref oT])), (oS, .inr (3, [.ref rv, .ref rs, .int (nI kc)])), (rv, .inl (cI, 385, .inl v)), (rs, .inl (cI, 2310, .inl sv)), (ro, .inl (cL, 1, .inr (.inl fo))), (oM, .inr (6, [.int t9_16, .ref rz, .ref r2, .int (nI kc), .ref rb, .int (nI n), .int tp, .int lf, .int hg, .int wd, .ref rq, .int pm, .int stt, .long hh]))] H := hP
    have hD : va_D A [(oR, .inr (2, [.ref oS])), (oN, .inr (1, [.ref oS, .ref rp, .ref rt, .ref rl])), (rp, .inl (cI, 72, .inl fp)), (rt, .inl (cI, 72, .inl ft)), (rl, .inl (cI, 72, .inl fl)), (o2, .inr (1, [.ref oS, .ref q1, .ref q2, .ref q3])), (q1, .inl (cI, 72, .inl z1)), (q2, .inl (cI, 72, .inl z2)), (q3, .inl (cI, 72, .inl z3)), (oF, .inr (0, [.ref oS, .ref oN])), (oT, .inr (4, [.ref rc, .int (nI n)])), (rc, .inl (cI, 60, .inl cd)), (rz, .inl (cI, 389, .inl z)), (r2, .inl (cI, 2334, .inl zs)), (rb, .inl (cI, 60, .inl cd)), (rq, .inl (cI, 72, .inl pt)), (oX, .inr (5, [.ref oS, .ref oR, .ref oN, .ref o2, .ref oF, .ref oT])), (oS, .inr (3, [.ref rv, .ref rs, .int (nI kc)])), (rv, .inl (cI, 385, .inl v)), (rs, .inl (cI, 2310, .inl sv)), (ro, .inl (cL, 1, .inr (.inl fo))), (oM, .inr (6, [.int t9_16, .ref rz, .ref r2, .int (nI kc), .ref rb, .int (nI n), .int tp, .int lf, .int hg, .int wd, .ref rq, .int pm, .int stt, .long hh]))] := hD
    try dsimp only at hw_15
    have ht1 := hw_15
    obtain ⟨hth, hr0⟩ := kq_tr (A := (0 ≤ x1 ∧ x1 < 3) ∧ (0 ≤ x2 ∧ x2 < 6) ∧ (0 ≤ x3 ∧ x3 < 16)) (B := (-3 ≤ x4 ∧ x4 ≤ 3)) (A' := (0 ≤ x1 ∧ x1 ≤ 2) ∧ (0 ≤ x2 ∧ x2 ≤ 5) ∧ (0 ≤ x3 ∧ x3 ≤ 15)) (B' := (-3 ≤ x4 ∧ x4 ≤ 3)) (by first | exact Iff.rfl | simp only [kq_l3, kq_l6, kq_l16, kq_l12, kq_l4, kq_lk, and_assoc]) (by first | exact Iff.rfl | simp only [kq_l3, kq_l6, kq_l16, kq_l12, kq_l4, kq_lk, and_assoc]) (fun q => hG (by first | exact q | simpa only [and_assoc] using q)) hr1 ht1
    refine lv_istore (lv' := [(6, .int r_13), (5, .int r_10), (0, .ref b), (1, .ref oX), (2, .ref oM), (3, .ref ro), (4, .int (nI (6 * j)))]) hx hb dL_law_211 hl (by decide) rfl (fun ls hl => ?_)
    refine lv_aload_n hx hb dL_law_213 rfl (lv_at hl 4 rfl) ?_
    refine kq_cV (As := []) (rest := []) ⟨hx, hb, hml, hown, hts⟩ (c_X6_thrown l dC dI cI oM rz r2 rb rq kc n t9_16 tp lf hg wd pm stt hh z v ) (cwV 0 hts gL_law_X6_thrown rfl rfl rfl (by decide +kernel) ⟨Nat.le_of_ble_eq_true rfl, Nat.le_of_ble_eq_true rfl⟩) (hP.sub [21] rfl) hK (ci := 6) (q0 := 0) rfl rfl rfl rfl hl.1 rfl (Nat.le_of_ble_eq_true rfl) dL_law_214 (kl_room (by omega) (by omega)) ?_
    refine lv_iload hx hb dL_law_217 (lv_at hl 1 rfl) ?_
    refine lv_icmp_eq (tgt := 224) hx hb dL_law_219 (by decide) (fun _ => ?_) (fun c_17 => absurd hth c_17)
    refine lv_iload hx hb dL_law_224 (lv_at hl 1 rfl) ?_
    refine lv_if_ne (tgt := 241) hx hb dL_law_226 (by decide) (fun _ => ?_) (fun c_18 => absurd c_18 hr0)
    refine lv_goto (tgt := 1562) hx hb dL_law_241 (by decide) ?_
    refine W.widen (k := 28 + (j + 1)) (n := 6079 + 6 * (j + 1)) (by omega) (by omega) ?_
    subst hAe
    exact kk kc n v sv fp ft fl z1 z2 z3 cd z zs pt t9_16 tp lf hg wd pm stt hh fo (hI9) _ _ (hP.sub [16, 17, 18, 19, 0, 1, 2, 3, 4, 5, 6, 7, 8, 9, 10, 11, 21, 12, 13, 14, 15, 20] rfl) (hD.sub [16, 17, 18, 19, 0, 1, 2, 3, 4, 5, 6, 7, 8, 9, 10, 11, 21, 12, 13, 14, 15, 20] (by decide) rfl) hS ls (lv_sub hl [2, 3, 4, 5, 6] rfl)
