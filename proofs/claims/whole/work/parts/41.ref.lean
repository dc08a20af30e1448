set_option maxHeartbeats 4000000 in
set_option maxRecDepth 100000 in
theorem c_X6_readBuffer (l : Launch) (dC : Nat → ClassId) (dI : Nat → Nat → Nat) (cI : ClassId) (sz : Nat) (oM : Nat) (rz : Nat) (r2 : Nat) (rb : Nat) (rq : Nat) (km : Nat) (n : Nat) (th : Int32) (tp : Int32) (lf : Int32) (hg : Int32) (wd : Int32) (pm : Int32) (stt : Int32) (hh : Int64) (bf : Nat → Int32) (pt : Nat → Int32) (hn : n ≤ 60) : Met l yX6_readBuffer wsX6_readBuffer ({ frames := 3, cells := 0, slots := 0, locals := 66 }) (kq_M dC dI cI [.ref oM] sz [(oM, .inr (6, [.int th, .ref rz, .ref r2, .int (nI km), .ref rb, .int (nI n), .int tp, .int lf, .int hg, .int wd, .ref rq, .int pm, .int stt, .long hh])), (rb, .inl (cI, 60, .inl bf)), (rq, .inl (cI, 72, .inl pt))]) (va_Qi (fun (r : Int32) (u : Nat × Nat × (Nat → Int32)) => r = nI (n_fe bf n) ∧ (¬ n_q bf n = 8 → u.1 = n_q bf n ∧ n_PP bf u.2.2 u.2.1 n) ∧ u.1 < 9) (kq_B dC dI (va_A [(oM, .inr (6, [.int th, .ref rz, .ref r2, .int (nI km), .ref rb, .int (nI n), .int tp, .int lf, .int hg, .int wd, .ref rq, .int pm, .int stt, .long hh])), (rb, .inl (cI, 60, .inl bf)), (rq, .inl (cI, 72, .inl pt))] sz) (fun u : Nat × Nat × (Nat → Int32) => [(oM, .inr (6, [.int th, .ref rz, .ref r2, .int (nI km), .ref rb, .int (nI n), .int tp, .int lf, .int hg, .int wd, .ref rq, .int (nI u.2.1), .int (nI u.1), .long hh])), (rb, .inl (cI, 60, .inl bf)), (rq, .inl (cI, 72, .inl u.2.2))])) (va_A [(oM, .inr (6, [.int th, .ref rz, .ref r2, .int (nI km), .ref rb, .int (nI n), .int tp, .int lf, .int hg, .int wd, .ref rq, .int pm, .int stt, .long hh])), (rb, .inl (cI, 60, .inl bf)), (rq, .inl (cI, 72, .inl pt))] sz)) 0 0 (va_A [(oM, .inr (6, [.int th, .ref rz, .ref r2, .int (nI km), .ref rb, .int (nI n), .int tp, .int lf, .int hg, .int wd, .ref rq, .int pm, .int stt, .long hh])), (rb, .inl (cI, 60, .inl bf)), (rq, .inl (cI, 72, .inl pt))] sz) := by
  refine kq_startM (cc := cX6_readBuffer) (maxL := 2) (ret := (some .int)) (by decide) rfl (Nat.le_of_ble_eq_true rfl) ?_
  intro p e s m below meth c hx hb hr hml hown hlocks hts hsz hA hP hD hS hK hnm ls hl
  subst hsz
  generalize hAe : va_A [(oM, .inr (6, [.int th, .ref rz, .ref r2, .int (nI km), .ref rb, .int (nI n), .int tp, .int lf, .int hg, .int wd, .ref rq, .int pm, .int stt, .long hh])), (rb, .inl (cI, 60, .inl bf)), (rq, .inl (cI, 72, .inl pt))] s.heap.size = A at hA hD hS ⊢
  have hown : s.vm.findClass RX6 = some m.cls := hown
  have hl : lv_has ls 2 [(0, .ref oM)] := hl
  refine lv_aload_n hx hb dX6_readBuffer_0 rfl (lv_at hl 0 rfl) ?_
  refine lv_iconst (v := 0) hx hb dX6_readBuffer_1 (by decide) ?_
  refine va_put (D := (dC, dI)) (ci := 6) (v := .int 0) (ty := .int) (C := RX6) (T := TX6) (N := 14) hx hb hts (by decide +kernel) tyX6 tyX6_ok nmX6 hown hK.1 hP hD hS 0 rfl rfl 11 (by decide) (hts (.fieldLink RX6 132 "NoteWatermarksModel" "partMany" "I") (by decide +kernel)) (fun _ h9 => h9) rfl (by decide +kernel) rfl rfl (Nat.le_of_ble_eq_true rfl) dX6_readBuffer_2 (fun H locs hP hD hS => ?_)
  have hP : va_P (dC, dI) vwCl [(oM, .inr (6, [.int th, .ref rz, .ref r2, .int (nI km), .ref rb, .int (nI n), .int tp, .int lf, .int hg, .int wd, .ref rq, .int 0, .int stt, .long hh])), (rb, .inl (cI, 60, .inl bf)), (rq, .inl (cI, 72, .inl pt))] H := hP
  have hD : va_D A [(oM, .inr (6, [.int th, .ref rz, .ref r2, .int (nI km), .ref rb, .int (nI n), .int tp, .int lf, .int hg, .int wd, .ref rq, .int 0, .int stt, .long hh])), (rb, .inl (cI, 60, .inl bf)), (rq, .inl (cI, 72, .inl pt))] := hD
  refine lv_aload_n hx hb dX6_readBuffer_5 rfl (lv_at hl 0 rfl) ?_
  refine lv_iconst (v := 0) hx hb dX6_readBuffer_6 (by decide) ?_
  refine va_put (D := (dC, dI)) (ci := 6) (v := .int 0) (ty := .int) (C := RX6) (T := TX6) (N := 14) hx hb hts (by decide +kernel) tyX6 tyX6_ok nmX6 hown hK.1 hP hD hS 0 rfl rfl 12 (by decide) (hts (.fieldLink RX6 129 "NoteWatermarksModel" "state" "I") (by decide +kernel)) (fun _ h9 => h9) rfl (by decide +kernel) rfl rfl (Nat.le_of_ble_eq_true rfl) dX6_readBuffer_7 (fun H locs hP hD hS => ?_)
  have hP : va_P (dC, dI) vwCl [(oM, .inr (6, [.int th, .ref rz, .ref r2, .int (nI km), .ref rb, .int (nI n), .int tp, .int lf, .int hg, .int wd, .ref rq, .int 0, .int 0, .long hh])), (rb, .inl (cI, 60, .inl bf)), (rq, .inl (cI, 72, .inl pt))] H := hP
  have hD : va_D A [(oM, .inr (6, [.int th, .ref rz, .ref r2, .int (nI km), .ref rb, .int (nI n), .int tp, .int lf, .int hg, .int wd, .ref rq, .int 0, .int 0, .long hh])), (rb, .inl (cI, 60, .inl bf)), (rq, .inl (cI, 72, .inl pt))] := hD
  refine lv_iconst (v := 0) hx hb dX6_readBuffer_10 (by decide) ?_
  refine lv_istore_n (lv' := [(1, .int 0), (0, .ref oM)]) hx hb dX6_readBuffer_11 rfl hl (by decide) rfl (fun ls hl => ?_)
  refine kq_loopM3 (A1 := Nat) (A2 := Nat) (A3 := Nat → Int32) (fun (k : Nat) (y : Nat) (g : Nat → Int32) => n - k) (fun (k : Nat) (y : Nat) (g : Nat → Int32) => (k ≤ n) ∧ (¬ n_q bf k = 8) ∧ (n_PP bf g y k)) (fun (k : Nat) (y : Nat) (g : Nat → Int32) => [(0, .ref oM), (1, .int (nI k))]) (fun (k : Nat) (y : Nat) (g : Nat → Int32) => [(oM, .inr (6, [.int th, .ref rz, .ref r2, .int (nI km), .ref rb, .int (nI n), .int tp, .int lf, .int hg, .int wd, .ref rq, .int (nI y), .int (nI (n_q bf k)), .long hh])), (rb, .inl (cI, 60, .inl bf)), (rq, .inl (cI, 72, .inl g))]) (nL := 2) hK ?_ 0 0 pt ⟨(by omega), (by exact (by decide : ¬ (0 : Nat) = 8)), (by exact n_PP_0)⟩ hP hD hS _ (lv_sub hl [1, 0] rfl)
  intro k y g hi_2 ih_1 H locs hP hD hS ls hl
  obtain ⟨ik, i8, ip⟩ := hi_2
  have hl : lv_has ls 2 [(0, .ref oM), (1, .int (nI k))] := hl
  have hP : va_P (dC, dI) vwCl [(oM, .inr (6, [.int th, .ref rz, .ref r2, .int (nI km), .ref rb, .int (nI n), .int tp, .int lf, .int hg, .int wd, .ref rq, .int (nI y), .int (nI (n_q bf k)), .long hh])), (rb, .inl (cI, 60, .inl bf)), (rq, .inl (cI, 72, .inl g))] H := hP
  have hD : va_D A [(oM, .inr (6, [.int th, .ref rz, .ref r2, .int (nI km), .ref rb, .int (nI n), .int tp, .int lf, .int hg, .int wd, .ref rq, .int (nI y), .int (nI (n_q bf k)), .long hh])), (rb, .inl (cI, 60, .inl bf)), (rq, .inl (cI, 72, .inl g))] := hD
  refine lv_iload_n hx hb dX6_readBuffer_12 rfl (lv_at hl 1 rfl) ?_
  refine lv_aload_n hx hb dX6_readBuffer_13 rfl (lv_at hl 0 rfl) ?_
  refine va_get (D := (dC, dI)) (ci := 6) (v := .int (nI n)) (C := RX6) (T := TX6) (N := 14) hx hb hts (by decide +kernel) hown hK.1 hP 0 rfl rfl 5 (by decide) (hts (.fieldLink RX6 126 "NoteWatermarksModel" "typed" "I") (by decide +kernel)) (fun _ h9 => h9) rfl dX6_readBuffer_14 ?_
  refine lv_icmp_ge (tgt := 41) hx hb dX6_readBuffer_17 (by decide) (fun c_3 => ?_) (fun c_3 => ?_)
  · skip
    have c_3 := kq_leN (a := n) (b := k) c_3 (by omega) (by omega)
    refine lv_aload_n hx hb dX6_readBuffer_41 rfl (lv_at hl 0 rfl) ?_
    refine va_get (D := (dC, dI)) (ci := 6) (v := .int (nI n)) (C := RX6) (T := TX6) (N := 14) hx hb hts (by decide +kernel) hown hK.1 hP 0 rfl rfl 5 (by decide) (hts (.fieldLink RX6 126 "NoteWatermarksModel" "typed" "I") (by decide +kernel)) (fun _ h9 => h9) rfl dX6_readBuffer_42 ?_
    exact kq_retMi (n_q bf k, y, g) hx hb hr hlocks hP hD hS dX6_readBuffer_45 (by dsimp only; have hkn : k = n := (by omega); subst hkn; exact ⟨by rw [n_fe_all i8], fun _ => ⟨rfl, ip⟩, by have := n_q_le (cd := bf) (k := k); omega⟩)
  · skip
    have c_3 := kq_nleN (a := n) (b := k) c_3 (by omega) (by omega)
    have hq8 : n_q bf k < 8 := by have := n_q_le (cd := bf) (k := k); omega
    have hy6 := n_ps_6 (cd := bf) y
    have hip := ip.1
    refine lv_aload_n hx hb dX6_readBuffer_20 rfl (lv_at hl 0 rfl) ?_
    refine lv_aload_n hx hb dX6_readBuffer_21 rfl (lv_at hl 0 rfl) ?_
    refine va_get (D := (dC, dI)) (ci := 6) (v := .ref rb) (C := RX6) (T := TX6) (N := 14) hx hb hts (by decide +kernel) hown hK.1 hP 0 rfl rfl 4 (by decide) (hts (.fieldLink RX6 16 "NoteWatermarksModel" "buffer" "[I") (by decide +kernel)) (fun _ h9 => h9) rfl dX6_readBuffer_22 ?_
    refine lv_iload_n hx hb dX6_readBuffer_25 rfl (lv_at hl 1 rfl) ?_
    refine va_iald hx hb hK.1 hP 1 0 rfl rfl (vp_in_nI (show k < 60 from by omega) (by omega)) dX6_readBuffer_26 ?_
    refine kq_top (z := bf k) (congrArg bf (nI_clamp (Nat.lt_trans (show k < 60 from by omega) (by omega)))) ?_
    refine kq_callMi (wr := [(rb, .inl (cI, 60, .inl bf))]) (va_runV (As := [.int (bf k)]) (rest := []) ⟨hx, hb, hml, hown, hts⟩ (c_X6_stands l dC dI cI H.size oM rz r2 rb rq km n y (n_q bf k) th tp lf hg wd hh g (bf k) (by first | assumption | omega) (by first | assumption | omega)) (cwV 1 hts gX6_readBuffer_X6_stands rfl rfl rfl (by decide +kernel) ⟨Nat.le_of_ble_eq_true rfl, Nat.le_of_ble_eq_true rfl⟩) (kq_preV (ci := 6) (q0 := 0) (hP.sub [0, 2] rfl) (hD.sub [0, 2] (by decide) rfl) hK rfl rfl) rfl rfl hl.1 rfl (lv_room (Nat.le_of_ble_eq_true rfl)) dX6_readBuffer_27 ⟨Nat.le_of_ble_eq_true rfl, Nat.le_of_ble_eq_true rfl⟩) hP hD hS hA [0, 2] [1] rfl rfl (by decide) (by decide) (fun r_4 u_5 H locs hw_6 hP hD hS => ?_)
    obtain ⟨s1_7, p1_8, pt1_9⟩ := u_5
    have hP : va_P (dC, dI) vwCl [(rb, .inl (cI, 60, .inl bf)), (oM, .inr (6, [.int th, .ref rz, .ref r2, .int (nI km), .ref rb, .int (nI n), .int tp, .int lf, .int hg, .int wd, .ref rq, .int (nI p1_8), .int (nI s1_7), .long hh])), (rq, .inl (cI, 72, .inl pt1_9))] H := hP
    have hD : va_D A [(rb, .inl (cI, 60, .inl bf)), (oM, .inr (6, [.int th, .ref rz, .ref r2, .int (nI km), .ref rb, .int (nI n), .int tp, .int lf, .int hg, .int wd, .ref rq, .int (nI p1_8), .int (nI s1_7), .long hh])), (rq, .inl (cI, 72, .inl pt1_9))] := hD
    try dsimp only at hw_6
    try dsimp only at hw_6
    obtain ⟨hr1, hpt, hok, hs9, hp1⟩ := hw_6
    refine lv_if_ne (tgt := 35) hx hb dX6_readBuffer_30 (by decide) (fun c_10 => ?_) (fun c_10 => ?_)
    · skip
      have h8 : ¬ n_nx (n_q bf k) (bf k) = 8 := fun q => c_10 (by rw [hr1, if_pos q])
      obtain ⟨e1, e2⟩ := hok h8
      rw [e1, e2, hpt] at hP hD
      refine lv_iinc (v := nI (k + 1)) (lv' := [(1, .int (nI (k + 1))), (0, .ref oM)]) hx hb dX6_readBuffer_35 hl (k := 1) rfl (nI_1 k) (by decide) rfl (fun ls hl => ?_)
      refine lv_goto (tgt := 12) hx hb dX6_readBuffer_38 (by decide) ?_
      exact ih_1 (k + 1) (y + n_sc (n_q bf k) (bf k)) (n_pu g y (n_q bf k) (bf k)) ⟨(by omega), (by exact h8), (by exact n_PP_s ip hq8 h8)⟩ (by show n - (k + 1) < n - k; omega) _ _ (hP.sub [1, 0, 2] rfl) (hD.sub [1, 0, 2] (by decide) rfl) hS _ (lv_sub hl [1, 0] rfl)
    · skip
      have h8 : n_q bf (k + 1) = 8 := by have h9 := c_10; rw [hr1] at h9; rcases Classical.em (n_nx (n_q bf k) (bf k) = 8) with w | w; exact w; rw [if_neg w] at h9; exact absurd h9 (by decide)
      refine lv_iload_n hx hb dX6_readBuffer_33 rfl (lv_at hl 1 rfl) ?_
      exact kq_retMi (s1_7, p1_8, pt1_9) hx hb hr hlocks (hP.sub [1, 0, 2] rfl) (hD.sub [1, 0, 2] (by decide) rfl) hS dX6_readBuffer_34 (by dsimp only; exact ⟨by rw [n_fe_at i8 h8 (by omega)], fun q => absurd (n_q_8 h8 (by omega)) q, hs9⟩)
set_option maxHeartbeats 4000000 in
set_option maxRecDepth 100000 in
theorem c_X6_firstError (l : Launch) (dC : Nat → ClassId) (dI : Nat → Nat → Nat) (cI : ClassId) (sz : Nat) (oM : Nat) (rz : Nat) (r2 : Nat) (rb : Nat) (rq : Nat) (km : Nat) (n : Nat) (th : Int32) (tp : Int32) (lf : Int32) (hg : Int32) (wd : Int32) (pm : Int32) (stt : Int32) (hh : Int64) (bf : Nat → Int32) (pt : Nat → Int32) (hn : n ≤ 60) : Met l yX6_firstError wsX6_firstError ({ frames := 4, cells := 0, slots := 0, locals := 87 }) (kq_M dC dI cI [.ref oM] sz [(oM, .inr (6, [.int th, .ref rz, .ref r2, .int (nI km), .ref rb, .int (nI n), .int tp, .int lf, .int hg, .int wd, .ref rq, .int pm, .int stt, .long hh])), (rb, .inl (cI, 60, .inl bf)), (rq, .inl (cI, 72, .inl pt))]) (va_Qi (fun (r : Int32) (u : Nat × Nat × (Nat → Int32)) => r = nI (n_fe bf n)) (kq_B dC dI (va_A [(oM, .inr (6, [.int th, .ref rz, .ref r2, .int (nI km), .ref rb, .int (nI n), .int tp, .int lf, .int hg, .int wd, .ref rq, .int pm, .int stt, .long hh])), (rb, .inl (cI, 60, .inl bf)), (rq, .inl (cI, 72, .inl pt))] sz) (fun u : Nat × Nat × (Nat → Int32) => [(oM, .inr (6, [.int 0, .ref rz, .ref r2, .int (nI km), .ref rb, .int (nI n), .int tp, .int lf, .int hg, .int wd, .ref rq, .int (nI u.2.1), .int (nI u.1), .long hh])), (rb, .inl (cI, 60, .inl bf)), (rq, .inl (cI, 72, .inl u.2.2))])) (va_A [(oM, .inr (6, [.int th, .ref rz, .ref r2, .int (nI km), .ref rb, .int (nI n), .int tp, .int lf, .int hg, .int wd, .ref rq, .int pm, .int stt, .long hh])), (rb, .inl (cI, 60, .inl bf)), (rq, .inl (cI, 72, .inl pt))] sz)) 0 0 (va_A [(oM, .inr (6, [.int th, .ref rz, .ref r2, .int (nI km), .ref rb, .int (nI n), .int tp, .int lf, .int hg, .int wd, .ref rq, .int pm, .int stt, .long hh])), (rb, .inl (cI, 60, .inl bf)), (rq, .inl (cI, 72, .inl pt))] sz) := by
  refine kq_startM (cc := cX6_firstError) (maxL := 1) (ret := (some .int)) (by decide) rfl (Nat.le_of_ble_eq_true rfl) ?_
  intro p e s m below meth c hx hb hr hml hown hlocks hts hsz hA hP hD hS hK hnm ls hl
  subst hsz
  generalize hAe : va_A [(oM, .inr (6, [.int th, .ref rz, .ref r2, .int (nI km), .ref rb, .int (nI n), .int tp, .int lf, .int hg, .int wd, .ref rq, .int pm, .int stt, .long hh])), (rb, .inl (cI, 60, .inl bf)), (rq, .inl (cI, 72, .inl pt))] s.heap.size = A at hA hD hS ⊢
  have hown : s.vm.findClass RX6 = some m.cls := hown
  have hl : lv_has ls 1 [(0, .ref oM)] := hl
  refine lv_aload_n hx hb dX6_firstError_0 rfl (lv_at hl 0 rfl) ?_
  refine lv_iconst (v := 0) hx hb dX6_firstError_1 (by decide) ?_
  refine va_put (D := (dC, dI)) (ci := 6) (v := .int 0) (ty := .int) (C := RX6) (T := TX6) (N := 14) hx hb hts (by decide +kernel) tyX6 tyX6_ok nmX6 hown hK.1 hP hD hS 0 rfl rfl 0 (by decide) (hts (.fieldLink RX6 22 "NoteWatermarksModel" "thrown" "I") (by decide +kernel)) (fun _ h9 => h9) rfl (by decide +kernel) rfl rfl (Nat.le_of_ble_eq_true rfl) dX6_firstError_2 (fun H locs hP hD hS => ?_)
  have hP : va_P (dC, dI) vwCl [(oM, .inr (6, [.int 0, .ref rz, .ref r2, .int (nI km), .ref rb, .int (nI n), .int tp, .int lf, .int hg, .int wd, .ref rq, .int pm, .int stt, .long hh])), (rb, .inl (cI, 60, .inl bf)), (rq, .inl (cI, 72, .inl pt))] H := hP
  have hD : va_D A [(oM, .inr (6, [.int 0, .ref rz, .ref r2, .int (nI km), .ref rb, .int (nI n), .int tp, .int lf, .int hg, .int wd, .ref rq, .int pm, .int stt, .long hh])), (rb, .inl (cI, 60, .inl bf)), (rq, .inl (cI, 72, .inl pt))] := hD
  refine lv_aload_n hx hb dX6_firstError_5 rfl (lv_at hl 0 rfl) ?_
  refine kq_callMi (wr := []) (va_runV (As := []) (rest := []) ⟨hx, hb, hml, hown, hts⟩ (c_X6_readBuffer l dC dI cI H.size oM rz r2 rb rq km n 0 tp lf hg wd pm stt hh bf pt (by first | assumption | omega)) (cwV 0 hts gX6_firstError_X6_readBuffer rfl rfl rfl (by decide +kernel) ⟨Nat.le_of_ble_eq_true rfl, Nat.le_of_ble_eq_true rfl⟩) (kq_preV (ci := 6) (q0 := 0) (hP.sub [0, 1, 2] rfl) (hD.sub [0, 1, 2] (by decide) rfl) hK rfl rfl) rfl rfl hl.1 rfl (lv_room (Nat.le_of_ble_eq_true rfl)) dX6_firstError_6 ⟨Nat.le_of_ble_eq_true rfl, Nat.le_of_ble_eq_true rfl⟩) hP hD hS hA [0, 1, 2] [] rfl rfl (by decide) (by decide) (fun r_1 u_2 H locs hw_3 hP hD hS => ?_)
  obtain ⟨s1_4, p1_5, pt1_6⟩ := u_2
  have hP : va_P (dC, dI) vwCl [(oM, .inr (6, [.int 0, .ref rz, .ref r2, .int (nI km), .ref rb, .int (nI n), .int tp, .int lf, .int hg, .int wd, .ref rq, .int (nI p1_5), .int (nI s1_4), .long hh])), (rb, .inl (cI, 60, .inl bf)), (rq, .inl (cI, 72, .inl pt1_6))] H := hP
  have hD : va_D A [(oM, .inr (6, [.int 0, .ref rz, .ref r2, .int (nI km), .ref rb, .int (nI n), .int tp, .int lf, .int hg, .int wd, .ref rq, .int (nI p1_5), .int (nI s1_4), .long hh])), (rb, .inl (cI, 60, .inl bf)), (rq, .inl (cI, 72, .inl pt1_6))] := hD
  try dsimp only at hw_3
  try dsimp only at hw_3
  have hrd := hw_3
  exact kq_retMi (s1_4, p1_5, pt1_6) hx hb hr hlocks hP hD hS dX6_firstError_9 (by exact hrd.1)
set_option maxHeartbeats 4000000 in
set_option maxRecDepth 100000 in
theorem c_X6_isWhole (l : Launch) (dC : Nat → ClassId) (dI : Nat → Nat → Nat) (cI : ClassId) (sz : Nat) (oM : Nat) (rz : Nat) (r2 : Nat) (rb : Nat) (rq : Nat) (km : Nat) (n : Nat) (th : Int32) (tp : Int32) (lf : Int32) (hg : Int32) (wd : Int32) (pm : Int32) (stt : Int32) (hh : Int64) (bf : Nat → Int32) (pt : Nat → Int32) (hn : n ≤ 60) : Met l yX6_isWhole wsX6_isWhole ({ frames := 4, cells := 0, slots := 0, locals := 87 }) (kq_M dC dI cI [.ref oM] sz [(oM, .inr (6, [.int th, .ref rz, .ref r2, .int (nI km), .ref rb, .int (nI n), .int tp, .int lf, .int hg, .int wd, .ref rq, .int pm, .int stt, .long hh])), (rb, .inl (cI, 60, .inl bf)), (rq, .inl (cI, 72, .inl pt))]) (va_Qi (fun (r : Int32) (u : Nat × Nat × (Nat → Int32)) => r = (if n_q bf n = 5 ∨ n_q bf n = 7 then (1:Int32) else 0) ∧ ((n_q bf n = 5 ∨ n_q bf n = 7) → n_PP bf u.2.2 u.2.1 n)) (kq_B dC dI (va_A [(oM, .inr (6, [.int th, .ref rz, .ref r2, .int (nI km), .ref rb, .int (nI n), .int tp, .int lf, .int hg, .int wd, .ref rq, .int pm, .int stt, .long hh])), (rb, .inl (cI, 60, .inl bf)), (rq, .inl (cI, 72, .inl pt))] sz) (fun u : Nat × Nat × (Nat → Int32) => [(oM, .inr (6, [.int th, .ref rz, .ref r2, .int (nI km), .ref rb, .int (nI n), .int tp, .int lf, .int hg, .int wd, .ref rq, .int (nI u.2.1), .int (nI u.1), .long hh])), (rb, .inl (cI, 60, .inl bf)), (rq, .inl (cI, 72, .inl u.2.2))])) (va_A [(oM, .inr (6, [.int th, .ref rz, .ref r2, .int (nI km), .ref rb, .int (nI n), .int tp, .int lf, .int hg, .int wd, .ref rq, .int pm, .int stt, .long hh])), (rb, .inl (cI, 60, .inl bf)), (rq, .inl (cI, 72, .inl pt))] sz)) 0 0 (va_A [(oM, .inr (6, [.int th, .ref rz, .ref r2, .int (nI km), .ref rb, .int (nI n), .int tp, .int lf, .int hg, .int wd, .ref rq, .int pm, .int stt, .long hh])), (rb, .inl (cI, 60, .inl bf)), (rq, .inl (cI, 72, .inl pt))] sz) := by
  refine kq_startM (cc := cX6_isWhole) (maxL := 1) (ret := (some .boolean)) (by decide) rfl (Nat.le_of_ble_eq_true rfl) ?_
  intro p e s m below meth c hx hb hr hml hown hlocks hts hsz hA hP hD hS hK hnm ls hl
  subst hsz
  generalize hAe : va_A [(oM, .inr (6, [.int th, .ref rz, .ref r2, .int (nI km), .ref rb, .int (nI n), .int tp, .int lf, .int hg, .int wd, .ref rq, .int pm, .int stt, .long hh])), (rb, .inl (cI, 60, .inl bf)), (rq, .inl (cI, 72, .inl pt))] s.heap.size = A at hA hD hS ⊢
  have hown : s.vm.findClass RX6 = some m.cls := hown
  have hl : lv_has ls 1 [(0, .ref oM)] := hl
  have hfl : n_fe bf n ≤ n := by rcases Classical.em (n_q bf n = 8) with q | q; exact Nat.le_of_lt (n_fe_lt q); exact Nat.le_of_eq (n_fe_all q)
  refine lv_aload_n hx hb dX6_isWhole_0 rfl (lv_at hl 0 rfl) ?_
  refine kq_callMi (wr := []) (va_runV (As := []) (rest := []) ⟨hx, hb, hml, hown, hts⟩ (c_X6_readBuffer l dC dI cI s.heap.size oM rz r2 rb rq km n th tp lf hg wd pm stt hh bf pt (by first | assumption | omega)) (cwV 0 hts gX6_isWhole_X6_readBuffer rfl rfl rfl (by decide +kernel) ⟨Nat.le_of_ble_eq_true rfl, Nat.le_of_ble_eq_true rfl⟩) (kq_preV (ci := 6) (q0 := 0) (hP.sub [0, 1, 2] rfl) (hD.sub [0, 1, 2] (by decide) rfl) hK rfl rfl) rfl rfl hl.1 rfl (lv_room (Nat.le_of_ble_eq_true rfl)) dX6_isWhole_1 ⟨Nat.le_of_ble_eq_true rfl, Nat.le_of_ble_eq_true rfl⟩) hP hD hS hA [0, 1, 2] [] rfl rfl (by decide) (by decide) (fun r_1 u_2 H locs hw_3 hP hD hS => ?_)
  obtain ⟨s1_4, p1_5, pt1_6⟩ := u_2
  have hP : va_P (dC, dI) vwCl [(oM, .inr (6, [.int th, .ref rz, .ref r2, .int (nI km), .ref rb, .int (nI n), .int tp, .int lf, .int hg, .int wd, .ref rq, .int (nI p1_5), .int (nI s1_4), .long hh])), (rb, .inl (cI, 60, .inl bf)), (rq, .inl (cI, 72, .inl pt1_6))] H := hP
  have hD : va_D A [(oM, .inr (6, [.int th, .ref rz, .ref r2, .int (nI km), .ref rb, .int (nI n), .int tp, .int lf, .int hg, .int wd, .ref rq, .int (nI p1_5), .int (nI s1_4), .long hh])), (rb, .inl (cI, 60, .inl bf)), (rq, .inl (cI, 72, .inl pt1_6))] := hD
  try dsimp only at hw_3
  try dsimp only at hw_3
  obtain ⟨rfl, hok, hs9⟩ := hw_3
  have hP : va_P (dC, dI) vwCl [(oM, .inr (6, [.int th, .ref rz, .ref r2, .int (nI km), .ref rb, .int (nI n), .int tp, .int lf, .int hg, .int wd, .ref rq, .int (nI p1_5), .int (nI s1_4), .long hh])), (rb, .inl (cI, 60, .inl bf)), (rq, .inl (cI, 72, .inl pt1_6))] H := hP
  have hD : va_D A [(oM, .inr (6, [.int th, .ref rz, .ref r2, .int (nI km), .ref rb, .int (nI n), .int tp, .int lf, .int hg, .int wd, .ref rq, .int (nI p1_5), .int (nI s1_4), .long hh])), (rb, .inl (cI, 60, .inl bf)), (rq, .inl (cI, 72, .inl pt1_6))] := hD
  refine lv_aload_n hx hb dX6_isWhole_4 rfl (lv_at hl 0 rfl) ?_
  refine va_get (D := (dC, dI)) (ci := 6) (v := .int (nI n)) (C := RX6) (T := TX6) (N := 14) hx hb hts (by decide +kernel) hown hK.1 hP 0 rfl rfl 5 (by decide) (hts (.fieldLink RX6 126 "NoteWatermarksModel" "typed" "I") (by decide +kernel)) (fun _ h9 => h9) rfl dX6_isWhole_5 ?_
  refine lv_icmp_ne (tgt := 32) hx hb dX6_isWhole_8 (by decide) (fun c_7 => ?_) (fun c_7 => ?_)
  · skip
    have c_7 := kq_neN (a := (n_fe bf n)) (b := n) c_7 (by omega) (by omega)
    have h8 : n_q bf n = 8 := by rcases Classical.em (n_q bf n = 8) with q | q; exact q; exact absurd (n_fe_all q) c_7
    refine lv_iconst (v := 0) hx hb dX6_isWhole_32 (by decide) ?_
    exact kq_retMz (s1_4, p1_5, pt1_6) hx hb hr hlocks hP hD hS dX6_isWhole_33 (Or.inl rfl) (by dsimp only; first | exact ⟨by rw [if_neg (by omega)], fun q => absurd q (by omega)⟩ | exact ⟨by rw [if_pos (by omega)], fun _ => e2⟩ | exact ⟨by rw [if_neg (by omega)], fun _ => e2⟩)
  · skip
    have c_7 := kq_eqN (a := (n_fe bf n)) (b := n) c_7 (by omega) (by omega)
    have h8 : ¬ n_q bf n = 8 := fun q => absurd (n_fe_lt q) (by omega)
    obtain ⟨e1, e2⟩ := hok h8
    refine lv_aload_n hx hb dX6_isWhole_11 rfl (lv_at hl 0 rfl) ?_
    refine va_get (D := (dC, dI)) (ci := 6) (v := .int (nI s1_4)) (C := RX6) (T := TX6) (N := 14) hx hb hts (by decide +kernel) hown hK.1 hP 0 rfl rfl 12 (by decide) (hts (.fieldLink RX6 129 "NoteWatermarksModel" "state" "I") (by decide +kernel)) (fun _ h9 => h9) rfl dX6_isWhole_12 ?_
    refine lv_iconst (v := 5) hx hb dX6_isWhole_15 (by decide) ?_
    refine lv_icmp_eq (tgt := 28) hx hb dX6_isWhole_16 (by decide) (fun c_8 => ?_) (fun c_8 => ?_)
    · skip
      have c_8 := kq_eqN (a := s1_4) (b := 5) c_8 (by omega) (by omega)
      refine lv_iconst (v := 1) hx hb dX6_isWhole_28 (by decide) ?_
      refine lv_goto (tgt := 33) hx hb dX6_isWhole_29 (by decide) ?_
      exact kq_retMz (s1_4, p1_5, pt1_6) hx hb hr hlocks hP hD hS dX6_isWhole_33 (Or.inr rfl) (by dsimp only; first | exact ⟨by rw [if_neg (by omega)], fun q => absurd q (by omega)⟩ | exact ⟨by rw [if_pos (by omega)], fun _ => e2⟩ | exact ⟨by rw [if_neg (by omega)], fun _ => e2⟩)
    · skip
      have c_8 := kq_neN (a := s1_4) (b := 5) c_8 (by omega) (by omega)
      refine lv_aload_n hx hb dX6_isWhole_19 rfl (lv_at hl 0 rfl) ?_
      refine va_get (D := (dC, dI)) (ci := 6) (v := .int (nI s1_4)) (C := RX6) (T := TX6) (N := 14) hx hb hts (by decide +kernel) hown hK.1 hP 0 rfl rfl 12 (by decide) (hts (.fieldLink RX6 129 "NoteWatermarksModel" "state" "I") (by decide +kernel)) (fun _ h9 => h9) rfl dX6_isWhole_20 ?_
      refine lv_bipush (v := 7) hx hb dX6_isWhole_23 (by decide) ?_
      refine lv_icmp_ne (tgt := 32) hx hb dX6_isWhole_25 (by decide) (fun c_9 => ?_) (fun c_9 => ?_)
      · skip
        have c_9 := kq_neN (a := s1_4) (b := 7) c_9 (by omega) (by omega)
        refine lv_iconst (v := 0) hx hb dX6_isWhole_32 (by decide) ?_
        exact kq_retMz (s1_4, p1_5, pt1_6) hx hb hr hlocks hP hD hS dX6_isWhole_33 (Or.inl rfl) (by dsimp only; first | exact ⟨by rw [if_neg (by omega)], fun q => absurd q (by omega)⟩ | exact ⟨by rw [if_pos (by omega)], fun _ => e2⟩ | exact ⟨by rw [if_neg (by omega)], fun _ => e2⟩)
      · skip
        have c_9 := kq_eqN (a := s1_4) (b := 7) c_9 (by omega) (by omega)
        refine lv_iconst (v := 1) hx hb dX6_isWhole_28 (by decide) ?_
        refine lv_goto (tgt := 33) hx hb dX6_isWhole_29 (by decide) ?_
        exact kq_retMz (s1_4, p1_5, pt1_6) hx hb hr hlocks hP hD hS dX6_isWhole_33 (Or.inr rfl) (by dsimp only; first | exact ⟨by rw [if_neg (by omega)], fun q => absurd q (by omega)⟩ | exact ⟨by rw [if_pos (by omega)], fun _ => e2⟩ | exact ⟨by rw [if_neg (by omega)], fun _ => e2⟩)
set_option maxHeartbeats 4000000 in
set_option maxRecDepth 100000 in
theorem c_X6_roll (l : Launch) (dC : Nat → ClassId) (dI : Nat → Nat → Nat) (cI : ClassId) (sz : Nat) (oM : Nat) (rz : Nat) (r2 : Nat) (rb : Nat) (rq : Nat) (km : Nat) (n : Nat) (th : Int32) (tp : Int32) (lf : Int32) (hg : Int32) (wd : Int32) (pm : Int32) (stt : Int32) (hh : Int64) (z : Nat → Int32) (v : Nat → Int32) (a : Nat) (q : Nat) (hz : n_Z v z) (hI : n_I v) (ha : a < 3) (hq : q < 5) : Met l yX6_roll wsX6_roll ({ frames := 3, cells := 0, slots := 0, locals := 70 }) (kq_M dC dI cI [.ref oM, .int (nI a), .int (nI q)] sz [(oM, .inr (6, [.int th, .ref rz, .ref r2, .int (nI km), .ref rb, .int (nI n), .int tp, .int lf, .int hg, .int wd, .ref rq, .int pm, .int stt, .long hh])), (rz, .inl (cI, 389, .inl z))]) (va_Qi (fun (r : Int32) (u : Unit) => r = n_roll v a q) (kq_B dC dI (va_A [(oM, .inr (6, [.int th, .ref rz, .ref r2, .int (nI km), .ref rb, .int (nI n), .int tp, .int lf, .int hg, .int wd, .ref rq, .int pm, .int stt, .long hh])), (rz, .inl (cI, 389, .inl z))] sz) (fun u : Unit => [(oM, .inr (6, [.int 0, .ref rz, .ref r2, .int (nI km), .ref rb, .int (nI n), .int tp, .int lf, .int hg, .int wd, .ref rq, .int pm, .int stt, .long hh])), (rz, .inl (cI, 389, .inl z))])) (va_A [(oM, .inr (6, [.int th, .ref rz, .ref r2, .int (nI km), .ref rb, .int (nI n), .int tp, .int lf, .int hg, .int wd, .ref rq, .int pm, .int stt, .long hh])), (rz, .inl (cI, 389, .inl z))] sz)) 0 0 (va_A [(oM, .inr (6, [.int th, .ref rz, .ref r2, .int (nI km), .ref rb, .int (nI n), .int tp, .int lf, .int hg, .int wd, .ref rq, .int pm, .int stt, .long hh])), (rz, .inl (cI, 389, .inl z))] sz) := by
  refine kq_startM (cc := cX6_roll) (maxL := 3) (ret := (some .int)) (by decide) rfl (Nat.le_of_ble_eq_true rfl) ?_
  intro p e s m below meth c hx hb hr hml hown hlocks hts hsz hA hP hD hS hK hnm ls hl
  subst hsz
  generalize hAe : va_A [(oM, .inr (6, [.int th, .ref rz, .ref r2, .int (nI km), .ref rb, .int (nI n), .int tp, .int lf, .int hg, .int wd, .ref rq, .int pm, .int stt, .long hh])), (rz, .inl (cI, 389, .inl z))] s.heap.size = A at hA hD hS ⊢
  have hown : s.vm.findClass RX6 = some m.cls := hown
  have hl : lv_has ls 3 [(0, .ref oM), (1, .int (nI a)), (2, .int (nI q))] := hl
  refine lv_aload_n hx hb dX6_roll_0 rfl (lv_at hl 0 rfl) ?_
  refine lv_iload_n hx hb dX6_roll_1 rfl (lv_at hl 1 rfl) ?_
  refine kq_cS (As := [.int (nI a)]) (rest := [.ref oM]) ⟨hx, hb, hml, hown, hts⟩ (c_X6_isRoll_n l dC dI cI a (by first | assumption | omega)) (va_cwS 1 hts gX6_roll_X6_isRoll rfl rfl rfl (by decide +kernel) ⟨Nat.le_of_ble_eq_true rfl, Nat.le_of_ble_eq_true rfl⟩) (hP.sub [] rfl) hK rfl hl.1 rfl (Nat.le_of_ble_eq_true rfl) dX6_roll_2 ⟨Nat.le_of_ble_eq_true rfl, Nat.le_of_ble_eq_true rfl⟩ ?_
  refine lv_if_ne (tgt := 12) hx hb dX6_roll_5 (by decide) (fun c_1 => ?_) (fun c_1 => ?_)
  · skip
    have c_1 := kq_bt c_1
    refine lv_iload_n hx hb dX6_roll_12 rfl (lv_at hl 2 rfl) ?_
    refine lv_iconst (v := 0) hx hb dX6_roll_13 (by decide) ?_
    refine lv_iconst (v := 4) hx hb dX6_roll_14 (by decide) ?_
    refine kq_cS (As := [.int (nI q), .int 0, .int 4]) (rest := [.ref oM]) ⟨hx, hb, hml, hown, hts⟩ (c_X6_in_n l dC dI cI q 0 4 (by first | assumption | omega) (by first | assumption | omega) (by first | assumption | omega)) (va_cwS 3 hts gX6_roll_X6_in rfl rfl rfl (by decide +kernel) ⟨Nat.le_of_ble_eq_true rfl, Nat.le_of_ble_eq_true rfl⟩) (hP.sub [] rfl) hK rfl hl.1 rfl (Nat.le_of_ble_eq_true rfl) dX6_roll_15 ⟨Nat.le_of_ble_eq_true rfl, Nat.le_of_ble_eq_true rfl⟩ ?_
    refine lv_if_eq (tgt := 25) hx hb dX6_roll_18 (by decide) (fun c_2 => ?_) (fun c_2 => ?_)
    · skip
      have c_2 := kq_bf c_2
      exact absurd c_2 (by omega)
    · skip
      have c_2 := kq_bt c_2
      refine lv_iconst (v := 0) hx hb dX6_roll_21 (by decide) ?_
      refine lv_goto (tgt := 26) hx hb dX6_roll_22 (by decide) ?_
      refine va_put (D := (dC, dI)) (ci := 6) (v := .int 0) (ty := .int) (C := RX6) (T := TX6) (N := 14) hx hb hts (by decide +kernel) tyX6 tyX6_ok nmX6 hown hK.1 hP hD hS 0 rfl rfl 0 (by decide) (hts (.fieldLink RX6 22 "NoteWatermarksModel" "thrown" "I") (by decide +kernel)) (fun _ h9 => h9) rfl (by decide +kernel) rfl rfl (Nat.le_of_ble_eq_true rfl) dX6_roll_26 (fun H locs hP hD hS => ?_)
      have hP : va_P (dC, dI) vwCl [(oM, .inr (6, [.int 0, .ref rz, .ref r2, .int (nI km), .ref rb, .int (nI n), .int tp, .int lf, .int hg, .int wd, .ref rq, .int pm, .int stt, .long hh])), (rz, .inl (cI, 389, .inl z))] H := hP
      have hD : va_D A [(oM, .inr (6, [.int 0, .ref rz, .ref r2, .int (nI km), .ref rb, .int (nI n), .int tp, .int lf, .int hg, .int wd, .ref rq, .int pm, .int stt, .long hh])), (rz, .inl (cI, 389, .inl z))] := hD
      refine lv_aload_n hx hb dX6_roll_29 rfl (lv_at hl 0 rfl) ?_
      refine va_get (D := (dC, dI)) (ci := 6) (v := .int 0) (C := RX6) (T := TX6) (N := 14) hx hb hts (by decide +kernel) hown hK.1 hP 0 rfl rfl 0 (by decide) (hts (.fieldLink RX6 22 "NoteWatermarksModel" "thrown" "I") (by decide +kernel)) (fun _ h9 => h9) rfl dX6_roll_30 ?_
      refine lv_if_le (tgt := 40) hx hb dX6_roll_33 (by decide) (fun _ => ?_) (fun q => absurd q (by decide))
      refine lv_aload_n hx hb dX6_roll_40 rfl (lv_at hl 0 rfl) ?_
      refine lv_iload_n hx hb dX6_roll_41 rfl (lv_at hl 1 rfl) ?_
      refine lv_iload_n hx hb dX6_roll_42 rfl (lv_at hl 2 rfl) ?_
      refine kq_cV (As := [.int (nI a), .int (nI q)]) (rest := []) ⟨hx, hb, hml, hown, hts⟩ (c_X6_toldRoll l dC dI cI oM rz r2 rb rq km n 0 tp lf hg wd pm stt hh z v a q (by first | assumption | omega) (by first | assumption | omega) (by first | assumption | omega) (by first | assumption | omega)) (cwV 2 hts gX6_roll_X6_toldRoll rfl rfl rfl (by decide +kernel) ⟨Nat.le_of_ble_eq_true rfl, Nat.le_of_ble_eq_true rfl⟩) (hP.sub [0, 1] rfl) hK (ci := 6) (q0 := 0) rfl rfl rfl rfl hl.1 rfl (Nat.le_of_ble_eq_true rfl) dX6_roll_43 ⟨Nat.le_of_ble_eq_true rfl, Nat.le_of_ble_eq_true rfl⟩ ?_
      exact kq_retMi () hx hb hr hlocks hP hD hS dX6_roll_46 (by rfl)
  · skip
    have c_1 := kq_bf c_1
    exact absurd c_1 (by omega)
set_option maxHeartbeats 4000000 in
set_option maxRecDepth 100000 in
theorem c_X6_cell (l : Launch) (dC : Nat → ClassId) (dI : Nat → Nat → Nat) (cI : ClassId) (sz : Nat) (oM : Nat) (rz : Nat) (r2 : Nat) (rb : Nat) (rq : Nat) (km : Nat) (n : Nat) (th : Int32) (tp : Int32) (lf : Int32) (hg : Int32) (wd : Int32) (pm : Int32) (stt : Int32) (hh : Int64) (z : Nat → Int32) (v : Nat → Int32) (k : Nat) (a : Nat) (b : Nat) (q : Nat) (hz : n_Z v z) (hI : n_I v) (hk : k < 1000) (ha : a < 6) (hb9 : b < 12) (hq : q < 4) : Met l yX6_cell wsX6_cell ({ frames := 5, cells := 0, slots := 0, locals := 120 }) (kq_M dC dI cI [.ref oM, .int (nI k), .int (nI a), .int (nI b), .int (nI q)] sz [(oM, .inr (6, [.int th, .ref rz, .ref r2, .int (nI km), .ref rb, .int (nI n), .int tp, .int lf, .int hg, .int wd, .ref rq, .int pm, .int stt, .long hh])), (rz, .inl (cI, 389, .inl z))]) (va_Qi (fun (r : Int32) (u : Unit) => r = n_cell v k a b q) (kq_B dC dI (va_A [(oM, .inr (6, [.int th, .ref rz, .ref r2, .int (nI km), .ref rb, .int (nI n), .int tp, .int lf, .int hg, .int wd, .ref rq, .int pm, .int stt, .long hh])), (rz, .inl (cI, 389, .inl z))] sz) (fun u : Unit => [(oM, .inr (6, [.int 0, .ref rz, .ref r2, .int (nI km), .ref rb, .int (nI n), .int tp, .int lf, .int hg, .int wd, .ref rq, .int pm, .int stt, .long hh])), (rz, .inl (cI, 389, .inl z))])) (va_A [(oM, .inr (6, [.int th, .ref rz, .ref r2, .int (nI km), .ref rb, .int (nI n), .int tp, .int lf, .int hg, .int wd, .ref rq, .int pm, .int stt, .long hh])), (rz, .inl (cI, 389, .inl z))] sz)) 0 0 (va_A [(oM, .inr (6, [.int th, .ref rz, .ref r2, .int (nI km), .ref rb, .int (nI n), .int tp, .int lf, .int hg, .int wd, .ref rq, .int pm, .int stt, .long hh])), (rz, .inl (cI, 389, .inl z))] sz) := by
  refine kq_startM (cc := cX6_cell) (maxL := 5) (ret := (some .int)) (by decide) rfl (Nat.le_of_ble_eq_true rfl) ?_
  intro p e s m below meth c hx hb hr hml hown hlocks hts hsz hA hP hD hS hK hnm ls hl
  subst hsz
  generalize hAe : va_A [(oM, .inr (6, [.int th, .ref rz, .ref r2, .int (nI km), .ref rb, .int (nI n), .int tp, .int lf, .int hg, .int wd, .ref rq, .int pm, .int stt, .long hh])), (rz, .inl (cI, 389, .inl z))] s.heap.size = A at hA hD hS ⊢
  have hown : s.vm.findClass RX6 = some m.cls := hown
  have hl : lv_has ls 5 [(0, .ref oM), (1, .int (nI k)), (2, .int (nI a)), (3, .int (nI b)), (4, .int (nI q))] := hl
  refine lv_aload_n hx hb dX6_cell_0 rfl (lv_at hl 0 rfl) ?_
  refine lv_iload_n hx hb dX6_cell_1 rfl (lv_at hl 1 rfl) ?_
  refine kq_cS (As := [.int (nI k)]) (rest := [.ref oM]) ⟨hx, hb, hml, hown, hts⟩ (c_X6_isNote_n l dC dI cI k (by first | assumption | omega)) (va_cwS 1 hts gX6_cell_X6_isNote rfl rfl rfl (by decide +kernel) ⟨Nat.le_of_ble_eq_true rfl, Nat.le_of_ble_eq_true rfl⟩) (hP.sub [] rfl) hK rfl hl.1 rfl (Nat.le_of_ble_eq_true rfl) dX6_cell_2 ⟨Nat.le_of_ble_eq_true rfl, Nat.le_of_ble_eq_true rfl⟩ ?_
  refine lv_if_eq (tgt := 16) hx hb dX6_cell_5 (by decide) (fun c_1 => ?_) (fun c_1 => ?_)
  · skip
    have c_1 := kq_bf c_1
    exact absurd c_1 (by omega)
  · skip
    have c_1 := kq_bt c_1
    refine lv_iload_n hx hb dX6_cell_8 rfl (lv_at hl 2 rfl) ?_
    refine lv_iload_n hx hb dX6_cell_9 rfl (lv_at hl 3 rfl) ?_
    refine kq_cS (As := [.int (nI a), .int (nI b)]) (rest := [.ref oM]) ⟨hx, hb, hml, hown, hts⟩ (c_X6_isCell_n l dC dI cI a b (by first | assumption | omega) (by first | assumption | omega)) (va_cwS 2 hts gX6_cell_X6_isCell rfl rfl rfl (by decide +kernel) ⟨Nat.le_of_ble_eq_true rfl, Nat.le_of_ble_eq_true rfl⟩) (hP.sub [] rfl) hK rfl hl.1 rfl (Nat.le_of_ble_eq_true rfl) dX6_cell_10 ⟨Nat.le_of_ble_eq_true rfl, Nat.le_of_ble_eq_true rfl⟩ ?_
    refine lv_if_ne (tgt := 20) hx hb dX6_cell_13 (by decide) (fun c_2 => ?_) (fun c_2 => ?_)
    · skip
      have c_2 := kq_bt c_2
      refine lv_iload hx hb dX6_cell_20 (lv_at hl 4 rfl) ?_
      refine lv_iconst (v := 0) hx hb dX6_cell_22 (by decide) ?_
      refine lv_iconst (v := 3) hx hb dX6_cell_23 (by decide) ?_
      refine kq_cS (As := [.int (nI q), .int 0, .int 3]) (rest := [.ref oM]) ⟨hx, hb, hml, hown, hts⟩ (c_X6_in_n l dC dI cI q 0 3 (by first | assumption | omega) (by first | assumption | omega) (by first | assumption | omega)) (va_cwS 3 hts gX6_cell_X6_in rfl rfl rfl (by decide +kernel) ⟨Nat.le_of_ble_eq_true rfl, Nat.le_of_ble_eq_true rfl⟩) (hP.sub [] rfl) hK rfl hl.1 rfl (Nat.le_of_ble_eq_true rfl) dX6_cell_24 ⟨Nat.le_of_ble_eq_true rfl, Nat.le_of_ble_eq_true rfl⟩ ?_
      refine lv_if_eq (tgt := 34) hx hb dX6_cell_27 (by decide) (fun c_3 => ?_) (fun c_3 => ?_)
      · skip
        have c_3 := kq_bf c_3
        exact absurd c_3 (by omega)
      · skip
        have c_3 := kq_bt c_3
        refine lv_iconst (v := 0) hx hb dX6_cell_30 (by decide) ?_
        refine lv_goto (tgt := 35) hx hb dX6_cell_31 (by decide) ?_
        refine va_put (D := (dC, dI)) (ci := 6) (v := .int 0) (ty := .int) (C := RX6) (T := TX6) (N := 14) hx hb hts (by decide +kernel) tyX6 tyX6_ok nmX6 hown hK.1 hP hD hS 0 rfl rfl 0 (by decide) (hts (.fieldLink RX6 22 "NoteWatermarksModel" "thrown" "I") (by decide +kernel)) (fun _ h9 => h9) rfl (by decide +kernel) rfl rfl (Nat.le_of_ble_eq_true rfl) dX6_cell_35 (fun H locs hP hD hS => ?_)
        have hP : va_P (dC, dI) vwCl [(oM, .inr (6, [.int 0, .ref rz, .ref r2, .int (nI km), .ref rb, .int (nI n), .int tp, .int lf, .int hg, .int wd, .ref rq, .int pm, .int stt, .long hh])), (rz, .inl (cI, 389, .inl z))] H := hP
        have hD : va_D A [(oM, .inr (6, [.int 0, .ref rz, .ref r2, .int (nI km), .ref rb, .int (nI n), .int tp, .int lf, .int hg, .int wd, .ref rq, .int pm, .int stt, .long hh])), (rz, .inl (cI, 389, .inl z))] := hD
        refine lv_aload_n hx hb dX6_cell_38 rfl (lv_at hl 0 rfl) ?_
        refine va_get (D := (dC, dI)) (ci := 6) (v := .int 0) (C := RX6) (T := TX6) (N := 14) hx hb hts (by decide +kernel) hown hK.1 hP 0 rfl rfl 0 (by decide) (hts (.fieldLink RX6 22 "NoteWatermarksModel" "thrown" "I") (by decide +kernel)) (fun _ h9 => h9) rfl dX6_cell_39 ?_
        refine lv_if_le (tgt := 49) hx hb dX6_cell_42 (by decide) (fun _ => ?_) (fun q => absurd q (by decide))
        refine lv_aload_n hx hb dX6_cell_49 rfl (lv_at hl 0 rfl) ?_
        refine lv_iload_n hx hb dX6_cell_50 rfl (lv_at hl 1 rfl) ?_
        refine lv_iload_n hx hb dX6_cell_51 rfl (lv_at hl 2 rfl) ?_
        refine lv_iload_n hx hb dX6_cell_52 rfl (lv_at hl 3 rfl) ?_
        refine lv_iload hx hb dX6_cell_53 (lv_at hl 4 rfl) ?_
        refine kq_cV (As := [.int (nI k), .int (nI a), .int (nI b), .int (nI q)]) (rest := []) ⟨hx, hb, hml, hown, hts⟩ (c_X6_toldCell l dC dI cI oM rz r2 rb rq km n 0 tp lf hg wd pm stt hh z v k a b q (by first | assumption | omega) (by first | assumption | omega) (by first | assumption | omega) (by first | assumption | omega) (by first | assumption | omega) (by first | assumption | omega)) (cwV 4 hts gX6_cell_X6_toldCell rfl rfl rfl (by decide +kernel) ⟨Nat.le_of_ble_eq_true rfl, Nat.le_of_ble_eq_true rfl⟩) (hP.sub [0, 1] rfl) hK (ci := 6) (q0 := 0) rfl rfl rfl rfl hl.1 rfl (Nat.le_of_ble_eq_true rfl) dX6_cell_55 ⟨Nat.le_of_ble_eq_true rfl, Nat.le_of_ble_eq_true rfl⟩ ?_
        exact kq_retMi () hx hb hr hlocks hP hD hS dX6_cell_58 (by rfl)
    · skip
      have c_2 := kq_bf c_2
      exact absurd c_2 (by omega)
set_option maxHeartbeats 4000000 in
set_option maxRecDepth 100000 in
theorem c_X6_figureOf (l : Launch) (dC : Nat → ClassId) (dI : Nat → Nat → Nat) (cI : ClassId) (sz : Nat) (oM : Nat) (rz : Nat) (r2 : Nat) (rb : Nat) (rq : Nat) (km : Nat) (n : Nat) (th : Int32) (tp : Int32) (lf : Int32) (hg : Int32) (wd : Int32) (pm : Int32) (stt : Int32) (hh : Int64) (z : Nat → Int32) (v : Nat → Int32) (f : Nat) (q : Nat) (hz : n_Z v z) (hI : n_I v) (hf : f < 4) (hq : q < 5) : Met l yX6_figureOf wsX6_figureOf ({ frames := 9, cells := 0, slots := 0, locals := 210 }) (kq_M dC dI cI [.ref oM, .int (nI f), .int (nI q)] sz [(oM, .inr (6, [.int th, .ref rz, .ref r2, .int (nI km), .ref rb, .int (nI n), .int tp, .int lf, .int hg, .int wd, .ref rq, .int pm, .int stt, .long hh])), (rz, .inl (cI, 389, .inl z))]) (va_Qi (fun (r : Int32) (u : Int32 × Int32 × Int32 × Int32) => r = n_fo v f q) (kq_B dC dI (va_A [(oM, .inr (6, [.int th, .ref rz, .ref r2, .int (nI km), .ref rb, .int (nI n), .int tp, .int lf, .int hg, .int wd, .ref rq, .int pm, .int stt, .long hh])), (rz, .inl (cI, 389, .inl z))] sz) (fun u : Int32 × Int32 × Int32 × Int32 => [(oM, .inr (6, [.int 0, .ref rz, .ref r2, .int (nI km), .ref rb, .int (nI n), .int u.1, .int u.2.1, .int u.2.2.1, .int u.2.2.2, .ref rq, .int pm, .int stt, .long hh])), (rz, .inl (cI, 389, .inl z))])) (va_A [(oM, .inr (6, [.int th, .ref rz, .ref r2, .int (nI km), .ref rb, .int (nI n), .int tp, .int lf, .int hg, .int wd, .ref rq, .int pm, .int stt, .long hh])), (rz, .inl (cI, 389, .inl z))] sz)) 0 0 (va_A [(oM, .inr (6, [.int th, .ref rz, .ref r2, .int (nI km), .ref rb, .int (nI n), .int tp, .int lf, .int hg, .int wd, .ref rq, .int pm, .int stt, .long hh])), (rz, .inl (cI, 389, .inl z))] sz) := by
  refine kq_startM (cc := cX6_figureOf) (maxL := 3) (ret := (some .int)) (by decide) rfl (Nat.le_of_ble_eq_true rfl) ?_
  intro p e s m below meth c hx hb hr hml hown hlocks hts hsz hA hP hD hS hK hnm ls hl
  subst hsz
  generalize hAe : va_A [(oM, .inr (6, [.int th, .ref rz, .ref r2, .int (nI km), .ref rb, .int (nI n), .int tp, .int lf, .int hg, .int wd, .ref rq, .int pm, .int stt, .long hh])), (rz, .inl (cI, 389, .inl z))] s.heap.size = A at hA hD hS ⊢
  have hown : s.vm.findClass RX6 = some m.cls := hown
  have hl : lv_has ls 3 [(0, .ref oM), (1, .int (nI f)), (2, .int (nI q))] := hl
  refine lv_aload_n hx hb dX6_figureOf_0 rfl (lv_at hl 0 rfl) ?_
  refine lv_iload_n hx hb dX6_figureOf_1 rfl (lv_at hl 1 rfl) ?_
  refine kq_cS (As := [.int (nI f)]) (rest := [.ref oM]) ⟨hx, hb, hml, hown, hts⟩ (c_X6_isFigure_n l dC dI cI f (by first | assumption | omega)) (va_cwS 1 hts gX6_figureOf_X6_isFigure rfl rfl rfl (by decide +kernel) ⟨Nat.le_of_ble_eq_true rfl, Nat.le_of_ble_eq_true rfl⟩) (hP.sub [] rfl) hK rfl hl.1 rfl (Nat.le_of_ble_eq_true rfl) dX6_figureOf_2 ⟨Nat.le_of_ble_eq_true rfl, Nat.le_of_ble_eq_true rfl⟩ ?_
  refine lv_if_ne (tgt := 12) hx hb dX6_figureOf_5 (by decide) (fun c_1 => ?_) (fun c_1 => ?_)
  · skip
    have c_1 := kq_bt c_1
    refine lv_iload_n hx hb dX6_figureOf_12 rfl (lv_at hl 2 rfl) ?_
    refine lv_iconst (v := 0) hx hb dX6_figureOf_13 (by decide) ?_
    refine lv_iconst (v := 4) hx hb dX6_figureOf_14 (by decide) ?_
    refine kq_cS (As := [.int (nI q), .int 0, .int 4]) (rest := [.ref oM]) ⟨hx, hb, hml, hown, hts⟩ (c_X6_in_n l dC dI cI q 0 4 (by first | assumption | omega) (by first | assumption | omega) (by first | assumption | omega)) (va_cwS 3 hts gX6_figureOf_X6_in rfl rfl rfl (by decide +kernel) ⟨Nat.le_of_ble_eq_true rfl, Nat.le_of_ble_eq_true rfl⟩) (hP.sub [] rfl) hK rfl hl.1 rfl (Nat.le_of_ble_eq_true rfl) dX6_figureOf_15 ⟨Nat.le_of_ble_eq_true rfl, Nat.le_of_ble_eq_true rfl⟩ ?_
    refine lv_if_eq (tgt := 25) hx hb dX6_figureOf_18 (by decide) (fun c_2 => ?_) (fun c_2 => ?_)
    · skip
      have c_2 := kq_bf c_2
      exact absurd c_2 (by omega)
    · skip
      have c_2 := kq_bt c_2
      refine lv_iconst (v := 0) hx hb dX6_figureOf_21 (by decide) ?_
      refine lv_goto (tgt := 26) hx hb dX6_figureOf_22 (by decide) ?_
      refine va_put (D := (dC, dI)) (ci := 6) (v := .int 0) (ty := .int) (C := RX6) (T := TX6) (N := 14) hx hb hts (by decide +kernel) tyX6 tyX6_ok nmX6 hown hK.1 hP hD hS 0 rfl rfl 0 (by decide) (hts (.fieldLink RX6 22 "NoteWatermarksModel" "thrown" "I") (by decide +kernel)) (fun _ h9 => h9) rfl (by decide +kernel) rfl rfl (Nat.le_of_ble_eq_true rfl) dX6_figureOf_26 (fun H locs hP hD hS => ?_)
      have hP : va_P (dC, dI) vwCl [(oM, .inr (6, [.int 0, .ref rz, .ref r2, .int (nI km), .ref rb, .int (nI n), .int tp, .int lf, .int hg, .int wd, .ref rq, .int pm, .int stt, .long hh])), (rz, .inl (cI, 389, .inl z))] H := hP
      have hD : va_D A [(oM, .inr (6, [.int 0, .ref rz, .ref r2, .int (nI km), .ref rb, .int (nI n), .int tp, .int lf, .int hg, .int wd, .ref rq, .int pm, .int stt, .long hh])), (rz, .inl (cI, 389, .inl z))] := hD
      refine lv_aload_n hx hb dX6_figureOf_29 rfl (lv_at hl 0 rfl) ?_
      refine va_get (D := (dC, dI)) (ci := 6) (v := .int 0) (C := RX6) (T := TX6) (N := 14) hx hb hts (by decide +kernel) hown hK.1 hP 0 rfl rfl 0 (by decide) (hts (.fieldLink RX6 22 "NoteWatermarksModel" "thrown" "I") (by decide +kernel)) (fun _ h9 => h9) rfl dX6_figureOf_30 ?_
      refine lv_if_le (tgt := 40) hx hb dX6_figureOf_33 (by decide) (fun _ => ?_) (fun q => absurd q (by decide))
      refine lv_aload_n hx hb dX6_figureOf_40 rfl (lv_at hl 0 rfl) ?_
      refine lv_iload_n hx hb dX6_figureOf_41 rfl (lv_at hl 1 rfl) ?_
      refine lv_iload_n hx hb dX6_figureOf_42 rfl (lv_at hl 2 rfl) ?_
      refine kq_callMi (wr := []) (va_runV (As := [.int (nI f), .int (nI q)]) (rest := []) ⟨hx, hb, hml, hown, hts⟩ (c_X6_toldFigure l dC dI cI H.size oM rz r2 rb rq km n 0 tp lf hg wd pm stt hh z v f q (by first | assumption | omega) (by first | assumption | omega) (by first | assumption | omega) (by first | assumption | omega)) (cwV 2 hts gX6_figureOf_X6_toldFigure rfl rfl rfl (by decide +kernel) ⟨Nat.le_of_ble_eq_true rfl, Nat.le_of_ble_eq_true rfl⟩) (kq_preV (ci := 6) (q0 := 0) (hP.sub [0, 1] rfl) (hD.sub [0, 1] (by decide) rfl) hK rfl rfl) rfl rfl hl.1 rfl (lv_room (Nat.le_of_ble_eq_true rfl)) dX6_figureOf_43 ⟨Nat.le_of_ble_eq_true rfl, Nat.le_of_ble_eq_true rfl⟩) hP hD hS hA [0, 1] [] rfl rfl (by decide) (by decide) (fun r_4 u_5 H locs hw_6 hP hD hS => ?_)
      obtain ⟨t1_7, t2_8, t3_9, t4_10⟩ := u_5
      have hP : va_P (dC, dI) vwCl [(oM, .inr (6, [.int 0, .ref rz, .ref r2, .int (nI km), .ref rb, .int (nI n), .int t1_7, .int t2_8, .int t3_9, .int t4_10, .ref rq, .int pm, .int stt, .long hh])), (rz, .inl (cI, 389, .inl z))] H := hP
      have hD : va_D A [(oM, .inr (6, [.int 0, .ref rz, .ref r2, .int (nI km), .ref rb, .int (nI n), .int t1_7, .int t2_8, .int t3_9, .int t4_10, .ref rq, .int pm, .int stt, .long hh])), (rz, .inl (cI, 389, .inl z))] := hD
      obtain rfl := hw_6
      exact kq_retMi (t1_7, t2_8, t3_9, t4_10) hx hb hr hlocks hP hD hS dX6_figureOf_46 (by rfl)
  · skip
    have c_1 := kq_bf c_1
    exact absurd c_1 (by omega)
set_option maxHeartbeats 4000000 in
set_option maxRecDepth 100000 in
theorem c_X6_contrast (l : Launch) (dC : Nat → ClassId) (dI : Nat → Nat → Nat) (cI : ClassId) (sz : Nat) (oM : Nat) (rz : Nat) (r2 : Nat) (rb : Nat) (rq : Nat) (km : Nat) (n : Nat) (th : Int32) (tp : Int32) (lf : Int32) (hg : Int32) (wd : Int32) (pm : Int32) (stt : Int32) (hh : Int64) (z : Nat → Int32) (v : Nat → Int32) (f : Nat) (k : Nat) (hz : n_Z v z) (hI : n_I v) (hf : f < 4) (hk : k < 1000) : Met l yX6_contrast wsX6_contrast ({ frames := 6, cells := 0, slots := 0, locals := 144 }) (kq_M dC dI cI [.ref oM, .int (nI f), .int (nI k)] sz [(oM, .inr (6, [.int th, .ref rz, .ref r2, .int (nI km), .ref rb, .int (nI n), .int tp, .int lf, .int hg, .int wd, .ref rq, .int pm, .int stt, .long hh])), (rz, .inl (cI, 389, .inl z))]) (va_Qi (fun (r : Int32) (u : Int32 × Int32 × Int32 × Int32) => r = n_cn v f k) (kq_B dC dI (va_A [(oM, .inr (6, [.int th, .ref rz, .ref r2, .int (nI km), .ref rb, .int (nI n), .int tp, .int lf, .int hg, .int wd, .ref rq, .int pm, .int stt, .long hh])), (rz, .inl (cI, 389, .inl z))] sz) (fun u : Int32 × Int32 × Int32 × Int32 => [(oM, .inr (6, [.int 0, .ref rz, .ref r2, .int (nI km), .ref rb, .int (nI n), .int u.1, .int u.2.1, .int u.2.2.1, .int u.2.2.2, .ref rq, .int pm, .int stt, .long hh])), (rz, .inl (cI, 389, .inl z))])) (va_A [(oM, .inr (6, [.int th, .ref rz, .ref r2, .int (nI km), .ref rb, .int (nI n), .int tp, .int lf, .int hg, .int wd, .ref rq, .int pm, .int stt, .long hh])), (rz, .inl (cI, 389, .inl z))] sz)) 0 0 (va_A [(oM, .inr (6, [.int th, .ref rz, .ref r2, .int (nI km), .ref rb, .int (nI n), .int tp, .int lf, .int hg, .int wd, .ref rq, .int pm, .int stt, .long hh])), (rz, .inl (cI, 389, .inl z))] sz) := by
  refine kq_startM (cc := cX6_contrast) (maxL := 3) (ret := (some .int)) (by decide) rfl (Nat.le_of_ble_eq_true rfl) ?_
  intro p e s m below meth c hx hb hr hml hown hlocks hts hsz hA hP hD hS hK hnm ls hl
  subst hsz
  generalize hAe : va_A [(oM, .inr (6, [.int th, .ref rz, .ref r2, .int (nI km), .ref rb, .int (nI n), .int tp, .int lf, .int hg, .int wd, .ref rq, .int pm, .int stt, .long hh])), (rz, .inl (cI, 389, .inl z))] s.heap.size = A at hA hD hS ⊢
  have hown : s.vm.findClass RX6 = some m.cls := hown
  have hl : lv_has ls 3 [(0, .ref oM), (1, .int (nI f)), (2, .int (nI k))] := hl
  refine lv_aload_n hx hb dX6_contrast_0 rfl (lv_at hl 0 rfl) ?_
  refine lv_iload_n hx hb dX6_contrast_1 rfl (lv_at hl 1 rfl) ?_
  refine kq_cS (As := [.int (nI f)]) (rest := [.ref oM]) ⟨hx, hb, hml, hown, hts⟩ (c_X6_isFigure_n l dC dI cI f (by first | assumption | omega)) (va_cwS 1 hts gX6_contrast_X6_isFigure rfl rfl rfl (by decide +kernel) ⟨Nat.le_of_ble_eq_true rfl, Nat.le_of_ble_eq_true rfl⟩) (hP.sub [] rfl) hK rfl hl.1 rfl (Nat.le_of_ble_eq_true rfl) dX6_contrast_2 ⟨Nat.le_of_ble_eq_true rfl, Nat.le_of_ble_eq_true rfl⟩ ?_
  refine lv_if_eq (tgt := 19) hx hb dX6_contrast_5 (by decide) (fun c_1 => ?_) (fun c_1 => ?_)
  · skip
    have c_1 := kq_bf c_1
    exact absurd c_1 (by omega)
  · skip
    have c_1 := kq_bt c_1
    refine lv_iload_n hx hb dX6_contrast_8 rfl (lv_at hl 2 rfl) ?_
    refine kq_cS (As := [.int (nI k)]) (rest := [.ref oM]) ⟨hx, hb, hml, hown, hts⟩ (c_X6_isNote_n l dC dI cI k (by first | assumption | omega)) (va_cwS 1 hts gX6_contrast_X6_isNote rfl rfl rfl (by decide +kernel) ⟨Nat.le_of_ble_eq_true rfl, Nat.le_of_ble_eq_true rfl⟩) (hP.sub [] rfl) hK rfl hl.1 rfl (Nat.le_of_ble_eq_true rfl) dX6_contrast_9 ⟨Nat.le_of_ble_eq_true rfl, Nat.le_of_ble_eq_true rfl⟩ ?_
    refine lv_if_eq (tgt := 19) hx hb dX6_contrast_12 (by decide) (fun c_2 => ?_) (fun c_2 => ?_)
    · skip
      have c_2 := kq_bf c_2
      exact absurd c_2 (by omega)
    · skip
      have c_2 := kq_bt c_2
      refine lv_iconst (v := 0) hx hb dX6_contrast_15 (by decide) ?_
      refine lv_goto (tgt := 20) hx hb dX6_contrast_16 (by decide) ?_
      refine va_put (D := (dC, dI)) (ci := 6) (v := .int 0) (ty := .int) (C := RX6) (T := TX6) (N := 14) hx hb hts (by decide +kernel) tyX6 tyX6_ok nmX6 hown hK.1 hP hD hS 0 rfl rfl 0 (by decide) (hts (.fieldLink RX6 22 "NoteWatermarksModel" "thrown" "I") (by decide +kernel)) (fun _ h9 => h9) rfl (by decide +kernel) rfl rfl (Nat.le_of_ble_eq_true rfl) dX6_contrast_20 (fun H locs hP hD hS => ?_)
      have hP : va_P (dC, dI) vwCl [(oM, .inr (6, [.int 0, .ref rz, .ref r2, .int (nI km), .ref rb, .int (nI n), .int tp, .int lf, .int hg, .int wd, .ref rq, .int pm, .int stt, .long hh])), (rz, .inl (cI, 389, .inl z))] H := hP
      have hD : va_D A [(oM, .inr (6, [.int 0, .ref rz, .ref r2, .int (nI km), .ref rb, .int (nI n), .int tp, .int lf, .int hg, .int wd, .ref rq, .int pm, .int stt, .long hh])), (rz, .inl (cI, 389, .inl z))] := hD
      refine lv_aload_n hx hb dX6_contrast_23 rfl (lv_at hl 0 rfl) ?_
      refine va_get (D := (dC, dI)) (ci := 6) (v := .int 0) (C := RX6) (T := TX6) (N := 14) hx hb hts (by decide +kernel) hown hK.1 hP 0 rfl rfl 0 (by decide) (hts (.fieldLink RX6 22 "NoteWatermarksModel" "thrown" "I") (by decide +kernel)) (fun _ h9 => h9) rfl dX6_contrast_24 ?_
      refine lv_if_le (tgt := 34) hx hb dX6_contrast_27 (by decide) (fun _ => ?_) (fun q => absurd q (by decide))
      refine lv_aload_n hx hb dX6_contrast_34 rfl (lv_at hl 0 rfl) ?_
      refine lv_iload_n hx hb dX6_contrast_35 rfl (lv_at hl 1 rfl) ?_
      refine lv_iload_n hx hb dX6_contrast_36 rfl (lv_at hl 2 rfl) ?_
      refine kq_callMi (wr := []) (va_runV (As := [.int (nI f), .int (nI k)]) (rest := []) ⟨hx, hb, hml, hown, hts⟩ (c_X6_toldContrast l dC dI cI H.size oM rz r2 rb rq km n 0 tp lf hg wd pm stt hh z v f k (by first | assumption | omega) (by first | assumption | omega) (by first | assumption | omega) (by first | assumption | omega)) (cwV 2 hts gX6_contrast_X6_toldContrast rfl rfl rfl (by decide +kernel) ⟨Nat.le_of_ble_eq_true rfl, Nat.le_of_ble_eq_true rfl⟩) (kq_preV (ci := 6) (q0 := 0) (hP.sub [0, 1] rfl) (hD.sub [0, 1] (by decide) rfl) hK rfl rfl) rfl rfl hl.1 rfl (lv_room (Nat.le_of_ble_eq_true rfl)) dX6_contrast_37 ⟨Nat.le_of_ble_eq_true rfl, Nat.le_of_ble_eq_true rfl⟩) hP hD hS hA [0, 1] [] rfl rfl (by decide) (by decide) (fun r_4 u_5 H locs hw_6 hP hD hS => ?_)
      obtain ⟨t1_7, t2_8, t3_9, t4_10⟩ := u_5
      have hP : va_P (dC, dI) vwCl [(oM, .inr (6, [.int 0, .ref rz, .ref r2, .int (nI km), .ref rb, .int (nI n), .int t1_7, .int t2_8, .int t3_9, .int t4_10, .ref rq, .int pm, .int stt, .long hh])), (rz, .inl (cI, 389, .inl z))] H := hP
      have hD : va_D A [(oM, .inr (6, [.int 0, .ref rz, .ref r2, .int (nI km), .ref rb, .int (nI n), .int t1_7, .int t2_8, .int t3_9, .int t4_10, .ref rq, .int pm, .int stt, .long hh])), (rz, .inl (cI, 389, .inl z))] := hD
      obtain rfl := hw_6
      exact kq_retMi (t1_7, t2_8, t3_9, t4_10) hx hb hr hlocks hP hD hS dX6_contrast_40 (by rfl)
set_option maxHeartbeats 4000000 in
set_option maxRecDepth 100000 in
theorem c_X6_count (l : Launch) (dC : Nat → ClassId) (dI : Nat → Nat → Nat) (cI : ClassId) (sz : Nat) (oM : Nat) (rz : Nat) (r2 : Nat) (rb : Nat) (rq : Nat) (km : Nat) (n : Nat) (th : Int32) (tp : Int32) (lf : Int32) (hg : Int32) (wd : Int32) (pm : Int32) (stt : Int32) (hh : Int64) (z : Nat → Int32) (v : Nat → Int32) (q : Nat) (hz : n_Z v z) (hI : n_I v) (hq : q < 9) : Met l yX6_count wsX6_count ({ frames := 10, cells := 0, slots := 0, locals := 232 }) (kq_M dC dI cI [.ref oM, .int (nI q)] sz [(oM, .inr (6, [.int th, .ref rz, .ref r2, .int (nI km), .ref rb, .int (nI n), .int tp, .int lf, .int hg, .int wd, .ref rq, .int pm, .int stt, .long hh])), (rz, .inl (cI, 389, .inl z))]) (va_Qi (fun (r : Int32) (u : Int32 × Int32 × Int32 × Int32) => r = n_cnt v km q) (kq_B dC dI (va_A [(oM, .inr (6, [.int th, .ref rz, .ref r2, .int (nI km), .ref rb, .int (nI n), .int tp, .int lf, .int hg, .int wd, .ref rq, .int pm, .int stt, .long hh])), (rz, .inl (cI, 389, .inl z))] sz) (fun u : Int32 × Int32 × Int32 × Int32 => [(oM, .inr (6, [.int 0, .ref rz, .ref r2, .int (nI km), .ref rb, .int (nI n), .int u.1, .int u.2.1, .int u.2.2.1, .int u.2.2.2, .ref rq, .int pm, .int stt, .long hh])), (rz, .inl (cI, 389, .inl z))])) (va_A [(oM, .inr (6, [.int th, .ref rz, .ref r2, .int (nI km), .ref rb, .int (nI n), .int tp, .int lf, .int hg, .int wd, .ref rq, .int pm, .int stt, .long hh])), (rz, .inl (cI, 389, .inl z))] sz)) 0 0 (va_A [(oM, .inr (6, [.int th, .ref rz, .ref r2, .int (nI km), .ref rb, .int (nI n), .int tp, .int lf, .int hg, .int wd, .ref rq, .int pm, .int stt, .long hh])), (rz, .inl (cI, 389, .inl z))] sz) := by
  refine kq_startM (cc := cX6_count) (maxL := 2) (ret := (some .int)) (by decide) rfl (Nat.le_of_ble_eq_true rfl) ?_
  intro p e s m below meth c hx hb hr hml hown hlocks hts hsz hA hP hD hS hK hnm ls hl
  subst hsz
  generalize hAe : va_A [(oM, .inr (6, [.int th, .ref rz, .ref r2, .int (nI km), .ref rb, .int (nI n), .int tp, .int lf, .int hg, .int wd, .ref rq, .int pm, .int stt, .long hh])), (rz, .inl (cI, 389, .inl z))] s.heap.size = A at hA hD hS ⊢
  have hown : s.vm.findClass RX6 = some m.cls := hown
  have hl : lv_has ls 2 [(0, .ref oM), (1, .int (nI q))] := hl
  refine lv_aload_n hx hb dX6_count_0 rfl (lv_at hl 0 rfl) ?_
  refine lv_iload_n hx hb dX6_count_1 rfl (lv_at hl 1 rfl) ?_
  refine lv_iconst (v := 0) hx hb dX6_count_2 (by decide) ?_
  refine lv_bipush (v := 8) hx hb dX6_count_3 (by decide) ?_
  refine kq_cS (As := [.int (nI q), .int 0, .int 8]) (rest := [.ref oM]) ⟨hx, hb, hml, hown, hts⟩ (c_X6_in_n l dC dI cI q 0 8 (by first | assumption | omega) (by first | assumption | omega) (by first | assumption | omega)) (va_cwS 3 hts gX6_count_X6_in rfl rfl rfl (by decide +kernel) ⟨Nat.le_of_ble_eq_true rfl, Nat.le_of_ble_eq_true rfl⟩) (hP.sub [] rfl) hK rfl hl.1 rfl (Nat.le_of_ble_eq_true rfl) dX6_count_5 ⟨Nat.le_of_ble_eq_true rfl, Nat.le_of_ble_eq_true rfl⟩ ?_
  refine lv_if_eq (tgt := 15) hx hb dX6_count_8 (by decide) (fun c_1 => ?_) (fun c_1 => ?_)
  · skip
    have c_1 := kq_bf c_1
    exact absurd c_1 (by omega)
  · skip
    have c_1 := kq_bt c_1
    refine lv_iconst (v := 0) hx hb dX6_count_11 (by decide) ?_
    refine lv_goto (tgt := 16) hx hb dX6_count_12 (by decide) ?_
    refine va_put (D := (dC, dI)) (ci := 6) (v := .int 0) (ty := .int) (C := RX6) (T := TX6) (N := 14) hx hb hts (by decide +kernel) tyX6 tyX6_ok nmX6 hown hK.1 hP hD hS 0 rfl rfl 0 (by decide) (hts (.fieldLink RX6 22 "NoteWatermarksModel" "thrown" "I") (by decide +kernel)) (fun _ h9 => h9) rfl (by decide +kernel) rfl rfl (Nat.le_of_ble_eq_true rfl) dX6_count_16 (fun H locs hP hD hS => ?_)
    have hP : va_P (dC, dI) vwCl [(oM, .inr (6, [.int 0, .ref rz, .ref r2, .int (nI km), .ref rb, .int (nI n), .int tp, .int lf, .int hg, .int wd, .ref rq, .int pm, .int stt, .long hh])), (rz, .inl (cI, 389, .inl z))] H := hP
    have hD : va_D A [(oM, .inr (6, [.int 0, .ref rz, .ref r2, .int (nI km), .ref rb, .int (nI n), .int tp, .int lf, .int hg, .int wd, .ref rq, .int pm, .int stt, .long hh])), (rz, .inl (cI, 389, .inl z))] := hD
    refine lv_aload_n hx hb dX6_count_19 rfl (lv_at hl 0 rfl) ?_
    refine va_get (D := (dC, dI)) (ci := 6) (v := .int 0) (C := RX6) (T := TX6) (N := 14) hx hb hts (by decide +kernel) hown hK.1 hP 0 rfl rfl 0 (by decide) (hts (.fieldLink RX6 22 "NoteWatermarksModel" "thrown" "I") (by decide +kernel)) (fun _ h9 => h9) rfl dX6_count_20 ?_
    refine lv_if_le (tgt := 30) hx hb dX6_count_23 (by decide) (fun _ => ?_) (fun q => absurd q (by decide))
    refine lv_aload_n hx hb dX6_count_30 rfl (lv_at hl 0 rfl) ?_
    refine lv_iload_n hx hb dX6_count_31 rfl (lv_at hl 1 rfl) ?_
    refine kq_callMi (wr := []) (va_runV (As := [.int (nI q)]) (rest := []) ⟨hx, hb, hml, hown, hts⟩ (c_X6_counted l dC dI cI H.size oM rz r2 rb rq km n 0 tp lf hg wd pm stt hh z v q (by first | assumption | omega) (by first | assumption | omega) (by first | assumption | omega)) (cwV 1 hts gX6_count_X6_counted rfl rfl rfl (by decide +kernel) ⟨Nat.le_of_ble_eq_true rfl, Nat.le_of_ble_eq_true rfl⟩) (kq_preV (ci := 6) (q0 := 0) (hP.sub [0, 1] rfl) (hD.sub [0, 1] (by decide) rfl) hK rfl rfl) rfl rfl hl.1 rfl (lv_room (Nat.le_of_ble_eq_true rfl)) dX6_count_32 ⟨Nat.le_of_ble_eq_true rfl, Nat.le_of_ble_eq_true rfl⟩) hP hD hS hA [0, 1] [] rfl rfl (by decide) (by decide) (fun r_3 u_4 H locs hw_5 hP hD hS => ?_)
    obtain ⟨t1_6, t2_7, t3_8, t4_9⟩ := u_4
    have hP : va_P (dC, dI) vwCl [(oM, .inr (6, [.int 0, .ref rz, .ref r2, .int (nI km), .ref rb, .int (nI n), .int t1_6, .int t2_7, .int t3_8, .int t4_9, .ref rq, .int pm, .int stt, .long hh])), (rz, .inl (cI, 389, .inl z))] H := hP
    have hD : va_D A [(oM, .inr (6, [.int 0, .ref rz, .ref r2, .int (nI km), .ref rb, .int (nI n), .int t1_6, .int t2_7, .int t3_8, .int t4_9, .ref rq, .int pm, .int stt, .long hh])), (rz, .inl (cI, 389, .inl z))] := hD
    obtain rfl := hw_5
    exact kq_retMi (t1_6, t2_7, t3_8, t4_9) hx hb hr hlocks hP hD hS dX6_count_35 (by rfl)
set_option maxHeartbeats 4000000 in
set_option maxRecDepth 100000 in
theorem c_X6_bestPhase (l : Launch) (dC : Nat → ClassId) (dI : Nat → Nat → Nat) (cI : ClassId) (sz : Nat) (oM : Nat) (rz : Nat) (r2 : Nat) (rb : Nat) (rq : Nat) (km : Nat) (n : Nat) (th : Int32) (tp : Int32) (lf : Int32) (hg : Int32) (wd : Int32) (pm : Int32) (stt : Int32) (hh : Int64) (z : Nat → Int32) (v : Nat → Int32) (a : Nat) (f : Nat) (hz : n_Z v z) (hI : n_I v) (ha : a < 3) (hf : f < 4) : Met l yX6_bestPhase wsX6_bestPhase ({ frames := 7, cells := 0, slots := 0, locals := 171 }) (kq_M dC dI cI [.ref oM, .int (nI a), .int (nI f)] sz [(oM, .inr (6, [.int th, .ref rz, .ref r2, .int (nI km), .ref rb, .int (nI n), .int tp, .int lf, .int hg, .int wd, .ref rq, .int pm, .int stt, .long hh])), (rz, .inl (cI, 389, .inl z))]) (va_Qi (fun (r : Int32) (u : Int32 × Int32 × Int32 × Int32) => r = n_bph v a f) (kq_B dC dI (va_A [(oM, .inr (6, [.int th, .ref rz, .ref r2, .int (nI km), .ref rb, .int (nI n), .int tp, .int lf, .int hg, .int wd, .ref rq, .int pm, .int stt, .long hh])), (rz, .inl (cI, 389, .inl z))] sz) (fun u : Int32 × Int32 × Int32 × Int32 => [(oM, .inr (6, [.int 0, .ref rz, .ref r2, .int (nI km), .ref rb, .int (nI n), .int u.1, .int u.2.1, .int u.2.2.1, .int u.2.2.2, .ref rq, .int pm, .int stt, .long hh])), (rz, .inl (cI, 389, .inl z))])) (va_A [(oM, .inr (6, [.int th, .ref rz, .ref r2, .int (nI km), .ref rb, .int (nI n), .int tp, .int lf, .int hg, .int wd, .ref rq, .int pm, .int stt, .long hh])), (rz, .inl (cI, 389, .inl z))] sz)) 0 0 (va_A [(oM, .inr (6, [.int th, .ref rz, .ref r2, .int (nI km), .ref rb, .int (nI n), .int tp, .int lf, .int hg, .int wd, .ref rq, .int pm, .int stt, .long hh])), (rz, .inl (cI, 389, .inl z))] sz) := by
  refine kq_startM (cc := cX6_bestPhase) (maxL := 3) (ret := (some .int)) (by decide) rfl (Nat.le_of_ble_eq_true rfl) ?_
  intro p e s m below meth c hx hb hr hml hown hlocks hts hsz hA hP hD hS hK hnm ls hl
  subst hsz
  generalize hAe : va_A [(oM, .inr (6, [.int th, .ref rz, .ref r2, .int (nI km), .ref rb, .int (nI n), .int tp, .int lf, .int hg, .int wd, .ref rq, .int pm, .int stt, .long hh])), (rz, .inl (cI, 389, .inl z))] s.heap.size = A at hA hD hS ⊢
  have hown : s.vm.findClass RX6 = some m.cls := hown
  have hl : lv_has ls 3 [(0, .ref oM), (1, .int (nI a)), (2, .int (nI f))] := hl
  refine lv_aload_n hx hb dX6_bestPhase_0 rfl (lv_at hl 0 rfl) ?_
  refine lv_iload_n hx hb dX6_bestPhase_1 rfl (lv_at hl 1 rfl) ?_
  refine kq_cS (As := [.int (nI a)]) (rest := [.ref oM]) ⟨hx, hb, hml, hown, hts⟩ (c_X6_isRoll_n l dC dI cI a (by first | assumption | omega)) (va_cwS 1 hts gX6_bestPhase_X6_isRoll rfl rfl rfl (by decide +kernel) ⟨Nat.le_of_ble_eq_true rfl, Nat.le_of_ble_eq_true rfl⟩) (hP.sub [] rfl) hK rfl hl.1 rfl (Nat.le_of_ble_eq_true rfl) dX6_bestPhase_2 ⟨Nat.le_of_ble_eq_true rfl, Nat.le_of_ble_eq_true rfl⟩ ?_
  refine lv_if_eq (tgt := 19) hx hb dX6_bestPhase_5 (by decide) (fun c_1 => ?_) (fun c_1 => ?_)
  · skip
    have c_1 := kq_bf c_1
    exact absurd c_1 (by omega)
  · skip
    have c_1 := kq_bt c_1
    refine lv_iload_n hx hb dX6_bestPhase_8 rfl (lv_at hl 2 rfl) ?_
    refine kq_cS (As := [.int (nI f)]) (rest := [.ref oM]) ⟨hx, hb, hml, hown, hts⟩ (c_X6_isFigure_n l dC dI cI f (by first | assumption | omega)) (va_cwS 1 hts gX6_bestPhase_X6_isFigure rfl rfl rfl (by decide +kernel) ⟨Nat.le_of_ble_eq_true rfl, Nat.le_of_ble_eq_true rfl⟩) (hP.sub [] rfl) hK rfl hl.1 rfl (Nat.le_of_ble_eq_true rfl) dX6_bestPhase_9 ⟨Nat.le_of_ble_eq_true rfl, Nat.le_of_ble_eq_true rfl⟩ ?_
    refine lv_if_eq (tgt := 19) hx hb dX6_bestPhase_12 (by decide) (fun c_2 => ?_) (fun c_2 => ?_)
    · skip
      have c_2 := kq_bf c_2
      exact absurd c_2 (by omega)
    · skip
      have c_2 := kq_bt c_2
      refine lv_iconst (v := 0) hx hb dX6_bestPhase_15 (by decide) ?_
      refine lv_goto (tgt := 20) hx hb dX6_bestPhase_16 (by decide) ?_
      refine va_put (D := (dC, dI)) (ci := 6) (v := .int 0) (ty := .int) (C := RX6) (T := TX6) (N := 14) hx hb hts (by decide +kernel) tyX6 tyX6_ok nmX6 hown hK.1 hP hD hS 0 rfl rfl 0 (by decide) (hts (.fieldLink RX6 22 "NoteWatermarksModel" "thrown" "I") (by decide +kernel)) (fun _ h9 => h9) rfl (by decide +kernel) rfl rfl (Nat.le_of_ble_eq_true rfl) dX6_bestPhase_20 (fun H locs hP hD hS => ?_)
      have hP : va_P (dC, dI) vwCl [(oM, .inr (6, [.int 0, .ref rz, .ref r2, .int (nI km), .ref rb, .int (nI n), .int tp, .int lf, .int hg, .int wd, .ref rq, .int pm, .int stt, .long hh])), (rz, .inl (cI, 389, .inl z))] H := hP
      have hD : va_D A [(oM, .inr (6, [.int 0, .ref rz, .ref r2, .int (nI km), .ref rb, .int (nI n), .int tp, .int lf, .int hg, .int wd, .ref rq, .int pm, .int stt, .long hh])), (rz, .inl (cI, 389, .inl z))] := hD
      refine lv_aload_n hx hb dX6_bestPhase_23 rfl (lv_at hl 0 rfl) ?_
      refine va_get (D := (dC, dI)) (ci := 6) (v := .int 0) (C := RX6) (T := TX6) (N := 14) hx hb hts (by decide +kernel) hown hK.1 hP 0 rfl rfl 0 (by decide) (hts (.fieldLink RX6 22 "NoteWatermarksModel" "thrown" "I") (by decide +kernel)) (fun _ h9 => h9) rfl dX6_bestPhase_24 ?_
      refine lv_if_le (tgt := 34) hx hb dX6_bestPhase_27 (by decide) (fun _ => ?_) (fun q => absurd q (by decide))
      refine lv_aload_n hx hb dX6_bestPhase_34 rfl (lv_at hl 0 rfl) ?_
      refine lv_iload_n hx hb dX6_bestPhase_35 rfl (lv_at hl 1 rfl) ?_
      refine lv_iload_n hx hb dX6_bestPhase_36 rfl (lv_at hl 2 rfl) ?_
      refine kq_callMi (wr := []) (va_runV (As := [.int (nI a), .int (nI f)]) (rest := []) ⟨hx, hb, hml, hown, hts⟩ (c_X6_phaseFor l dC dI cI H.size oM rz r2 rb rq km n 0 tp lf hg wd pm stt hh z v a f (by first | assumption | omega) (by first | assumption | omega) (by first | assumption | omega) (by first | assumption | omega)) (cwV 2 hts gX6_bestPhase_X6_phaseFor rfl rfl rfl (by decide +kernel) ⟨Nat.le_of_ble_eq_true rfl, Nat.le_of_ble_eq_true rfl⟩) (kq_preV (ci := 6) (q0 := 0) (hP.sub [0, 1] rfl) (hD.sub [0, 1] (by decide) rfl) hK rfl rfl) rfl rfl hl.1 rfl (lv_room (Nat.le_of_ble_eq_true rfl)) dX6_bestPhase_37 ⟨Nat.le_of_ble_eq_true rfl, Nat.le_of_ble_eq_true rfl⟩) hP hD hS hA [0, 1] [] rfl rfl (by decide) (by decide) (fun r_4 u_5 H locs hw_6 hP hD hS => ?_)
      obtain ⟨t1_7, t2_8, t3_9, t4_10⟩ := u_5
      have hP : va_P (dC, dI) vwCl [(oM, .inr (6, [.int 0, .ref rz, .ref r2, .int (nI km), .ref rb, .int (nI n), .int t1_7, .int t2_8, .int t3_9, .int t4_10, .ref rq, .int pm, .int stt, .long hh])), (rz, .inl (cI, 389, .inl z))] H := hP
      have hD : va_D A [(oM, .inr (6, [.int 0, .ref rz, .ref r2, .int (nI km), .ref rb, .int (nI n), .int t1_7, .int t2_8, .int t3_9, .int t4_10, .ref rq, .int pm, .int stt, .long hh])), (rz, .inl (cI, 389, .inl z))] := hD
      obtain rfl := hw_6
      exact kq_retMi (t1_7, t2_8, t3_9, t4_10) hx hb hr hlocks hP hD hS dX6_bestPhase_40 (by rfl)
set_option maxHeartbeats 4000000 in
set_option maxRecDepth 100000 in
theorem c_X6_bestPitch (l : Launch) (dC : Nat → ClassId) (dI : Nat → Nat → Nat) (cI : ClassId) (sz : Nat) (oM : Nat) (rz : Nat) (r2 : Nat) (rb : Nat) (rq : Nat) (km : Nat) (n : Nat) (th : Int32) (tp : Int32) (lf : Int32) (hg : Int32) (wd : Int32) (pm : Int32) (stt : Int32) (hh : Int64) (z : Nat → Int32) (v : Nat → Int32) (hz : n_Z v z) (hI : n_I v) : Met l yX6_bestPitch wsX6_bestPitch ({ frames := 2, cells := 0, slots := 0, locals := 44 }) (kq_M dC dI cI [.ref oM] sz [(oM, .inr (6, [.int th, .ref rz, .ref r2, .int (nI km), .ref rb, .int (nI n), .int tp, .int lf, .int hg, .int wd, .ref rq, .int pm, .int stt, .long hh])), (rz, .inl (cI, 389, .inl z))]) (va_Qi (fun (r : Int32) (u : Unit) => r = nI (n_pit v 18)) (kq_B dC dI (va_A [(oM, .inr (6, [.int th, .ref rz, .ref r2, .int (nI km), .ref rb, .int (nI n), .int tp, .int lf, .int hg, .int wd, .ref rq, .int pm, .int stt, .long hh])), (rz, .inl (cI, 389, .inl z))] sz) (fun u : Unit => [(oM, .inr (6, [.int 0, .ref rz, .ref r2, .int (nI km), .ref rb, .int (nI n), .int tp, .int lf, .int hg, .int wd, .ref rq, .int pm, .int stt, .long hh])), (rz, .inl (cI, 389, .inl z))])) (va_A [(oM, .inr (6, [.int th, .ref rz, .ref r2, .int (nI km), .ref rb, .int (nI n), .int tp, .int lf, .int hg, .int wd, .ref rq, .int pm, .int stt, .long hh])), (rz, .inl (cI, 389, .inl z))] sz)) 0 0 (va_A [(oM, .inr (6, [.int th, .ref rz, .ref r2, .int (nI km), .ref rb, .int (nI n), .int tp, .int lf, .int hg, .int wd, .ref rq, .int pm, .int stt, .long hh])), (rz, .inl (cI, 389, .inl z))] sz) := by
  refine kq_startM (cc := cX6_bestPitch) (maxL := 1) (ret := (some .int)) (by decide) rfl (Nat.le_of_ble_eq_true rfl) ?_
  intro p e s m below meth c hx hb hr hml hown hlocks hts hsz hA hP hD hS hK hnm ls hl
  subst hsz
  generalize hAe : va_A [(oM, .inr (6, [.int th, .ref rz, .ref r2, .int (nI km), .ref rb, .int (nI n), .int tp, .int lf, .int hg, .int wd, .ref rq, .int pm, .int stt, .long hh])), (rz, .inl (cI, 389, .inl z))] s.heap.size = A at hA hD hS ⊢
  have hown : s.vm.findClass RX6 = some m.cls := hown
  have hl : lv_has ls 1 [(0, .ref oM)] := hl
  refine lv_aload_n hx hb dX6_bestPitch_0 rfl (lv_at hl 0 rfl) ?_
  refine lv_iconst (v := 0) hx hb dX6_bestPitch_1 (by decide) ?_
  refine va_put (D := (dC, dI)) (ci := 6) (v := .int 0) (ty := .int) (C := RX6) (T := TX6) (N := 14) hx hb hts (by decide +kernel) tyX6 tyX6_ok nmX6 hown hK.1 hP hD hS 0 rfl rfl 0 (by decide) (hts (.fieldLink RX6 22 "NoteWatermarksModel" "thrown" "I") (by decide +kernel)) (fun _ h9 => h9) rfl (by decide +kernel) rfl rfl (Nat.le_of_ble_eq_true rfl) dX6_bestPitch_2 (fun H locs hP hD hS => ?_)
  have hP : va_P (dC, dI) vwCl [(oM, .inr (6, [.int 0, .ref rz, .ref r2, .int (nI km), .ref rb, .int (nI n), .int tp, .int lf, .int hg, .int wd, .ref rq, .int pm, .int stt, .long hh])), (rz, .inl (cI, 389, .inl z))] H := hP
  have hD : va_D A [(oM, .inr (6, [.int 0, .ref rz, .ref r2, .int (nI km), .ref rb, .int (nI n), .int tp, .int lf, .int hg, .int wd, .ref rq, .int pm, .int stt, .long hh])), (rz, .inl (cI, 389, .inl z))] := hD
  refine lv_aload_n hx hb dX6_bestPitch_5 rfl (lv_at hl 0 rfl) ?_
  refine kq_cV (As := []) (rest := []) ⟨hx, hb, hml, hown, hts⟩ (c_X6_pitch l dC dI cI oM rz r2 rb rq km n 0 tp lf hg wd pm stt hh z v (by first | assumption | omega) (by first | assumption | omega)) (cwV 0 hts gX6_bestPitch_X6_pitch rfl rfl rfl (by decide +kernel) ⟨Nat.le_of_ble_eq_true rfl, Nat.le_of_ble_eq_true rfl⟩) (hP.sub [0, 1] rfl) hK (ci := 6) (q0 := 0) rfl rfl rfl rfl hl.1 rfl (Nat.le_of_ble_eq_true rfl) dX6_bestPitch_6 ⟨Nat.le_of_ble_eq_true rfl, Nat.le_of_ble_eq_true rfl⟩ ?_
  exact kq_retMi () hx hb hr hlocks hP hD hS dX6_bestPitch_9 (by rfl)
set_option maxHeartbeats 4000000 in
set_option maxRecDepth 100000 in
theorem c_X6_standsOut (l : Launch) (dC : Nat → ClassId) (dI : Nat → Nat → Nat) (cI : ClassId) (sz : Nat) (oM : Nat) (rz : Nat) (r2 : Nat) (rb : Nat) (rq : Nat) (km : Nat) (n : Nat) (th : Int32) (tp : Int32) (lf : Int32) (hg : Int32) (wd : Int32) (pm : Int32) (stt : Int32) (hh : Int64) (z : Nat → Int32) (v : Nat → Int32) (h : Nat) (w : Nat) (q : Nat) (hz : n_Z v z) (hI : n_I v) (hh9 : 1 ≤ h ∧ h ≤ 6) (hw9 : 1 ≤ w ∧ w ≤ 12) (hq : q < 3) : Met l yX6_standsOut wsX6_standsOut ({ frames := 7, cells := 0, slots := 0, locals := 171 }) (kq_M dC dI cI [.ref oM, .int (nI h), .int (nI w), .int (nI q)] sz [(oM, .inr (6, [.int th, .ref rz, .ref r2, .int (nI km), .ref rb, .int (nI n), .int tp, .int lf, .int hg, .int wd, .ref rq, .int pm, .int stt, .long hh])), (rz, .inl (cI, 389, .inl z))]) (va_Qi (fun (r : Int32) (u : Int32 × Int32 × Int32 × Int32) => r = n_so v h w q) (kq_B dC dI (va_A [(oM, .inr (6, [.int th, .ref rz, .ref r2, .int (nI km), .ref rb, .int (nI n), .int tp, .int lf, .int hg, .int wd, .ref rq, .int pm, .int stt, .long hh])), (rz, .inl (cI, 389, .inl z))] sz) (fun u : Int32 × Int32 × Int32 × Int32 => [(oM, .inr (6, [.int 0, .ref rz, .ref r2, .int (nI km), .ref rb, .int (nI n), .int u.1, .int u.2.1, .int u.2.2.1, .int u.2.2.2, .ref rq, .int pm, .int stt, .long hh])), (rz, .inl (cI, 389, .inl z))])) (va_A [(oM, .inr (6, [.int th, .ref rz, .ref r2, .int (nI km), .ref rb, .int (nI n), .int tp, .int lf, .int hg, .int wd, .ref rq, .int pm, .int stt, .long hh])), (rz, .inl (cI, 389, .inl z))] sz)) 0 0 (va_A [(oM, .inr (6, [.int th, .ref rz, .ref r2, .int (nI km), .ref rb, .int (nI n), .int tp, .int lf, .int hg, .int wd, .ref rq, .int pm, .int stt, .long hh])), (rz, .inl (cI, 389, .inl z))] sz) := by
  refine kq_startM (cc := cX6_standsOut) (maxL := 4) (ret := (some .int)) (by decide) rfl (Nat.le_of_ble_eq_true rfl) ?_
  intro p e s m below meth c hx hb hr hml hown hlocks hts hsz hA hP hD hS hK hnm ls hl
  subst hsz
  generalize hAe : va_A [(oM, .inr (6, [.int th, .ref rz, .ref r2, .int (nI km), .ref rb, .int (nI n), .int tp, .int lf, .int hg, .int wd, .ref rq, .int pm, .int stt, .long hh])), (rz, .inl (cI, 389, .inl z))] s.heap.size = A at hA hD hS ⊢
  have hown : s.vm.findClass RX6 = some m.cls := hown
  have hl : lv_has ls 4 [(0, .ref oM), (1, .int (nI h)), (2, .int (nI w)), (3, .int (nI q))] := hl
  refine lv_aload_n hx hb dX6_standsOut_0 rfl (lv_at hl 0 rfl) ?_
  refine lv_iload_n hx hb dX6_standsOut_1 rfl (lv_at hl 1 rfl) ?_
  refine lv_iconst (v := 1) hx hb dX6_standsOut_2 (by decide) ?_
  refine lv_bipush (v := 6) hx hb dX6_standsOut_3 (by decide) ?_
  refine kq_cS (As := [.int (nI h), .int 1, .int 6]) (rest := [.ref oM]) ⟨hx, hb, hml, hown, hts⟩ (c_X6_in_n l dC dI cI h 1 6 (by first | assumption | omega) (by first | assumption | omega) (by first | assumption | omega)) (va_cwS 3 hts gX6_standsOut_X6_in rfl rfl rfl (by decide +kernel) ⟨Nat.le_of_ble_eq_true rfl, Nat.le_of_ble_eq_true rfl⟩) (hP.sub [] rfl) hK rfl hl.1 rfl (Nat.le_of_ble_eq_true rfl) dX6_standsOut_5 ⟨Nat.le_of_ble_eq_true rfl, Nat.le_of_ble_eq_true rfl⟩ ?_
  refine lv_if_eq (tgt := 34) hx hb dX6_standsOut_8 (by decide) (fun c_1 => ?_) (fun c_1 => ?_)
  · skip
    have c_1 := kq_bf c_1
    exact absurd hh9 c_1
  · skip
    have c_1 := kq_bt c_1
    refine lv_iload_n hx hb dX6_standsOut_11 rfl (lv_at hl 2 rfl) ?_
    refine lv_iconst (v := 1) hx hb dX6_standsOut_12 (by decide) ?_
    refine lv_bipush (v := 12) hx hb dX6_standsOut_13 (by decide) ?_
    refine kq_cS (As := [.int (nI w), .int 1, .int 12]) (rest := [.ref oM]) ⟨hx, hb, hml, hown, hts⟩ (c_X6_in_n l dC dI cI w 1 12 (by first | assumption | omega) (by first | assumption | omega) (by first | assumption | omega)) (va_cwS 3 hts gX6_standsOut_X6_in rfl rfl rfl (by decide +kernel) ⟨Nat.le_of_ble_eq_true rfl, Nat.le_of_ble_eq_true rfl⟩) (hP.sub [] rfl) hK rfl hl.1 rfl (Nat.le_of_ble_eq_true rfl) dX6_standsOut_15 ⟨Nat.le_of_ble_eq_true rfl, Nat.le_of_ble_eq_true rfl⟩ ?_
    refine lv_if_eq (tgt := 34) hx hb dX6_standsOut_18 (by decide) (fun c_2 => ?_) (fun c_2 => ?_)
    · skip
      have c_2 := kq_bf c_2
      exact absurd hw9 c_2
    · skip
      have c_2 := kq_bt c_2
      refine lv_iload_n hx hb dX6_standsOut_21 rfl (lv_at hl 3 rfl) ?_
      refine lv_iconst (v := 0) hx hb dX6_standsOut_22 (by decide) ?_
      refine lv_iconst (v := 2) hx hb dX6_standsOut_23 (by decide) ?_
      refine kq_cS (As := [.int (nI q), .int 0, .int 2]) (rest := [.ref oM]) ⟨hx, hb, hml, hown, hts⟩ (c_X6_in_n l dC dI cI q 0 2 (by first | assumption | omega) (by first | assumption | omega) (by first | assumption | omega)) (va_cwS 3 hts gX6_standsOut_X6_in rfl rfl rfl (by decide +kernel) ⟨Nat.le_of_ble_eq_true rfl, Nat.le_of_ble_eq_true rfl⟩) (hP.sub [] rfl) hK rfl hl.1 rfl (Nat.le_of_ble_eq_true rfl) dX6_standsOut_24 ⟨Nat.le_of_ble_eq_true rfl, Nat.le_of_ble_eq_true rfl⟩ ?_
      refine lv_if_eq (tgt := 34) hx hb dX6_standsOut_27 (by decide) (fun c_3 => ?_) (fun c_3 => ?_)
      · skip
        have c_3 := kq_bf c_3
        exact absurd c_3 (by omega)
      · skip
        have c_3 := kq_bt c_3
        refine lv_iconst (v := 0) hx hb dX6_standsOut_30 (by decide) ?_
        refine lv_goto (tgt := 35) hx hb dX6_standsOut_31 (by decide) ?_
        refine va_put (D := (dC, dI)) (ci := 6) (v := .int 0) (ty := .int) (C := RX6) (T := TX6) (N := 14) hx hb hts (by decide +kernel) tyX6 tyX6_ok nmX6 hown hK.1 hP hD hS 0 rfl rfl 0 (by decide) (hts (.fieldLink RX6 22 "NoteWatermarksModel" "thrown" "I") (by decide +kernel)) (fun _ h9 => h9) rfl (by decide +kernel) rfl rfl (Nat.le_of_ble_eq_true rfl) dX6_standsOut_35 (fun H locs hP hD hS => ?_)
        have hP : va_P (dC, dI) vwCl [(oM, .inr (6, [.int 0, .ref rz, .ref r2, .int (nI km), .ref rb, .int (nI n), .int tp, .int lf, .int hg, .int wd, .ref rq, .int pm, .int stt, .long hh])), (rz, .inl (cI, 389, .inl z))] H := hP
        have hD : va_D A [(oM, .inr (6, [.int 0, .ref rz, .ref r2, .int (nI km), .ref rb, .int (nI n), .int tp, .int lf, .int hg, .int wd, .ref rq, .int pm, .int stt, .long hh])), (rz, .inl (cI, 389, .inl z))] := hD
        refine lv_aload_n hx hb dX6_standsOut_38 rfl (lv_at hl 0 rfl) ?_
        refine va_get (D := (dC, dI)) (ci := 6) (v := .int 0) (C := RX6) (T := TX6) (N := 14) hx hb hts (by decide +kernel) hown hK.1 hP 0 rfl rfl 0 (by decide) (hts (.fieldLink RX6 22 "NoteWatermarksModel" "thrown" "I") (by decide +kernel)) (fun _ h9 => h9) rfl dX6_standsOut_39 ?_
        refine lv_if_le (tgt := 49) hx hb dX6_standsOut_42 (by decide) (fun _ => ?_) (fun q => absurd q (by decide))
        refine lv_aload_n hx hb dX6_standsOut_49 rfl (lv_at hl 0 rfl) ?_
        refine lv_iload_n hx hb dX6_standsOut_50 rfl (lv_at hl 1 rfl) ?_
        refine lv_iload_n hx hb dX6_standsOut_51 rfl (lv_at hl 2 rfl) ?_
        refine lv_iload_n hx hb dX6_standsOut_52 rfl (lv_at hl 3 rfl) ?_
        refine kq_callMi (wr := []) (va_runV (As := [.int (nI h), .int (nI w), .int (nI q)]) (rest := []) ⟨hx, hb, hml, hown, hts⟩ (c_X6_standing l dC dI cI H.size oM rz r2 rb rq km n 0 tp lf hg wd pm stt hh z v h w q (by first | assumption | omega) (by first | assumption | omega) (by first | assumption | omega) (by first | assumption | omega) (by first | assumption | omega)) (cwV 3 hts gX6_standsOut_X6_standing rfl rfl rfl (by decide +kernel) ⟨Nat.le_of_ble_eq_true rfl, Nat.le_of_ble_eq_true rfl⟩) (kq_preV (ci := 6) (q0 := 0) (hP.sub [0, 1] rfl) (hD.sub [0, 1] (by decide) rfl) hK rfl rfl) rfl rfl hl.1 rfl (lv_room (Nat.le_of_ble_eq_true rfl)) dX6_standsOut_53 ⟨Nat.le_of_ble_eq_true rfl, Nat.le_of_ble_eq_true rfl⟩) hP hD hS hA [0, 1] [] rfl rfl (by decide) (by decide) (fun r_5 u_6 H locs hw_7 hP hD hS => ?_)
        obtain ⟨t1_8, t2_9, t3_10, t4_11⟩ := u_6
        have hP : va_P (dC, dI) vwCl [(oM, .inr (6, [.int 0, .ref rz, .ref r2, .int (nI km), .ref rb, .int (nI n), .int t1_8, .int t2_9, .int t3_10, .int t4_11, .ref rq, .int pm, .int stt, .long hh])), (rz, .inl (cI, 389, .inl z))] H := hP
        have hD : va_D A [(oM, .inr (6, [.int 0, .ref rz, .ref r2, .int (nI km), .ref rb, .int (nI n), .int t1_8, .int t2_9, .int t3_10, .int t4_11, .ref rq, .int pm, .int stt, .long hh])), (rz, .inl (cI, 389, .inl z))] := hD
        obtain rfl := hw_7
        exact kq_retMi (t1_8, t2_9, t3_10, t4_11) hx hb hr hlocks hP hD hS dX6_standsOut_56 (by rfl)
