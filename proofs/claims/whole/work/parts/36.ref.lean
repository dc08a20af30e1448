set_option maxHeartbeats 4000000 in
set_option maxRecDepth 100000 in
theorem c_X6_toldFigure (l : Launch) (dC : Nat → ClassId) (dI : Nat → Nat → Nat) (cI : ClassId) (sz : Nat) (oM : Nat) (rz : Nat) (r2 : Nat) (rb : Nat) (rq : Nat) (km : Nat) (n : Nat) (th : Int32) (tp : Int32) (lf : Int32) (hg : Int32) (wd : Int32) (pm : Int32) (stt : Int32) (hh : Int64) (z : Nat → Int32) (v : Nat → Int32) (f : Nat) (q : Nat) (hz : n_Z v z) (hI : n_I v) (hf : f < 4) (hq : q < 5) : Met l yX6_toldFigure wsX6_toldFigure ({ frames := 8, cells := 0, slots := 0, locals := 188 }) (kq_M dC dI cI [.ref oM, .int (nI f), .int (nI q)] sz [(oM, .inr (6, [.int th, .ref rz, .ref r2, .int (nI km), .ref rb, .int (nI n), .int tp, .int lf, .int hg, .int wd, .ref rq, .int pm, .int stt, .long hh])), (rz, .inl (cI, 389, .inl z))]) (va_Qi (fun (r : Int32) (u : Int32 × Int32 × Int32 × Int32) => r = n_fo v f q) (kq_B dC dI (va_A [(oM, .inr (6, [.int th, .ref rz, .ref r2, .int (nI km), .ref rb, .int (nI n), .int tp, .int lf, .int hg, .int wd, .ref rq, .int pm, .int stt, .long hh])), (rz, .inl (cI, 389, .inl z))] sz) (fun u : Int32 × Int32 × Int32 × Int32 => [(oM, .inr (6, [.int th, .ref rz, .ref r2, .int (nI km), .ref rb, .int (nI n), .int u.1, .int u.2.1, .int u.2.2.1, .int u.2.2.2, .ref rq, .int pm, .int stt, .long hh])), (rz, .inl (cI, 389, .inl z))])) (va_A [(oM, .inr (6, [.int th, .ref rz, .ref r2, .int (nI km), .ref rb, .int (nI n), .int tp, .int lf, .int hg, .int wd, .ref rq, .int pm, .int stt, .long hh])), (rz, .inl (cI, 389, .inl z))] sz)) 0 0 (va_A [(oM, .inr (6, [.int th, .ref rz, .ref r2, .int (nI km), .ref rb, .int (nI n), .int tp, .int lf, .int hg, .int wd, .ref rq, .int pm, .int stt, .long hh])), (rz, .inl (cI, 389, .inl z))] sz) := by
  refine kq_startM (cc := cX6_toldFigure) (maxL := 3) (ret := (some .int)) (by decide) rfl (Nat.le_of_ble_eq_true rfl) ?_
  intro p e s m below meth c hx hb hr hml hown hlocks hts hsz hA hP hD hS hK hnm ls hl
  subst hsz
  generalize hAe : va_A [(oM, .inr (6, [.int th, .ref rz, .ref r2, .int (nI km), .ref rb, .int (nI n), .int tp, .int lf, .int hg, .int wd, .ref rq, .int pm, .int stt, .long hh])), (rz, .inl (cI, 389, .inl z))] s.heap.size = A at hA hD hS ⊢
  have hown : s.vm.findClass RX6 = some m.cls := hown
  have hl : lv_has ls 3 [(0, .ref oM), (1, .int (nI f)), (2, .int (nI q))] := hl
  have hfr := n_I_fr hI hf
  refine lv_aload_n hx hb dX6_toldFigure_0 rfl (lv_at hl 0 rfl) ?_
  refine lv_iload_n hx hb dX6_toldFigure_1 rfl (lv_at hl 1 rfl) ?_
  refine kq_cV (As := [.int (nI f)]) (rest := []) ⟨hx, hb, hml, hown, hts⟩ (c_X6_isThere l dC dI cI oM rz r2 rb rq km n th tp lf hg wd pm stt hh z v f (by first | assumption | omega) (by first | assumption | omega)) (cwV 1 hts gX6_toldFigure_X6_isThere rfl rfl rfl (by decide +kernel) ⟨Nat.le_of_ble_eq_true rfl, Nat.le_of_ble_eq_true rfl⟩) (hP.sub [0, 1] rfl) hK (ci := 6) (q0 := 0) rfl rfl rfl rfl hl.1 rfl (Nat.le_of_ble_eq_true rfl) dX6_toldFigure_2 ⟨Nat.le_of_ble_eq_true rfl, Nat.le_of_ble_eq_true rfl⟩ ?_
  refine lv_if_ne (tgt := 10) hx hb dX6_toldFigure_5 (by decide) (fun c_1 => ?_) (fun c_1 => ?_)
  · skip
    have c_1 := kq_bt c_1
    have ht : 0 < n_f v f 2 := c_1
    have hw0 : 0 < n_f v f 3 := hfr.2.1 ht
    refine lv_aload_n hx hb dX6_toldFigure_10 rfl (lv_at hl 0 rfl) ?_
    refine lv_iload_n hx hb dX6_toldFigure_11 rfl (lv_at hl 1 rfl) ?_
    refine kq_callMv (wr := []) (va_runV (As := [.int (nI f)]) (rest := []) ⟨hx, hb, hml, hown, hts⟩ (c_X6_take l dC dI cI s.heap.size oM rz r2 rb rq km n th tp lf hg wd pm stt hh z v f (by first | assumption | omega) (by first | assumption | omega) (by first | assumption | omega)) (cwV 1 hts gX6_toldFigure_X6_take rfl rfl rfl (by decide +kernel) ⟨Nat.le_of_ble_eq_true rfl, Nat.le_of_ble_eq_true rfl⟩) (kq_preV (ci := 6) (q0 := 0) (hP.sub [0, 1] rfl) (hD.sub [0, 1] (by decide) rfl) hK rfl rfl) rfl rfl hl.1 rfl (lv_room (Nat.le_of_ble_eq_true rfl)) dX6_toldFigure_12 ⟨Nat.le_of_ble_eq_true rfl, Nat.le_of_ble_eq_true rfl⟩) hP hD hS hA [0, 1] [] rfl rfl (by decide) (by decide) (fun u_3 H locs hw_4 hP hD hS => ?_)
    have hP : va_P (dC, dI) vwCl [(oM, .inr (6, [.int th, .ref rz, .ref r2, .int (nI km), .ref rb, .int (nI n), .int (nI (n_f v f 0)), .int (nI (n_f v f 1)), .int (nI (n_f v f 2)), .int (nI (n_f v f 3)), .ref rq, .int pm, .int stt, .long hh])), (rz, .inl (cI, 389, .inl z))] H := hP
    have hD : va_D A [(oM, .inr (6, [.int th, .ref rz, .ref r2, .int (nI km), .ref rb, .int (nI n), .int (nI (n_f v f 0)), .int (nI (n_f v f 1)), .int (nI (n_f v f 2)), .int (nI (n_f v f 3)), .ref rq, .int pm, .int stt, .long hh])), (rz, .inl (cI, 389, .inl z))] := hD
    refine lv_iload_n hx hb dX6_toldFigure_15 rfl (lv_at hl 2 rfl) ?_
    rcases (show q = 0 ∨ q = 1 ∨ q = 2 ∨ q = 3 ∨ q = 4 from by omega) with rfl | rfl | rfl | rfl | rfl
    · skip
      refine lv_tableIn (off := 32) (tgt := 48) hx hb dX6_toldFigure_16 (by decide) (by decide) (by decide) (by decide) ?_
      refine lv_aload_n hx hb dX6_toldFigure_48 rfl (lv_at hl 0 rfl) ?_
      refine kq_cV (As := []) (rest := []) ⟨hx, hb, hml, hown, hts⟩ (c_X6_cells l dC dI cI oM rz r2 rb rq km n (n_f v f 0) (n_f v f 1) (n_f v f 2) (n_f v f 3) th pm stt hh z v ) (cwV 0 hts gX6_toldFigure_X6_cells rfl rfl rfl (by decide +kernel) ⟨Nat.le_of_ble_eq_true rfl, Nat.le_of_ble_eq_true rfl⟩) (hP.sub [0] rfl) hK (ci := 6) (q0 := 0) rfl rfl rfl rfl hl.1 rfl (Nat.le_of_ble_eq_true rfl) dX6_toldFigure_49 ⟨Nat.le_of_ble_eq_true rfl, Nat.le_of_ble_eq_true rfl⟩ ?_
      exact kq_retMi (nI (n_f v f 0), nI (n_f v f 1), nI (n_f v f 2), nI (n_f v f 3)) hx hb hr hlocks hP hD hS dX6_toldFigure_52 (by rw [n_fo, if_pos ht]; rfl)
    · skip
      refine lv_tableIn (off := 37) (tgt := 53) hx hb dX6_toldFigure_16 (by decide) (by decide) (by decide) (by decide) ?_
      refine lv_aload_n hx hb dX6_toldFigure_53 rfl (lv_at hl 0 rfl) ?_
      refine kq_cV (As := []) (rest := []) ⟨hx, hb, hml, hown, hts⟩ (c_X6_frame l dC dI cI oM rz r2 rb rq km n (n_f v f 0) (n_f v f 1) (n_f v f 2) (n_f v f 3) th pm stt hh z v (by first | assumption | omega) (by first | assumption | omega) (by first | assumption | omega) (by first | assumption | omega)) (cwV 0 hts gX6_toldFigure_X6_frame rfl rfl rfl (by decide +kernel) ⟨Nat.le_of_ble_eq_true rfl, Nat.le_of_ble_eq_true rfl⟩) (hP.sub [0] rfl) hK (ci := 6) (q0 := 0) rfl rfl rfl rfl hl.1 rfl (Nat.le_of_ble_eq_true rfl) dX6_toldFigure_54 ⟨Nat.le_of_ble_eq_true rfl, Nat.le_of_ble_eq_true rfl⟩ ?_
      exact kq_retMi (nI (n_f v f 0), nI (n_f v f 1), nI (n_f v f 2), nI (n_f v f 3)) hx hb hr hlocks hP hD hS dX6_toldFigure_57 (by rw [n_fo, if_pos ht]; rfl)
    · skip
      refine lv_tableIn (off := 42) (tgt := 58) hx hb dX6_toldFigure_16 (by decide) (by decide) (by decide) (by decide) ?_
      refine lv_aload_n hx hb dX6_toldFigure_58 rfl (lv_at hl 0 rfl) ?_
      refine kq_cV (As := []) (rest := []) ⟨hx, hb, hml, hown, hts⟩ (c_X6_isHidden l dC dI cI oM rz r2 rb rq km n (n_f v f 0) (n_f v f 1) (n_f v f 2) (n_f v f 3) th pm stt hh z v f (by first | assumption | omega) (by first | assumption | omega) (by first | assumption | omega) (by first | assumption | omega) (by first | assumption | omega) (by first | assumption | omega) (by first | assumption | omega) (by first | assumption | omega) (by first | assumption | omega)) (cwV 0 hts gX6_toldFigure_X6_isHidden rfl rfl rfl (by decide +kernel) ⟨Nat.le_of_ble_eq_true rfl, Nat.le_of_ble_eq_true rfl⟩) (hP.sub [0, 1] rfl) hK (ci := 6) (q0 := 0) rfl rfl rfl rfl hl.1 rfl (Nat.le_of_ble_eq_true rfl) dX6_toldFigure_59 ⟨Nat.le_of_ble_eq_true rfl, Nat.le_of_ble_eq_true rfl⟩ ?_
      refine lv_if_eq (tgt := 69) hx hb dX6_toldFigure_62 (by decide) (fun c_5 => ?_) (fun c_5 => ?_)
      · skip
        have c_5 := kq_bf c_5
        refine lv_iconst (v := 0) hx hb dX6_toldFigure_69 (by decide) ?_
        exact kq_retMi (nI (n_f v f 0), nI (n_f v f 1), nI (n_f v f 2), nI (n_f v f 3)) hx hb hr hlocks hP hD hS dX6_toldFigure_70 (by rw [n_fo, if_pos ht, n_fo1]; first | rw [if_pos (by assumption)] | rw [if_neg (by assumption)])
      · skip
        have c_5 := kq_bt c_5
        refine lv_iconst (v := 1) hx hb dX6_toldFigure_65 (by decide) ?_
        refine lv_goto (tgt := 70) hx hb dX6_toldFigure_66 (by decide) ?_
        exact kq_retMi (nI (n_f v f 0), nI (n_f v f 1), nI (n_f v f 2), nI (n_f v f 3)) hx hb hr hlocks hP hD hS dX6_toldFigure_70 (by rw [n_fo, if_pos ht, n_fo1]; first | rw [if_pos (by assumption)] | rw [if_neg (by assumption)])
    · skip
      refine lv_tableIn (off := 55) (tgt := 71) hx hb dX6_toldFigure_16 (by decide) (by decide) (by decide) (by decide) ?_
      refine lv_aload_n hx hb dX6_toldFigure_71 rfl (lv_at hl 0 rfl) ?_
      refine kq_cV (As := []) (rest := []) ⟨hx, hb, hml, hown, hts⟩ (c_X6_firstSeen l dC dI cI oM rz r2 rb rq km n (n_f v f 0) (n_f v f 1) (n_f v f 2) (n_f v f 3) th pm stt hh z v f (by first | assumption | omega) (by first | assumption | omega) (by first | assumption | omega) (by first | assumption | omega) (by first | assumption | omega) (by first | assumption | omega) (by first | assumption | omega) (by first | assumption | omega) (by first | assumption | omega) (by first | assumption | omega)) (cwV 0 hts gX6_toldFigure_X6_firstSeen rfl rfl rfl (by decide +kernel) ⟨Nat.le_of_ble_eq_true rfl, Nat.le_of_ble_eq_true rfl⟩) (hP.sub [0, 1] rfl) hK (ci := 6) (q0 := 0) rfl rfl rfl rfl hl.1 rfl (Nat.le_of_ble_eq_true rfl) dX6_toldFigure_72 ⟨Nat.le_of_ble_eq_true rfl, Nat.le_of_ble_eq_true rfl⟩ ?_
      exact kq_retMi (nI (n_f v f 0), nI (n_f v f 1), nI (n_f v f 2), nI (n_f v f 3)) hx hb hr hlocks hP hD hS dX6_toldFigure_75 (by rw [n_fo, if_pos ht]; rfl)
    · skip
      refine lv_tableOut (tgt := 76) hx hb dX6_toldFigure_16 (by decide) (by decide) ?_
      refine lv_aload_n hx hb dX6_toldFigure_76 rfl (lv_at hl 0 rfl) ?_
      refine lv_bipush (v := 100) hx hb dX6_toldFigure_77 (by decide) ?_
      refine kq_cV (As := [.int 100]) (rest := []) ⟨hx, hb, hml, hown, hts⟩ (c_X6_goodOn l dC dI cI oM rz r2 rb rq km n (n_f v f 0) (n_f v f 1) (n_f v f 2) (n_f v f 3) th pm stt hh z v f 100 (by first | assumption | omega) (by first | assumption | omega) (by first | assumption | omega) (by first | assumption | omega) (by first | assumption | omega) (by first | assumption | omega) (by first | assumption | omega) (by first | assumption | omega) (by first | assumption | omega) (by first | assumption | omega) (by first | assumption | omega)) (cwV 1 hts gX6_toldFigure_X6_goodOn rfl rfl rfl (by decide +kernel) ⟨Nat.le_of_ble_eq_true rfl, Nat.le_of_ble_eq_true rfl⟩) (hP.sub [0, 1] rfl) hK (ci := 6) (q0 := 0) rfl rfl rfl rfl hl.1 rfl (Nat.le_of_ble_eq_true rfl) dX6_toldFigure_79 ⟨Nat.le_of_ble_eq_true rfl, Nat.le_of_ble_eq_true rfl⟩ ?_
      exact kq_retMi (nI (n_f v f 0), nI (n_f v f 1), nI (n_f v f 2), nI (n_f v f 3)) hx hb hr hlocks hP hD hS dX6_toldFigure_82 (by rw [n_fo, if_pos ht]; rfl)
  · skip
    have c_1 := kq_bf c_1
    refine lv_iconst (v := (-1)) hx hb dX6_toldFigure_8 (by decide) ?_
    exact kq_retMi (tp, lf, hg, wd) hx hb hr hlocks hP hD hS dX6_toldFigure_9 (by rw [n_fo, if_neg (by assumption)])
set_option maxHeartbeats 4000000 in
set_option maxRecDepth 100000 in
theorem c_X6_toldContrast (l : Launch) (dC : Nat → ClassId) (dI : Nat → Nat → Nat) (cI : ClassId) (sz : Nat) (oM : Nat) (rz : Nat) (r2 : Nat) (rb : Nat) (rq : Nat) (km : Nat) (n : Nat) (th : Int32) (tp : Int32) (lf : Int32) (hg : Int32) (wd : Int32) (pm : Int32) (stt : Int32) (hh : Int64) (z : Nat → Int32) (v : Nat → Int32) (f : Nat) (k : Nat) (hz : n_Z v z) (hI : n_I v) (hf : f < 4) (hk : k < 1000) : Met l yX6_toldContrast wsX6_toldContrast ({ frames := 5, cells := 0, slots := 0, locals := 122 }) (kq_M dC dI cI [.ref oM, .int (nI f), .int (nI k)] sz [(oM, .inr (6, [.int th, .ref rz, .ref r2, .int (nI km), .ref rb, .int (nI n), .int tp, .int lf, .int hg, .int wd, .ref rq, .int pm, .int stt, .long hh])), (rz, .inl (cI, 389, .inl z))]) (va_Qi (fun (r : Int32) (u : Int32 × Int32 × Int32 × Int32) => r = n_cn v f k) (kq_B dC dI (va_A [(oM, .inr (6, [.int th, .ref rz, .ref r2, .int (nI km), .ref rb, .int (nI n), .int tp, .int lf, .int hg, .int wd, .ref rq, .int pm, .int stt, .long hh])), (rz, .inl (cI, 389, .inl z))] sz) (fun u : Int32 × Int32 × Int32 × Int32 => [(oM, .inr (6, [.int th, .ref rz, .ref r2, .int (nI km), .ref rb, .int (nI n), .int u.1, .int u.2.1, .int u.2.2.1, .int u.2.2.2, .ref rq, .int pm, .int stt, .long hh])), (rz, .inl (cI, 389, .inl z))])) (va_A [(oM, .inr (6, [.int th, .ref rz, .ref r2, .int (nI km), .ref rb, .int (nI n), .int tp, .int lf, .int hg, .int wd, .ref rq, .int pm, .int stt, .long hh])), (rz, .inl (cI, 389, .inl z))] sz)) 0 0 (va_A [(oM, .inr (6, [.int th, .ref rz, .ref r2, .int (nI km), .ref rb, .int (nI n), .int tp, .int lf, .int hg, .int wd, .ref rq, .int pm, .int stt, .long hh])), (rz, .inl (cI, 389, .inl z))] sz) := by
  refine kq_startM (cc := cX6_toldContrast) (maxL := 3) (ret := (some .int)) (by decide) rfl (Nat.le_of_ble_eq_true rfl) ?_
  intro p e s m below meth c hx hb hr hml hown hlocks hts hsz hA hP hD hS hK hnm ls hl
  subst hsz
  generalize hAe : va_A [(oM, .inr (6, [.int th, .ref rz, .ref r2, .int (nI km), .ref rb, .int (nI n), .int tp, .int lf, .int hg, .int wd, .ref rq, .int pm, .int stt, .long hh])), (rz, .inl (cI, 389, .inl z))] s.heap.size = A at hA hD hS ⊢
  have hown : s.vm.findClass RX6 = some m.cls := hown
  have hl : lv_has ls 3 [(0, .ref oM), (1, .int (nI f)), (2, .int (nI k))] := hl
  have hfr := n_I_fr hI hf
  refine lv_aload_n hx hb dX6_toldContrast_0 rfl (lv_at hl 0 rfl) ?_
  refine lv_iload_n hx hb dX6_toldContrast_1 rfl (lv_at hl 1 rfl) ?_
  refine kq_cV (As := [.int (nI f)]) (rest := []) ⟨hx, hb, hml, hown, hts⟩ (c_X6_isThere l dC dI cI oM rz r2 rb rq km n th tp lf hg wd pm stt hh z v f (by first | assumption | omega) (by first | assumption | omega)) (cwV 1 hts gX6_toldContrast_X6_isThere rfl rfl rfl (by decide +kernel) ⟨Nat.le_of_ble_eq_true rfl, Nat.le_of_ble_eq_true rfl⟩) (hP.sub [0, 1] rfl) hK (ci := 6) (q0 := 0) rfl rfl rfl rfl hl.1 rfl (Nat.le_of_ble_eq_true rfl) dX6_toldContrast_2 ⟨Nat.le_of_ble_eq_true rfl, Nat.le_of_ble_eq_true rfl⟩ ?_
  refine lv_if_ne (tgt := 10) hx hb dX6_toldContrast_5 (by decide) (fun c_1 => ?_) (fun c_1 => ?_)
  · skip
    have c_1 := kq_bt c_1
    have ht : 0 < n_f v f 2 := c_1
    have hw0 : 0 < n_f v f 3 := hfr.2.1 ht
    refine lv_aload_n hx hb dX6_toldContrast_10 rfl (lv_at hl 0 rfl) ?_
    refine lv_iload_n hx hb dX6_toldContrast_11 rfl (lv_at hl 1 rfl) ?_
    refine kq_callMv (wr := []) (va_runV (As := [.int (nI f)]) (rest := []) ⟨hx, hb, hml, hown, hts⟩ (c_X6_take l dC dI cI s.heap.size oM rz r2 rb rq km n th tp lf hg wd pm stt hh z v f (by first | assumption | omega) (by first | assumption | omega) (by first | assumption | omega)) (cwV 1 hts gX6_toldContrast_X6_take rfl rfl rfl (by decide +kernel) ⟨Nat.le_of_ble_eq_true rfl, Nat.le_of_ble_eq_true rfl⟩) (kq_preV (ci := 6) (q0 := 0) (hP.sub [0, 1] rfl) (hD.sub [0, 1] (by decide) rfl) hK rfl rfl) rfl rfl hl.1 rfl (lv_room (Nat.le_of_ble_eq_true rfl)) dX6_toldContrast_12 ⟨Nat.le_of_ble_eq_true rfl, Nat.le_of_ble_eq_true rfl⟩) hP hD hS hA [0, 1] [] rfl rfl (by decide) (by decide) (fun u_3 H locs hw_4 hP hD hS => ?_)
    have hP : va_P (dC, dI) vwCl [(oM, .inr (6, [.int th, .ref rz, .ref r2, .int (nI km), .ref rb, .int (nI n), .int (nI (n_f v f 0)), .int (nI (n_f v f 1)), .int (nI (n_f v f 2)), .int (nI (n_f v f 3)), .ref rq, .int pm, .int stt, .long hh])), (rz, .inl (cI, 389, .inl z))] H := hP
    have hD : va_D A [(oM, .inr (6, [.int th, .ref rz, .ref r2, .int (nI km), .ref rb, .int (nI n), .int (nI (n_f v f 0)), .int (nI (n_f v f 1)), .int (nI (n_f v f 2)), .int (nI (n_f v f 3)), .ref rq, .int pm, .int stt, .long hh])), (rz, .inl (cI, 389, .inl z))] := hD
    refine lv_aload_n hx hb dX6_toldContrast_15 rfl (lv_at hl 0 rfl) ?_
    refine lv_iload_n hx hb dX6_toldContrast_16 rfl (lv_at hl 2 rfl) ?_
    refine kq_cV (As := [.int (nI k)]) (rest := []) ⟨hx, hb, hml, hown, hts⟩ (c_X6_contrastOn l dC dI cI oM rz r2 rb rq km n (n_f v f 0) (n_f v f 1) (n_f v f 2) (n_f v f 3) th pm stt hh z v k (by first | assumption | omega) (by first | assumption | omega) (by first | assumption | omega) (by first | assumption | omega) (by first | assumption | omega) (by first | assumption | omega) (by first | assumption | omega)) (cwV 1 hts gX6_toldContrast_X6_contrastOn rfl rfl rfl (by decide +kernel) ⟨Nat.le_of_ble_eq_true rfl, Nat.le_of_ble_eq_true rfl⟩) (hP.sub [0, 1] rfl) hK (ci := 6) (q0 := 0) rfl rfl rfl rfl hl.1 rfl (Nat.le_of_ble_eq_true rfl) dX6_toldContrast_17 ⟨Nat.le_of_ble_eq_true rfl, Nat.le_of_ble_eq_true rfl⟩ ?_
    refine lv_sipush (v := 1000) hx hb dX6_toldContrast_20 (by decide) ?_
    refine lv_iadd hx hb dX6_toldContrast_23 ?_
    exact kq_retMi (nI (n_f v f 0), nI (n_f v f 1), nI (n_f v f 2), nI (n_f v f 3)) hx hb hr hlocks hP hD hS dX6_toldContrast_24 (by rw [n_cn, if_pos ht]; rfl)
  · skip
    have c_1 := kq_bf c_1
    refine lv_iconst (v := (-1)) hx hb dX6_toldContrast_8 (by decide) ?_
    exact kq_retMi (tp, lf, hg, wd) hx hb hr hlocks hP hD hS dX6_toldContrast_9 (by rw [n_cn, if_neg (by assumption)])
set_option maxHeartbeats 4000000 in
set_option maxRecDepth 100000 in
theorem c_X6_phaseFor (l : Launch) (dC : Nat → ClassId) (dI : Nat → Nat → Nat) (cI : ClassId) (sz : Nat) (oM : Nat) (rz : Nat) (r2 : Nat) (rb : Nat) (rq : Nat) (km : Nat) (n : Nat) (th : Int32) (tp : Int32) (lf : Int32) (hg : Int32) (wd : Int32) (pm : Int32) (stt : Int32) (hh : Int64) (z : Nat → Int32) (v : Nat → Int32) (a : Nat) (f : Nat) (hz : n_Z v z) (hI : n_I v) (ha : a < 3) (hf : f < 4) : Met l yX6_phaseFor wsX6_phaseFor ({ frames := 6, cells := 0, slots := 0, locals := 144 }) (kq_M dC dI cI [.ref oM, .int (nI a), .int (nI f)] sz [(oM, .inr (6, [.int th, .ref rz, .ref r2, .int (nI km), .ref rb, .int (nI n), .int tp, .int lf, .int hg, .int wd, .ref rq, .int pm, .int stt, .long hh])), (rz, .inl (cI, 389, .inl z))]) (va_Qi (fun (r : Int32) (u : Int32 × Int32 × Int32 × Int32) => r = n_bph v a f) (kq_B dC dI (va_A [(oM, .inr (6, [.int th, .ref rz, .ref r2, .int (nI km), .ref rb, .int (nI n), .int tp, .int lf, .int hg, .int wd, .ref rq, .int pm, .int stt, .long hh])), (rz, .inl (cI, 389, .inl z))] sz) (fun u : Int32 × Int32 × Int32 × Int32 => [(oM, .inr (6, [.int th, .ref rz, .ref r2, .int (nI km), .ref rb, .int (nI n), .int u.1, .int u.2.1, .int u.2.2.1, .int u.2.2.2, .ref rq, .int pm, .int stt, .long hh])), (rz, .inl (cI, 389, .inl z))])) (va_A [(oM, .inr (6, [.int th, .ref rz, .ref r2, .int (nI km), .ref rb, .int (nI n), .int tp, .int lf, .int hg, .int wd, .ref rq, .int pm, .int stt, .long hh])), (rz, .inl (cI, 389, .inl z))] sz)) 0 0 (va_A [(oM, .inr (6, [.int th, .ref rz, .ref r2, .int (nI km), .ref rb, .int (nI n), .int tp, .int lf, .int hg, .int wd, .ref rq, .int pm, .int stt, .long hh])), (rz, .inl (cI, 389, .inl z))] sz) := by
  refine kq_startM (cc := cX6_phaseFor) (maxL := 8) (ret := (some .int)) (by decide) rfl (Nat.le_of_ble_eq_true rfl) ?_
  intro p e s m below meth c hx hb hr hml hown hlocks hts hsz hA hP hD hS hK hnm ls hl
  subst hsz
  generalize hAe : va_A [(oM, .inr (6, [.int th, .ref rz, .ref r2, .int (nI km), .ref rb, .int (nI n), .int tp, .int lf, .int hg, .int wd, .ref rq, .int pm, .int stt, .long hh])), (rz, .inl (cI, 389, .inl z))] s.heap.size = A at hA hD hS ⊢
  have hown : s.vm.findClass RX6 = some m.cls := hown
  have hl : lv_has ls 8 [(0, .ref oM), (1, .int (nI a)), (2, .int (nI f))] := hl
  have hfr := n_I_fr hI hf
  have h4 := n_I_c4 hI ha
  have h16 := n_I_c16 hI ha
  refine lv_aload_n hx hb dX6_phaseFor_0 rfl (lv_at hl 0 rfl) ?_
  refine lv_iload_n hx hb dX6_phaseFor_1 rfl (lv_at hl 2 rfl) ?_
  refine kq_cV (As := [.int (nI f)]) (rest := []) ⟨hx, hb, hml, hown, hts⟩ (c_X6_isThere l dC dI cI oM rz r2 rb rq km n th tp lf hg wd pm stt hh z v f (by first | assumption | omega) (by first | assumption | omega)) (cwV 1 hts gX6_phaseFor_X6_isThere rfl rfl rfl (by decide +kernel) ⟨Nat.le_of_ble_eq_true rfl, Nat.le_of_ble_eq_true rfl⟩) (hP.sub [0, 1] rfl) hK (ci := 6) (q0 := 0) rfl rfl rfl rfl hl.1 rfl (Nat.le_of_ble_eq_true rfl) dX6_phaseFor_2 ⟨Nat.le_of_ble_eq_true rfl, Nat.le_of_ble_eq_true rfl⟩ ?_
  refine lv_if_ne (tgt := 10) hx hb dX6_phaseFor_5 (by decide) (fun c_1 => ?_) (fun c_1 => ?_)
  · skip
    have c_1 := kq_bt c_1
    have ht : 0 < n_f v f 2 := c_1
    have hw0 : 0 < n_f v f 3 := hfr.2.1 ht
    refine lv_aload_n hx hb dX6_phaseFor_10 rfl (lv_at hl 0 rfl) ?_
    refine lv_iload_n hx hb dX6_phaseFor_11 rfl (lv_at hl 2 rfl) ?_
    refine kq_callMv (wr := []) (va_runV (As := [.int (nI f)]) (rest := []) ⟨hx, hb, hml, hown, hts⟩ (c_X6_take l dC dI cI s.heap.size oM rz r2 rb rq km n th tp lf hg wd pm stt hh z v f (by first | assumption | omega) (by first | assumption | omega) (by first | assumption | omega)) (cwV 1 hts gX6_phaseFor_X6_take rfl rfl rfl (by decide +kernel) ⟨Nat.le_of_ble_eq_true rfl, Nat.le_of_ble_eq_true rfl⟩) (kq_preV (ci := 6) (q0 := 0) (hP.sub [0, 1] rfl) (hD.sub [0, 1] (by decide) rfl) hK rfl rfl) rfl rfl hl.1 rfl (lv_room (Nat.le_of_ble_eq_true rfl)) dX6_phaseFor_12 ⟨Nat.le_of_ble_eq_true rfl, Nat.le_of_ble_eq_true rfl⟩) hP hD hS hA [0, 1] [] rfl rfl (by decide) (by decide) (fun u_3 H locs hw_4 hP hD hS => ?_)
    have hP : va_P (dC, dI) vwCl [(oM, .inr (6, [.int th, .ref rz, .ref r2, .int (nI km), .ref rb, .int (nI n), .int (nI (n_f v f 0)), .int (nI (n_f v f 1)), .int (nI (n_f v f 2)), .int (nI (n_f v f 3)), .ref rq, .int pm, .int stt, .long hh])), (rz, .inl (cI, 389, .inl z))] H := hP
    have hD : va_D A [(oM, .inr (6, [.int th, .ref rz, .ref r2, .int (nI km), .ref rb, .int (nI n), .int (nI (n_f v f 0)), .int (nI (n_f v f 1)), .int (nI (n_f v f 2)), .int (nI (n_f v f 3)), .ref rq, .int pm, .int stt, .long hh])), (rz, .inl (cI, 389, .inl z))] := hD
    refine lv_aload_n hx hb dX6_phaseFor_15 rfl (lv_at hl 0 rfl) ?_
    refine va_get (D := (dC, dI)) (ci := 6) (v := .ref rz) (C := RX6) (T := TX6) (N := 14) hx hb hts (by decide +kernel) hown hK.1 hP 0 rfl rfl 1 (by decide) (hts (.fieldLink RX6 7 "NoteWatermarksModel" "z" "[I") (by decide +kernel)) (fun _ h9 => h9) rfl dX6_phaseFor_16 ?_
    refine lv_bipush (v := 6) hx hb dX6_phaseFor_19 (by decide) ?_
    refine lv_iload_n hx hb dX6_phaseFor_21 rfl (lv_at hl 1 rfl) ?_
    refine lv_iadd hx hb dX6_phaseFor_22 ?_
    refine kq_top (z := nI (6 + a)) (nI_add 6 a) ?_
    refine va_iald hx hb hK.1 hP 1 0 rfl rfl (vp_in_nI (show 6 + a < 389 from by omega) (by omega)) dX6_phaseFor_23 ?_
    refine kq_top (z := z (6 + a)) (congrArg z (nI_clamp (Nat.lt_trans (show 6 + a < 389 from by omega) (by omega)))) ?_
    refine lv_istore_n (lv' := [(3, .int (z (6 + a))), (0, .ref oM), (1, .int (nI a)), (2, .int (nI f))]) hx hb dX6_phaseFor_24 rfl hl (by decide) rfl (fun ls hl => ?_)
    refine lv_iconst (v := (-1)) hx hb dX6_phaseFor_25 (by decide) ?_
    refine lv_istore (lv' := [(4, .int (-1)), (3, .int (z (6 + a))), (0, .ref oM), (1, .int (nI a)), (2, .int (nI f))]) hx hb dX6_phaseFor_26 hl (by decide) rfl (fun ls hl => ?_)
    refine lv_iconst (v := (-1)) hx hb dX6_phaseFor_28 (by decide) ?_
    refine lv_istore (lv' := [(5, .int (-1)), (4, .int (-1)), (3, .int (z (6 + a))), (0, .ref oM), (1, .int (nI a)), (2, .int (nI f))]) hx hb dX6_phaseFor_29 hl (by decide) rfl (fun ls hl => ?_)
    refine lv_iconst (v := 0) hx hb dX6_phaseFor_31 (by decide) ?_
    refine lv_istore (lv' := [(6, .int 0), (5, .int (-1)), (4, .int (-1)), (3, .int (z (6 + a))), (0, .ref oM), (1, .int (nI a)), (2, .int (nI f))]) hx hb dX6_phaseFor_32 hl (by decide) rfl (fun ls hl => ?_)
    refine kq_loopM4 (A1 := Nat) (A2 := Int32) (A3 := Int32) (A4 := Nat → Int32) (fun (k : Nat) (b1 : Int32) (b2 : Int32) (g : Nat → Int32) => n_c v a - k) (fun (k : Nat) (b1 : Int32) (b2 : Int32) (g : Nat → Int32) => (k ≤ n_c v a) ∧ (b1 = if k = 0 then -1 else nI (n_bb (n_pz v a f) k)) ∧ (b2 = n_bm (n_pz v a f) k) ∧ (∀ j, ¬ j = 6 + a → g j = z j)) (fun (k : Nat) (b1 : Int32) (b2 : Int32) (g : Nat → Int32) => [(0, .ref oM), (1, .int (nI a)), (2, .int (nI f)), (3, .int (z (6 + a))), (4, .int b1), (5, .int b2), (6, .int (nI k))]) (fun (k : Nat) (b1 : Int32) (b2 : Int32) (g : Nat → Int32) => [(oM, .inr (6, [.int th, .ref rz, .ref r2, .int (nI km), .ref rb, .int (nI n), .int (nI (n_f v f 0)), .int (nI (n_f v f 1)), .int (nI (n_f v f 2)), .int (nI (n_f v f 3)), .ref rq, .int pm, .int stt, .long hh])), (rz, .inl (cI, 389, .inl g))]) (nL := 8) hK ?_ 0 (-1) (-1) z ⟨(by omega), (by rfl), (by rfl), (by intro j _; rfl)⟩ hP hD hS _ (lv_sub hl [4, 5, 6, 3, 2, 1, 0] rfl)
    intro k b1 b2 g hi_6 ih_5 H locs hP hD hS ls hl
    obtain ⟨ik, i1, i2, ig⟩ := hi_6
    have hl : lv_has ls 8 [(0, .ref oM), (1, .int (nI a)), (2, .int (nI f)), (3, .int (z (6 + a))), (4, .int b1), (5, .int b2), (6, .int (nI k))] := hl
    have hP : va_P (dC, dI) vwCl [(oM, .inr (6, [.int th, .ref rz, .ref r2, .int (nI km), .ref rb, .int (nI n), .int (nI (n_f v f 0)), .int (nI (n_f v f 1)), .int (nI (n_f v f 2)), .int (nI (n_f v f 3)), .ref rq, .int pm, .int stt, .long hh])), (rz, .inl (cI, 389, .inl g))] H := hP
    have hD : va_D A [(oM, .inr (6, [.int th, .ref rz, .ref r2, .int (nI km), .ref rb, .int (nI n), .int (nI (n_f v f 0)), .int (nI (n_f v f 1)), .int (nI (n_f v f 2)), .int (nI (n_f v f 3)), .ref rq, .int pm, .int stt, .long hh])), (rz, .inl (cI, 389, .inl g))] := hD
    refine lv_iload hx hb dX6_phaseFor_34 (lv_at hl 6 rfl) ?_
    refine lv_aload_n hx hb dX6_phaseFor_36 rfl (lv_at hl 0 rfl) ?_
    refine va_get (D := (dC, dI)) (ci := 6) (v := .ref rz) (C := RX6) (T := TX6) (N := 14) hx hb hts (by decide +kernel) hown hK.1 hP 0 rfl rfl 1 (by decide) (hts (.fieldLink RX6 7 "NoteWatermarksModel" "z" "[I") (by decide +kernel)) (fun _ h9 => h9) rfl dX6_phaseFor_37 ?_
    refine lv_iconst (v := 3) hx hb dX6_phaseFor_40 (by decide) ?_
    refine lv_iload_n hx hb dX6_phaseFor_41 rfl (lv_at hl 1 rfl) ?_
    refine lv_iadd hx hb dX6_phaseFor_42 ?_
    refine kq_top (z := nI (3 + a)) (nI_add 3 a) ?_
    refine va_iald hx hb hK.1 hP 1 0 rfl rfl (vp_in_nI (show 3 + a < 389 from by omega) (by omega)) dX6_phaseFor_43 ?_
    refine kq_top (z := g (3 + a)) (congrArg g (nI_clamp (Nat.lt_trans (show 3 + a < 389 from by omega) (by omega)))) ?_
    refine kq_top (z := nI (n_c v a)) ((ig (3 + a) (by omega)).trans ((hz.2.1 a ha).trans (n_I_c hI ha))) ?_
    refine lv_icmp_ge (tgt := 103) hx hb dX6_phaseFor_44 (by decide) (fun c_7 => ?_) (fun c_7 => ?_)
    · skip
      have c_7 := kq_leN (a := (n_c v a)) (b := k) c_7 (by omega) (by omega)
      refine lv_aload_n hx hb dX6_phaseFor_103 rfl (lv_at hl 0 rfl) ?_
      refine va_get (D := (dC, dI)) (ci := 6) (v := .ref rz) (C := RX6) (T := TX6) (N := 14) hx hb hts (by decide +kernel) hown hK.1 hP 0 rfl rfl 1 (by decide) (hts (.fieldLink RX6 7 "NoteWatermarksModel" "z" "[I") (by decide +kernel)) (fun _ h9 => h9) rfl dX6_phaseFor_104 ?_
      refine lv_bipush (v := 6) hx hb dX6_phaseFor_107 (by decide) ?_
      refine lv_iload_n hx hb dX6_phaseFor_109 rfl (lv_at hl 1 rfl) ?_
      refine lv_iadd hx hb dX6_phaseFor_110 ?_
      refine kq_top (z := nI (6 + a)) (nI_add 6 a) ?_
      refine lv_iload_n hx hb dX6_phaseFor_111 rfl (lv_at hl 3 rfl) ?_
      refine va_iast hx hb hK.1 hP hD hS 1 0 rfl rfl (vp_in_nI (show 6 + a < 389 from by omega) (by omega)) dX6_phaseFor_112 (fun H locs hP hD hS => ?_)
      rw [nI_clamp (Nat.lt_trans (show 6 + a < 389 from by omega) (by omega))] at hP hD
      have hP : va_P (dC, dI) vwCl [(oM, .inr (6, [.int th, .ref rz, .ref r2, .int (nI km), .ref rb, .int (nI n), .int (nI (n_f v f 0)), .int (nI (n_f v f 1)), .int (nI (n_f v f 2)), .int (nI (n_f v f 3)), .ref rq, .int pm, .int stt, .long hh])), (rz, .inl (cI, 389, .inl (upd g (6 + a) (z (6 + a)))))] H := hP
      have hD : va_D A [(oM, .inr (6, [.int th, .ref rz, .ref r2, .int (nI km), .ref rb, .int (nI n), .int (nI (n_f v f 0)), .int (nI (n_f v f 1)), .int (nI (n_f v f 2)), .int (nI (n_f v f 3)), .ref rq, .int pm, .int stt, .long hh])), (rz, .inl (cI, 389, .inl (upd g (6 + a) (z (6 + a)))))] := hD
      have hgz : upd g (6 + a) (z (6 + a)) = z := by funext j; by_cases q : j = 6 + a; (rw [q, pk_us]); (rw [pk_un q]; exact ig j q)
      rw [hgz] at hP hD
      have hP : va_P (dC, dI) vwCl [(oM, .inr (6, [.int th, .ref rz, .ref r2, .int (nI km), .ref rb, .int (nI n), .int (nI (n_f v f 0)), .int (nI (n_f v f 1)), .int (nI (n_f v f 2)), .int (nI (n_f v f 3)), .ref rq, .int pm, .int stt, .long hh])), (rz, .inl (cI, 389, .inl z))] H := hP
      have hD : va_D A [(oM, .inr (6, [.int th, .ref rz, .ref r2, .int (nI km), .ref rb, .int (nI n), .int (nI (n_f v f 0)), .int (nI (n_f v f 1)), .int (nI (n_f v f 2)), .int (nI (n_f v f 3)), .ref rq, .int pm, .int stt, .long hh])), (rz, .inl (cI, 389, .inl z))] := hD
      refine lv_iload hx hb dX6_phaseFor_113 (lv_at hl 4 rfl) ?_
      exact kq_retMi (nI (n_f v f 0), nI (n_f v f 1), nI (n_f v f 2), nI (n_f v f 3)) hx hb hr hlocks hP hD hS dX6_phaseFor_115 (by rw [n_bph, if_pos ht, i1, if_neg (by omega), show k = n_c v a by omega])
    · skip
      have c_7 := kq_nleN (a := (n_c v a)) (b := k) c_7 (by omega) (by omega)
      refine lv_aload_n hx hb dX6_phaseFor_47 rfl (lv_at hl 0 rfl) ?_
      refine va_get (D := (dC, dI)) (ci := 6) (v := .ref rz) (C := RX6) (T := TX6) (N := 14) hx hb hts (by decide +kernel) hown hK.1 hP 0 rfl rfl 1 (by decide) (hts (.fieldLink RX6 7 "NoteWatermarksModel" "z" "[I") (by decide +kernel)) (fun _ h9 => h9) rfl dX6_phaseFor_48 ?_
      refine lv_bipush (v := 6) hx hb dX6_phaseFor_51 (by decide) ?_
      refine lv_iload_n hx hb dX6_phaseFor_53 rfl (lv_at hl 1 rfl) ?_
      refine lv_iadd hx hb dX6_phaseFor_54 ?_
      refine kq_top (z := nI (6 + a)) (nI_add 6 a) ?_
      refine lv_iload hx hb dX6_phaseFor_55 (lv_at hl 6 rfl) ?_
      refine va_iast hx hb hK.1 hP hD hS 1 0 rfl rfl (vp_in_nI (show 6 + a < 389 from by omega) (by omega)) dX6_phaseFor_57 (fun H locs hP hD hS => ?_)
      rw [nI_clamp (Nat.lt_trans (show 6 + a < 389 from by omega) (by omega))] at hP hD
      have hP : va_P (dC, dI) vwCl [(oM, .inr (6, [.int th, .ref rz, .ref r2, .int (nI km), .ref rb, .int (nI n), .int (nI (n_f v f 0)), .int (nI (n_f v f 1)), .int (nI (n_f v f 2)), .int (nI (n_f v f 3)), .ref rq, .int pm, .int stt, .long hh])), (rz, .inl (cI, 389, .inl (upd g (6 + a) (nI k))))] H := hP
      have hD : va_D A [(oM, .inr (6, [.int th, .ref rz, .ref r2, .int (nI km), .ref rb, .int (nI n), .int (nI (n_f v f 0)), .int (nI (n_f v f 1)), .int (nI (n_f v f 2)), .int (nI (n_f v f 3)), .ref rq, .int pm, .int stt, .long hh])), (rz, .inl (cI, 389, .inl (upd g (6 + a) (nI k))))] := hD
      have hgz : upd g (6 + a) (nI k) = upd z (6 + a) (nI k) := by funext j; by_cases q : j = 6 + a; (rw [q, pk_us, pk_us]); (rw [pk_un q, pk_un q]; exact ig j q)
      rw [hgz] at hP hD
      have hP : va_P (dC, dI) vwCl [(oM, .inr (6, [.int th, .ref rz, .ref r2, .int (nI km), .ref rb, .int (nI n), .int (nI (n_f v f 0)), .int (nI (n_f v f 1)), .int (nI (n_f v f 2)), .int (nI (n_f v f 3)), .ref rq, .int pm, .int stt, .long hh])), (rz, .inl (cI, 389, .inl (upd z (6 + a) (nI k))))] H := hP
      have hD : va_D A [(oM, .inr (6, [.int th, .ref rz, .ref r2, .int (nI km), .ref rb, .int (nI n), .int (nI (n_f v f 0)), .int (nI (n_f v f 1)), .int (nI (n_f v f 2)), .int (nI (n_f v f 3)), .ref rq, .int pm, .int stt, .long hh])), (rz, .inl (cI, 389, .inl (upd z (6 + a) (nI k))))] := hD
      refine lv_aload_n hx hb dX6_phaseFor_58 rfl (lv_at hl 0 rfl) ?_
      refine lv_iconst (v := 0) hx hb dX6_phaseFor_59 (by decide) ?_
      refine kq_cV (As := [.int 0]) (rest := []) ⟨hx, hb, hml, hown, hts⟩ (c_X6_sizeOn l dC dI cI oM rz r2 rb rq km n (n_f v f 0) (n_f v f 1) (n_f v f 2) (n_f v f 3) th pm stt hh (upd z (6 + a) (nI k)) (upd v (291 + a) (nI k)) 0 (n_Z_phase hz ha) (n_I_phase hI ha (by omega)) (by first | assumption | omega) (by first | assumption | omega) (by first | assumption | omega) (by first | assumption | omega) (by first | assumption | omega)) (cwV 1 hts gX6_phaseFor_X6_sizeOn rfl rfl rfl (by decide +kernel) ⟨Nat.le_of_ble_eq_true rfl, Nat.le_of_ble_eq_true rfl⟩) (hP.sub [0, 1] rfl) hK (ci := 6) (q0 := 0) rfl rfl rfl rfl hl.1 rfl (Nat.le_of_ble_eq_true rfl) dX6_phaseFor_60 ⟨Nat.le_of_ble_eq_true rfl, Nat.le_of_ble_eq_true rfl⟩ ?_
      refine kq_top (z := n_pz v a f k) (by rw [n_pz, n_ct, n_f_phase ha, n_f_phase ha, n_f_phase ha, n_f_phase ha]) ?_
      refine lv_istore (lv' := [(7, .int (n_pz v a f k)), (0, .ref oM), (1, .int (nI a)), (2, .int (nI f)), (3, .int (z (6 + a))), (4, .int b1), (5, .int b2), (6, .int (nI k))]) hx hb dX6_phaseFor_63 hl (by decide) rfl (fun ls hl => ?_)
      have hsz : 0 ≤ n_pz v a f k := n_pz_b hI ha hf ht (by omega)
      refine lv_iload hx hb dX6_phaseFor_65 (lv_at hl 0 rfl) ?_
      refine lv_iload hx hb dX6_phaseFor_67 (lv_at hl 6 rfl) ?_
      refine lv_icmp_le (tgt := 77) hx hb dX6_phaseFor_69 (by decide) (fun c_8 => ?_) (fun c_8 => ?_)
      · skip
        have hle := c_8
        refine lv_iload hx hb dX6_phaseFor_77 (lv_at hl 5 rfl) ?_
        refine lv_istore (lv' := [(4, .int b1), (7, .int (n_pz v a f k)), (0, .ref oM), (1, .int (nI a)), (2, .int (nI f)), (3, .int (z (6 + a))), (5, .int b2), (6, .int (nI k))]) hx hb dX6_phaseFor_79 hl (by decide) rfl (fun ls hl => ?_)
        refine lv_iload hx hb dX6_phaseFor_81 (lv_at hl 1 rfl) ?_
        refine lv_iload hx hb dX6_phaseFor_83 (lv_at hl 6 rfl) ?_
        refine lv_icmp_le (tgt := 93) hx hb dX6_phaseFor_85 (by decide) (fun c_9 => ?_) (fun c_9 => ?_)
        · skip
          have hle2 := c_9
          refine lv_iload hx hb dX6_phaseFor_93 (lv_at hl 6 rfl) ?_
          refine lv_istore (lv' := [(5, .int b2), (4, .int b1), (7, .int (n_pz v a f k)), (0, .ref oM), (1, .int (nI a)), (2, .int (nI f)), (3, .int (z (6 + a))), (6, .int (nI k))]) hx hb dX6_phaseFor_95 hl (by decide) rfl (fun ls hl => ?_)
          refine lv_iinc (v := nI (k + 1)) (lv' := [(6, .int (nI (k + 1))), (5, .int b2), (4, .int b1), (7, .int (n_pz v a f k)), (0, .ref oM), (1, .int (nI a)), (2, .int (nI f)), (3, .int (z (6 + a)))]) hx hb dX6_phaseFor_97 hl (k := 7) rfl (nI_1 k) (by decide) rfl (fun ls hl => ?_)
          refine lv_goto (tgt := 34) hx hb dX6_phaseFor_100 (by decide) ?_
          exact ih_5 (k + 1) b1 b2 (upd z (6 + a) (nI k)) ⟨(by omega), (by first | exact absurd hle (Int32.not_le.mpr hgt2) | exact absurd hle2 (Int32.not_le.mpr hgt) | (rw [if_neg (Nat.succ_ne_zero k), n_bb, ← i2, if_pos hgt]) | (rw [if_neg (Nat.succ_ne_zero k), n_bb, ← i2, if_neg (Int32.not_lt.mpr hle)]; rcases Nat.eq_zero_or_pos k with q | q; (have h9 := Int32.le_trans hsz hle; rw [i2, q] at h9; exact absurd (show (0 : Int32) ≤ -1 from h9) (by decide)); rw [i1, if_neg (by omega)])), (by first | exact absurd hle (Int32.not_le.mpr hgt2) | exact absurd hle2 (Int32.not_le.mpr hgt) | (rw [n_bm, ← i2, if_pos hgt]) | (rw [n_bm, ← i2, if_neg (Int32.not_lt.mpr hle)])), (by intro j hj; exact pk_un hj)⟩ (by show n_c v a - (k + 1) < n_c v a - k; omega) _ _ hP hD hS _ (lv_sub hl [4, 5, 6, 7, 2, 1, 0] rfl)
        · skip
          have hgt2 := Int32.not_le.mp c_9
          refine lv_iload hx hb dX6_phaseFor_88 (lv_at hl 1 rfl) ?_
          refine lv_goto (tgt := 95) hx hb dX6_phaseFor_90 (by decide) ?_
          refine lv_istore (lv' := [(5, .int (n_pz v a f k)), (4, .int b1), (7, .int (n_pz v a f k)), (0, .ref oM), (1, .int (nI a)), (2, .int (nI f)), (3, .int (z (6 + a))), (6, .int (nI k))]) hx hb dX6_phaseFor_95 hl (by decide) rfl (fun ls hl => ?_)
          refine lv_iinc (v := nI (k + 1)) (lv' := [(6, .int (nI (k + 1))), (5, .int (n_pz v a f k)), (4, .int b1), (7, .int (n_pz v a f k)), (0, .ref oM), (1, .int (nI a)), (2, .int (nI f)), (3, .int (z (6 + a)))]) hx hb dX6_phaseFor_97 hl (k := 7) rfl (nI_1 k) (by decide) rfl (fun ls hl => ?_)
          refine lv_goto (tgt := 34) hx hb dX6_phaseFor_100 (by decide) ?_
          exact ih_5 (k + 1) b1 (n_pz v a f k) (upd z (6 + a) (nI k)) ⟨(by omega), (by first | exact absurd hle (Int32.not_le.mpr hgt2) | exact absurd hle2 (Int32.not_le.mpr hgt) | (rw [if_neg (Nat.succ_ne_zero k), n_bb, ← i2, if_pos hgt]) | (rw [if_neg (Nat.succ_ne_zero k), n_bb, ← i2, if_neg (Int32.not_lt.mpr hle)]; rcases Nat.eq_zero_or_pos k with q | q; (have h9 := Int32.le_trans hsz hle; rw [i2, q] at h9; exact absurd (show (0 : Int32) ≤ -1 from h9) (by decide)); rw [i1, if_neg (by omega)])), (by first | exact absurd hle (Int32.not_le.mpr hgt2) | exact absurd hle2 (Int32.not_le.mpr hgt) | (rw [n_bm, ← i2, if_pos hgt]) | (rw [n_bm, ← i2, if_neg (Int32.not_lt.mpr hle)])), (by intro j hj; exact pk_un hj)⟩ (by show n_c v a - (k + 1) < n_c v a - k; omega) _ _ hP hD hS _ (lv_sub hl [4, 5, 6, 7, 2, 1, 0] rfl)
      · skip
        have hgt := Int32.not_le.mp c_8
        refine lv_iload hx hb dX6_phaseFor_72 (lv_at hl 7 rfl) ?_
        refine lv_goto (tgt := 79) hx hb dX6_phaseFor_74 (by decide) ?_
        refine lv_istore (lv' := [(4, .int (nI k)), (7, .int (n_pz v a f k)), (0, .ref oM), (1, .int (nI a)), (2, .int (nI f)), (3, .int (z (6 + a))), (5, .int b2), (6, .int (nI k))]) hx hb dX6_phaseFor_79 hl (by decide) rfl (fun ls hl => ?_)
        refine lv_iload hx hb dX6_phaseFor_81 (lv_at hl 1 rfl) ?_
        refine lv_iload hx hb dX6_phaseFor_83 (lv_at hl 6 rfl) ?_
        refine lv_icmp_le (tgt := 93) hx hb dX6_phaseFor_85 (by decide) (fun c_10 => ?_) (fun c_10 => ?_)
        · skip
          have hle2 := c_10
          refine lv_iload hx hb dX6_phaseFor_93 (lv_at hl 6 rfl) ?_
          refine lv_istore (lv' := [(5, .int b2), (4, .int (nI k)), (7, .int (n_pz v a f k)), (0, .ref oM), (1, .int (nI a)), (2, .int (nI f)), (3, .int (z (6 + a))), (6, .int (nI k))]) hx hb dX6_phaseFor_95 hl (by decide) rfl (fun ls hl => ?_)
          refine lv_iinc (v := nI (k + 1)) (lv' := [(6, .int (nI (k + 1))), (5, .int b2), (4, .int (nI k)), (7, .int (n_pz v a f k)), (0, .ref oM), (1, .int (nI a)), (2, .int (nI f)), (3, .int (z (6 + a)))]) hx hb dX6_phaseFor_97 hl (k := 7) rfl (nI_1 k) (by decide) rfl (fun ls hl => ?_)
          refine lv_goto (tgt := 34) hx hb dX6_phaseFor_100 (by decide) ?_
          exact ih_5 (k + 1) (nI k) b2 (upd z (6 + a) (nI k)) ⟨(by omega), (by first | exact absurd hle (Int32.not_le.mpr hgt2) | exact absurd hle2 (Int32.not_le.mpr hgt) | (rw [if_neg (Nat.succ_ne_zero k), n_bb, ← i2, if_pos hgt]) | (rw [if_neg (Nat.succ_ne_zero k), n_bb, ← i2, if_neg (Int32.not_lt.mpr hle)]; rcases Nat.eq_zero_or_pos k with q | q; (have h9 := Int32.le_trans hsz hle; rw [i2, q] at h9; exact absurd (show (0 : Int32) ≤ -1 from h9) (by decide)); rw [i1, if_neg (by omega)])), (by first | exact absurd hle (Int32.not_le.mpr hgt2) | exact absurd hle2 (Int32.not_le.mpr hgt) | (rw [n_bm, ← i2, if_pos hgt]) | (rw [n_bm, ← i2, if_neg (Int32.not_lt.mpr hle)])), (by intro j hj; exact pk_un hj)⟩ (by show n_c v a - (k + 1) < n_c v a - k; omega) _ _ hP hD hS _ (lv_sub hl [4, 5, 6, 7, 2, 1, 0] rfl)
        · skip
          have hgt2 := Int32.not_le.mp c_10
          refine lv_iload hx hb dX6_phaseFor_88 (lv_at hl 1 rfl) ?_
          refine lv_goto (tgt := 95) hx hb dX6_phaseFor_90 (by decide) ?_
          refine lv_istore (lv' := [(5, .int (n_pz v a f k)), (4, .int (nI k)), (7, .int (n_pz v a f k)), (0, .ref oM), (1, .int (nI a)), (2, .int (nI f)), (3, .int (z (6 + a))), (6, .int (nI k))]) hx hb dX6_phaseFor_95 hl (by decide) rfl (fun ls hl => ?_)
          refine lv_iinc (v := nI (k + 1)) (lv' := [(6, .int (nI (k + 1))), (5, .int (n_pz v a f k)), (4, .int (nI k)), (7, .int (n_pz v a f k)), (0, .ref oM), (1, .int (nI a)), (2, .int (nI f)), (3, .int (z (6 + a)))]) hx hb dX6_phaseFor_97 hl (k := 7) rfl (nI_1 k) (by decide) rfl (fun ls hl => ?_)
          refine lv_goto (tgt := 34) hx hb dX6_phaseFor_100 (by decide) ?_
          exact ih_5 (k + 1) (nI k) (n_pz v a f k) (upd z (6 + a) (nI k)) ⟨(by omega), (by first | exact absurd hle (Int32.not_le.mpr hgt2) | exact absurd hle2 (Int32.not_le.mpr hgt) | (rw [if_neg (Nat.succ_ne_zero k), n_bb, ← i2, if_pos hgt]) | (rw [if_neg (Nat.succ_ne_zero k), n_bb, ← i2, if_neg (Int32.not_lt.mpr hle)]; rcases Nat.eq_zero_or_pos k with q | q; (have h9 := Int32.le_trans hsz hle; rw [i2, q] at h9; exact absurd (show (0 : Int32) ≤ -1 from h9) (by decide)); rw [i1, if_neg (by omega)])), (by first | exact absurd hle (Int32.not_le.mpr hgt2) | exact absurd hle2 (Int32.not_le.mpr hgt) | (rw [n_bm, ← i2, if_pos hgt]) | (rw [n_bm, ← i2, if_neg (Int32.not_lt.mpr hle)])), (by intro j hj; exact pk_un hj)⟩ (by show n_c v a - (k + 1) < n_c v a - k; omega) _ _ hP hD hS _ (lv_sub hl [4, 5, 6, 7, 2, 1, 0] rfl)
  · skip
    have c_1 := kq_bf c_1
    refine lv_iconst (v := (-1)) hx hb dX6_phaseFor_8 (by decide) ?_
    exact kq_retMi (tp, lf, hg, wd) hx hb hr hlocks hP hD hS dX6_phaseFor_9 (by rw [n_bph, if_neg (by assumption)])
set_option maxHeartbeats 4000000 in
set_option maxRecDepth 100000 in
theorem c_X6_pitch (l : Launch) (dC : Nat → ClassId) (dI : Nat → Nat → Nat) (cI : ClassId) (oM : Nat) (rz : Nat) (r2 : Nat) (rb : Nat) (rq : Nat) (km : Nat) (n : Nat) (th : Int32) (tp : Int32) (lf : Int32) (hg : Int32) (wd : Int32) (pm : Int32) (stt : Int32) (hh : Int64) (z : Nat → Int32) (v : Nat → Int32) (hz : n_Z v z) (hI : n_I v) : Met l yX6_pitch wsX6_pitch ({ frames := 1, cells := 0, slots := 0, locals := 22 }) (kq_R dC dI cI [.ref oM] [(oM, .inr (6, [.int th, .ref rz, .ref r2, .int (nI km), .ref rb, .int (nI n), .int tp, .int lf, .int hg, .int wd, .ref rq, .int pm, .int stt, .long hh])), (rz, .inl (cI, 389, .inl z))]) (QcRead (nI (n_pit v 18))) 0 0 (fun _ => False) := by
  refine kq_start (cc := cX6_pitch) (maxL := 3) (ret := (some .int)) (plainFor_of_name (by decide)) rfl (Nat.le_of_ble_eq_true rfl) ?_
  intro p e s m below meth c hx hb hr hml hown hlocks hts hP hK ls hl
  have hown : s.vm.findClass RX6 = some m.cls := hown
  have hl : lv_has ls 3 [(0, .ref oM)] := hl
  refine lv_bipush (v := 12) hx hb dX6_pitch_0 (by decide) ?_
  refine lv_istore_n (lv' := [(1, .int 12), (0, .ref oM)]) hx hb dX6_pitch_2 rfl hl (by decide) rfl (fun ls hl => ?_)
  refine lv_bipush (v := 13) hx hb dX6_pitch_3 (by decide) ?_
  refine lv_istore_n (lv' := [(2, .int 13), (1, .int 12), (0, .ref oM)]) hx hb dX6_pitch_5 rfl hl (by decide) rfl (fun ls hl => ?_)
  refine kq_loop2 (A1 := Nat) (A2 := Nat) (fun (k : Nat) (b1 : Nat) => 18 - k) (fun (k : Nat) (b1 : Nat) => (k ≤ 18) ∧ (b1 = n_pit v k)) (fun (k : Nat) (b1 : Nat) => [(0, .ref oM), (1, .int (nI b1)), (2, .int (nI (13 + k)))]) (nL := 3) ?_ 0 12 ⟨(by omega), (by rfl)⟩ _ (lv_sub hl [2, 1, 0] rfl)
  intro k b1 hi_2 ih_1 ls hl
  obtain ⟨ik, i1⟩ := hi_2
  have hl : lv_has ls 3 [(0, .ref oM), (1, .int (nI b1)), (2, .int (nI (13 + k)))] := hl
  refine lv_iload_n hx hb dX6_pitch_6 rfl (lv_at hl 2 rfl) ?_
  refine lv_bipush (v := 30) hx hb dX6_pitch_7 (by decide) ?_
  refine lv_icmp_gt (tgt := 37) hx hb dX6_pitch_9 (by decide) (fun c_3 => ?_) (fun c_3 => ?_)
  · skip
    have c_3 := kq_ltN (a := 30) (b := (13 + k)) c_3 (by omega) (by omega)
    refine lv_iload_n hx hb dX6_pitch_37 rfl (lv_at hl 1 rfl) ?_
    exact kq_ret hx hb hr hlocks dX6_pitch_38 (by rw [i1, show k = 18 by omega])
  · skip
    have c_3 := kq_nltN (a := 30) (b := (13 + k)) c_3 (by omega) (by omega)
    have ha1 := (n_all_pos hI (q := 13 + k) 3 (Nat.le_refl _)).2
    have ha2 := (n_all_pos hI (q := b1) 3 (Nat.le_refl _)).2
    have hb12 : b1 ≤ 30 := by rw [i1]; have := n_pit_le (v := v) k; omega
    refine lv_aload_n hx hb dX6_pitch_12 rfl (lv_at hl 0 rfl) ?_
    refine lv_iload_n hx hb dX6_pitch_13 rfl (lv_at hl 2 rfl) ?_
    refine kq_cV (As := [.int (nI (13 + k))]) (rest := []) ⟨hx, hb, hml, hown, hts⟩ (c_X6_roundOfAll l dC dI cI oM rz r2 rb rq km n th tp lf hg wd pm stt hh z v (13 + k) (by first | assumption | omega) (by first | assumption | omega) (by first | assumption | omega)) (cwV 1 hts gX6_pitch_X6_roundOfAll rfl rfl rfl (by decide +kernel) ⟨Nat.le_of_ble_eq_true rfl, Nat.le_of_ble_eq_true rfl⟩) (hP.sub [0, 1] rfl) hK (ci := 6) (q0 := 0) rfl rfl rfl rfl hl.1 rfl (Nat.le_of_ble_eq_true rfl) dX6_pitch_14 ⟨Nat.le_of_ble_eq_true rfl, Nat.le_of_ble_eq_true rfl⟩ ?_
    refine lv_aload_n hx hb dX6_pitch_17 rfl (lv_at hl 0 rfl) ?_
    refine lv_iload_n hx hb dX6_pitch_18 rfl (lv_at hl 1 rfl) ?_
    refine kq_cV (As := [.int (nI b1)]) (rest := [.int (nI (n_all v (13 + k) 3))]) ⟨hx, hb, hml, hown, hts⟩ (c_X6_roundOfAll l dC dI cI oM rz r2 rb rq km n th tp lf hg wd pm stt hh z v b1 (by first | assumption | omega) (by first | assumption | omega) (by first | assumption | omega)) (cwV 1 hts gX6_pitch_X6_roundOfAll rfl rfl rfl (by decide +kernel) ⟨Nat.le_of_ble_eq_true rfl, Nat.le_of_ble_eq_true rfl⟩) (hP.sub [0, 1] rfl) hK (ci := 6) (q0 := 0) rfl rfl rfl rfl hl.1 rfl (Nat.le_of_ble_eq_true rfl) dX6_pitch_19 ⟨Nat.le_of_ble_eq_true rfl, Nat.le_of_ble_eq_true rfl⟩ ?_
    refine lv_icmp_ge (tgt := 29) hx hb dX6_pitch_22 (by decide) (fun c_4 => ?_) (fun c_4 => ?_)
    · skip
      have c_4 := kq_leN (a := (n_all v b1 3)) (b := (n_all v (13 + k) 3)) c_4 (by omega) (by omega)
      refine lv_iload_n hx hb dX6_pitch_29 rfl (lv_at hl 1 rfl) ?_
      refine lv_istore_n (lv' := [(1, .int (nI b1)), (0, .ref oM), (2, .int (nI (13 + k)))]) hx hb dX6_pitch_30 rfl hl (by decide) rfl (fun ls hl => ?_)
      refine lv_iinc (v := nI ((13 + k) + 1)) (lv' := [(2, .int (nI ((13 + k) + 1))), (1, .int (nI b1)), (0, .ref oM)]) hx hb dX6_pitch_31 hl (k := 2) rfl (nI_1 (13 + k)) (by decide) rfl (fun ls hl => ?_)
      refine lv_goto (tgt := 6) hx hb dX6_pitch_34 (by decide) ?_
      exact ih_1 (k + 1) b1 ⟨(by omega), (by rw [n_pit, ← i1]; first | rw [if_pos (by assumption)] | rw [if_neg (Nat.not_lt.mpr (by assumption))])⟩ (by show 18 - (k + 1) < 18 - k; omega) _ (lv_sub hl [2, 1, 0] rfl)
    · skip
      have c_4 := kq_nleN (a := (n_all v b1 3)) (b := (n_all v (13 + k) 3)) c_4 (by omega) (by omega)
      refine lv_iload_n hx hb dX6_pitch_25 rfl (lv_at hl 2 rfl) ?_
      refine lv_goto (tgt := 30) hx hb dX6_pitch_26 (by decide) ?_
      refine lv_istore_n (lv' := [(1, .int (nI (13 + k))), (0, .ref oM), (2, .int (nI (13 + k)))]) hx hb dX6_pitch_30 rfl hl (by decide) rfl (fun ls hl => ?_)
      refine lv_iinc (v := nI ((13 + k) + 1)) (lv' := [(2, .int (nI ((13 + k) + 1))), (1, .int (nI (13 + k))), (0, .ref oM)]) hx hb dX6_pitch_31 hl (k := 2) rfl (nI_1 (13 + k)) (by decide) rfl (fun ls hl => ?_)
      refine lv_goto (tgt := 6) hx hb dX6_pitch_34 (by decide) ?_
      exact ih_1 (k + 1) (13 + k) ⟨(by omega), (by rw [n_pit, ← i1]; first | rw [if_pos (by assumption)] | rw [if_neg (Nat.not_lt.mpr (by assumption))])⟩ (by show 18 - (k + 1) < 18 - k; omega) _ (lv_sub hl [2, 1, 0] rfl)
set_option maxHeartbeats 4000000 in
set_option maxRecDepth 100000 in
theorem c_X6_standing (l : Launch) (dC : Nat → ClassId) (dI : Nat → Nat → Nat) (cI : ClassId) (sz : Nat) (oM : Nat) (rz : Nat) (r2 : Nat) (rb : Nat) (rq : Nat) (km : Nat) (n : Nat) (th : Int32) (tp : Int32) (lf : Int32) (hg : Int32) (wd : Int32) (pm : Int32) (stt : Int32) (hh : Int64) (z : Nat → Int32) (v : Nat → Int32) (h : Nat) (w : Nat) (q : Nat) (hz : n_Z v z) (hI : n_I v) (hh9 : 1 ≤ h ∧ h ≤ 6) (hw9 : 1 ≤ w ∧ w ≤ 12) (hq : q < 3) : Met l yX6_standing wsX6_standing ({ frames := 6, cells := 0, slots := 0, locals := 144 }) (kq_M dC dI cI [.ref oM, .int (nI h), .int (nI w), .int (nI q)] sz [(oM, .inr (6, [.int th, .ref rz, .ref r2, .int (nI km), .ref rb, .int (nI n), .int tp, .int lf, .int hg, .int wd, .ref rq, .int pm, .int stt, .long hh])), (rz, .inl (cI, 389, .inl z))]) (va_Qi (fun (r : Int32) (u : Int32 × Int32 × Int32 × Int32) => r = n_so v h w q) (kq_B dC dI (va_A [(oM, .inr (6, [.int th, .ref rz, .ref r2, .int (nI km), .ref rb, .int (nI n), .int tp, .int lf, .int hg, .int wd, .ref rq, .int pm, .int stt, .long hh])), (rz, .inl (cI, 389, .inl z))] sz) (fun u : Int32 × Int32 × Int32 × Int32 => [(oM, .inr (6, [.int th, .ref rz, .ref r2, .int (nI km), .ref rb, .int (nI n), .int u.1, .int u.2.1, .int u.2.2.1, .int u.2.2.2, .ref rq, .int pm, .int stt, .long hh])), (rz, .inl (cI, 389, .inl z))])) (va_A [(oM, .inr (6, [.int th, .ref rz, .ref r2, .int (nI km), .ref rb, .int (nI n), .int tp, .int lf, .int hg, .int wd, .ref rq, .int pm, .int stt, .long hh])), (rz, .inl (cI, 389, .inl z))] sz)) 0 0 (va_A [(oM, .inr (6, [.int th, .ref rz, .ref r2, .int (nI km), .ref rb, .int (nI n), .int tp, .int lf, .int hg, .int wd, .ref rq, .int pm, .int stt, .long hh])), (rz, .inl (cI, 389, .inl z))] sz) := by
  refine kq_startM (cc := cX6_standing) (maxL := 8) (ret := (some .int)) (by decide) rfl (Nat.le_of_ble_eq_true rfl) ?_
  intro p e s m below meth c hx hb hr hml hown hlocks hts hsz hA hP hD hS hK hnm ls hl
  subst hsz
  generalize hAe : va_A [(oM, .inr (6, [.int th, .ref rz, .ref r2, .int (nI km), .ref rb, .int (nI n), .int tp, .int lf, .int hg, .int wd, .ref rq, .int pm, .int stt, .long hh])), (rz, .inl (cI, 389, .inl z))] s.heap.size = A at hA hD hS ⊢
  have hown : s.vm.findClass RX6 = some m.cls := hown
  have hl : lv_has ls 8 [(0, .ref oM), (1, .int (nI h)), (2, .int (nI w)), (3, .int (nI q))] := hl
  refine lv_iconst (v := 0) hx hb dX6_standing_0 (by decide) ?_
  refine lv_istore (lv' := [(4, .int 0), (0, .ref oM), (1, .int (nI h)), (2, .int (nI w)), (3, .int (nI q))]) hx hb dX6_standing_1 hl (by decide) rfl (fun ls hl => ?_)
  refine lv_iconst (v := (-1)) hx hb dX6_standing_3 (by decide) ?_
  refine lv_istore (lv' := [(5, .int (-1)), (4, .int 0), (0, .ref oM), (1, .int (nI h)), (2, .int (nI w)), (3, .int (nI q))]) hx hb dX6_standing_4 hl (by decide) rfl (fun ls hl => ?_)
  refine lv_iconst (v := 0) hx hb dX6_standing_6 (by decide) ?_
  refine lv_istore (lv' := [(6, .int 0), (5, .int (-1)), (4, .int 0), (0, .ref oM), (1, .int (nI h)), (2, .int (nI w)), (3, .int (nI q))]) hx hb dX6_standing_7 hl (by decide) rfl (fun ls hl => ?_)
  refine kq_loopM7 (A1 := Nat) (A2 := Nat) (A3 := Int32) (A4 := Int32) (A5 := Int32) (A6 := Int32) (A7 := Int32) (fun (k : Nat) (b1 : Nat) (b2 : Int32) (t1 : Int32) (t2 : Int32) (t3 : Int32) (t4 : Int32) => 72 - k) (fun (k : Nat) (b1 : Nat) (b2 : Int32) (t1 : Int32) (t2 : Int32) (t3 : Int32) (t4 : Int32) => (k ≤ 72) ∧ (b1 = n_sb v h w k) ∧ (b2 = n_sm v h w k) ∧ (b1 ≤ k)) (fun (k : Nat) (b1 : Nat) (b2 : Int32) (t1 : Int32) (t2 : Int32) (t3 : Int32) (t4 : Int32) => [(0, .ref oM), (1, .int (nI h)), (2, .int (nI w)), (3, .int (nI q)), (4, .int (nI b1)), (5, .int b2), (6, .int (nI k))]) (fun (k : Nat) (b1 : Nat) (b2 : Int32) (t1 : Int32) (t2 : Int32) (t3 : Int32) (t4 : Int32) => [(oM, .inr (6, [.int th, .ref rz, .ref r2, .int (nI km), .ref rb, .int (nI n), .int t1, .int t2, .int t3, .int t4, .ref rq, .int pm, .int stt, .long hh])), (rz, .inl (cI, 389, .inl z))]) (nL := 8) hK ?_ 0 0 (-1) tp lf hg wd ⟨(by omega), (by rfl), (by rfl), (by omega)⟩ hP hD hS _ (lv_sub hl [3, 4, 5, 6, 2, 1, 0] rfl)
  intro k b1 b2 t1 t2 t3 t4 hi_2 ih_1 H locs hP hD hS ls hl
  obtain ⟨ik, i1, i2, i3⟩ := hi_2
  have hl : lv_has ls 8 [(0, .ref oM), (1, .int (nI h)), (2, .int (nI w)), (3, .int (nI q)), (4, .int (nI b1)), (5, .int b2), (6, .int (nI k))] := hl
  have hP : va_P (dC, dI) vwCl [(oM, .inr (6, [.int th, .ref rz, .ref r2, .int (nI km), .ref rb, .int (nI n), .int t1, .int t2, .int t3, .int t4, .ref rq, .int pm, .int stt, .long hh])), (rz, .inl (cI, 389, .inl z))] H := hP
  have hD : va_D A [(oM, .inr (6, [.int th, .ref rz, .ref r2, .int (nI km), .ref rb, .int (nI n), .int t1, .int t2, .int t3, .int t4, .ref rq, .int pm, .int stt, .long hh])), (rz, .inl (cI, 389, .inl z))] := hD
  refine lv_iload hx hb dX6_standing_9 (lv_at hl 6 rfl) ?_
  refine lv_bipush (v := 72) hx hb dX6_standing_11 (by decide) ?_
  refine lv_icmp_ge (tgt := 95) hx hb dX6_standing_13 (by decide) (fun c_3 => ?_) (fun c_3 => ?_)
  · skip
    have c_3 := kq_leN (a := 72) (b := k) c_3 (by omega) (by omega)
    refine lv_iload_n hx hb dX6_standing_95 rfl (lv_at hl 3 rfl) ?_
    refine lv_if_ne (tgt := 107) hx hb dX6_standing_96 (by decide) (fun c_4 => ?_) (fun c_4 => ?_)
    · skip
      have c_4 := kq_neN (a := q) (b := 0) c_4 (by omega) (by omega)
      refine lv_iload_n hx hb dX6_standing_107 rfl (lv_at hl 3 rfl) ?_
      refine lv_iconst (v := 1) hx hb dX6_standing_108 (by decide) ?_
      refine lv_icmp_ne (tgt := 120) hx hb dX6_standing_109 (by decide) (fun c_5 => ?_) (fun c_5 => ?_)
      · skip
        have c_5 := kq_neN (a := q) (b := 1) c_5 (by omega) (by omega)
        refine lv_iload hx hb dX6_standing_120 (lv_at hl 5 rfl) ?_
        exact kq_retMi (t1, t2, t3, t4) hx hb hr hlocks hP hD hS dX6_standing_122 (by rw [show q = 2 by omega]; show _ = n_sm v h w 72; rw [i2, show k = 72 by omega])
      · skip
        have c_5 := kq_eqN (a := q) (b := 1) c_5 (by omega) (by omega)
        refine lv_iload hx hb dX6_standing_112 (lv_at hl 4 rfl) ?_
        refine lv_bipush (v := 12) hx hb dX6_standing_114 (by decide) ?_
        refine lv_irem hx hb dX6_standing_116 (nI_ne0 (n := 12) (by omega) (by omega)) ?_
        refine kq_top (z := nI (b1 % 12)) (pk_rem (a := b1) (d := 12) (by omega) (by omega) (by omega)) ?_
        refine lv_goto (tgt := 122) hx hb dX6_standing_117 (by decide) ?_
        exact kq_retMi (t1, t2, t3, t4) hx hb hr hlocks hP hD hS dX6_standing_122 (by rw [show q = 1 by omega]; show _ = nI (n_sb v h w 72 % 12); rw [i1, show k = 72 by omega])
    · skip
      have c_4 := kq_eqN (a := q) (b := 0) c_4 (by omega) (by omega)
      refine lv_iload hx hb dX6_standing_99 (lv_at hl 4 rfl) ?_
      refine lv_bipush (v := 12) hx hb dX6_standing_101 (by decide) ?_
      refine lv_idiv hx hb dX6_standing_103 (nI_ne0 (n := 12) (by omega) (by omega)) ?_
      refine kq_top (z := nI (b1 / 12)) (pk_div (a := b1) (d := 12) (by omega) (by omega) (by omega)) ?_
      refine lv_goto (tgt := 122) hx hb dX6_standing_104 (by decide) ?_
      exact kq_retMi (t1, t2, t3, t4) hx hb hr hlocks hP hD hS dX6_standing_122 (by rw [show q = 0 by omega]; show _ = nI (n_sb v h w 72 / 12); rw [i1, show k = 72 by omega])
  · skip
    have c_3 := kq_nleN (a := 72) (b := k) c_3 (by omega) (by omega)
    refine lv_iload hx hb dX6_standing_16 (lv_at hl 6 rfl) ?_
    refine lv_bipush (v := 12) hx hb dX6_standing_18 (by decide) ?_
    refine lv_idiv hx hb dX6_standing_20 (nI_ne0 (n := 12) (by omega) (by omega)) ?_
    refine kq_top (z := nI (k / 12)) (pk_div (a := k) (d := 12) (by omega) (by omega) (by omega)) ?_
    refine lv_iload hx hb dX6_standing_21 (lv_at hl 6 rfl) ?_
    refine lv_bipush (v := 12) hx hb dX6_standing_23 (by decide) ?_
    refine lv_irem hx hb dX6_standing_25 (nI_ne0 (n := 12) (by omega) (by omega)) ?_
    refine kq_top (z := nI (k % 12)) (pk_rem (a := k) (d := 12) (by omega) (by omega) (by omega)) ?_
    refine lv_iload_n hx hb dX6_standing_26 rfl (lv_at hl 1 rfl) ?_
    refine lv_iload_n hx hb dX6_standing_27 rfl (lv_at hl 2 rfl) ?_
    refine kq_cS (As := [.int (nI (k / 12)), .int (nI (k % 12)), .int (nI h), .int (nI w)]) (rest := []) ⟨hx, hb, hml, hown, hts⟩ (c_X6_areThere_n l dC dI cI (k / 12) (k % 12) h w (by first | assumption | omega) (by first | assumption | omega) (by first | assumption | omega) (by first | assumption | omega)) (va_cwS 4 hts gX6_standing_X6_areThere rfl rfl rfl (by decide +kernel) ⟨Nat.le_of_ble_eq_true rfl, Nat.le_of_ble_eq_true rfl⟩) (hP.sub [] rfl) hK rfl hl.1 rfl (Nat.le_of_ble_eq_true rfl) dX6_standing_28 ⟨Nat.le_of_ble_eq_true rfl, Nat.le_of_ble_eq_true rfl⟩ ?_
    refine lv_if_eq (tgt := 89) hx hb dX6_standing_31 (by decide) (fun c_6 => ?_) (fun c_6 => ?_)
    · skip
      have c_6 := kq_bf c_6
      refine lv_iinc (v := nI (k + 1)) (lv' := [(6, .int (nI (k + 1))), (0, .ref oM), (1, .int (nI h)), (2, .int (nI w)), (3, .int (nI q)), (4, .int (nI b1)), (5, .int b2)]) hx hb dX6_standing_89 hl (k := 6) rfl (nI_1 k) (by decide) rfl (fun ls hl => ?_)
      refine lv_goto (tgt := 9) hx hb dX6_standing_92 (by decide) ?_
      exact ih_1 (k + 1) b1 b2 t1 t2 t3 t4 ⟨(by omega), (by first | exact absurd ‹n_g6 v h w k ≤ b2› ‹¬ n_g6 v h w k ≤ b2› | (rw [n_sb, ← i2, if_pos ⟨(show k / 12 + h ≤ 6 ∧ k % 12 + w ≤ 12 by omega), Int32.not_le.mp (by assumption)⟩]) | (rw [n_sb, ← i2, if_neg (fun q => absurd q.2 (Int32.not_lt.mpr (by assumption)))]; exact i1) | (rw [n_sb, if_neg (fun q => absurd q.1 (by omega))]; exact i1)), (by first | exact absurd ‹n_g6 v h w k ≤ b2› ‹¬ n_g6 v h w k ≤ b2› | (rw [n_sm, ← i2, if_pos ⟨(show k / 12 + h ≤ 6 ∧ k % 12 + w ≤ 12 by omega), Int32.not_le.mp (by assumption)⟩]) | (rw [n_sm, ← i2, if_neg (fun q => absurd q.2 (Int32.not_lt.mpr (by assumption)))]) | (rw [n_sm, if_neg (fun q => absurd q.1 (by omega))]; exact i2)), (by omega)⟩ (by show 72 - (k + 1) < 72 - k; omega) _ _ hP hD hS _ (lv_sub hl [1, 2, 3, 4, 5, 6, 0] rfl)
    · skip
      have c_6 := kq_bt c_6
      refine lv_aload_n hx hb dX6_standing_34 rfl (lv_at hl 0 rfl) ?_
      refine lv_iload hx hb dX6_standing_35 (lv_at hl 6 rfl) ?_
      refine lv_bipush (v := 12) hx hb dX6_standing_37 (by decide) ?_
      refine lv_idiv hx hb dX6_standing_39 (nI_ne0 (n := 12) (by omega) (by omega)) ?_
      refine kq_top (z := nI (k / 12)) (pk_div (a := k) (d := 12) (by omega) (by omega) (by omega)) ?_
      refine lv_iload hx hb dX6_standing_40 (lv_at hl 6 rfl) ?_
      refine lv_bipush (v := 12) hx hb dX6_standing_42 (by decide) ?_
      refine lv_irem hx hb dX6_standing_44 (nI_ne0 (n := 12) (by omega) (by omega)) ?_
      refine kq_top (z := nI (k % 12)) (pk_rem (a := k) (d := 12) (by omega) (by omega) (by omega)) ?_
      refine lv_iload_n hx hb dX6_standing_45 rfl (lv_at hl 1 rfl) ?_
      refine lv_iload_n hx hb dX6_standing_46 rfl (lv_at hl 2 rfl) ?_
      refine kq_callMv (wr := [(rz, .inl (cI, 389, .inl z))]) (va_runV (As := [.int (nI (k / 12)), .int (nI (k % 12)), .int (nI h), .int (nI w)]) (rest := []) ⟨hx, hb, hml, hown, hts⟩ (c_X6_rectangle l dC dI cI H.size oM rz r2 rb rq km n th t1 t2 t3 t4 pm stt hh z v (k / 12) (k % 12) h w ) (cwV 4 hts gX6_standing_X6_rectangle rfl rfl rfl (by decide +kernel) ⟨Nat.le_of_ble_eq_true rfl, Nat.le_of_ble_eq_true rfl⟩) (kq_preV (ci := 6) (q0 := 0) (hP.sub [0] rfl) (hD.sub [0] (by decide) rfl) hK rfl rfl) rfl rfl hl.1 rfl (lv_room (Nat.le_of_ble_eq_true rfl)) dX6_standing_47 ⟨Nat.le_of_ble_eq_true rfl, Nat.le_of_ble_eq_true rfl⟩) hP hD hS hA [0] [1] rfl rfl (by decide) (by decide) (fun u_8 H locs hw_9 hP hD hS => ?_)
      have hP : va_P (dC, dI) vwCl [(rz, .inl (cI, 389, .inl z)), (oM, .inr (6, [.int th, .ref rz, .ref r2, .int (nI km), .ref rb, .int (nI n), .int (nI (k / 12)), .int (nI (k % 12)), .int (nI h), .int (nI w), .ref rq, .int pm, .int stt, .long hh]))] H := hP
      have hD : va_D A [(rz, .inl (cI, 389, .inl z)), (oM, .inr (6, [.int th, .ref rz, .ref r2, .int (nI km), .ref rb, .int (nI n), .int (nI (k / 12)), .int (nI (k % 12)), .int (nI h), .int (nI w), .ref rq, .int pm, .int stt, .long hh]))] := hD
      refine lv_aload_n hx hb dX6_standing_50 rfl (lv_at hl 0 rfl) ?_
      refine lv_iconst (v := 0) hx hb dX6_standing_51 (by decide) ?_
      refine kq_cV (As := [.int 0]) (rest := []) ⟨hx, hb, hml, hown, hts⟩ (c_X6_sizeOn l dC dI cI oM rz r2 rb rq km n (k / 12) (k % 12) h w th pm stt hh z v 0 (by first | assumption | omega) (by first | assumption | omega) (by first | assumption | omega) (by first | assumption | omega) (by first | assumption | omega) (by first | assumption | omega) (by first | assumption | omega)) (cwV 1 hts gX6_standing_X6_sizeOn rfl rfl rfl (by decide +kernel) ⟨Nat.le_of_ble_eq_true rfl, Nat.le_of_ble_eq_true rfl⟩) (hP.sub [1, 0] rfl) hK (ci := 6) (q0 := 0) rfl rfl rfl rfl hl.1 rfl (Nat.le_of_ble_eq_true rfl) dX6_standing_52 ⟨Nat.le_of_ble_eq_true rfl, Nat.le_of_ble_eq_true rfl⟩ ?_
      refine kq_top (z := n_g6 v h w k) (rfl) ?_
      refine lv_istore (lv' := [(7, .int (n_g6 v h w k)), (0, .ref oM), (1, .int (nI h)), (2, .int (nI w)), (3, .int (nI q)), (4, .int (nI b1)), (5, .int b2), (6, .int (nI k))]) hx hb dX6_standing_55 hl (by decide) rfl (fun ls hl => ?_)
      refine lv_iload hx hb dX6_standing_57 (lv_at hl 0 rfl) ?_
      refine lv_iload hx hb dX6_standing_59 (lv_at hl 6 rfl) ?_
      refine lv_icmp_le (tgt := 69) hx hb dX6_standing_61 (by decide) (fun c_10 => ?_) (fun c_10 => ?_)
      · skip
        refine lv_iload hx hb dX6_standing_69 (lv_at hl 5 rfl) ?_
        refine lv_istore (lv' := [(4, .int (nI b1)), (7, .int (n_g6 v h w k)), (0, .ref oM), (1, .int (nI h)), (2, .int (nI w)), (3, .int (nI q)), (5, .int b2), (6, .int (nI k))]) hx hb dX6_standing_71 hl (by decide) rfl (fun ls hl => ?_)
        refine lv_iload hx hb dX6_standing_73 (lv_at hl 1 rfl) ?_
        refine lv_iload hx hb dX6_standing_75 (lv_at hl 6 rfl) ?_
        refine lv_icmp_le (tgt := 85) hx hb dX6_standing_77 (by decide) (fun c_11 => ?_) (fun c_11 => ?_)
        · skip
          refine lv_iload hx hb dX6_standing_85 (lv_at hl 6 rfl) ?_
          refine lv_istore (lv' := [(5, .int b2), (4, .int (nI b1)), (7, .int (n_g6 v h w k)), (0, .ref oM), (1, .int (nI h)), (2, .int (nI w)), (3, .int (nI q)), (6, .int (nI k))]) hx hb dX6_standing_87 hl (by decide) rfl (fun ls hl => ?_)
          refine lv_iinc (v := nI (k + 1)) (lv' := [(6, .int (nI (k + 1))), (5, .int b2), (4, .int (nI b1)), (7, .int (n_g6 v h w k)), (0, .ref oM), (1, .int (nI h)), (2, .int (nI w)), (3, .int (nI q))]) hx hb dX6_standing_89 hl (k := 7) rfl (nI_1 k) (by decide) rfl (fun ls hl => ?_)
          refine lv_goto (tgt := 9) hx hb dX6_standing_92 (by decide) ?_
          exact ih_1 (k + 1) b1 b2 (nI (k / 12)) (nI (k % 12)) (nI h) (nI w) ⟨(by omega), (by first | exact absurd ‹n_g6 v h w k ≤ b2› ‹¬ n_g6 v h w k ≤ b2› | (rw [n_sb, ← i2, if_pos ⟨(show k / 12 + h ≤ 6 ∧ k % 12 + w ≤ 12 by omega), Int32.not_le.mp (by assumption)⟩]) | (rw [n_sb, ← i2, if_neg (fun q => absurd q.2 (Int32.not_lt.mpr (by assumption)))]; exact i1) | (rw [n_sb, if_neg (fun q => absurd q.1 (by omega))]; exact i1)), (by first | exact absurd ‹n_g6 v h w k ≤ b2› ‹¬ n_g6 v h w k ≤ b2› | (rw [n_sm, ← i2, if_pos ⟨(show k / 12 + h ≤ 6 ∧ k % 12 + w ≤ 12 by omega), Int32.not_le.mp (by assumption)⟩]) | (rw [n_sm, ← i2, if_neg (fun q => absurd q.2 (Int32.not_lt.mpr (by assumption)))]) | (rw [n_sm, if_neg (fun q => absurd q.1 (by omega))]; exact i2)), (by omega)⟩ (by show 72 - (k + 1) < 72 - k; omega) _ _ (hP.sub [1, 0] rfl) (hD.sub [1, 0] (by decide) rfl) hS _ (lv_sub hl [4, 5, 6, 7, 2, 1, 0] rfl)
        · skip
          refine lv_iload hx hb dX6_standing_80 (lv_at hl 1 rfl) ?_
          refine lv_goto (tgt := 87) hx hb dX6_standing_82 (by decide) ?_
          refine lv_istore (lv' := [(5, .int (n_g6 v h w k)), (4, .int (nI b1)), (7, .int (n_g6 v h w k)), (0, .ref oM), (1, .int (nI h)), (2, .int (nI w)), (3, .int (nI q)), (6, .int (nI k))]) hx hb dX6_standing_87 hl (by decide) rfl (fun ls hl => ?_)
          refine lv_iinc (v := nI (k + 1)) (lv' := [(6, .int (nI (k + 1))), (5, .int (n_g6 v h w k)), (4, .int (nI b1)), (7, .int (n_g6 v h w k)), (0, .ref oM), (1, .int (nI h)), (2, .int (nI w)), (3, .int (nI q))]) hx hb dX6_standing_89 hl (k := 7) rfl (nI_1 k) (by decide) rfl (fun ls hl => ?_)
          refine lv_goto (tgt := 9) hx hb dX6_standing_92 (by decide) ?_
          exact ih_1 (k + 1) b1 (n_g6 v h w k) (nI (k / 12)) (nI (k % 12)) (nI h) (nI w) ⟨(by omega), (by first | exact absurd ‹n_g6 v h w k ≤ b2› ‹¬ n_g6 v h w k ≤ b2› | (rw [n_sb, ← i2, if_pos ⟨(show k / 12 + h ≤ 6 ∧ k % 12 + w ≤ 12 by omega), Int32.not_le.mp (by assumption)⟩]) | (rw [n_sb, ← i2, if_neg (fun q => absurd q.2 (Int32.not_lt.mpr (by assumption)))]; exact i1) | (rw [n_sb, if_neg (fun q => absurd q.1 (by omega))]; exact i1)), (by first | exact absurd ‹n_g6 v h w k ≤ b2› ‹¬ n_g6 v h w k ≤ b2› | (rw [n_sm, ← i2, if_pos ⟨(show k / 12 + h ≤ 6 ∧ k % 12 + w ≤ 12 by omega), Int32.not_le.mp (by assumption)⟩]) | (rw [n_sm, ← i2, if_neg (fun q => absurd q.2 (Int32.not_lt.mpr (by assumption)))]) | (rw [n_sm, if_neg (fun q => absurd q.1 (by omega))]; exact i2)), (by omega)⟩ (by show 72 - (k + 1) < 72 - k; omega) _ _ (hP.sub [1, 0] rfl) (hD.sub [1, 0] (by decide) rfl) hS _ (lv_sub hl [4, 5, 6, 7, 2, 1, 0] rfl)
      · skip
        refine lv_iload hx hb dX6_standing_64 (lv_at hl 7 rfl) ?_
        refine lv_goto (tgt := 71) hx hb dX6_standing_66 (by decide) ?_
        refine lv_istore (lv' := [(4, .int (nI k)), (7, .int (n_g6 v h w k)), (0, .ref oM), (1, .int (nI h)), (2, .int (nI w)), (3, .int (nI q)), (5, .int b2), (6, .int (nI k))]) hx hb dX6_standing_71 hl (by decide) rfl (fun ls hl => ?_)
        refine lv_iload hx hb dX6_standing_73 (lv_at hl 1 rfl) ?_
        refine lv_iload hx hb dX6_standing_75 (lv_at hl 6 rfl) ?_
        refine lv_icmp_le (tgt := 85) hx hb dX6_standing_77 (by decide) (fun c_12 => ?_) (fun c_12 => ?_)
        · skip
          refine lv_iload hx hb dX6_standing_85 (lv_at hl 6 rfl) ?_
          refine lv_istore (lv' := [(5, .int b2), (4, .int (nI k)), (7, .int (n_g6 v h w k)), (0, .ref oM), (1, .int (nI h)), (2, .int (nI w)), (3, .int (nI q)), (6, .int (nI k))]) hx hb dX6_standing_87 hl (by decide) rfl (fun ls hl => ?_)
          refine lv_iinc (v := nI (k + 1)) (lv' := [(6, .int (nI (k + 1))), (5, .int b2), (4, .int (nI k)), (7, .int (n_g6 v h w k)), (0, .ref oM), (1, .int (nI h)), (2, .int (nI w)), (3, .int (nI q))]) hx hb dX6_standing_89 hl (k := 7) rfl (nI_1 k) (by decide) rfl (fun ls hl => ?_)
          refine lv_goto (tgt := 9) hx hb dX6_standing_92 (by decide) ?_
          exact ih_1 (k + 1) k b2 (nI (k / 12)) (nI (k % 12)) (nI h) (nI w) ⟨(by omega), (by first | exact absurd ‹n_g6 v h w k ≤ b2› ‹¬ n_g6 v h w k ≤ b2› | (rw [n_sb, ← i2, if_pos ⟨(show k / 12 + h ≤ 6 ∧ k % 12 + w ≤ 12 by omega), Int32.not_le.mp (by assumption)⟩]) | (rw [n_sb, ← i2, if_neg (fun q => absurd q.2 (Int32.not_lt.mpr (by assumption)))]; exact i1) | (rw [n_sb, if_neg (fun q => absurd q.1 (by omega))]; exact i1)), (by first | exact absurd ‹n_g6 v h w k ≤ b2› ‹¬ n_g6 v h w k ≤ b2› | (rw [n_sm, ← i2, if_pos ⟨(show k / 12 + h ≤ 6 ∧ k % 12 + w ≤ 12 by omega), Int32.not_le.mp (by assumption)⟩]) | (rw [n_sm, ← i2, if_neg (fun q => absurd q.2 (Int32.not_lt.mpr (by assumption)))]) | (rw [n_sm, if_neg (fun q => absurd q.1 (by omega))]; exact i2)), (by omega)⟩ (by show 72 - (k + 1) < 72 - k; omega) _ _ (hP.sub [1, 0] rfl) (hD.sub [1, 0] (by decide) rfl) hS _ (lv_sub hl [4, 5, 6, 7, 2, 1, 0] rfl)
        · skip
          refine lv_iload hx hb dX6_standing_80 (lv_at hl 1 rfl) ?_
          refine lv_goto (tgt := 87) hx hb dX6_standing_82 (by decide) ?_
          refine lv_istore (lv' := [(5, .int (n_g6 v h w k)), (4, .int (nI k)), (7, .int (n_g6 v h w k)), (0, .ref oM), (1, .int (nI h)), (2, .int (nI w)), (3, .int (nI q)), (6, .int (nI k))]) hx hb dX6_standing_87 hl (by decide) rfl (fun ls hl => ?_)
          refine lv_iinc (v := nI (k + 1)) (lv' := [(6, .int (nI (k + 1))), (5, .int (n_g6 v h w k)), (4, .int (nI k)), (7, .int (n_g6 v h w k)), (0, .ref oM), (1, .int (nI h)), (2, .int (nI w)), (3, .int (nI q))]) hx hb dX6_standing_89 hl (k := 7) rfl (nI_1 k) (by decide) rfl (fun ls hl => ?_)
          refine lv_goto (tgt := 9) hx hb dX6_standing_92 (by decide) ?_
          exact ih_1 (k + 1) k (n_g6 v h w k) (nI (k / 12)) (nI (k % 12)) (nI h) (nI w) ⟨(by omega), (by first | exact absurd ‹n_g6 v h w k ≤ b2› ‹¬ n_g6 v h w k ≤ b2› | (rw [n_sb, ← i2, if_pos ⟨(show k / 12 + h ≤ 6 ∧ k % 12 + w ≤ 12 by omega), Int32.not_le.mp (by assumption)⟩]) | (rw [n_sb, ← i2, if_neg (fun q => absurd q.2 (Int32.not_lt.mpr (by assumption)))]; exact i1) | (rw [n_sb, if_neg (fun q => absurd q.1 (by omega))]; exact i1)), (by first | exact absurd ‹n_g6 v h w k ≤ b2› ‹¬ n_g6 v h w k ≤ b2› | (rw [n_sm, ← i2, if_pos ⟨(show k / 12 + h ≤ 6 ∧ k % 12 + w ≤ 12 by omega), Int32.not_le.mp (by assumption)⟩]) | (rw [n_sm, ← i2, if_neg (fun q => absurd q.2 (Int32.not_lt.mpr (by assumption)))]) | (rw [n_sm, if_neg (fun q => absurd q.1 (by omega))]; exact i2)), (by omega)⟩ (by show 72 - (k + 1) < 72 - k; omega) _ _ (hP.sub [1, 0] rfl) (hD.sub [1, 0] (by decide) rfl) hS _ (lv_sub hl [4, 5, 6, 7, 2, 1, 0] rfl)
