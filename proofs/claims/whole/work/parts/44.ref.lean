set_option maxHeartbeats 4000000 in
set_option maxRecDepth 100000 in
theorem c_X6_wire_t (l : Launch) (dC : Nat → ClassId) (dI : Nat → Nat → Nat) (cI : ClassId) (sz : Nat) (oM : Nat) (rz : Nat) (r2 : Nat) (rb : Nat) (rq : Nat) (km : Nat) (n : Nat) (th : Int32) (tp : Int32) (lf : Int32) (hg : Int32) (wd : Int32) (pm : Int32) (stt : Int32) (hh : Int64) (z : Nat → Int32) (v : Nat → Int32) (x1 : Int32) (x2 : Int32) (x3 : Int32) (x4 : Int32) (hbad : ¬ ((0 ≤ x1 ∧ x1 ≤ 2) ∧ (0 ≤ x2 ∧ x2 ≤ 5) ∧ (0 ≤ x3 ∧ x3 ≤ 15) ∧ (-3 ≤ x4 ∧ x4 ≤ 3))) : Met l yX6_wire wsX6_wire ({ frames := 2, cells := 0, slots := 0, locals := 42 }) (kq_M dC dI cI [.ref oM, .int x1, .int x2, .int x3, .int x4] sz [(oM, .inr (6, [.int th, .ref rz, .ref r2, .int (nI km), .ref rb, .int (nI n), .int tp, .int lf, .int hg, .int wd, .ref rq, .int pm, .int stt, .long hh]))]) (va_Qi (fun (r : Int32) (u : Int32) => (¬ ((0 ≤ x1 ∧ x1 ≤ 2) ∧ (0 ≤ x2 ∧ x2 ≤ 5) ∧ (0 ≤ x3 ∧ x3 ≤ 15)) → u = 1) ∧ (((0 ≤ x1 ∧ x1 ≤ 2) ∧ (0 ≤ x2 ∧ x2 ≤ 5) ∧ (0 ≤ x3 ∧ x3 ≤ 15)) → ¬ ((-3 ≤ x4 ∧ x4 ≤ 3)) → u = 2)) (kq_B dC dI (va_A [(oM, .inr (6, [.int th, .ref rz, .ref r2, .int (nI km), .ref rb, .int (nI n), .int tp, .int lf, .int hg, .int wd, .ref rq, .int pm, .int stt, .long hh]))] sz) (fun u : Int32 => [(oM, .inr (6, [.int u, .ref rz, .ref r2, .int (nI km), .ref rb, .int (nI n), .int tp, .int lf, .int hg, .int wd, .ref rq, .int pm, .int stt, .long hh]))])) (va_A [(oM, .inr (6, [.int th, .ref rz, .ref r2, .int (nI km), .ref rb, .int (nI n), .int tp, .int lf, .int hg, .int wd, .ref rq, .int pm, .int stt, .long hh]))] sz)) 0 0 (va_A [(oM, .inr (6, [.int th, .ref rz, .ref r2, .int (nI km), .ref rb, .int (nI n), .int tp, .int lf, .int hg, .int wd, .ref rq, .int pm, .int stt, .long hh]))] sz) := by
  refine kq_startM (cc := cX6_wire) (maxL := 6) (ret := (some .int)) (by decide) rfl (Nat.le_of_ble_eq_true rfl) ?_
  intro p e s m below meth c hx hb hr hml hown hlocks hts hsz hA hP hD hS hK hnm ls hl
  subst hsz
  generalize hAe : va_A [(oM, .inr (6, [.int th, .ref rz, .ref r2, .int (nI km), .ref rb, .int (nI n), .int tp, .int lf, .int hg, .int wd, .ref rq, .int pm, .int stt, .long hh]))] s.heap.size = A at hA hD hS ⊢
  have hown : s.vm.findClass RX6 = some m.cls := hown
  have hl : lv_has ls 6 [(0, .ref oM), (1, .int x1), (2, .int x2), (3, .int x3), (4, .int x4)] := hl
  refine lv_aload_n hx hb dX6_wire_0 rfl (lv_at hl 0 rfl) ?_
  refine lv_iload_n hx hb dX6_wire_1 rfl (lv_at hl 1 rfl) ?_
  refine kq_cS (As := [.int x1]) (rest := [.ref oM]) ⟨hx, hb, hml, hown, hts⟩ (c_X6_isRoll l dC dI cI x1 ) (va_cwS 1 hts gX6_wire_X6_isRoll rfl rfl rfl (by decide +kernel) ⟨Nat.le_of_ble_eq_true rfl, Nat.le_of_ble_eq_true rfl⟩) (hP.sub [] rfl) hK rfl hl.1 rfl (Nat.le_of_ble_eq_true rfl) dX6_wire_2 ⟨Nat.le_of_ble_eq_true rfl, Nat.le_of_ble_eq_true rfl⟩ ?_
  refine lv_if_eq (tgt := 27) hx hb dX6_wire_5 (by decide) (fun c_1 => ?_) (fun c_1 => ?_)
  · skip
    have c_1 := kq_bf c_1
    refine lv_iconst (v := 1) hx hb dX6_wire_27 (by decide) ?_
    refine lv_goto (tgt := 47) hx hb dX6_wire_28 (by decide) ?_
    refine va_put (D := (dC, dI)) (ci := 6) (v := .int 1) (ty := .int) (C := RX6) (T := TX6) (N := 14) hx hb hts (by decide +kernel) tyX6 tyX6_ok nmX6 hown hK.1 hP hD hS 0 rfl rfl 0 (by decide) (hts (.fieldLink RX6 22 "NoteWatermarksModel" "thrown" "I") (by decide +kernel)) (fun _ h9 => h9) rfl (by decide +kernel) rfl rfl (Nat.le_of_ble_eq_true rfl) dX6_wire_47 (fun H locs hP hD hS => ?_)
    have hP : va_P (dC, dI) vwCl [(oM, .inr (6, [.int 1, .ref rz, .ref r2, .int (nI km), .ref rb, .int (nI n), .int tp, .int lf, .int hg, .int wd, .ref rq, .int pm, .int stt, .long hh]))] H := hP
    have hD : va_D A [(oM, .inr (6, [.int 1, .ref rz, .ref r2, .int (nI km), .ref rb, .int (nI n), .int tp, .int lf, .int hg, .int wd, .ref rq, .int pm, .int stt, .long hh]))] := hD
    refine lv_aload_n hx hb dX6_wire_50 rfl (lv_at hl 0 rfl) ?_
    refine va_get (D := (dC, dI)) (ci := 6) (v := .int 1) (C := RX6) (T := TX6) (N := 14) hx hb hts (by decide +kernel) hown hK.1 hP 0 rfl rfl 0 (by decide) (hts (.fieldLink RX6 22 "NoteWatermarksModel" "thrown" "I") (by decide +kernel)) (fun _ h9 => h9) rfl dX6_wire_51 ?_
    refine lv_if_le (tgt := 59) hx hb dX6_wire_54 (by decide) (fun q => absurd q (by decide)) (fun _ => ?_)
    refine lv_iconst (v := 0) hx hb dX6_wire_57 (by decide) ?_
    exact kq_retMi (1) hx hb hr hlocks hP hD hS dX6_wire_58 (by first | exact ⟨fun _ => rfl, fun q _ => absurd q.1 (by assumption)⟩ | exact ⟨fun _ => rfl, fun q _ => absurd q.2.1 (by assumption)⟩ | exact ⟨fun _ => rfl, fun q _ => absurd q.2.2 (by assumption)⟩ | exact ⟨fun q => absurd ⟨by assumption, by assumption, by assumption⟩ q, fun _ _ => rfl⟩)
  · skip
    have c_1 := kq_bt c_1
    refine lv_iload_n hx hb dX6_wire_8 rfl (lv_at hl 2 rfl) ?_
    refine lv_iconst (v := 0) hx hb dX6_wire_9 (by decide) ?_
    refine lv_iconst (v := 5) hx hb dX6_wire_10 (by decide) ?_
    refine kq_cS (As := [.int x2, .int 0, .int 5]) (rest := [.ref oM]) ⟨hx, hb, hml, hown, hts⟩ (c_X6_in l dC dI cI x2 0 5 ) (va_cwS 3 hts gX6_wire_X6_in rfl rfl rfl (by decide +kernel) ⟨Nat.le_of_ble_eq_true rfl, Nat.le_of_ble_eq_true rfl⟩) (hP.sub [] rfl) hK rfl hl.1 rfl (Nat.le_of_ble_eq_true rfl) dX6_wire_11 ⟨Nat.le_of_ble_eq_true rfl, Nat.le_of_ble_eq_true rfl⟩ ?_
    refine lv_if_eq (tgt := 27) hx hb dX6_wire_14 (by decide) (fun c_3 => ?_) (fun c_3 => ?_)
    · skip
      have c_3 := kq_bf c_3
      refine lv_iconst (v := 1) hx hb dX6_wire_27 (by decide) ?_
      refine lv_goto (tgt := 47) hx hb dX6_wire_28 (by decide) ?_
      refine va_put (D := (dC, dI)) (ci := 6) (v := .int 1) (ty := .int) (C := RX6) (T := TX6) (N := 14) hx hb hts (by decide +kernel) tyX6 tyX6_ok nmX6 hown hK.1 hP hD hS 0 rfl rfl 0 (by decide) (hts (.fieldLink RX6 22 "NoteWatermarksModel" "thrown" "I") (by decide +kernel)) (fun _ h9 => h9) rfl (by decide +kernel) rfl rfl (Nat.le_of_ble_eq_true rfl) dX6_wire_47 (fun H locs hP hD hS => ?_)
      have hP : va_P (dC, dI) vwCl [(oM, .inr (6, [.int 1, .ref rz, .ref r2, .int (nI km), .ref rb, .int (nI n), .int tp, .int lf, .int hg, .int wd, .ref rq, .int pm, .int stt, .long hh]))] H := hP
      have hD : va_D A [(oM, .inr (6, [.int 1, .ref rz, .ref r2, .int (nI km), .ref rb, .int (nI n), .int tp, .int lf, .int hg, .int wd, .ref rq, .int pm, .int stt, .long hh]))] := hD
      refine lv_aload_n hx hb dX6_wire_50 rfl (lv_at hl 0 rfl) ?_
      refine va_get (D := (dC, dI)) (ci := 6) (v := .int 1) (C := RX6) (T := TX6) (N := 14) hx hb hts (by decide +kernel) hown hK.1 hP 0 rfl rfl 0 (by decide) (hts (.fieldLink RX6 22 "NoteWatermarksModel" "thrown" "I") (by decide +kernel)) (fun _ h9 => h9) rfl dX6_wire_51 ?_
      refine lv_if_le (tgt := 59) hx hb dX6_wire_54 (by decide) (fun q => absurd q (by decide)) (fun _ => ?_)
      refine lv_iconst (v := 0) hx hb dX6_wire_57 (by decide) ?_
      exact kq_retMi (1) hx hb hr hlocks hP hD hS dX6_wire_58 (by first | exact ⟨fun _ => rfl, fun q _ => absurd q.1 (by assumption)⟩ | exact ⟨fun _ => rfl, fun q _ => absurd q.2.1 (by assumption)⟩ | exact ⟨fun _ => rfl, fun q _ => absurd q.2.2 (by assumption)⟩ | exact ⟨fun q => absurd ⟨by assumption, by assumption, by assumption⟩ q, fun _ _ => rfl⟩)
    · skip
      have c_3 := kq_bt c_3
      refine lv_iload_n hx hb dX6_wire_17 rfl (lv_at hl 3 rfl) ?_
      refine lv_iconst (v := 0) hx hb dX6_wire_18 (by decide) ?_
      refine lv_bipush (v := 15) hx hb dX6_wire_19 (by decide) ?_
      refine kq_cS (As := [.int x3, .int 0, .int 15]) (rest := [.ref oM]) ⟨hx, hb, hml, hown, hts⟩ (c_X6_in l dC dI cI x3 0 15 ) (va_cwS 3 hts gX6_wire_X6_in rfl rfl rfl (by decide +kernel) ⟨Nat.le_of_ble_eq_true rfl, Nat.le_of_ble_eq_true rfl⟩) (hP.sub [] rfl) hK rfl hl.1 rfl (Nat.le_of_ble_eq_true rfl) dX6_wire_21 ⟨Nat.le_of_ble_eq_true rfl, Nat.le_of_ble_eq_true rfl⟩ ?_
      refine lv_if_ne (tgt := 31) hx hb dX6_wire_24 (by decide) (fun c_5 => ?_) (fun c_5 => ?_)
      · skip
        have c_5 := kq_bt c_5
        refine lv_iload hx hb dX6_wire_31 (lv_at hl 4 rfl) ?_
        refine lv_bipush (v := (-3)) hx hb dX6_wire_33 (by decide) ?_
        refine lv_iconst (v := 3) hx hb dX6_wire_35 (by decide) ?_
        refine kq_cS (As := [.int x4, .int (-3), .int 3]) (rest := [.ref oM]) ⟨hx, hb, hml, hown, hts⟩ (c_X6_in l dC dI cI x4 (-3) 3 ) (va_cwS 3 hts gX6_wire_X6_in rfl rfl rfl (by decide +kernel) ⟨Nat.le_of_ble_eq_true rfl, Nat.le_of_ble_eq_true rfl⟩) (hP.sub [] rfl) hK rfl hl.1 rfl (Nat.le_of_ble_eq_true rfl) dX6_wire_36 ⟨Nat.le_of_ble_eq_true rfl, Nat.le_of_ble_eq_true rfl⟩ ?_
        refine lv_if_eq (tgt := 46) hx hb dX6_wire_39 (by decide) (fun c_6 => ?_) (fun c_6 => ?_)
        · skip
          have c_6 := kq_bf c_6
          refine lv_iconst (v := 2) hx hb dX6_wire_46 (by decide) ?_
          refine va_put (D := (dC, dI)) (ci := 6) (v := .int 2) (ty := .int) (C := RX6) (T := TX6) (N := 14) hx hb hts (by decide +kernel) tyX6 tyX6_ok nmX6 hown hK.1 hP hD hS 0 rfl rfl 0 (by decide) (hts (.fieldLink RX6 22 "NoteWatermarksModel" "thrown" "I") (by decide +kernel)) (fun _ h9 => h9) rfl (by decide +kernel) rfl rfl (Nat.le_of_ble_eq_true rfl) dX6_wire_47 (fun H locs hP hD hS => ?_)
          have hP : va_P (dC, dI) vwCl [(oM, .inr (6, [.int 2, .ref rz, .ref r2, .int (nI km), .ref rb, .int (nI n), .int tp, .int lf, .int hg, .int wd, .ref rq, .int pm, .int stt, .long hh]))] H := hP
          have hD : va_D A [(oM, .inr (6, [.int 2, .ref rz, .ref r2, .int (nI km), .ref rb, .int (nI n), .int tp, .int lf, .int hg, .int wd, .ref rq, .int pm, .int stt, .long hh]))] := hD
          refine lv_aload_n hx hb dX6_wire_50 rfl (lv_at hl 0 rfl) ?_
          refine va_get (D := (dC, dI)) (ci := 6) (v := .int 2) (C := RX6) (T := TX6) (N := 14) hx hb hts (by decide +kernel) hown hK.1 hP 0 rfl rfl 0 (by decide) (hts (.fieldLink RX6 22 "NoteWatermarksModel" "thrown" "I") (by decide +kernel)) (fun _ h9 => h9) rfl dX6_wire_51 ?_
          refine lv_if_le (tgt := 59) hx hb dX6_wire_54 (by decide) (fun q => absurd q (by decide)) (fun _ => ?_)
          refine lv_iconst (v := 0) hx hb dX6_wire_57 (by decide) ?_
          exact kq_retMi (2) hx hb hr hlocks hP hD hS dX6_wire_58 (by first | exact ⟨fun _ => rfl, fun q _ => absurd q.1 (by assumption)⟩ | exact ⟨fun _ => rfl, fun q _ => absurd q.2.1 (by assumption)⟩ | exact ⟨fun _ => rfl, fun q _ => absurd q.2.2 (by assumption)⟩ | exact ⟨fun q => absurd ⟨by assumption, by assumption, by assumption⟩ q, fun _ _ => rfl⟩)
        · skip
          have c_6 := kq_bt c_6
          exact absurd ⟨by assumption, by assumption, by assumption, c_6⟩ hbad
      · skip
        have c_5 := kq_bf c_5
        refine lv_iconst (v := 1) hx hb dX6_wire_27 (by decide) ?_
        refine lv_goto (tgt := 47) hx hb dX6_wire_28 (by decide) ?_
        refine va_put (D := (dC, dI)) (ci := 6) (v := .int 1) (ty := .int) (C := RX6) (T := TX6) (N := 14) hx hb hts (by decide +kernel) tyX6 tyX6_ok nmX6 hown hK.1 hP hD hS 0 rfl rfl 0 (by decide) (hts (.fieldLink RX6 22 "NoteWatermarksModel" "thrown" "I") (by decide +kernel)) (fun _ h9 => h9) rfl (by decide +kernel) rfl rfl (Nat.le_of_ble_eq_true rfl) dX6_wire_47 (fun H locs hP hD hS => ?_)
        have hP : va_P (dC, dI) vwCl [(oM, .inr (6, [.int 1, .ref rz, .ref r2, .int (nI km), .ref rb, .int (nI n), .int tp, .int lf, .int hg, .int wd, .ref rq, .int pm, .int stt, .long hh]))] H := hP
        have hD : va_D A [(oM, .inr (6, [.int 1, .ref rz, .ref r2, .int (nI km), .ref rb, .int (nI n), .int tp, .int lf, .int hg, .int wd, .ref rq, .int pm, .int stt, .long hh]))] := hD
        refine lv_aload_n hx hb dX6_wire_50 rfl (lv_at hl 0 rfl) ?_
        refine va_get (D := (dC, dI)) (ci := 6) (v := .int 1) (C := RX6) (T := TX6) (N := 14) hx hb hts (by decide +kernel) hown hK.1 hP 0 rfl rfl 0 (by decide) (hts (.fieldLink RX6 22 "NoteWatermarksModel" "thrown" "I") (by decide +kernel)) (fun _ h9 => h9) rfl dX6_wire_51 ?_
        refine lv_if_le (tgt := 59) hx hb dX6_wire_54 (by decide) (fun q => absurd q (by decide)) (fun _ => ?_)
        refine lv_iconst (v := 0) hx hb dX6_wire_57 (by decide) ?_
        exact kq_retMi (1) hx hb hr hlocks hP hD hS dX6_wire_58 (by first | exact ⟨fun _ => rfl, fun q _ => absurd q.1 (by assumption)⟩ | exact ⟨fun _ => rfl, fun q _ => absurd q.2.1 (by assumption)⟩ | exact ⟨fun _ => rfl, fun q _ => absurd q.2.2 (by assumption)⟩ | exact ⟨fun q => absurd ⟨by assumption, by assumption, by assumption⟩ q, fun _ _ => rfl⟩)
set_option maxHeartbeats 4000000 in
set_option maxRecDepth 100000 in
theorem c_X6_size_t (l : Launch) (dC : Nat → ClassId) (dI : Nat → Nat → Nat) (cI : ClassId) (sz : Nat) (oM : Nat) (rz : Nat) (r2 : Nat) (rb : Nat) (rq : Nat) (km : Nat) (n : Nat) (th : Int32) (tp : Int32) (lf : Int32) (hg : Int32) (wd : Int32) (pm : Int32) (stt : Int32) (hh : Int64) (z : Nat → Int32) (v : Nat → Int32) (x1 : Int32) (x2 : Int32) (hbad : ¬ ((0 ≤ x1 ∧ x1 ≤ 2) ∧ (4 ≤ x2 ∧ x2 ≤ 16))) : Met l yX6_size wsX6_size ({ frames := 2, cells := 0, slots := 0, locals := 42 }) (kq_M dC dI cI [.ref oM, .int x1, .int x2] sz [(oM, .inr (6, [.int th, .ref rz, .ref r2, .int (nI km), .ref rb, .int (nI n), .int tp, .int lf, .int hg, .int wd, .ref rq, .int pm, .int stt, .long hh]))]) (va_Qi (fun (r : Int32) (u : Int32) => (¬ ((0 ≤ x1 ∧ x1 ≤ 2)) → u = 1) ∧ (((0 ≤ x1 ∧ x1 ≤ 2)) → ¬ ((4 ≤ x2 ∧ x2 ≤ 16)) → u = 2)) (kq_B dC dI (va_A [(oM, .inr (6, [.int th, .ref rz, .ref r2, .int (nI km), .ref rb, .int (nI n), .int tp, .int lf, .int hg, .int wd, .ref rq, .int pm, .int stt, .long hh]))] sz) (fun u : Int32 => [(oM, .inr (6, [.int u, .ref rz, .ref r2, .int (nI km), .ref rb, .int (nI n), .int tp, .int lf, .int hg, .int wd, .ref rq, .int pm, .int stt, .long hh]))])) (va_A [(oM, .inr (6, [.int th, .ref rz, .ref r2, .int (nI km), .ref rb, .int (nI n), .int tp, .int lf, .int hg, .int wd, .ref rq, .int pm, .int stt, .long hh]))] sz)) 0 0 (va_A [(oM, .inr (6, [.int th, .ref rz, .ref r2, .int (nI km), .ref rb, .int (nI n), .int tp, .int lf, .int hg, .int wd, .ref rq, .int pm, .int stt, .long hh]))] sz) := by
  refine kq_startM (cc := cX6_size) (maxL := 4) (ret := (some .int)) (by decide) rfl (Nat.le_of_ble_eq_true rfl) ?_
  intro p e s m below meth c hx hb hr hml hown hlocks hts hsz hA hP hD hS hK hnm ls hl
  subst hsz
  generalize hAe : va_A [(oM, .inr (6, [.int th, .ref rz, .ref r2, .int (nI km), .ref rb, .int (nI n), .int tp, .int lf, .int hg, .int wd, .ref rq, .int pm, .int stt, .long hh]))] s.heap.size = A at hA hD hS ⊢
  have hown : s.vm.findClass RX6 = some m.cls := hown
  have hl : lv_has ls 4 [(0, .ref oM), (1, .int x1), (2, .int x2)] := hl
  refine lv_aload_n hx hb dX6_size_0 rfl (lv_at hl 0 rfl) ?_
  refine lv_iload_n hx hb dX6_size_1 rfl (lv_at hl 1 rfl) ?_
  refine kq_cS (As := [.int x1]) (rest := [.ref oM]) ⟨hx, hb, hml, hown, hts⟩ (c_X6_isRoll l dC dI cI x1 ) (va_cwS 1 hts gX6_size_X6_isRoll rfl rfl rfl (by decide +kernel) ⟨Nat.le_of_ble_eq_true rfl, Nat.le_of_ble_eq_true rfl⟩) (hP.sub [] rfl) hK rfl hl.1 rfl (Nat.le_of_ble_eq_true rfl) dX6_size_2 ⟨Nat.le_of_ble_eq_true rfl, Nat.le_of_ble_eq_true rfl⟩ ?_
  refine lv_if_ne (tgt := 12) hx hb dX6_size_5 (by decide) (fun c_1 => ?_) (fun c_1 => ?_)
  · skip
    have c_1 := kq_bt c_1
    refine lv_iload_n hx hb dX6_size_12 rfl (lv_at hl 2 rfl) ?_
    refine lv_iconst (v := 4) hx hb dX6_size_13 (by decide) ?_
    refine lv_bipush (v := 16) hx hb dX6_size_14 (by decide) ?_
    refine kq_cS (As := [.int x2, .int 4, .int 16]) (rest := [.ref oM]) ⟨hx, hb, hml, hown, hts⟩ (c_X6_in l dC dI cI x2 4 16 ) (va_cwS 3 hts gX6_size_X6_in rfl rfl rfl (by decide +kernel) ⟨Nat.le_of_ble_eq_true rfl, Nat.le_of_ble_eq_true rfl⟩) (hP.sub [] rfl) hK rfl hl.1 rfl (Nat.le_of_ble_eq_true rfl) dX6_size_16 ⟨Nat.le_of_ble_eq_true rfl, Nat.le_of_ble_eq_true rfl⟩ ?_
    refine lv_if_eq (tgt := 26) hx hb dX6_size_19 (by decide) (fun c_2 => ?_) (fun c_2 => ?_)
    · skip
      have c_2 := kq_bf c_2
      refine lv_iconst (v := 2) hx hb dX6_size_26 (by decide) ?_
      refine va_put (D := (dC, dI)) (ci := 6) (v := .int 2) (ty := .int) (C := RX6) (T := TX6) (N := 14) hx hb hts (by decide +kernel) tyX6 tyX6_ok nmX6 hown hK.1 hP hD hS 0 rfl rfl 0 (by decide) (hts (.fieldLink RX6 22 "NoteWatermarksModel" "thrown" "I") (by decide +kernel)) (fun _ h9 => h9) rfl (by decide +kernel) rfl rfl (Nat.le_of_ble_eq_true rfl) dX6_size_27 (fun H locs hP hD hS => ?_)
      have hP : va_P (dC, dI) vwCl [(oM, .inr (6, [.int 2, .ref rz, .ref r2, .int (nI km), .ref rb, .int (nI n), .int tp, .int lf, .int hg, .int wd, .ref rq, .int pm, .int stt, .long hh]))] H := hP
      have hD : va_D A [(oM, .inr (6, [.int 2, .ref rz, .ref r2, .int (nI km), .ref rb, .int (nI n), .int tp, .int lf, .int hg, .int wd, .ref rq, .int pm, .int stt, .long hh]))] := hD
      refine lv_aload_n hx hb dX6_size_30 rfl (lv_at hl 0 rfl) ?_
      refine va_get (D := (dC, dI)) (ci := 6) (v := .int 2) (C := RX6) (T := TX6) (N := 14) hx hb hts (by decide +kernel) hown hK.1 hP 0 rfl rfl 0 (by decide) (hts (.fieldLink RX6 22 "NoteWatermarksModel" "thrown" "I") (by decide +kernel)) (fun _ h9 => h9) rfl dX6_size_31 ?_
      refine lv_if_le (tgt := 39) hx hb dX6_size_34 (by decide) (fun q => absurd q (by decide)) (fun _ => ?_)
      refine lv_iconst (v := 0) hx hb dX6_size_37 (by decide) ?_
      exact kq_retMi (2) hx hb hr hlocks hP hD hS dX6_size_38 (by first | exact ⟨fun _ => rfl, fun q _ => absurd q (by assumption)⟩ | exact ⟨fun q => absurd (by assumption) q, fun _ _ => rfl⟩)
    · skip
      have c_2 := kq_bt c_2
      exact absurd ⟨by assumption, c_2⟩ hbad
  · skip
    have c_1 := kq_bf c_1
    refine lv_iconst (v := 1) hx hb dX6_size_8 (by decide) ?_
    refine lv_goto (tgt := 27) hx hb dX6_size_9 (by decide) ?_
    refine va_put (D := (dC, dI)) (ci := 6) (v := .int 1) (ty := .int) (C := RX6) (T := TX6) (N := 14) hx hb hts (by decide +kernel) tyX6 tyX6_ok nmX6 hown hK.1 hP hD hS 0 rfl rfl 0 (by decide) (hts (.fieldLink RX6 22 "NoteWatermarksModel" "thrown" "I") (by decide +kernel)) (fun _ h9 => h9) rfl (by decide +kernel) rfl rfl (Nat.le_of_ble_eq_true rfl) dX6_size_27 (fun H locs hP hD hS => ?_)
    have hP : va_P (dC, dI) vwCl [(oM, .inr (6, [.int 1, .ref rz, .ref r2, .int (nI km), .ref rb, .int (nI n), .int tp, .int lf, .int hg, .int wd, .ref rq, .int pm, .int stt, .long hh]))] H := hP
    have hD : va_D A [(oM, .inr (6, [.int 1, .ref rz, .ref r2, .int (nI km), .ref rb, .int (nI n), .int tp, .int lf, .int hg, .int wd, .ref rq, .int pm, .int stt, .long hh]))] := hD
    refine lv_aload_n hx hb dX6_size_30 rfl (lv_at hl 0 rfl) ?_
    refine va_get (D := (dC, dI)) (ci := 6) (v := .int 1) (C := RX6) (T := TX6) (N := 14) hx hb hts (by decide +kernel) hown hK.1 hP 0 rfl rfl 0 (by decide) (hts (.fieldLink RX6 22 "NoteWatermarksModel" "thrown" "I") (by decide +kernel)) (fun _ h9 => h9) rfl dX6_size_31 ?_
    refine lv_if_le (tgt := 39) hx hb dX6_size_34 (by decide) (fun q => absurd q (by decide)) (fun _ => ?_)
    refine lv_iconst (v := 0) hx hb dX6_size_37 (by decide) ?_
    exact kq_retMi (1) hx hb hr hlocks hP hD hS dX6_size_38 (by first | exact ⟨fun _ => rfl, fun q _ => absurd q (by assumption)⟩ | exact ⟨fun q => absurd (by assumption) q, fun _ _ => rfl⟩)
set_option maxHeartbeats 4000000 in
set_option maxRecDepth 100000 in
theorem c_X6_turn_t (l : Launch) (dC : Nat → ClassId) (dI : Nat → Nat → Nat) (cI : ClassId) (sz : Nat) (oM : Nat) (rz : Nat) (r2 : Nat) (rb : Nat) (rq : Nat) (km : Nat) (n : Nat) (th : Int32) (tp : Int32) (lf : Int32) (hg : Int32) (wd : Int32) (pm : Int32) (stt : Int32) (hh : Int64) (z : Nat → Int32) (v : Nat → Int32) (x1 : Int32) (x2 : Int32) (hbad : ¬ ((0 ≤ x1 ∧ x1 ≤ 2) ∧ (-99 ≤ x2 ∧ x2 ≤ 99))) : Met l yX6_turn wsX6_turn ({ frames := 2, cells := 0, slots := 0, locals := 42 }) (kq_M dC dI cI [.ref oM, .int x1, .int x2] sz [(oM, .inr (6, [.int th, .ref rz, .ref r2, .int (nI km), .ref rb, .int (nI n), .int tp, .int lf, .int hg, .int wd, .ref rq, .int pm, .int stt, .long hh]))]) (va_Qi (fun (r : Int32) (u : Int32) => (¬ ((0 ≤ x1 ∧ x1 ≤ 2)) → u = 1) ∧ (((0 ≤ x1 ∧ x1 ≤ 2)) → ¬ ((-99 ≤ x2 ∧ x2 ≤ 99)) → u = 2)) (kq_B dC dI (va_A [(oM, .inr (6, [.int th, .ref rz, .ref r2, .int (nI km), .ref rb, .int (nI n), .int tp, .int lf, .int hg, .int wd, .ref rq, .int pm, .int stt, .long hh]))] sz) (fun u : Int32 => [(oM, .inr (6, [.int u, .ref rz, .ref r2, .int (nI km), .ref rb, .int (nI n), .int tp, .int lf, .int hg, .int wd, .ref rq, .int pm, .int stt, .long hh]))])) (va_A [(oM, .inr (6, [.int th, .ref rz, .ref r2, .int (nI km), .ref rb, .int (nI n), .int tp, .int lf, .int hg, .int wd, .ref rq, .int pm, .int stt, .long hh]))] sz)) 0 0 (va_A [(oM, .inr (6, [.int th, .ref rz, .ref r2, .int (nI km), .ref rb, .int (nI n), .int tp, .int lf, .int hg, .int wd, .ref rq, .int pm, .int stt, .long hh]))] sz) := by
  refine kq_startM (cc := cX6_turn) (maxL := 4) (ret := (some .int)) (by decide) rfl (Nat.le_of_ble_eq_true rfl) ?_
  intro p e s m below meth c hx hb hr hml hown hlocks hts hsz hA hP hD hS hK hnm ls hl
  subst hsz
  generalize hAe : va_A [(oM, .inr (6, [.int th, .ref rz, .ref r2, .int (nI km), .ref rb, .int (nI n), .int tp, .int lf, .int hg, .int wd, .ref rq, .int pm, .int stt, .long hh]))] s.heap.size = A at hA hD hS ⊢
  have hown : s.vm.findClass RX6 = some m.cls := hown
  have hl : lv_has ls 4 [(0, .ref oM), (1, .int x1), (2, .int x2)] := hl
  refine lv_aload_n hx hb dX6_turn_0 rfl (lv_at hl 0 rfl) ?_
  refine lv_iload_n hx hb dX6_turn_1 rfl (lv_at hl 1 rfl) ?_
  refine kq_cS (As := [.int x1]) (rest := [.ref oM]) ⟨hx, hb, hml, hown, hts⟩ (c_X6_isRoll l dC dI cI x1 ) (va_cwS 1 hts gX6_turn_X6_isRoll rfl rfl rfl (by decide +kernel) ⟨Nat.le_of_ble_eq_true rfl, Nat.le_of_ble_eq_true rfl⟩) (hP.sub [] rfl) hK rfl hl.1 rfl (Nat.le_of_ble_eq_true rfl) dX6_turn_2 ⟨Nat.le_of_ble_eq_true rfl, Nat.le_of_ble_eq_true rfl⟩ ?_
  refine lv_if_ne (tgt := 12) hx hb dX6_turn_5 (by decide) (fun c_1 => ?_) (fun c_1 => ?_)
  · skip
    have c_1 := kq_bt c_1
    refine lv_iload_n hx hb dX6_turn_12 rfl (lv_at hl 2 rfl) ?_
    refine lv_bipush (v := (-99)) hx hb dX6_turn_13 (by decide) ?_
    refine lv_bipush (v := 99) hx hb dX6_turn_15 (by decide) ?_
    refine kq_cS (As := [.int x2, .int (-99), .int 99]) (rest := [.ref oM]) ⟨hx, hb, hml, hown, hts⟩ (c_X6_in l dC dI cI x2 (-99) 99 ) (va_cwS 3 hts gX6_turn_X6_in rfl rfl rfl (by decide +kernel) ⟨Nat.le_of_ble_eq_true rfl, Nat.le_of_ble_eq_true rfl⟩) (hP.sub [] rfl) hK rfl hl.1 rfl (Nat.le_of_ble_eq_true rfl) dX6_turn_17 ⟨Nat.le_of_ble_eq_true rfl, Nat.le_of_ble_eq_true rfl⟩ ?_
    refine lv_if_eq (tgt := 27) hx hb dX6_turn_20 (by decide) (fun c_2 => ?_) (fun c_2 => ?_)
    · skip
      have c_2 := kq_bf c_2
      refine lv_iconst (v := 2) hx hb dX6_turn_27 (by decide) ?_
      refine va_put (D := (dC, dI)) (ci := 6) (v := .int 2) (ty := .int) (C := RX6) (T := TX6) (N := 14) hx hb hts (by decide +kernel) tyX6 tyX6_ok nmX6 hown hK.1 hP hD hS 0 rfl rfl 0 (by decide) (hts (.fieldLink RX6 22 "NoteWatermarksModel" "thrown" "I") (by decide +kernel)) (fun _ h9 => h9) rfl (by decide +kernel) rfl rfl (Nat.le_of_ble_eq_true rfl) dX6_turn_28 (fun H locs hP hD hS => ?_)
      have hP : va_P (dC, dI) vwCl [(oM, .inr (6, [.int 2, .ref rz, .ref r2, .int (nI km), .ref rb, .int (nI n), .int tp, .int lf, .int hg, .int wd, .ref rq, .int pm, .int stt, .long hh]))] H := hP
      have hD : va_D A [(oM, .inr (6, [.int 2, .ref rz, .ref r2, .int (nI km), .ref rb, .int (nI n), .int tp, .int lf, .int hg, .int wd, .ref rq, .int pm, .int stt, .long hh]))] := hD
      refine lv_aload_n hx hb dX6_turn_31 rfl (lv_at hl 0 rfl) ?_
      refine va_get (D := (dC, dI)) (ci := 6) (v := .int 2) (C := RX6) (T := TX6) (N := 14) hx hb hts (by decide +kernel) hown hK.1 hP 0 rfl rfl 0 (by decide) (hts (.fieldLink RX6 22 "NoteWatermarksModel" "thrown" "I") (by decide +kernel)) (fun _ h9 => h9) rfl dX6_turn_32 ?_
      refine lv_if_le (tgt := 40) hx hb dX6_turn_35 (by decide) (fun q => absurd q (by decide)) (fun _ => ?_)
      refine lv_iconst (v := 0) hx hb dX6_turn_38 (by decide) ?_
      exact kq_retMi (2) hx hb hr hlocks hP hD hS dX6_turn_39 (by first | exact ⟨fun _ => rfl, fun q _ => absurd q (by assumption)⟩ | exact ⟨fun q => absurd (by assumption) q, fun _ _ => rfl⟩)
    · skip
      have c_2 := kq_bt c_2
      exact absurd ⟨by assumption, c_2⟩ hbad
  · skip
    have c_1 := kq_bf c_1
    refine lv_iconst (v := 1) hx hb dX6_turn_8 (by decide) ?_
    refine lv_goto (tgt := 28) hx hb dX6_turn_9 (by decide) ?_
    refine va_put (D := (dC, dI)) (ci := 6) (v := .int 1) (ty := .int) (C := RX6) (T := TX6) (N := 14) hx hb hts (by decide +kernel) tyX6 tyX6_ok nmX6 hown hK.1 hP hD hS 0 rfl rfl 0 (by decide) (hts (.fieldLink RX6 22 "NoteWatermarksModel" "thrown" "I") (by decide +kernel)) (fun _ h9 => h9) rfl (by decide +kernel) rfl rfl (Nat.le_of_ble_eq_true rfl) dX6_turn_28 (fun H locs hP hD hS => ?_)
    have hP : va_P (dC, dI) vwCl [(oM, .inr (6, [.int 1, .ref rz, .ref r2, .int (nI km), .ref rb, .int (nI n), .int tp, .int lf, .int hg, .int wd, .ref rq, .int pm, .int stt, .long hh]))] H := hP
    have hD : va_D A [(oM, .inr (6, [.int 1, .ref rz, .ref r2, .int (nI km), .ref rb, .int (nI n), .int tp, .int lf, .int hg, .int wd, .ref rq, .int pm, .int stt, .long hh]))] := hD
    refine lv_aload_n hx hb dX6_turn_31 rfl (lv_at hl 0 rfl) ?_
    refine va_get (D := (dC, dI)) (ci := 6) (v := .int 1) (C := RX6) (T := TX6) (N := 14) hx hb hts (by decide +kernel) hown hK.1 hP 0 rfl rfl 0 (by decide) (hts (.fieldLink RX6 22 "NoteWatermarksModel" "thrown" "I") (by decide +kernel)) (fun _ h9 => h9) rfl dX6_turn_32 ?_
    refine lv_if_le (tgt := 40) hx hb dX6_turn_35 (by decide) (fun q => absurd q (by decide)) (fun _ => ?_)
    refine lv_iconst (v := 0) hx hb dX6_turn_38 (by decide) ?_
    exact kq_retMi (1) hx hb hr hlocks hP hD hS dX6_turn_39 (by first | exact ⟨fun _ => rfl, fun q _ => absurd q (by assumption)⟩ | exact ⟨fun q => absurd (by assumption) q, fun _ _ => rfl⟩)
set_option maxHeartbeats 4000000 in
set_option maxRecDepth 100000 in
theorem c_X6_clear_t (l : Launch) (dC : Nat → ClassId) (dI : Nat → Nat → Nat) (cI : ClassId) (sz : Nat) (oM : Nat) (rz : Nat) (r2 : Nat) (rb : Nat) (rq : Nat) (km : Nat) (n : Nat) (th : Int32) (tp : Int32) (lf : Int32) (hg : Int32) (wd : Int32) (pm : Int32) (stt : Int32) (hh : Int64) (z : Nat → Int32) (v : Nat → Int32) (x1 : Int32) (hbad : ¬ ((0 ≤ x1 ∧ x1 ≤ 2))) : Met l yX6_clear wsX6_clear ({ frames := 2, cells := 0, slots := 0, locals := 48 }) (kq_M dC dI cI [.ref oM, .int x1] sz [(oM, .inr (6, [.int th, .ref rz, .ref r2, .int (nI km), .ref rb, .int (nI n), .int tp, .int lf, .int hg, .int wd, .ref rq, .int pm, .int stt, .long hh]))]) (va_Qi (fun (r : Int32) (u : Int32) => (¬ ((0 ≤ x1 ∧ x1 ≤ 2)) → u = 1) ∧ (((0 ≤ x1 ∧ x1 ≤ 2)) → ¬ True → u = 2)) (kq_B dC dI (va_A [(oM, .inr (6, [.int th, .ref rz, .ref r2, .int (nI km), .ref rb, .int (nI n), .int tp, .int lf, .int hg, .int wd, .ref rq, .int pm, .int stt, .long hh]))] sz) (fun u : Int32 => [(oM, .inr (6, [.int u, .ref rz, .ref r2, .int (nI km), .ref rb, .int (nI n), .int tp, .int lf, .int hg, .int wd, .ref rq, .int pm, .int stt, .long hh]))])) (va_A [(oM, .inr (6, [.int th, .ref rz, .ref r2, .int (nI km), .ref rb, .int (nI n), .int tp, .int lf, .int hg, .int wd, .ref rq, .int pm, .int stt, .long hh]))] sz)) 0 0 (va_A [(oM, .inr (6, [.int th, .ref rz, .ref r2, .int (nI km), .ref rb, .int (nI n), .int tp, .int lf, .int hg, .int wd, .ref rq, .int pm, .int stt, .long hh]))] sz) := by
  refine kq_startM (cc := cX6_clear) (maxL := 4) (ret := (some .int)) (by decide) rfl (Nat.le_of_ble_eq_true rfl) ?_
  intro p e s m below meth c hx hb hr hml hown hlocks hts hsz hA hP hD hS hK hnm ls hl
  subst hsz
  generalize hAe : va_A [(oM, .inr (6, [.int th, .ref rz, .ref r2, .int (nI km), .ref rb, .int (nI n), .int tp, .int lf, .int hg, .int wd, .ref rq, .int pm, .int stt, .long hh]))] s.heap.size = A at hA hD hS ⊢
  have hown : s.vm.findClass RX6 = some m.cls := hown
  have hl : lv_has ls 4 [(0, .ref oM), (1, .int x1)] := hl
  refine lv_aload_n hx hb dX6_clear_0 rfl (lv_at hl 0 rfl) ?_
  refine lv_iload_n hx hb dX6_clear_1 rfl (lv_at hl 1 rfl) ?_
  refine kq_cS (As := [.int x1]) (rest := [.ref oM]) ⟨hx, hb, hml, hown, hts⟩ (c_X6_isRoll l dC dI cI x1 ) (va_cwS 1 hts gX6_clear_X6_isRoll rfl rfl rfl (by decide +kernel) ⟨Nat.le_of_ble_eq_true rfl, Nat.le_of_ble_eq_true rfl⟩) (hP.sub [] rfl) hK rfl hl.1 rfl (Nat.le_of_ble_eq_true rfl) dX6_clear_2 ⟨Nat.le_of_ble_eq_true rfl, Nat.le_of_ble_eq_true rfl⟩ ?_
  refine lv_if_eq (tgt := 12) hx hb dX6_clear_5 (by decide) (fun c_1 => ?_) (fun c_1 => ?_)
  · skip
    have c_1 := kq_bf c_1
    refine lv_iconst (v := 1) hx hb dX6_clear_12 (by decide) ?_
    refine va_put (D := (dC, dI)) (ci := 6) (v := .int 1) (ty := .int) (C := RX6) (T := TX6) (N := 14) hx hb hts (by decide +kernel) tyX6 tyX6_ok nmX6 hown hK.1 hP hD hS 0 rfl rfl 0 (by decide) (hts (.fieldLink RX6 22 "NoteWatermarksModel" "thrown" "I") (by decide +kernel)) (fun _ h9 => h9) rfl (by decide +kernel) rfl rfl (Nat.le_of_ble_eq_true rfl) dX6_clear_13 (fun H locs hP hD hS => ?_)
    have hP : va_P (dC, dI) vwCl [(oM, .inr (6, [.int 1, .ref rz, .ref r2, .int (nI km), .ref rb, .int (nI n), .int tp, .int lf, .int hg, .int wd, .ref rq, .int pm, .int stt, .long hh]))] H := hP
    have hD : va_D A [(oM, .inr (6, [.int 1, .ref rz, .ref r2, .int (nI km), .ref rb, .int (nI n), .int tp, .int lf, .int hg, .int wd, .ref rq, .int pm, .int stt, .long hh]))] := hD
    refine lv_aload_n hx hb dX6_clear_16 rfl (lv_at hl 0 rfl) ?_
    refine va_get (D := (dC, dI)) (ci := 6) (v := .int 1) (C := RX6) (T := TX6) (N := 14) hx hb hts (by decide +kernel) hown hK.1 hP 0 rfl rfl 0 (by decide) (hts (.fieldLink RX6 22 "NoteWatermarksModel" "thrown" "I") (by decide +kernel)) (fun _ h9 => h9) rfl dX6_clear_17 ?_
    refine lv_if_le (tgt := 25) hx hb dX6_clear_20 (by decide) (fun q => absurd q (by decide)) (fun _ => ?_)
    refine lv_iconst (v := 0) hx hb dX6_clear_23 (by decide) ?_
    exact kq_retMi (1) hx hb hr hlocks hP hD hS dX6_clear_24 (by first | exact ⟨fun _ => rfl, fun q _ => absurd q (by assumption)⟩ | exact ⟨fun q => absurd (by assumption) q, fun _ _ => rfl⟩)
  · skip
    have c_1 := kq_bt c_1
    exact absurd c_1 hbad
set_option maxHeartbeats 4000000 in
set_option maxRecDepth 100000 in
theorem c_X6_areThere (l : Launch) (dC : Nat → ClassId) (dI : Nat → Nat → Nat) (cI : ClassId) (x1 : Int32) (x2 : Int32) (x3 : Int32) (x4 : Int32)  : Met l yX6_areThere wsX6_areThere ({ frames := 1, cells := 0, slots := 0, locals := 22 }) (kq_R dC dI cI [.int x1, .int x2, .int x3, .int x4] []) (QcRead (if ((1 ≤ x3 ∧ x3 ≤ 6 - x1) ∧ (1 ≤ x4 ∧ x4 ≤ 12 - x2)) then (1:Int32) else 0)) 0 0 (fun _ => False) := by
  refine kq_start (cc := cX6_areThere) (maxL := 4) (ret := (some .boolean)) (plainFor_of_name (by decide)) rfl (Nat.le_of_ble_eq_true rfl) ?_
  intro p e s m below meth c hx hb hr hml hown hlocks hts hP hK ls hl
  have hown : s.vm.findClass RX6 = some m.cls := hown
  have hl : lv_has ls 4 [(0, .int x1), (1, .int x2), (2, .int x3), (3, .int x4)] := hl
  refine lv_iload_n hx hb dX6_areThere_0 rfl (lv_at hl 2 rfl) ?_
  refine lv_iconst (v := 1) hx hb dX6_areThere_1 (by decide) ?_
  refine lv_bipush (v := 6) hx hb dX6_areThere_2 (by decide) ?_
  refine lv_iload_n hx hb dX6_areThere_4 rfl (lv_at hl 0 rfl) ?_
  refine lv_isub hx hb dX6_areThere_5 ?_
  refine kq_cS (As := [.int x3, .int 1, .int (6 - x1)]) (rest := []) ⟨hx, hb, hml, hown, hts⟩ (c_X6_in l dC dI cI x3 1 (6 - x1) ) (va_cwS 3 hts gX6_areThere_X6_in rfl rfl rfl (by decide +kernel) ⟨Nat.le_of_ble_eq_true rfl, Nat.le_of_ble_eq_true rfl⟩) (hP.sub [] rfl) hK rfl hl.1 rfl (Nat.le_of_ble_eq_true rfl) dX6_areThere_6 ⟨Nat.le_of_ble_eq_true rfl, Nat.le_of_ble_eq_true rfl⟩ ?_
  refine lv_if_eq (tgt := 28) hx hb dX6_areThere_9 (by decide) (fun c_1 => ?_) (fun c_1 => ?_)
  · skip
    have c_1 := kq_bf c_1
    refine lv_iconst (v := 0) hx hb dX6_areThere_28 (by decide) ?_
    exact kq_retz hx hb hr hlocks dX6_areThere_29 (Or.inl rfl) (by first | rw [if_pos ⟨by assumption, by assumption⟩] | rw [if_neg (fun q => absurd q.1 (by assumption))] | rw [if_neg (fun q => absurd q.2 (by assumption))])
  · skip
    have c_1 := kq_bt c_1
    refine lv_iload_n hx hb dX6_areThere_12 rfl (lv_at hl 3 rfl) ?_
    refine lv_iconst (v := 1) hx hb dX6_areThere_13 (by decide) ?_
    refine lv_bipush (v := 12) hx hb dX6_areThere_14 (by decide) ?_
    refine lv_iload_n hx hb dX6_areThere_16 rfl (lv_at hl 1 rfl) ?_
    refine lv_isub hx hb dX6_areThere_17 ?_
    refine kq_cS (As := [.int x4, .int 1, .int (12 - x2)]) (rest := []) ⟨hx, hb, hml, hown, hts⟩ (c_X6_in l dC dI cI x4 1 (12 - x2) ) (va_cwS 3 hts gX6_areThere_X6_in rfl rfl rfl (by decide +kernel) ⟨Nat.le_of_ble_eq_true rfl, Nat.le_of_ble_eq_true rfl⟩) (hP.sub [] rfl) hK rfl hl.1 rfl (Nat.le_of_ble_eq_true rfl) dX6_areThere_18 ⟨Nat.le_of_ble_eq_true rfl, Nat.le_of_ble_eq_true rfl⟩ ?_
    refine lv_if_eq (tgt := 28) hx hb dX6_areThere_21 (by decide) (fun c_2 => ?_) (fun c_2 => ?_)
    · skip
      have c_2 := kq_bf c_2
      refine lv_iconst (v := 0) hx hb dX6_areThere_28 (by decide) ?_
      exact kq_retz hx hb hr hlocks dX6_areThere_29 (Or.inl rfl) (by first | rw [if_pos ⟨by assumption, by assumption⟩] | rw [if_neg (fun q => absurd q.1 (by assumption))] | rw [if_neg (fun q => absurd q.2 (by assumption))])
    · skip
      have c_2 := kq_bt c_2
      refine lv_iconst (v := 1) hx hb dX6_areThere_24 (by decide) ?_
      refine lv_goto (tgt := 29) hx hb dX6_areThere_25 (by decide) ?_
      exact kq_retz hx hb hr hlocks dX6_areThere_29 (Or.inr rfl) (by first | rw [if_pos ⟨by assumption, by assumption⟩] | rw [if_neg (fun q => absurd q.1 (by assumption))] | rw [if_neg (fun q => absurd q.2 (by assumption))])
set_option maxHeartbeats 4000000 in
set_option maxRecDepth 100000 in
theorem c_X6_ink_t (l : Launch) (dC : Nat → ClassId) (dI : Nat → Nat → Nat) (cI : ClassId) (sz : Nat) (oM : Nat) (rz : Nat) (r2 : Nat) (rb : Nat) (rq : Nat) (km : Nat) (n : Nat) (th : Int32) (tp : Int32) (lf : Int32) (hg : Int32) (wd : Int32) (pm : Int32) (stt : Int32) (hh : Int64) (z : Nat → Int32) (v : Nat → Int32) (x1 : Int32) (x2 : Int32) (x3 : Int32) (x4 : Int32) (x5 : Int32) (hbad : ¬ (((0 ≤ x1 ∧ x1 ≤ 5) ∧ (0 ≤ x2 ∧ x2 ≤ 11)) ∧ ((1 ≤ x3 ∧ x3 ≤ 6 - x1) ∧ (1 ≤ x4 ∧ x4 ≤ 12 - x2)) ∧ (0 ≤ x5 ∧ x5 ≤ 9))) : Met l yX6_ink wsX6_ink ({ frames := 2, cells := 0, slots := 0, locals := 45 }) (kq_M dC dI cI [.ref oM, .int x1, .int x2, .int x3, .int x4, .int x5] sz [(oM, .inr (6, [.int th, .ref rz, .ref r2, .int (nI km), .ref rb, .int (nI n), .int tp, .int lf, .int hg, .int wd, .ref rq, .int pm, .int stt, .long hh]))]) (va_Qi (fun (r : Int32) (u : Int32) => (¬ (((0 ≤ x1 ∧ x1 ≤ 5) ∧ (0 ≤ x2 ∧ x2 ≤ 11))) → u = 1) ∧ ((((0 ≤ x1 ∧ x1 ≤ 5) ∧ (0 ≤ x2 ∧ x2 ≤ 11))) → ¬ (((1 ≤ x3 ∧ x3 ≤ 6 - x1) ∧ (1 ≤ x4 ∧ x4 ≤ 12 - x2)) ∧ (0 ≤ x5 ∧ x5 ≤ 9)) → u = 2)) (kq_B dC dI (va_A [(oM, .inr (6, [.int th, .ref rz, .ref r2, .int (nI km), .ref rb, .int (nI n), .int tp, .int lf, .int hg, .int wd, .ref rq, .int pm, .int stt, .long hh]))] sz) (fun u : Int32 => [(oM, .inr (6, [.int u, .ref rz, .ref r2, .int (nI km), .ref rb, .int (nI n), .int tp, .int lf, .int hg, .int wd, .ref rq, .int pm, .int stt, .long hh]))])) (va_A [(oM, .inr (6, [.int th, .ref rz, .ref r2, .int (nI km), .ref rb, .int (nI n), .int tp, .int lf, .int hg, .int wd, .ref rq, .int pm, .int stt, .long hh]))] sz)) 0 0 (va_A [(oM, .inr (6, [.int th, .ref rz, .ref r2, .int (nI km), .ref rb, .int (nI n), .int tp, .int lf, .int hg, .int wd, .ref rq, .int pm, .int stt, .long hh]))] sz) := by
  refine kq_startM (cc := cX6_ink) (maxL := 8) (ret := (some .int)) (by decide) rfl (Nat.le_of_ble_eq_true rfl) ?_
  intro p e s m below meth c hx hb hr hml hown hlocks hts hsz hA hP hD hS hK hnm ls hl
  subst hsz
  generalize hAe : va_A [(oM, .inr (6, [.int th, .ref rz, .ref r2, .int (nI km), .ref rb, .int (nI n), .int tp, .int lf, .int hg, .int wd, .ref rq, .int pm, .int stt, .long hh]))] s.heap.size = A at hA hD hS ⊢
  have hown : s.vm.findClass RX6 = some m.cls := hown
  have hl : lv_has ls 8 [(0, .ref oM), (1, .int x1), (2, .int x2), (3, .int x3), (4, .int x4), (5, .int x5)] := hl
  refine lv_aload_n hx hb dX6_ink_0 rfl (lv_at hl 0 rfl) ?_
  refine lv_iload_n hx hb dX6_ink_1 rfl (lv_at hl 1 rfl) ?_
  refine lv_iload_n hx hb dX6_ink_2 rfl (lv_at hl 2 rfl) ?_
  refine kq_cS (As := [.int x1, .int x2]) (rest := [.ref oM]) ⟨hx, hb, hml, hown, hts⟩ (c_X6_isCell l dC dI cI x1 x2 ) (va_cwS 2 hts gX6_ink_X6_isCell rfl rfl rfl (by decide +kernel) ⟨Nat.le_of_ble_eq_true rfl, Nat.le_of_ble_eq_true rfl⟩) (hP.sub [] rfl) hK rfl hl.1 rfl (Nat.le_of_ble_eq_true rfl) dX6_ink_3 ⟨Nat.le_of_ble_eq_true rfl, Nat.le_of_ble_eq_true rfl⟩ ?_
  refine lv_if_ne (tgt := 13) hx hb dX6_ink_6 (by decide) (fun c_1 => ?_) (fun c_1 => ?_)
  · skip
    have c_1 := kq_bt c_1
    refine lv_iload_n hx hb dX6_ink_13 rfl (lv_at hl 1 rfl) ?_
    refine lv_iload_n hx hb dX6_ink_14 rfl (lv_at hl 2 rfl) ?_
    refine lv_iload_n hx hb dX6_ink_15 rfl (lv_at hl 3 rfl) ?_
    refine lv_iload hx hb dX6_ink_16 (lv_at hl 4 rfl) ?_
    refine kq_cS (As := [.int x1, .int x2, .int x3, .int x4]) (rest := [.ref oM]) ⟨hx, hb, hml, hown, hts⟩ (c_X6_areThere l dC dI cI x1 x2 x3 x4 ) (va_cwS 4 hts gX6_ink_X6_areThere rfl rfl rfl (by decide +kernel) ⟨Nat.le_of_ble_eq_true rfl, Nat.le_of_ble_eq_true rfl⟩) (hP.sub [] rfl) hK rfl hl.1 rfl (Nat.le_of_ble_eq_true rfl) dX6_ink_18 ⟨Nat.le_of_ble_eq_true rfl, Nat.le_of_ble_eq_true rfl⟩ ?_
    refine lv_if_eq (tgt := 39) hx hb dX6_ink_21 (by decide) (fun c_2 => ?_) (fun c_2 => ?_)
    · skip
      have c_2 := kq_bf c_2
      refine lv_iconst (v := 2) hx hb dX6_ink_39 (by decide) ?_
      refine va_put (D := (dC, dI)) (ci := 6) (v := .int 2) (ty := .int) (C := RX6) (T := TX6) (N := 14) hx hb hts (by decide +kernel) tyX6 tyX6_ok nmX6 hown hK.1 hP hD hS 0 rfl rfl 0 (by decide) (hts (.fieldLink RX6 22 "NoteWatermarksModel" "thrown" "I") (by decide +kernel)) (fun _ h9 => h9) rfl (by decide +kernel) rfl rfl (Nat.le_of_ble_eq_true rfl) dX6_ink_40 (fun H locs hP hD hS => ?_)
      have hP : va_P (dC, dI) vwCl [(oM, .inr (6, [.int 2, .ref rz, .ref r2, .int (nI km), .ref rb, .int (nI n), .int tp, .int lf, .int hg, .int wd, .ref rq, .int pm, .int stt, .long hh]))] H := hP
      have hD : va_D A [(oM, .inr (6, [.int 2, .ref rz, .ref r2, .int (nI km), .ref rb, .int (nI n), .int tp, .int lf, .int hg, .int wd, .ref rq, .int pm, .int stt, .long hh]))] := hD
      refine lv_aload_n hx hb dX6_ink_43 rfl (lv_at hl 0 rfl) ?_
      refine va_get (D := (dC, dI)) (ci := 6) (v := .int 2) (C := RX6) (T := TX6) (N := 14) hx hb hts (by decide +kernel) hown hK.1 hP 0 rfl rfl 0 (by decide) (hts (.fieldLink RX6 22 "NoteWatermarksModel" "thrown" "I") (by decide +kernel)) (fun _ h9 => h9) rfl dX6_ink_44 ?_
      refine lv_if_le (tgt := 52) hx hb dX6_ink_47 (by decide) (fun q => absurd q (by decide)) (fun _ => ?_)
      refine lv_iconst (v := 0) hx hb dX6_ink_50 (by decide) ?_
      exact kq_retMi (2) hx hb hr hlocks hP hD hS dX6_ink_51 (by first | exact ⟨fun _ => rfl, fun q _ => absurd q (by assumption)⟩ | exact ⟨fun q => absurd (by assumption) q, fun _ _ => rfl⟩)
    · skip
      have c_2 := kq_bt c_2
      refine lv_iload hx hb dX6_ink_24 (lv_at hl 5 rfl) ?_
      refine lv_iconst (v := 0) hx hb dX6_ink_26 (by decide) ?_
      refine lv_bipush (v := 9) hx hb dX6_ink_27 (by decide) ?_
      refine kq_cS (As := [.int x5, .int 0, .int 9]) (rest := [.ref oM]) ⟨hx, hb, hml, hown, hts⟩ (c_X6_in l dC dI cI x5 0 9 ) (va_cwS 3 hts gX6_ink_X6_in rfl rfl rfl (by decide +kernel) ⟨Nat.le_of_ble_eq_true rfl, Nat.le_of_ble_eq_true rfl⟩) (hP.sub [] rfl) hK rfl hl.1 rfl (Nat.le_of_ble_eq_true rfl) dX6_ink_29 ⟨Nat.le_of_ble_eq_true rfl, Nat.le_of_ble_eq_true rfl⟩ ?_
      refine lv_if_eq (tgt := 39) hx hb dX6_ink_32 (by decide) (fun c_4 => ?_) (fun c_4 => ?_)
      · skip
        have c_4 := kq_bf c_4
        refine lv_iconst (v := 2) hx hb dX6_ink_39 (by decide) ?_
        refine va_put (D := (dC, dI)) (ci := 6) (v := .int 2) (ty := .int) (C := RX6) (T := TX6) (N := 14) hx hb hts (by decide +kernel) tyX6 tyX6_ok nmX6 hown hK.1 hP hD hS 0 rfl rfl 0 (by decide) (hts (.fieldLink RX6 22 "NoteWatermarksModel" "thrown" "I") (by decide +kernel)) (fun _ h9 => h9) rfl (by decide +kernel) rfl rfl (Nat.le_of_ble_eq_true rfl) dX6_ink_40 (fun H locs hP hD hS => ?_)
        have hP : va_P (dC, dI) vwCl [(oM, .inr (6, [.int 2, .ref rz, .ref r2, .int (nI km), .ref rb, .int (nI n), .int tp, .int lf, .int hg, .int wd, .ref rq, .int pm, .int stt, .long hh]))] H := hP
        have hD : va_D A [(oM, .inr (6, [.int 2, .ref rz, .ref r2, .int (nI km), .ref rb, .int (nI n), .int tp, .int lf, .int hg, .int wd, .ref rq, .int pm, .int stt, .long hh]))] := hD
        refine lv_aload_n hx hb dX6_ink_43 rfl (lv_at hl 0 rfl) ?_
        refine va_get (D := (dC, dI)) (ci := 6) (v := .int 2) (C := RX6) (T := TX6) (N := 14) hx hb hts (by decide +kernel) hown hK.1 hP 0 rfl rfl 0 (by decide) (hts (.fieldLink RX6 22 "NoteWatermarksModel" "thrown" "I") (by decide +kernel)) (fun _ h9 => h9) rfl dX6_ink_44 ?_
        refine lv_if_le (tgt := 52) hx hb dX6_ink_47 (by decide) (fun q => absurd q (by decide)) (fun _ => ?_)
        refine lv_iconst (v := 0) hx hb dX6_ink_50 (by decide) ?_
        exact kq_retMi (2) hx hb hr hlocks hP hD hS dX6_ink_51 (by first | exact ⟨fun _ => rfl, fun q _ => absurd q (by assumption)⟩ | exact ⟨fun q => absurd (by assumption) q, fun _ _ => rfl⟩)
      · skip
        have c_4 := kq_bt c_4
        exact absurd ⟨by assumption, by assumption, c_4⟩ hbad
  · skip
    have c_1 := kq_bf c_1
    refine lv_iconst (v := 1) hx hb dX6_ink_9 (by decide) ?_
    refine lv_goto (tgt := 40) hx hb dX6_ink_10 (by decide) ?_
    refine va_put (D := (dC, dI)) (ci := 6) (v := .int 1) (ty := .int) (C := RX6) (T := TX6) (N := 14) hx hb hts (by decide +kernel) tyX6 tyX6_ok nmX6 hown hK.1 hP hD hS 0 rfl rfl 0 (by decide) (hts (.fieldLink RX6 22 "NoteWatermarksModel" "thrown" "I") (by decide +kernel)) (fun _ h9 => h9) rfl (by decide +kernel) rfl rfl (Nat.le_of_ble_eq_true rfl) dX6_ink_40 (fun H locs hP hD hS => ?_)
    have hP : va_P (dC, dI) vwCl [(oM, .inr (6, [.int 1, .ref rz, .ref r2, .int (nI km), .ref rb, .int (nI n), .int tp, .int lf, .int hg, .int wd, .ref rq, .int pm, .int stt, .long hh]))] H := hP
    have hD : va_D A [(oM, .inr (6, [.int 1, .ref rz, .ref r2, .int (nI km), .ref rb, .int (nI n), .int tp, .int lf, .int hg, .int wd, .ref rq, .int pm, .int stt, .long hh]))] := hD
    refine lv_aload_n hx hb dX6_ink_43 rfl (lv_at hl 0 rfl) ?_
    refine va_get (D := (dC, dI)) (ci := 6) (v := .int 1) (C := RX6) (T := TX6) (N := 14) hx hb hts (by decide +kernel) hown hK.1 hP 0 rfl rfl 0 (by decide) (hts (.fieldLink RX6 22 "NoteWatermarksModel" "thrown" "I") (by decide +kernel)) (fun _ h9 => h9) rfl dX6_ink_44 ?_
    refine lv_if_le (tgt := 52) hx hb dX6_ink_47 (by decide) (fun q => absurd q (by decide)) (fun _ => ?_)
    refine lv_iconst (v := 0) hx hb dX6_ink_50 (by decide) ?_
    exact kq_retMi (1) hx hb hr hlocks hP hD hS dX6_ink_51 (by first | exact ⟨fun _ => rfl, fun q _ => absurd q (by assumption)⟩ | exact ⟨fun q => absurd (by assumption) q, fun _ _ => rfl⟩)
set_option maxHeartbeats 4000000 in
set_option maxRecDepth 100000 in
theorem c_X6_figure_t (l : Launch) (dC : Nat → ClassId) (dI : Nat → Nat → Nat) (cI : ClassId) (sz : Nat) (oM : Nat) (rz : Nat) (r2 : Nat) (rb : Nat) (rq : Nat) (km : Nat) (n : Nat) (th : Int32) (tp : Int32) (lf : Int32) (hg : Int32) (wd : Int32) (pm : Int32) (stt : Int32) (hh : Int64) (z : Nat → Int32) (v : Nat → Int32) (x0 : Int32) (x1 : Int32) (x2 : Int32) (x3 : Int32) (x4 : Int32) (hbad : ¬ ((0 ≤ x0 ∧ x0 ≤ 3) ∧ ((0 ≤ x1 ∧ x1 ≤ 5) ∧ (0 ≤ x2 ∧ x2 ≤ 11)) ∧ ((1 ≤ x3 ∧ x3 ≤ 6 - x1) ∧ (1 ≤ x4 ∧ x4 ≤ 12 - x2)))) : Met l yX6_figure wsX6_figure ({ frames := 3, cells := 0, slots := 0, locals := 66 }) (kq_M dC dI cI [.ref oM, .int x0, .int x1, .int x2, .int x3, .int x4] sz [(oM, .inr (6, [.int th, .ref rz, .ref r2, .int (nI km), .ref rb, .int (nI n), .int tp, .int lf, .int hg, .int wd, .ref rq, .int pm, .int stt, .long hh]))]) (va_Qi (fun (r : Int32) (u : Int32) => (¬ ((0 ≤ x0 ∧ x0 ≤ 3) ∧ ((0 ≤ x1 ∧ x1 ≤ 5) ∧ (0 ≤ x2 ∧ x2 ≤ 11))) → u = 1) ∧ (((0 ≤ x0 ∧ x0 ≤ 3) ∧ ((0 ≤ x1 ∧ x1 ≤ 5) ∧ (0 ≤ x2 ∧ x2 ≤ 11))) → ¬ (((1 ≤ x3 ∧ x3 ≤ 6 - x1) ∧ (1 ≤ x4 ∧ x4 ≤ 12 - x2))) → u = 2)) (kq_B dC dI (va_A [(oM, .inr (6, [.int th, .ref rz, .ref r2, .int (nI km), .ref rb, .int (nI n), .int tp, .int lf, .int hg, .int wd, .ref rq, .int pm, .int stt, .long hh]))] sz) (fun u : Int32 => [(oM, .inr (6, [.int u, .ref rz, .ref r2, .int (nI km), .ref rb, .int (nI n), .int tp, .int lf, .int hg, .int wd, .ref rq, .int pm, .int stt, .long hh]))])) (va_A [(oM, .inr (6, [.int th, .ref rz, .ref r2, .int (nI km), .ref rb, .int (nI n), .int tp, .int lf, .int hg, .int wd, .ref rq, .int pm, .int stt, .long hh]))] sz)) 0 0 (va_A [(oM, .inr (6, [.int th, .ref rz, .ref r2, .int (nI km), .ref rb, .int (nI n), .int tp, .int lf, .int hg, .int wd, .ref rq, .int pm, .int stt, .long hh]))] sz) := by
  refine kq_startM (cc := cX6_figure) (maxL := 7) (ret := (some .int)) (by decide) rfl (Nat.le_of_ble_eq_true rfl) ?_
  intro p e s m below meth c hx hb hr hml hown hlocks hts hsz hA hP hD hS hK hnm ls hl
  subst hsz
  generalize hAe : va_A [(oM, .inr (6, [.int th, .ref rz, .ref r2, .int (nI km), .ref rb, .int (nI n), .int tp, .int lf, .int hg, .int wd, .ref rq, .int pm, .int stt, .long hh]))] s.heap.size = A at hA hD hS ⊢
  have hown : s.vm.findClass RX6 = some m.cls := hown
  have hl : lv_has ls 7 [(0, .ref oM), (1, .int x0), (2, .int x1), (3, .int x2), (4, .int x3), (5, .int x4)] := hl
  refine lv_aload_n hx hb dX6_figure_0 rfl (lv_at hl 0 rfl) ?_
  refine lv_iload_n hx hb dX6_figure_1 rfl (lv_at hl 1 rfl) ?_
  refine kq_cS (As := [.int x0]) (rest := [.ref oM]) ⟨hx, hb, hml, hown, hts⟩ (c_X6_isFigure l dC dI cI x0 ) (va_cwS 1 hts gX6_figure_X6_isFigure rfl rfl rfl (by decide +kernel) ⟨Nat.le_of_ble_eq_true rfl, Nat.le_of_ble_eq_true rfl⟩) (hP.sub [] rfl) hK rfl hl.1 rfl (Nat.le_of_ble_eq_true rfl) dX6_figure_2 ⟨Nat.le_of_ble_eq_true rfl, Nat.le_of_ble_eq_true rfl⟩ ?_
  refine lv_if_eq (tgt := 16) hx hb dX6_figure_5 (by decide) (fun c_1 => ?_) (fun c_1 => ?_)
  · skip
    have c_1 := kq_bf c_1
    refine lv_iconst (v := 1) hx hb dX6_figure_16 (by decide) ?_
    refine lv_goto (tgt := 37) hx hb dX6_figure_17 (by decide) ?_
    refine va_put (D := (dC, dI)) (ci := 6) (v := .int 1) (ty := .int) (C := RX6) (T := TX6) (N := 14) hx hb hts (by decide +kernel) tyX6 tyX6_ok nmX6 hown hK.1 hP hD hS 0 rfl rfl 0 (by decide) (hts (.fieldLink RX6 22 "NoteWatermarksModel" "thrown" "I") (by decide +kernel)) (fun _ h9 => h9) rfl (by decide +kernel) rfl rfl (Nat.le_of_ble_eq_true rfl) dX6_figure_37 (fun H locs hP hD hS => ?_)
    have hP : va_P (dC, dI) vwCl [(oM, .inr (6, [.int 1, .ref rz, .ref r2, .int (nI km), .ref rb, .int (nI n), .int tp, .int lf, .int hg, .int wd, .ref rq, .int pm, .int stt, .long hh]))] H := hP
    have hD : va_D A [(oM, .inr (6, [.int 1, .ref rz, .ref r2, .int (nI km), .ref rb, .int (nI n), .int tp, .int lf, .int hg, .int wd, .ref rq, .int pm, .int stt, .long hh]))] := hD
    refine lv_aload_n hx hb dX6_figure_40 rfl (lv_at hl 0 rfl) ?_
    refine va_get (D := (dC, dI)) (ci := 6) (v := .int 1) (C := RX6) (T := TX6) (N := 14) hx hb hts (by decide +kernel) hown hK.1 hP 0 rfl rfl 0 (by decide) (hts (.fieldLink RX6 22 "NoteWatermarksModel" "thrown" "I") (by decide +kernel)) (fun _ h9 => h9) rfl dX6_figure_41 ?_
    refine lv_if_le (tgt := 49) hx hb dX6_figure_44 (by decide) (fun q => absurd q (by decide)) (fun _ => ?_)
    refine lv_iconst (v := 0) hx hb dX6_figure_47 (by decide) ?_
    exact kq_retMi (1) hx hb hr hlocks hP hD hS dX6_figure_48 (by first | exact ⟨fun _ => rfl, fun q _ => absurd q.1 (by assumption)⟩ | exact ⟨fun _ => rfl, fun q _ => absurd q.2 (by assumption)⟩ | exact ⟨fun q => absurd ⟨by assumption, by assumption⟩ q, fun _ _ => rfl⟩)
  · skip
    have c_1 := kq_bt c_1
    refine lv_iload_n hx hb dX6_figure_8 rfl (lv_at hl 2 rfl) ?_
    refine lv_iload_n hx hb dX6_figure_9 rfl (lv_at hl 3 rfl) ?_
    refine kq_cS (As := [.int x1, .int x2]) (rest := [.ref oM]) ⟨hx, hb, hml, hown, hts⟩ (c_X6_isCell l dC dI cI x1 x2 ) (va_cwS 2 hts gX6_figure_X6_isCell rfl rfl rfl (by decide +kernel) ⟨Nat.le_of_ble_eq_true rfl, Nat.le_of_ble_eq_true rfl⟩) (hP.sub [] rfl) hK rfl hl.1 rfl (Nat.le_of_ble_eq_true rfl) dX6_figure_10 ⟨Nat.le_of_ble_eq_true rfl, Nat.le_of_ble_eq_true rfl⟩ ?_
    refine lv_if_ne (tgt := 20) hx hb dX6_figure_13 (by decide) (fun c_3 => ?_) (fun c_3 => ?_)
    · skip
      have c_3 := kq_bt c_3
      refine lv_iload_n hx hb dX6_figure_20 rfl (lv_at hl 2 rfl) ?_
      refine lv_iload_n hx hb dX6_figure_21 rfl (lv_at hl 3 rfl) ?_
      refine lv_iload hx hb dX6_figure_22 (lv_at hl 4 rfl) ?_
      refine lv_iload hx hb dX6_figure_24 (lv_at hl 5 rfl) ?_
      refine kq_cS (As := [.int x1, .int x2, .int x3, .int x4]) (rest := [.ref oM]) ⟨hx, hb, hml, hown, hts⟩ (c_X6_areThere l dC dI cI x1 x2 x3 x4 ) (va_cwS 4 hts gX6_figure_X6_areThere rfl rfl rfl (by decide +kernel) ⟨Nat.le_of_ble_eq_true rfl, Nat.le_of_ble_eq_true rfl⟩) (hP.sub [] rfl) hK rfl hl.1 rfl (Nat.le_of_ble_eq_true rfl) dX6_figure_26 ⟨Nat.le_of_ble_eq_true rfl, Nat.le_of_ble_eq_true rfl⟩ ?_
      refine lv_if_eq (tgt := 36) hx hb dX6_figure_29 (by decide) (fun c_4 => ?_) (fun c_4 => ?_)
      · skip
        have c_4 := kq_bf c_4
        refine lv_iconst (v := 2) hx hb dX6_figure_36 (by decide) ?_
        refine va_put (D := (dC, dI)) (ci := 6) (v := .int 2) (ty := .int) (C := RX6) (T := TX6) (N := 14) hx hb hts (by decide +kernel) tyX6 tyX6_ok nmX6 hown hK.1 hP hD hS 0 rfl rfl 0 (by decide) (hts (.fieldLink RX6 22 "NoteWatermarksModel" "thrown" "I") (by decide +kernel)) (fun _ h9 => h9) rfl (by decide +kernel) rfl rfl (Nat.le_of_ble_eq_true rfl) dX6_figure_37 (fun H locs hP hD hS => ?_)
        have hP : va_P (dC, dI) vwCl [(oM, .inr (6, [.int 2, .ref rz, .ref r2, .int (nI km), .ref rb, .int (nI n), .int tp, .int lf, .int hg, .int wd, .ref rq, .int pm, .int stt, .long hh]))] H := hP
        have hD : va_D A [(oM, .inr (6, [.int 2, .ref rz, .ref r2, .int (nI km), .ref rb, .int (nI n), .int tp, .int lf, .int hg, .int wd, .ref rq, .int pm, .int stt, .long hh]))] := hD
        refine lv_aload_n hx hb dX6_figure_40 rfl (lv_at hl 0 rfl) ?_
        refine va_get (D := (dC, dI)) (ci := 6) (v := .int 2) (C := RX6) (T := TX6) (N := 14) hx hb hts (by decide +kernel) hown hK.1 hP 0 rfl rfl 0 (by decide) (hts (.fieldLink RX6 22 "NoteWatermarksModel" "thrown" "I") (by decide +kernel)) (fun _ h9 => h9) rfl dX6_figure_41 ?_
        refine lv_if_le (tgt := 49) hx hb dX6_figure_44 (by decide) (fun q => absurd q (by decide)) (fun _ => ?_)
        refine lv_iconst (v := 0) hx hb dX6_figure_47 (by decide) ?_
        exact kq_retMi (2) hx hb hr hlocks hP hD hS dX6_figure_48 (by first | exact ⟨fun _ => rfl, fun q _ => absurd q.1 (by assumption)⟩ | exact ⟨fun _ => rfl, fun q _ => absurd q.2 (by assumption)⟩ | exact ⟨fun q => absurd ⟨by assumption, by assumption⟩ q, fun _ _ => rfl⟩)
      · skip
        have c_4 := kq_bt c_4
        exact absurd ⟨by assumption, by assumption, c_4⟩ hbad
    · skip
      have c_3 := kq_bf c_3
      refine lv_iconst (v := 1) hx hb dX6_figure_16 (by decide) ?_
      refine lv_goto (tgt := 37) hx hb dX6_figure_17 (by decide) ?_
      refine va_put (D := (dC, dI)) (ci := 6) (v := .int 1) (ty := .int) (C := RX6) (T := TX6) (N := 14) hx hb hts (by decide +kernel) tyX6 tyX6_ok nmX6 hown hK.1 hP hD hS 0 rfl rfl 0 (by decide) (hts (.fieldLink RX6 22 "NoteWatermarksModel" "thrown" "I") (by decide +kernel)) (fun _ h9 => h9) rfl (by decide +kernel) rfl rfl (Nat.le_of_ble_eq_true rfl) dX6_figure_37 (fun H locs hP hD hS => ?_)
      have hP : va_P (dC, dI) vwCl [(oM, .inr (6, [.int 1, .ref rz, .ref r2, .int (nI km), .ref rb, .int (nI n), .int tp, .int lf, .int hg, .int wd, .ref rq, .int pm, .int stt, .long hh]))] H := hP
      have hD : va_D A [(oM, .inr (6, [.int 1, .ref rz, .ref r2, .int (nI km), .ref rb, .int (nI n), .int tp, .int lf, .int hg, .int wd, .ref rq, .int pm, .int stt, .long hh]))] := hD
      refine lv_aload_n hx hb dX6_figure_40 rfl (lv_at hl 0 rfl) ?_
      refine va_get (D := (dC, dI)) (ci := 6) (v := .int 1) (C := RX6) (T := TX6) (N := 14) hx hb hts (by decide +kernel) hown hK.1 hP 0 rfl rfl 0 (by decide) (hts (.fieldLink RX6 22 "NoteWatermarksModel" "thrown" "I") (by decide +kernel)) (fun _ h9 => h9) rfl dX6_figure_41 ?_
      refine lv_if_le (tgt := 49) hx hb dX6_figure_44 (by decide) (fun q => absurd q (by decide)) (fun _ => ?_)
      refine lv_iconst (v := 0) hx hb dX6_figure_47 (by decide) ?_
      exact kq_retMi (1) hx hb hr hlocks hP hD hS dX6_figure_48 (by first | exact ⟨fun _ => rfl, fun q _ => absurd q.1 (by assumption)⟩ | exact ⟨fun _ => rfl, fun q _ => absurd q.2 (by assumption)⟩ | exact ⟨fun q => absurd ⟨by assumption, by assumption⟩ q, fun _ _ => rfl⟩)
set_option maxHeartbeats 4000000 in
set_option maxRecDepth 100000 in
theorem c_X6_drop_t (l : Launch) (dC : Nat → ClassId) (dI : Nat → Nat → Nat) (cI : ClassId) (sz : Nat) (oM : Nat) (rz : Nat) (r2 : Nat) (rb : Nat) (rq : Nat) (km : Nat) (n : Nat) (th : Int32) (tp : Int32) (lf : Int32) (hg : Int32) (wd : Int32) (pm : Int32) (stt : Int32) (hh : Int64) (z : Nat → Int32) (v : Nat → Int32) (x1 : Int32) (hbad : ¬ ((0 ≤ x1 ∧ x1 ≤ 3))) : Met l yX6_drop wsX6_drop ({ frames := 2, cells := 0, slots := 0, locals := 42 }) (kq_M dC dI cI [.ref oM, .int x1] sz [(oM, .inr (6, [.int th, .ref rz, .ref r2, .int (nI km), .ref rb, .int (nI n), .int tp, .int lf, .int hg, .int wd, .ref rq, .int pm, .int stt, .long hh]))]) (va_Qi (fun (r : Int32) (u : Int32) => (¬ ((0 ≤ x1 ∧ x1 ≤ 3)) → u = 1) ∧ (((0 ≤ x1 ∧ x1 ≤ 3)) → ¬ True → u = 2)) (kq_B dC dI (va_A [(oM, .inr (6, [.int th, .ref rz, .ref r2, .int (nI km), .ref rb, .int (nI n), .int tp, .int lf, .int hg, .int wd, .ref rq, .int pm, .int stt, .long hh]))] sz) (fun u : Int32 => [(oM, .inr (6, [.int u, .ref rz, .ref r2, .int (nI km), .ref rb, .int (nI n), .int tp, .int lf, .int hg, .int wd, .ref rq, .int pm, .int stt, .long hh]))])) (va_A [(oM, .inr (6, [.int th, .ref rz, .ref r2, .int (nI km), .ref rb, .int (nI n), .int tp, .int lf, .int hg, .int wd, .ref rq, .int pm, .int stt, .long hh]))] sz)) 0 0 (va_A [(oM, .inr (6, [.int th, .ref rz, .ref r2, .int (nI km), .ref rb, .int (nI n), .int tp, .int lf, .int hg, .int wd, .ref rq, .int pm, .int stt, .long hh]))] sz) := by
  refine kq_startM (cc := cX6_drop) (maxL := 4) (ret := (some .int)) (by decide) rfl (Nat.le_of_ble_eq_true rfl) ?_
  intro p e s m below meth c hx hb hr hml hown hlocks hts hsz hA hP hD hS hK hnm ls hl
  subst hsz
  generalize hAe : va_A [(oM, .inr (6, [.int th, .ref rz, .ref r2, .int (nI km), .ref rb, .int (nI n), .int tp, .int lf, .int hg, .int wd, .ref rq, .int pm, .int stt, .long hh]))] s.heap.size = A at hA hD hS ⊢
  have hown : s.vm.findClass RX6 = some m.cls := hown
  have hl : lv_has ls 4 [(0, .ref oM), (1, .int x1)] := hl
  refine lv_aload_n hx hb dX6_drop_0 rfl (lv_at hl 0 rfl) ?_
  refine lv_iload_n hx hb dX6_drop_1 rfl (lv_at hl 1 rfl) ?_
  refine kq_cS (As := [.int x1]) (rest := [.ref oM]) ⟨hx, hb, hml, hown, hts⟩ (c_X6_isFigure l dC dI cI x1 ) (va_cwS 1 hts gX6_drop_X6_isFigure rfl rfl rfl (by decide +kernel) ⟨Nat.le_of_ble_eq_true rfl, Nat.le_of_ble_eq_true rfl⟩) (hP.sub [] rfl) hK rfl hl.1 rfl (Nat.le_of_ble_eq_true rfl) dX6_drop_2 ⟨Nat.le_of_ble_eq_true rfl, Nat.le_of_ble_eq_true rfl⟩ ?_
  refine lv_if_eq (tgt := 12) hx hb dX6_drop_5 (by decide) (fun c_1 => ?_) (fun c_1 => ?_)
  · skip
    have c_1 := kq_bf c_1
    refine lv_iconst (v := 1) hx hb dX6_drop_12 (by decide) ?_
    refine va_put (D := (dC, dI)) (ci := 6) (v := .int 1) (ty := .int) (C := RX6) (T := TX6) (N := 14) hx hb hts (by decide +kernel) tyX6 tyX6_ok nmX6 hown hK.1 hP hD hS 0 rfl rfl 0 (by decide) (hts (.fieldLink RX6 22 "NoteWatermarksModel" "thrown" "I") (by decide +kernel)) (fun _ h9 => h9) rfl (by decide +kernel) rfl rfl (Nat.le_of_ble_eq_true rfl) dX6_drop_13 (fun H locs hP hD hS => ?_)
    have hP : va_P (dC, dI) vwCl [(oM, .inr (6, [.int 1, .ref rz, .ref r2, .int (nI km), .ref rb, .int (nI n), .int tp, .int lf, .int hg, .int wd, .ref rq, .int pm, .int stt, .long hh]))] H := hP
    have hD : va_D A [(oM, .inr (6, [.int 1, .ref rz, .ref r2, .int (nI km), .ref rb, .int (nI n), .int tp, .int lf, .int hg, .int wd, .ref rq, .int pm, .int stt, .long hh]))] := hD
    refine lv_aload_n hx hb dX6_drop_16 rfl (lv_at hl 0 rfl) ?_
    refine va_get (D := (dC, dI)) (ci := 6) (v := .int 1) (C := RX6) (T := TX6) (N := 14) hx hb hts (by decide +kernel) hown hK.1 hP 0 rfl rfl 0 (by decide) (hts (.fieldLink RX6 22 "NoteWatermarksModel" "thrown" "I") (by decide +kernel)) (fun _ h9 => h9) rfl dX6_drop_17 ?_
    refine lv_if_le (tgt := 25) hx hb dX6_drop_20 (by decide) (fun q => absurd q (by decide)) (fun _ => ?_)
    refine lv_iconst (v := 0) hx hb dX6_drop_23 (by decide) ?_
    exact kq_retMi (1) hx hb hr hlocks hP hD hS dX6_drop_24 (by first | exact ⟨fun _ => rfl, fun q _ => absurd q (by assumption)⟩ | exact ⟨fun q => absurd (by assumption) q, fun _ _ => rfl⟩)
  · skip
    have c_1 := kq_bt c_1
    exact absurd c_1 hbad
set_option maxHeartbeats 4000000 in
set_option maxRecDepth 100000 in
theorem c_X6_set_u (l : Launch) (dC : Nat → ClassId) (dI : Nat → Nat → Nat) (cI : ClassId) (sz : Nat) (oM : Nat) (rz : Nat) (r2 : Nat) (rb : Nat) (rq : Nat) (km : Nat) (n : Nat) (th : Int32) (tp : Int32) (lf : Int32) (hg : Int32) (wd : Int32) (pm : Int32) (stt : Int32) (hh : Int64) (z : Nat → Int32) (v : Nat → Int32) (x1 : Int32) (x2 : Int32) (hbad : ¬ (0 ≤ x1 ∧ x1 ≤ 2)) : Met l yX6_set wsX6_set ({ frames := 1, cells := 0, slots := 0, locals := 22 }) (kq_M dC dI cI [.ref oM, .int x1, .int x2] sz [(oM, .inr (6, [.int th, .ref rz, .ref r2, .int (nI km), .ref rb, .int (nI n), .int tp, .int lf, .int hg, .int wd, .ref rq, .int pm, .int stt, .long hh]))]) (va_Qi (fun (r : Int32) (u : Int32) => u = 1) (kq_B dC dI (va_A [(oM, .inr (6, [.int th, .ref rz, .ref r2, .int (nI km), .ref rb, .int (nI n), .int tp, .int lf, .int hg, .int wd, .ref rq, .int pm, .int stt, .long hh]))] sz) (fun u : Int32 => [(oM, .inr (6, [.int u, .ref rz, .ref r2, .int (nI km), .ref rb, .int (nI n), .int tp, .int lf, .int hg, .int wd, .ref rq, .int pm, .int stt, .long hh]))])) (va_A [(oM, .inr (6, [.int th, .ref rz, .ref r2, .int (nI km), .ref rb, .int (nI n), .int tp, .int lf, .int hg, .int wd, .ref rq, .int pm, .int stt, .long hh]))] sz)) 0 0 (va_A [(oM, .inr (6, [.int th, .ref rz, .ref r2, .int (nI km), .ref rb, .int (nI n), .int tp, .int lf, .int hg, .int wd, .ref rq, .int pm, .int stt, .long hh]))] sz) := by
  refine kq_startM (cc := cX6_set) (maxL := 4) (ret := (some .int)) (by decide) rfl (Nat.le_of_ble_eq_true rfl) ?_
  intro p e s m below meth c hx hb hr hml hown hlocks hts hsz hA hP hD hS hK hnm ls hl
  subst hsz
  generalize hAe : va_A [(oM, .inr (6, [.int th, .ref rz, .ref r2, .int (nI km), .ref rb, .int (nI n), .int tp, .int lf, .int hg, .int wd, .ref rq, .int pm, .int stt, .long hh]))] s.heap.size = A at hA hD hS ⊢
  have hown : s.vm.findClass RX6 = some m.cls := hown
  have hl : lv_has ls 4 [(0, .ref oM), (1, .int x1), (2, .int x2)] := hl
  refine lv_aload_n hx hb dX6_set_0 rfl (lv_at hl 0 rfl) ?_
  refine lv_iload_n hx hb dX6_set_1 rfl (lv_at hl 1 rfl) ?_
  refine lv_iconst (v := 0) hx hb dX6_set_2 (by decide) ?_
  refine lv_iconst (v := 2) hx hb dX6_set_3 (by decide) ?_
  refine kq_cS (As := [.int x1, .int 0, .int 2]) (rest := [.ref oM]) ⟨hx, hb, hml, hown, hts⟩ (c_X6_in l dC dI cI x1 0 2 ) (va_cwS 3 hts gX6_set_X6_in rfl rfl rfl (by decide +kernel) ⟨Nat.le_of_ble_eq_true rfl, Nat.le_of_ble_eq_true rfl⟩) (hP.sub [] rfl) hK rfl hl.1 rfl (Nat.le_of_ble_eq_true rfl) dX6_set_4 ⟨Nat.le_of_ble_eq_true rfl, Nat.le_of_ble_eq_true rfl⟩ ?_
  refine lv_if_ne (tgt := 14) hx hb dX6_set_7 (by decide) (fun c_1 => ?_) (fun c_1 => ?_)
  · skip
    have c_1 := kq_bt c_1
    exact absurd c_1 hbad
  · skip
    have c_1 := kq_bf c_1
    refine lv_iconst (v := 1) hx hb dX6_set_10 (by decide) ?_
    refine lv_goto (tgt := 34) hx hb dX6_set_11 (by decide) ?_
    refine va_put (D := (dC, dI)) (ci := 6) (v := .int 1) (ty := .int) (C := RX6) (T := TX6) (N := 14) hx hb hts (by decide +kernel) tyX6 tyX6_ok nmX6 hown hK.1 hP hD hS 0 rfl rfl 0 (by decide) (hts (.fieldLink RX6 22 "NoteWatermarksModel" "thrown" "I") (by decide +kernel)) (fun _ h9 => h9) rfl (by decide +kernel) rfl rfl (Nat.le_of_ble_eq_true rfl) dX6_set_34 (fun H locs hP hD hS => ?_)
    have hP : va_P (dC, dI) vwCl [(oM, .inr (6, [.int 1, .ref rz, .ref r2, .int (nI km), .ref rb, .int (nI n), .int tp, .int lf, .int hg, .int wd, .ref rq, .int pm, .int stt, .long hh]))] H := hP
    have hD : va_D A [(oM, .inr (6, [.int 1, .ref rz, .ref r2, .int (nI km), .ref rb, .int (nI n), .int tp, .int lf, .int hg, .int wd, .ref rq, .int pm, .int stt, .long hh]))] := hD
    refine lv_aload_n hx hb dX6_set_37 rfl (lv_at hl 0 rfl) ?_
    refine va_get (D := (dC, dI)) (ci := 6) (v := .int 1) (C := RX6) (T := TX6) (N := 14) hx hb hts (by decide +kernel) hown hK.1 hP 0 rfl rfl 0 (by decide) (hts (.fieldLink RX6 22 "NoteWatermarksModel" "thrown" "I") (by decide +kernel)) (fun _ h9 => h9) rfl dX6_set_38 ?_
    refine lv_if_le (tgt := 46) hx hb dX6_set_41 (by decide) (fun q => absurd q (by decide)) (fun _ => ?_)
    refine lv_iconst (v := 0) hx hb dX6_set_44 (by decide) ?_
    exact kq_retMi (1) hx hb hr hlocks hP hD hS dX6_set_45 (by rfl)
set_option maxHeartbeats 4000000 in
set_option maxRecDepth 100000 in
theorem c_X6_set_t (l : Launch) (dC : Nat → ClassId) (dI : Nat → Nat → Nat) (cI : ClassId) (sz : Nat) (oM : Nat) (rz : Nat) (r2 : Nat) (rb : Nat) (rq : Nat) (km : Nat) (n : Nat) (th : Int32) (tp : Int32) (lf : Int32) (hg : Int32) (wd : Int32) (pm : Int32) (stt : Int32) (hh : Int64) (z : Nat → Int32) (v : Nat → Int32) (k : Nat) (x2 : Int32) (hk : k < 3) (hbad : ¬ (n_lo k ≤ x2 ∧ x2 ≤ n_hi k)) : Met l yX6_set wsX6_set ({ frames := 1, cells := 0, slots := 0, locals := 22 }) (kq_M dC dI cI [.ref oM, .int (nI k), .int x2] sz [(oM, .inr (6, [.int th, .ref rz, .ref r2, .int (nI km), .ref rb, .int (nI n), .int tp, .int lf, .int hg, .int wd, .ref rq, .int pm, .int stt, .long hh]))]) (va_Qi (fun (r : Int32) (u : Int32) => u = 2) (kq_B dC dI (va_A [(oM, .inr (6, [.int th, .ref rz, .ref r2, .int (nI km), .ref rb, .int (nI n), .int tp, .int lf, .int hg, .int wd, .ref rq, .int pm, .int stt, .long hh]))] sz) (fun u : Int32 => [(oM, .inr (6, [.int u, .ref rz, .ref r2, .int (nI km), .ref rb, .int (nI n), .int tp, .int lf, .int hg, .int wd, .ref rq, .int pm, .int stt, .long hh]))])) (va_A [(oM, .inr (6, [.int th, .ref rz, .ref r2, .int (nI km), .ref rb, .int (nI n), .int tp, .int lf, .int hg, .int wd, .ref rq, .int pm, .int stt, .long hh]))] sz)) 0 0 (va_A [(oM, .inr (6, [.int th, .ref rz, .ref r2, .int (nI km), .ref rb, .int (nI n), .int tp, .int lf, .int hg, .int wd, .ref rq, .int pm, .int stt, .long hh]))] sz) := by
  refine kq_startM (cc := cX6_set) (maxL := 4) (ret := (some .int)) (by decide) rfl (Nat.le_of_ble_eq_true rfl) ?_
  intro p e s m below meth c hx hb hr hml hown hlocks hts hsz hA hP hD hS hK hnm ls hl
  subst hsz
  generalize hAe : va_A [(oM, .inr (6, [.int th, .ref rz, .ref r2, .int (nI km), .ref rb, .int (nI n), .int tp, .int lf, .int hg, .int wd, .ref rq, .int pm, .int stt, .long hh]))] s.heap.size = A at hA hD hS ⊢
  have hown : s.vm.findClass RX6 = some m.cls := hown
  have hl : lv_has ls 4 [(0, .ref oM), (1, .int (nI k)), (2, .int x2)] := hl
  refine lv_aload_n hx hb dX6_set_0 rfl (lv_at hl 0 rfl) ?_
  refine lv_iload_n hx hb dX6_set_1 rfl (lv_at hl 1 rfl) ?_
  refine lv_iconst (v := 0) hx hb dX6_set_2 (by decide) ?_
  refine lv_iconst (v := 2) hx hb dX6_set_3 (by decide) ?_
  refine kq_cS (As := [.int (nI k), .int 0, .int 2]) (rest := [.ref oM]) ⟨hx, hb, hml, hown, hts⟩ (c_X6_in_n l dC dI cI k 0 2 (by first | assumption | omega) (by first | assumption | omega) (by first | assumption | omega)) (va_cwS 3 hts gX6_set_X6_in rfl rfl rfl (by decide +kernel) ⟨Nat.le_of_ble_eq_true rfl, Nat.le_of_ble_eq_true rfl⟩) (hP.sub [] rfl) hK rfl hl.1 rfl (Nat.le_of_ble_eq_true rfl) dX6_set_4 ⟨Nat.le_of_ble_eq_true rfl, Nat.le_of_ble_eq_true rfl⟩ ?_
  refine lv_if_ne (tgt := 14) hx hb dX6_set_7 (by decide) (fun c_1 => ?_) (fun c_1 => ?_)
  · skip
    have c_1 := kq_bt c_1
    refine lv_iload_n hx hb dX6_set_14 rfl (lv_at hl 2 rfl) ?_
    refine lv_iload_n hx hb dX6_set_15 rfl (lv_at hl 1 rfl) ?_
    refine kq_cS (As := [.int (nI k)]) (rest := [.int x2, .ref oM]) ⟨hx, hb, hml, hown, hts⟩ (c_X6_leastOf l dC dI cI k (by first | assumption | omega)) (va_cwS 1 hts gX6_set_X6_leastOf rfl rfl rfl (by decide +kernel) ⟨Nat.le_of_ble_eq_true rfl, Nat.le_of_ble_eq_true rfl⟩) (hP.sub [] rfl) hK rfl hl.1 rfl (Nat.le_of_ble_eq_true rfl) dX6_set_16 ⟨Nat.le_of_ble_eq_true rfl, Nat.le_of_ble_eq_true rfl⟩ ?_
    refine lv_iload_n hx hb dX6_set_19 rfl (lv_at hl 1 rfl) ?_
    refine kq_cS (As := [.int (nI k)]) (rest := [.int (n_lo k), .int x2, .ref oM]) ⟨hx, hb, hml, hown, hts⟩ (c_X6_mostOf l dC dI cI k (by first | assumption | omega)) (va_cwS 1 hts gX6_set_X6_mostOf rfl rfl rfl (by decide +kernel) ⟨Nat.le_of_ble_eq_true rfl, Nat.le_of_ble_eq_true rfl⟩) (hP.sub [] rfl) hK rfl hl.1 rfl (Nat.le_of_ble_eq_true rfl) dX6_set_20 ⟨Nat.le_of_ble_eq_true rfl, Nat.le_of_ble_eq_true rfl⟩ ?_
    refine kq_cS (As := [.int x2, .int (n_lo k), .int (n_hi k)]) (rest := [.ref oM]) ⟨hx, hb, hml, hown, hts⟩ (c_X6_in l dC dI cI x2 (n_lo k) (n_hi k) ) (va_cwS 3 hts gX6_set_X6_in rfl rfl rfl (by decide +kernel) ⟨Nat.le_of_ble_eq_true rfl, Nat.le_of_ble_eq_true rfl⟩) (hP.sub [] rfl) hK rfl hl.1 rfl (Nat.le_of_ble_eq_true rfl) dX6_set_23 ⟨Nat.le_of_ble_eq_true rfl, Nat.le_of_ble_eq_true rfl⟩ ?_
    refine lv_if_eq (tgt := 33) hx hb dX6_set_26 (by decide) (fun c_2 => ?_) (fun c_2 => ?_)
    · skip
      have c_2 := kq_bf c_2
      refine lv_iconst (v := 2) hx hb dX6_set_33 (by decide) ?_
      refine va_put (D := (dC, dI)) (ci := 6) (v := .int 2) (ty := .int) (C := RX6) (T := TX6) (N := 14) hx hb hts (by decide +kernel) tyX6 tyX6_ok nmX6 hown hK.1 hP hD hS 0 rfl rfl 0 (by decide) (hts (.fieldLink RX6 22 "NoteWatermarksModel" "thrown" "I") (by decide +kernel)) (fun _ h9 => h9) rfl (by decide +kernel) rfl rfl (Nat.le_of_ble_eq_true rfl) dX6_set_34 (fun H locs hP hD hS => ?_)
      have hP : va_P (dC, dI) vwCl [(oM, .inr (6, [.int 2, .ref rz, .ref r2, .int (nI km), .ref rb, .int (nI n), .int tp, .int lf, .int hg, .int wd, .ref rq, .int pm, .int stt, .long hh]))] H := hP
      have hD : va_D A [(oM, .inr (6, [.int 2, .ref rz, .ref r2, .int (nI km), .ref rb, .int (nI n), .int tp, .int lf, .int hg, .int wd, .ref rq, .int pm, .int stt, .long hh]))] := hD
      refine lv_aload_n hx hb dX6_set_37 rfl (lv_at hl 0 rfl) ?_
      refine va_get (D := (dC, dI)) (ci := 6) (v := .int 2) (C := RX6) (T := TX6) (N := 14) hx hb hts (by decide +kernel) hown hK.1 hP 0 rfl rfl 0 (by decide) (hts (.fieldLink RX6 22 "NoteWatermarksModel" "thrown" "I") (by decide +kernel)) (fun _ h9 => h9) rfl dX6_set_38 ?_
      refine lv_if_le (tgt := 46) hx hb dX6_set_41 (by decide) (fun q => absurd q (by decide)) (fun _ => ?_)
      refine lv_iconst (v := 0) hx hb dX6_set_44 (by decide) ?_
      exact kq_retMi (2) hx hb hr hlocks hP hD hS dX6_set_45 (by rfl)
    · skip
      have c_2 := kq_bt c_2
      exact absurd c_2 hbad
  · skip
    have c_1 := kq_bf c_1
    exact absurd c_1 (by omega)
set_option maxHeartbeats 4000000 in
set_option maxRecDepth 100000 in
theorem c_X6_append_t (l : Launch) (dC : Nat → ClassId) (dI : Nat → Nat → Nat) (cI : ClassId) (sz : Nat) (oM : Nat) (rz : Nat) (r2 : Nat) (rb : Nat) (rq : Nat) (km : Nat) (n : Nat) (th : Int32) (tp : Int32) (lf : Int32) (hg : Int32) (wd : Int32) (pm : Int32) (stt : Int32) (hh : Int64) (z : Nat → Int32) (v : Nat → Int32) (x1 : Int32) (hn : n ≤ 60) (hbad : ¬ ((33 ≤ x1 ∧ x1 ≤ 126) ∧ ¬ n = 60)) : Met l yX6_append wsX6_append ({ frames := 1, cells := 0, slots := 0, locals := 22 }) (kq_M dC dI cI [.ref oM, .int x1] sz [(oM, .inr (6, [.int th, .ref rz, .ref r2, .int (nI km), .ref rb, .int (nI n), .int tp, .int lf, .int hg, .int wd, .ref rq, .int pm, .int stt, .long hh]))]) (va_Qi (fun (r : Int32) (u : Int32) => (¬ ((33 ≤ x1 ∧ x1 ≤ 126)) → u = 1) ∧ (((33 ≤ x1 ∧ x1 ≤ 126)) → ¬ (¬ n = 60) → u = 2)) (kq_B dC dI (va_A [(oM, .inr (6, [.int th, .ref rz, .ref r2, .int (nI km), .ref rb, .int (nI n), .int tp, .int lf, .int hg, .int wd, .ref rq, .int pm, .int stt, .long hh]))] sz) (fun u : Int32 => [(oM, .inr (6, [.int u, .ref rz, .ref r2, .int (nI km), .ref rb, .int (nI n), .int tp, .int lf, .int hg, .int wd, .ref rq, .int pm, .int stt, .long hh]))])) (va_A [(oM, .inr (6, [.int th, .ref rz, .ref r2, .int (nI km), .ref rb, .int (nI n), .int tp, .int lf, .int hg, .int wd, .ref rq, .int pm, .int stt, .long hh]))] sz)) 0 0 (va_A [(oM, .inr (6, [.int th, .ref rz, .ref r2, .int (nI km), .ref rb, .int (nI n), .int tp, .int lf, .int hg, .int wd, .ref rq, .int pm, .int stt, .long hh]))] sz) := by
  refine kq_startM (cc := cX6_append) (maxL := 2) (ret := (some .int)) (by decide) rfl (Nat.le_of_ble_eq_true rfl) ?_
  intro p e s m below meth c hx hb hr hml hown hlocks hts hsz hA hP hD hS hK hnm ls hl
  subst hsz
  generalize hAe : va_A [(oM, .inr (6, [.int th, .ref rz, .ref r2, .int (nI km), .ref rb, .int (nI n), .int tp, .int lf, .int hg, .int wd, .ref rq, .int pm, .int stt, .long hh]))] s.heap.size = A at hA hD hS ⊢
  have hown : s.vm.findClass RX6 = some m.cls := hown
  have hl : lv_has ls 2 [(0, .ref oM), (1, .int x1)] := hl
  refine lv_aload_n hx hb dX6_append_0 rfl (lv_at hl 0 rfl) ?_
  refine lv_iload_n hx hb dX6_append_1 rfl (lv_at hl 1 rfl) ?_
  refine lv_bipush (v := 33) hx hb dX6_append_2 (by decide) ?_
  refine lv_bipush (v := 126) hx hb dX6_append_4 (by decide) ?_
  refine kq_cS (As := [.int x1, .int 33, .int 126]) (rest := [.ref oM]) ⟨hx, hb, hml, hown, hts⟩ (c_X6_in l dC dI cI x1 33 126 ) (va_cwS 3 hts gX6_append_X6_in rfl rfl rfl (by decide +kernel) ⟨Nat.le_of_ble_eq_true rfl, Nat.le_of_ble_eq_true rfl⟩) (hP.sub [] rfl) hK rfl hl.1 rfl (Nat.le_of_ble_eq_true rfl) dX6_append_6 ⟨Nat.le_of_ble_eq_true rfl, Nat.le_of_ble_eq_true rfl⟩ ?_
  refine lv_if_ne (tgt := 16) hx hb dX6_append_9 (by decide) (fun c_1 => ?_) (fun c_1 => ?_)
  · skip
    have c_1 := kq_bt c_1
    refine lv_aload_n hx hb dX6_append_16 rfl (lv_at hl 0 rfl) ?_
    refine va_get (D := (dC, dI)) (ci := 6) (v := .int (nI n)) (C := RX6) (T := TX6) (N := 14) hx hb hts (by decide +kernel) hown hK.1 hP 0 rfl rfl 5 (by decide) (hts (.fieldLink RX6 126 "NoteWatermarksModel" "typed" "I") (by decide +kernel)) (fun _ h9 => h9) rfl dX6_append_17 ?_
    refine lv_bipush (v := 60) hx hb dX6_append_20 (by decide) ?_
    refine lv_icmp_ne (tgt := 29) hx hb dX6_append_22 (by decide) (fun c_2 => ?_) (fun c_2 => ?_)
    · skip
      have c_2 := kq_neN (a := n) (b := 60) c_2 (by omega) (by omega)
      exact absurd ⟨by assumption, c_2⟩ hbad
    · skip
      have c_2 := kq_eqN (a := n) (b := 60) c_2 (by omega) (by omega)
      refine lv_iconst (v := 2) hx hb dX6_append_25 (by decide) ?_
      refine lv_goto (tgt := 30) hx hb dX6_append_26 (by decide) ?_
      refine va_put (D := (dC, dI)) (ci := 6) (v := .int 2) (ty := .int) (C := RX6) (T := TX6) (N := 14) hx hb hts (by decide +kernel) tyX6 tyX6_ok nmX6 hown hK.1 hP hD hS 0 rfl rfl 0 (by decide) (hts (.fieldLink RX6 22 "NoteWatermarksModel" "thrown" "I") (by decide +kernel)) (fun _ h9 => h9) rfl (by decide +kernel) rfl rfl (Nat.le_of_ble_eq_true rfl) dX6_append_30 (fun H locs hP hD hS => ?_)
      have hP : va_P (dC, dI) vwCl [(oM, .inr (6, [.int 2, .ref rz, .ref r2, .int (nI km), .ref rb, .int (nI n), .int tp, .int lf, .int hg, .int wd, .ref rq, .int pm, .int stt, .long hh]))] H := hP
      have hD : va_D A [(oM, .inr (6, [.int 2, .ref rz, .ref r2, .int (nI km), .ref rb, .int (nI n), .int tp, .int lf, .int hg, .int wd, .ref rq, .int pm, .int stt, .long hh]))] := hD
      refine lv_aload_n hx hb dX6_append_33 rfl (lv_at hl 0 rfl) ?_
      refine va_get (D := (dC, dI)) (ci := 6) (v := .int 2) (C := RX6) (T := TX6) (N := 14) hx hb hts (by decide +kernel) hown hK.1 hP 0 rfl rfl 0 (by decide) (hts (.fieldLink RX6 22 "NoteWatermarksModel" "thrown" "I") (by decide +kernel)) (fun _ h9 => h9) rfl dX6_append_34 ?_
      refine lv_if_le (tgt := 42) hx hb dX6_append_37 (by decide) (fun q => absurd q (by decide)) (fun _ => ?_)
      refine lv_iconst (v := 0) hx hb dX6_append_40 (by decide) ?_
      exact kq_retMi (2) hx hb hr hlocks hP hD hS dX6_append_41 (by first | exact ⟨fun _ => rfl, fun q _ => absurd q (by assumption)⟩ | exact ⟨fun q => absurd (by assumption) q, fun _ _ => rfl⟩)
  · skip
    have c_1 := kq_bf c_1
    refine lv_iconst (v := 1) hx hb dX6_append_12 (by decide) ?_
    refine lv_goto (tgt := 30) hx hb dX6_append_13 (by decide) ?_
    refine va_put (D := (dC, dI)) (ci := 6) (v := .int 1) (ty := .int) (C := RX6) (T := TX6) (N := 14) hx hb hts (by decide +kernel) tyX6 tyX6_ok nmX6 hown hK.1 hP hD hS 0 rfl rfl 0 (by decide) (hts (.fieldLink RX6 22 "NoteWatermarksModel" "thrown" "I") (by decide +kernel)) (fun _ h9 => h9) rfl (by decide +kernel) rfl rfl (Nat.le_of_ble_eq_true rfl) dX6_append_30 (fun H locs hP hD hS => ?_)
    have hP : va_P (dC, dI) vwCl [(oM, .inr (6, [.int 1, .ref rz, .ref r2, .int (nI km), .ref rb, .int (nI n), .int tp, .int lf, .int hg, .int wd, .ref rq, .int pm, .int stt, .long hh]))] H := hP
    have hD : va_D A [(oM, .inr (6, [.int 1, .ref rz, .ref r2, .int (nI km), .ref rb, .int (nI n), .int tp, .int lf, .int hg, .int wd, .ref rq, .int pm, .int stt, .long hh]))] := hD
    refine lv_aload_n hx hb dX6_append_33 rfl (lv_at hl 0 rfl) ?_
    refine va_get (D := (dC, dI)) (ci := 6) (v := .int 1) (C := RX6) (T := TX6) (N := 14) hx hb hts (by decide +kernel) hown hK.1 hP 0 rfl rfl 0 (by decide) (hts (.fieldLink RX6 22 "NoteWatermarksModel" "thrown" "I") (by decide +kernel)) (fun _ h9 => h9) rfl dX6_append_34 ?_
    refine lv_if_le (tgt := 42) hx hb dX6_append_37 (by decide) (fun q => absurd q (by decide)) (fun _ => ?_)
    refine lv_iconst (v := 0) hx hb dX6_append_40 (by decide) ?_
    exact kq_retMi (1) hx hb hr hlocks hP hD hS dX6_append_41 (by first | exact ⟨fun _ => rfl, fun q _ => absurd q (by assumption)⟩ | exact ⟨fun q => absurd (by assumption) q, fun _ _ => rfl⟩)
set_option maxHeartbeats 4000000 in
set_option maxRecDepth 100000 in
theorem c_X6_undo_t (l : Launch) (dC : Nat → ClassId) (dI : Nat → Nat → Nat) (cI : ClassId) (sz : Nat) (oM : Nat) (rz : Nat) (r2 : Nat) (rb : Nat) (rq : Nat) (km : Nat) (n : Nat) (th : Int32) (tp : Int32) (lf : Int32) (hg : Int32) (wd : Int32) (pm : Int32) (stt : Int32) (hh : Int64) (z : Nat → Int32) (v : Nat → Int32) (hkm : km ≤ 6) (hbad : ¬ (¬ km = 0)) : Met l yX6_undo wsX6_undo ({ frames := 0, cells := 0, slots := 0, locals := 0 }) (kq_M dC dI cI [.ref oM] sz [(oM, .inr (6, [.int th, .ref rz, .ref r2, .int (nI km), .ref rb, .int (nI n), .int tp, .int lf, .int hg, .int wd, .ref rq, .int pm, .int stt, .long hh]))]) (va_Qi (fun (r : Int32) (u : Int32) => (¬ (¬ km = 0) → u = 1) ∧ ((¬ km = 0) → ¬ True → u = 2)) (kq_B dC dI (va_A [(oM, .inr (6, [.int th, .ref rz, .ref r2, .int (nI km), .ref rb, .int (nI n), .int tp, .int lf, .int hg, .int wd, .ref rq, .int pm, .int stt, .long hh]))] sz) (fun u : Int32 => [(oM, .inr (6, [.int u, .ref rz, .ref r2, .int (nI km), .ref rb, .int (nI n), .int tp, .int lf, .int hg, .int wd, .ref rq, .int pm, .int stt, .long hh]))])) (va_A [(oM, .inr (6, [.int th, .ref rz, .ref r2, .int (nI km), .ref rb, .int (nI n), .int tp, .int lf, .int hg, .int wd, .ref rq, .int pm, .int stt, .long hh]))] sz)) 0 0 (va_A [(oM, .inr (6, [.int th, .ref rz, .ref r2, .int (nI km), .ref rb, .int (nI n), .int tp, .int lf, .int hg, .int wd, .ref rq, .int pm, .int stt, .long hh]))] sz) := by
  refine kq_startM (cc := cX6_undo) (maxL := 2) (ret := (some .int)) (by decide) rfl (Nat.le_of_ble_eq_true rfl) ?_
  intro p e s m below meth c hx hb hr hml hown hlocks hts hsz hA hP hD hS hK hnm ls hl
  subst hsz
  generalize hAe : va_A [(oM, .inr (6, [.int th, .ref rz, .ref r2, .int (nI km), .ref rb, .int (nI n), .int tp, .int lf, .int hg, .int wd, .ref rq, .int pm, .int stt, .long hh]))] s.heap.size = A at hA hD hS ⊢
  have hown : s.vm.findClass RX6 = some m.cls := hown
  have hl : lv_has ls 2 [(0, .ref oM)] := hl
  refine lv_aload_n hx hb dX6_undo_0 rfl (lv_at hl 0 rfl) ?_
  refine lv_aload_n hx hb dX6_undo_1 rfl (lv_at hl 0 rfl) ?_
  refine va_get (D := (dC, dI)) (ci := 6) (v := .int (nI km)) (C := RX6) (T := TX6) (N := 14) hx hb hts (by decide +kernel) hown hK.1 hP 0 rfl rfl 3 (by decide) (hts (.fieldLink RX6 34 "NoteWatermarksModel" "savedMany" "I") (by decide +kernel)) (fun _ h9 => h9) rfl dX6_undo_2 ?_
  refine lv_if_ne (tgt := 12) hx hb dX6_undo_5 (by decide) (fun c_1 => ?_) (fun c_1 => ?_)
  · skip
    have c_1 := kq_neN (a := km) (b := 0) c_1 (by omega) (by omega)
    exact absurd c_1 hbad
  · skip
    have c_1 := kq_eqN (a := km) (b := 0) c_1 (by omega) (by omega)
    refine lv_iconst (v := 1) hx hb dX6_undo_8 (by decide) ?_
    refine lv_goto (tgt := 13) hx hb dX6_undo_9 (by decide) ?_
    refine va_put (D := (dC, dI)) (ci := 6) (v := .int 1) (ty := .int) (C := RX6) (T := TX6) (N := 14) hx hb hts (by decide +kernel) tyX6 tyX6_ok nmX6 hown hK.1 hP hD hS 0 rfl rfl 0 (by decide) (hts (.fieldLink RX6 22 "NoteWatermarksModel" "thrown" "I") (by decide +kernel)) (fun _ h9 => h9) rfl (by decide +kernel) rfl rfl (Nat.le_of_ble_eq_true rfl) dX6_undo_13 (fun H locs hP hD hS => ?_)
    have hP : va_P (dC, dI) vwCl [(oM, .inr (6, [.int 1, .ref rz, .ref r2, .int (nI km), .ref rb, .int (nI n), .int tp, .int lf, .int hg, .int wd, .ref rq, .int pm, .int stt, .long hh]))] H := hP
    have hD : va_D A [(oM, .inr (6, [.int 1, .ref rz, .ref r2, .int (nI km), .ref rb, .int (nI n), .int tp, .int lf, .int hg, .int wd, .ref rq, .int pm, .int stt, .long hh]))] := hD
    refine lv_aload_n hx hb dX6_undo_16 rfl (lv_at hl 0 rfl) ?_
    refine va_get (D := (dC, dI)) (ci := 6) (v := .int 1) (C := RX6) (T := TX6) (N := 14) hx hb hts (by decide +kernel) hown hK.1 hP 0 rfl rfl 0 (by decide) (hts (.fieldLink RX6 22 "NoteWatermarksModel" "thrown" "I") (by decide +kernel)) (fun _ h9 => h9) rfl dX6_undo_17 ?_
    refine lv_if_le (tgt := 25) hx hb dX6_undo_20 (by decide) (fun q => absurd q (by decide)) (fun _ => ?_)
    refine lv_iconst (v := 0) hx hb dX6_undo_23 (by decide) ?_
    exact kq_retMi (1) hx hb hr hlocks hP hD hS dX6_undo_24 (by first | exact ⟨fun _ => rfl, fun q _ => absurd q (by assumption)⟩ | exact ⟨fun q => absurd (by assumption) q, fun _ _ => rfl⟩)
set_option maxHeartbeats 4000000 in
set_option maxRecDepth 100000 in
theorem c_X6_roll_t (l : Launch) (dC : Nat → ClassId) (dI : Nat → Nat → Nat) (cI : ClassId) (sz : Nat) (oM : Nat) (rz : Nat) (r2 : Nat) (rb : Nat) (rq : Nat) (km : Nat) (n : Nat) (th : Int32) (tp : Int32) (lf : Int32) (hg : Int32) (wd : Int32) (pm : Int32) (stt : Int32) (hh : Int64) (z : Nat → Int32) (v : Nat → Int32) (x1 : Int32) (x2 : Int32) (hbad : ¬ ((0 ≤ x1 ∧ x1 ≤ 2) ∧ (0 ≤ x2 ∧ x2 ≤ 4))) : Met l yX6_roll wsX6_roll ({ frames := 3, cells := 0, slots := 0, locals := 70 }) (kq_M dC dI cI [.ref oM, .int x1, .int x2] sz [(oM, .inr (6, [.int th, .ref rz, .ref r2, .int (nI km), .ref rb, .int (nI n), .int tp, .int lf, .int hg, .int wd, .ref rq, .int pm, .int stt, .long hh]))]) (va_Qi (fun (r : Int32) (u : Int32) => (¬ ((0 ≤ x1 ∧ x1 ≤ 2)) → u = 1) ∧ (((0 ≤ x1 ∧ x1 ≤ 2)) → ¬ ((0 ≤ x2 ∧ x2 ≤ 4)) → u = 2)) (kq_B dC dI (va_A [(oM, .inr (6, [.int th, .ref rz, .ref r2, .int (nI km), .ref rb, .int (nI n), .int tp, .int lf, .int hg, .int wd, .ref rq, .int pm, .int stt, .long hh]))] sz) (fun u : Int32 => [(oM, .inr (6, [.int u, .ref rz, .ref r2, .int (nI km), .ref rb, .int (nI n), .int tp, .int lf, .int hg, .int wd, .ref rq, .int pm, .int stt, .long hh]))])) (va_A [(oM, .inr (6, [.int th, .ref rz, .ref r2, .int (nI km), .ref rb, .int (nI n), .int tp, .int lf, .int hg, .int wd, .ref rq, .int pm, .int stt, .long hh]))] sz)) 0 0 (va_A [(oM, .inr (6, [.int th, .ref rz, .ref r2, .int (nI km), .ref rb, .int (nI n), .int tp, .int lf, .int hg, .int wd, .ref rq, .int pm, .int stt, .long hh]))] sz) := by
  refine kq_startM (cc := cX6_roll) (maxL := 3) (ret := (some .int)) (by decide) rfl (Nat.le_of_ble_eq_true rfl) ?_
  intro p e s m below meth c hx hb hr hml hown hlocks hts hsz hA hP hD hS hK hnm ls hl
  subst hsz
  generalize hAe : va_A [(oM, .inr (6, [.int th, .ref rz, .ref r2, .int (nI km), .ref rb, .int (nI n), .int tp, .int lf, .int hg, .int wd, .ref rq, .int pm, .int stt, .long hh]))] s.heap.size = A at hA hD hS ⊢
  have hown : s.vm.findClass RX6 = some m.cls := hown
  have hl : lv_has ls 3 [(0, .ref oM), (1, .int x1), (2, .int x2)] := hl
  refine lv_aload_n hx hb dX6_roll_0 rfl (lv_at hl 0 rfl) ?_
  refine lv_iload_n hx hb dX6_roll_1 rfl (lv_at hl 1 rfl) ?_
  refine kq_cS (As := [.int x1]) (rest := [.ref oM]) ⟨hx, hb, hml, hown, hts⟩ (c_X6_isRoll l dC dI cI x1 ) (va_cwS 1 hts gX6_roll_X6_isRoll rfl rfl rfl (by decide +kernel) ⟨Nat.le_of_ble_eq_true rfl, Nat.le_of_ble_eq_true rfl⟩) (hP.sub [] rfl) hK rfl hl.1 rfl (Nat.le_of_ble_eq_true rfl) dX6_roll_2 ⟨Nat.le_of_ble_eq_true rfl, Nat.le_of_ble_eq_true rfl⟩ ?_
  refine lv_if_ne (tgt := 12) hx hb dX6_roll_5 (by decide) (fun c_1 => ?_) (fun c_1 => ?_)
  · skip
    have c_1 := kq_bt c_1
    refine lv_iload_n hx hb dX6_roll_12 rfl (lv_at hl 2 rfl) ?_
    refine lv_iconst (v := 0) hx hb dX6_roll_13 (by decide) ?_
    refine lv_iconst (v := 4) hx hb dX6_roll_14 (by decide) ?_
    refine kq_cS (As := [.int x2, .int 0, .int 4]) (rest := [.ref oM]) ⟨hx, hb, hml, hown, hts⟩ (c_X6_in l dC dI cI x2 0 4 ) (va_cwS 3 hts gX6_roll_X6_in rfl rfl rfl (by decide +kernel) ⟨Nat.le_of_ble_eq_true rfl, Nat.le_of_ble_eq_true rfl⟩) (hP.sub [] rfl) hK rfl hl.1 rfl (Nat.le_of_ble_eq_true rfl) dX6_roll_15 ⟨Nat.le_of_ble_eq_true rfl, Nat.le_of_ble_eq_true rfl⟩ ?_
    refine lv_if_eq (tgt := 25) hx hb dX6_roll_18 (by decide) (fun c_2 => ?_) (fun c_2 => ?_)
    · skip
      have c_2 := kq_bf c_2
      refine lv_iconst (v := 2) hx hb dX6_roll_25 (by decide) ?_
      refine va_put (D := (dC, dI)) (ci := 6) (v := .int 2) (ty := .int) (C := RX6) (T := TX6) (N := 14) hx hb hts (by decide +kernel) tyX6 tyX6_ok nmX6 hown hK.1 hP hD hS 0 rfl rfl 0 (by decide) (hts (.fieldLink RX6 22 "NoteWatermarksModel" "thrown" "I") (by decide +kernel)) (fun _ h9 => h9) rfl (by decide +kernel) rfl rfl (Nat.le_of_ble_eq_true rfl) dX6_roll_26 (fun H locs hP hD hS => ?_)
      have hP : va_P (dC, dI) vwCl [(oM, .inr (6, [.int 2, .ref rz, .ref r2, .int (nI km), .ref rb, .int (nI n), .int tp, .int lf, .int hg, .int wd, .ref rq, .int pm, .int stt, .long hh]))] H := hP
      have hD : va_D A [(oM, .inr (6, [.int 2, .ref rz, .ref r2, .int (nI km), .ref rb, .int (nI n), .int tp, .int lf, .int hg, .int wd, .ref rq, .int pm, .int stt, .long hh]))] := hD
      refine lv_aload_n hx hb dX6_roll_29 rfl (lv_at hl 0 rfl) ?_
      refine va_get (D := (dC, dI)) (ci := 6) (v := .int 2) (C := RX6) (T := TX6) (N := 14) hx hb hts (by decide +kernel) hown hK.1 hP 0 rfl rfl 0 (by decide) (hts (.fieldLink RX6 22 "NoteWatermarksModel" "thrown" "I") (by decide +kernel)) (fun _ h9 => h9) rfl dX6_roll_30 ?_
      refine lv_if_le (tgt := 40) hx hb dX6_roll_33 (by decide) (fun q => absurd q (by decide)) (fun _ => ?_)
      refine lv_iconst (v := 0) hx hb dX6_roll_36 (by decide) ?_
      refine lv_goto (tgt := 46) hx hb dX6_roll_37 (by decide) ?_
      exact kq_retMi (2) hx hb hr hlocks hP hD hS dX6_roll_46 (by first | exact ⟨fun _ => rfl, fun q _ => absurd q (by assumption)⟩ | exact ⟨fun q => absurd (by assumption) q, fun _ _ => rfl⟩)
    · skip
      have c_2 := kq_bt c_2
      exact absurd ⟨by assumption, c_2⟩ hbad
  · skip
    have c_1 := kq_bf c_1
    refine lv_iconst (v := 1) hx hb dX6_roll_8 (by decide) ?_
    refine lv_goto (tgt := 26) hx hb dX6_roll_9 (by decide) ?_
    refine va_put (D := (dC, dI)) (ci := 6) (v := .int 1) (ty := .int) (C := RX6) (T := TX6) (N := 14) hx hb hts (by decide +kernel) tyX6 tyX6_ok nmX6 hown hK.1 hP hD hS 0 rfl rfl 0 (by decide) (hts (.fieldLink RX6 22 "NoteWatermarksModel" "thrown" "I") (by decide +kernel)) (fun _ h9 => h9) rfl (by decide +kernel) rfl rfl (Nat.le_of_ble_eq_true rfl) dX6_roll_26 (fun H locs hP hD hS => ?_)
    have hP : va_P (dC, dI) vwCl [(oM, .inr (6, [.int 1, .ref rz, .ref r2, .int (nI km), .ref rb, .int (nI n), .int tp, .int lf, .int hg, .int wd, .ref rq, .int pm, .int stt, .long hh]))] H := hP
    have hD : va_D A [(oM, .inr (6, [.int 1, .ref rz, .ref r2, .int (nI km), .ref rb, .int (nI n), .int tp, .int lf, .int hg, .int wd, .ref rq, .int pm, .int stt, .long hh]))] := hD
    refine lv_aload_n hx hb dX6_roll_29 rfl (lv_at hl 0 rfl) ?_
    refine va_get (D := (dC, dI)) (ci := 6) (v := .int 1) (C := RX6) (T := TX6) (N := 14) hx hb hts (by decide +kernel) hown hK.1 hP 0 rfl rfl 0 (by decide) (hts (.fieldLink RX6 22 "NoteWatermarksModel" "thrown" "I") (by decide +kernel)) (fun _ h9 => h9) rfl dX6_roll_30 ?_
    refine lv_if_le (tgt := 40) hx hb dX6_roll_33 (by decide) (fun q => absurd q (by decide)) (fun _ => ?_)
    refine lv_iconst (v := 0) hx hb dX6_roll_36 (by decide) ?_
    refine lv_goto (tgt := 46) hx hb dX6_roll_37 (by decide) ?_
    exact kq_retMi (1) hx hb hr hlocks hP hD hS dX6_roll_46 (by first | exact ⟨fun _ => rfl, fun q _ => absurd q (by assumption)⟩ | exact ⟨fun q => absurd (by assumption) q, fun _ _ => rfl⟩)
set_option maxHeartbeats 4000000 in
set_option maxRecDepth 100000 in
theorem c_X6_figureOf_t (l : Launch) (dC : Nat → ClassId) (dI : Nat → Nat → Nat) (cI : ClassId) (sz : Nat) (oM : Nat) (rz : Nat) (r2 : Nat) (rb : Nat) (rq : Nat) (km : Nat) (n : Nat) (th : Int32) (tp : Int32) (lf : Int32) (hg : Int32) (wd : Int32) (pm : Int32) (stt : Int32) (hh : Int64) (z : Nat → Int32) (v : Nat → Int32) (x1 : Int32) (x2 : Int32) (hbad : ¬ ((0 ≤ x1 ∧ x1 ≤ 3) ∧ (0 ≤ x2 ∧ x2 ≤ 4))) : Met l yX6_figureOf wsX6_figureOf ({ frames := 9, cells := 0, slots := 0, locals := 210 }) (kq_M dC dI cI [.ref oM, .int x1, .int x2] sz [(oM, .inr (6, [.int th, .ref rz, .ref r2, .int (nI km), .ref rb, .int (nI n), .int tp, .int lf, .int hg, .int wd, .ref rq, .int pm, .int stt, .long hh]))]) (va_Qi (fun (r : Int32) (u : Int32) => (¬ ((0 ≤ x1 ∧ x1 ≤ 3)) → u = 1) ∧ (((0 ≤ x1 ∧ x1 ≤ 3)) → ¬ ((0 ≤ x2 ∧ x2 ≤ 4)) → u = 2)) (kq_B dC dI (va_A [(oM, .inr (6, [.int th, .ref rz, .ref r2, .int (nI km), .ref rb, .int (nI n), .int tp, .int lf, .int hg, .int wd, .ref rq, .int pm, .int stt, .long hh]))] sz) (fun u : Int32 => [(oM, .inr (6, [.int u, .ref rz, .ref r2, .int (nI km), .ref rb, .int (nI n), .int tp, .int lf, .int hg, .int wd, .ref rq, .int pm, .int stt, .long hh]))])) (va_A [(oM, .inr (6, [.int th, .ref rz, .ref r2, .int (nI km), .ref rb, .int (nI n), .int tp, .int lf, .int hg, .int wd, .ref rq, .int pm, .int stt, .long hh]))] sz)) 0 0 (va_A [(oM, .inr (6, [.int th, .ref rz, .ref r2, .int (nI km), .ref rb, .int (nI n), .int tp, .int lf, .int hg, .int wd, .ref rq, .int pm, .int stt, .long hh]))] sz) := by
  refine kq_startM (cc := cX6_figureOf) (maxL := 3) (ret := (some .int)) (by decide) rfl (Nat.le_of_ble_eq_true rfl) ?_
  intro p e s m below meth c hx hb hr hml hown hlocks hts hsz hA hP hD hS hK hnm ls hl
  subst hsz
  generalize hAe : va_A [(oM, .inr (6, [.int th, .ref rz, .ref r2, .int (nI km), .ref rb, .int (nI n), .int tp, .int lf, .int hg, .int wd, .ref rq, .int pm, .int stt, .long hh]))] s.heap.size = A at hA hD hS ⊢
  have hown : s.vm.findClass RX6 = some m.cls := hown
  have hl : lv_has ls 3 [(0, .ref oM), (1, .int x1), (2, .int x2)] := hl
  refine lv_aload_n hx hb dX6_figureOf_0 rfl (lv_at hl 0 rfl) ?_
  refine lv_iload_n hx hb dX6_figureOf_1 rfl (lv_at hl 1 rfl) ?_
  refine kq_cS (As := [.int x1]) (rest := [.ref oM]) ⟨hx, hb, hml, hown, hts⟩ (c_X6_isFigure l dC dI cI x1 ) (va_cwS 1 hts gX6_figureOf_X6_isFigure rfl rfl rfl (by decide +kernel) ⟨Nat.le_of_ble_eq_true rfl, Nat.le_of_ble_eq_true rfl⟩) (hP.sub [] rfl) hK rfl hl.1 rfl (Nat.le_of_ble_eq_true rfl) dX6_figureOf_2 ⟨Nat.le_of_ble_eq_true rfl, Nat.le_of_ble_eq_true rfl⟩ ?_
  refine lv_if_ne (tgt := 12) hx hb dX6_figureOf_5 (by decide) (fun c_1 => ?_) (fun c_1 => ?_)
  · skip
    have c_1 := kq_bt c_1
    refine lv_iload_n hx hb dX6_figureOf_12 rfl (lv_at hl 2 rfl) ?_
    refine lv_iconst (v := 0) hx hb dX6_figureOf_13 (by decide) ?_
    refine lv_iconst (v := 4) hx hb dX6_figureOf_14 (by decide) ?_
    refine kq_cS (As := [.int x2, .int 0, .int 4]) (rest := [.ref oM]) ⟨hx, hb, hml, hown, hts⟩ (c_X6_in l dC dI cI x2 0 4 ) (va_cwS 3 hts gX6_figureOf_X6_in rfl rfl rfl (by decide +kernel) ⟨Nat.le_of_ble_eq_true rfl, Nat.le_of_ble_eq_true rfl⟩) (hP.sub [] rfl) hK rfl hl.1 rfl (Nat.le_of_ble_eq_true rfl) dX6_figureOf_15 ⟨Nat.le_of_ble_eq_true rfl, Nat.le_of_ble_eq_true rfl⟩ ?_
    refine lv_if_eq (tgt := 25) hx hb dX6_figureOf_18 (by decide) (fun c_2 => ?_) (fun c_2 => ?_)
    · skip
      have c_2 := kq_bf c_2
      refine lv_iconst (v := 2) hx hb dX6_figureOf_25 (by decide) ?_
      refine va_put (D := (dC, dI)) (ci := 6) (v := .int 2) (ty := .int) (C := RX6) (T := TX6) (N := 14) hx hb hts (by decide +kernel) tyX6 tyX6_ok nmX6 hown hK.1 hP hD hS 0 rfl rfl 0 (by decide) (hts (.fieldLink RX6 22 "NoteWatermarksModel" "thrown" "I") (by decide +kernel)) (fun _ h9 => h9) rfl (by decide +kernel) rfl rfl (Nat.le_of_ble_eq_true rfl) dX6_figureOf_26 (fun H locs hP hD hS => ?_)
      have hP : va_P (dC, dI) vwCl [(oM, .inr (6, [.int 2, .ref rz, .ref r2, .int (nI km), .ref rb, .int (nI n), .int tp, .int lf, .int hg, .int wd, .ref rq, .int pm, .int stt, .long hh]))] H := hP
      have hD : va_D A [(oM, .inr (6, [.int 2, .ref rz, .ref r2, .int (nI km), .ref rb, .int (nI n), .int tp, .int lf, .int hg, .int wd, .ref rq, .int pm, .int stt, .long hh]))] := hD
      refine lv_aload_n hx hb dX6_figureOf_29 rfl (lv_at hl 0 rfl) ?_
      refine va_get (D := (dC, dI)) (ci := 6) (v := .int 2) (C := RX6) (T := TX6) (N := 14) hx hb hts (by decide +kernel) hown hK.1 hP 0 rfl rfl 0 (by decide) (hts (.fieldLink RX6 22 "NoteWatermarksModel" "thrown" "I") (by decide +kernel)) (fun _ h9 => h9) rfl dX6_figureOf_30 ?_
      refine lv_if_le (tgt := 40) hx hb dX6_figureOf_33 (by decide) (fun q => absurd q (by decide)) (fun _ => ?_)
      refine lv_iconst (v := 0) hx hb dX6_figureOf_36 (by decide) ?_
      refine lv_goto (tgt := 46) hx hb dX6_figureOf_37 (by decide) ?_
      exact kq_retMi (2) hx hb hr hlocks hP hD hS dX6_figureOf_46 (by first | exact ⟨fun _ => rfl, fun q _ => absurd q (by assumption)⟩ | exact ⟨fun q => absurd (by assumption) q, fun _ _ => rfl⟩)
    · skip
      have c_2 := kq_bt c_2
      exact absurd ⟨by assumption, c_2⟩ hbad
  · skip
    have c_1 := kq_bf c_1
    refine lv_iconst (v := 1) hx hb dX6_figureOf_8 (by decide) ?_
    refine lv_goto (tgt := 26) hx hb dX6_figureOf_9 (by decide) ?_
    refine va_put (D := (dC, dI)) (ci := 6) (v := .int 1) (ty := .int) (C := RX6) (T := TX6) (N := 14) hx hb hts (by decide +kernel) tyX6 tyX6_ok nmX6 hown hK.1 hP hD hS 0 rfl rfl 0 (by decide) (hts (.fieldLink RX6 22 "NoteWatermarksModel" "thrown" "I") (by decide +kernel)) (fun _ h9 => h9) rfl (by decide +kernel) rfl rfl (Nat.le_of_ble_eq_true rfl) dX6_figureOf_26 (fun H locs hP hD hS => ?_)
    have hP : va_P (dC, dI) vwCl [(oM, .inr (6, [.int 1, .ref rz, .ref r2, .int (nI km), .ref rb, .int (nI n), .int tp, .int lf, .int hg, .int wd, .ref rq, .int pm, .int stt, .long hh]))] H := hP
    have hD : va_D A [(oM, .inr (6, [.int 1, .ref rz, .ref r2, .int (nI km), .ref rb, .int (nI n), .int tp, .int lf, .int hg, .int wd, .ref rq, .int pm, .int stt, .long hh]))] := hD
    refine lv_aload_n hx hb dX6_figureOf_29 rfl (lv_at hl 0 rfl) ?_
    refine va_get (D := (dC, dI)) (ci := 6) (v := .int 1) (C := RX6) (T := TX6) (N := 14) hx hb hts (by decide +kernel) hown hK.1 hP 0 rfl rfl 0 (by decide) (hts (.fieldLink RX6 22 "NoteWatermarksModel" "thrown" "I") (by decide +kernel)) (fun _ h9 => h9) rfl dX6_figureOf_30 ?_
    refine lv_if_le (tgt := 40) hx hb dX6_figureOf_33 (by decide) (fun q => absurd q (by decide)) (fun _ => ?_)
    refine lv_iconst (v := 0) hx hb dX6_figureOf_36 (by decide) ?_
    refine lv_goto (tgt := 46) hx hb dX6_figureOf_37 (by decide) ?_
    exact kq_retMi (1) hx hb hr hlocks hP hD hS dX6_figureOf_46 (by first | exact ⟨fun _ => rfl, fun q _ => absurd q (by assumption)⟩ | exact ⟨fun q => absurd (by assumption) q, fun _ _ => rfl⟩)
set_option maxHeartbeats 4000000 in
set_option maxRecDepth 100000 in
theorem c_X6_cell_t (l : Launch) (dC : Nat → ClassId) (dI : Nat → Nat → Nat) (cI : ClassId) (sz : Nat) (oM : Nat) (rz : Nat) (r2 : Nat) (rb : Nat) (rq : Nat) (km : Nat) (n : Nat) (th : Int32) (tp : Int32) (lf : Int32) (hg : Int32) (wd : Int32) (pm : Int32) (stt : Int32) (hh : Int64) (z : Nat → Int32) (v : Nat → Int32) (x0 : Int32) (x1 : Int32) (x2 : Int32) (x3 : Int32) (hbad : ¬ ((0 ≤ x0 ∧ x0 ≤ 999) ∧ ((0 ≤ x1 ∧ x1 ≤ 5) ∧ (0 ≤ x2 ∧ x2 ≤ 11)) ∧ (0 ≤ x3 ∧ x3 ≤ 3))) : Met l yX6_cell wsX6_cell ({ frames := 5, cells := 0, slots := 0, locals := 120 }) (kq_M dC dI cI [.ref oM, .int x0, .int x1, .int x2, .int x3] sz [(oM, .inr (6, [.int th, .ref rz, .ref r2, .int (nI km), .ref rb, .int (nI n), .int tp, .int lf, .int hg, .int wd, .ref rq, .int pm, .int stt, .long hh]))]) (va_Qi (fun (r : Int32) (u : Int32) => (¬ ((0 ≤ x0 ∧ x0 ≤ 999) ∧ ((0 ≤ x1 ∧ x1 ≤ 5) ∧ (0 ≤ x2 ∧ x2 ≤ 11))) → u = 1) ∧ (((0 ≤ x0 ∧ x0 ≤ 999) ∧ ((0 ≤ x1 ∧ x1 ≤ 5) ∧ (0 ≤ x2 ∧ x2 ≤ 11))) → ¬ ((0 ≤ x3 ∧ x3 ≤ 3)) → u = 2)) (kq_B dC dI (va_A [(oM, .inr (6, [.int th, .ref rz, .ref r2, .int (nI km), .ref rb, .int (nI n), .int tp, .int lf, .int hg, .int wd, .ref rq, .int pm, .int stt, .long hh]))] sz) (fun u : Int32 => [(oM, .inr (6, [.int u, .ref rz, .ref r2, .int (nI km), .ref rb, .int (nI n), .int tp, .int lf, .int hg, .int wd, .ref rq, .int pm, .int stt, .long hh]))])) (va_A [(oM, .inr (6, [.int th, .ref rz, .ref r2, .int (nI km), .ref rb, .int (nI n), .int tp, .int lf, .int hg, .int wd, .ref rq, .int pm, .int stt, .long hh]))] sz)) 0 0 (va_A [(oM, .inr (6, [.int th, .ref rz, .ref r2, .int (nI km), .ref rb, .int (nI n), .int tp, .int lf, .int hg, .int wd, .ref rq, .int pm, .int stt, .long hh]))] sz) := by
  refine kq_startM (cc := cX6_cell) (maxL := 5) (ret := (some .int)) (by decide) rfl (Nat.le_of_ble_eq_true rfl) ?_
  intro p e s m below meth c hx hb hr hml hown hlocks hts hsz hA hP hD hS hK hnm ls hl
  subst hsz
  generalize hAe : va_A [(oM, .inr (6, [.int th, .ref rz, .ref r2, .int (nI km), .ref rb, .int (nI n), .int tp, .int lf, .int hg, .int wd, .ref rq, .int pm, .int stt, .long hh]))] s.heap.size = A at hA hD hS ⊢
  have hown : s.vm.findClass RX6 = some m.cls := hown
  have hl : lv_has ls 5 [(0, .ref oM), (1, .int x0), (2, .int x1), (3, .int x2), (4, .int x3)] := hl
  refine lv_aload_n hx hb dX6_cell_0 rfl (lv_at hl 0 rfl) ?_
  refine lv_iload_n hx hb dX6_cell_1 rfl (lv_at hl 1 rfl) ?_
  refine kq_cS (As := [.int x0]) (rest := [.ref oM]) ⟨hx, hb, hml, hown, hts⟩ (c_X6_isNote l dC dI cI x0 ) (va_cwS 1 hts gX6_cell_X6_isNote rfl rfl rfl (by decide +kernel) ⟨Nat.le_of_ble_eq_true rfl, Nat.le_of_ble_eq_true rfl⟩) (hP.sub [] rfl) hK rfl hl.1 rfl (Nat.le_of_ble_eq_true rfl) dX6_cell_2 ⟨Nat.le_of_ble_eq_true rfl, Nat.le_of_ble_eq_true rfl⟩ ?_
  refine lv_if_eq (tgt := 16) hx hb dX6_cell_5 (by decide) (fun c_1 => ?_) (fun c_1 => ?_)
  · skip
    have c_1 := kq_bf c_1
    refine lv_iconst (v := 1) hx hb dX6_cell_16 (by decide) ?_
    refine lv_goto (tgt := 35) hx hb dX6_cell_17 (by decide) ?_
    refine va_put (D := (dC, dI)) (ci := 6) (v := .int 1) (ty := .int) (C := RX6) (T := TX6) (N := 14) hx hb hts (by decide +kernel) tyX6 tyX6_ok nmX6 hown hK.1 hP hD hS 0 rfl rfl 0 (by decide) (hts (.fieldLink RX6 22 "NoteWatermarksModel" "thrown" "I") (by decide +kernel)) (fun _ h9 => h9) rfl (by decide +kernel) rfl rfl (Nat.le_of_ble_eq_true rfl) dX6_cell_35 (fun H locs hP hD hS => ?_)
    have hP : va_P (dC, dI) vwCl [(oM, .inr (6, [.int 1, .ref rz, .ref r2, .int (nI km), .ref rb, .int (nI n), .int tp, .int lf, .int hg, .int wd, .ref rq, .int pm, .int stt, .long hh]))] H := hP
    have hD : va_D A [(oM, .inr (6, [.int 1, .ref rz, .ref r2, .int (nI km), .ref rb, .int (nI n), .int tp, .int lf, .int hg, .int wd, .ref rq, .int pm, .int stt, .long hh]))] := hD
    refine lv_aload_n hx hb dX6_cell_38 rfl (lv_at hl 0 rfl) ?_
    refine va_get (D := (dC, dI)) (ci := 6) (v := .int 1) (C := RX6) (T := TX6) (N := 14) hx hb hts (by decide +kernel) hown hK.1 hP 0 rfl rfl 0 (by decide) (hts (.fieldLink RX6 22 "NoteWatermarksModel" "thrown" "I") (by decide +kernel)) (fun _ h9 => h9) rfl dX6_cell_39 ?_
    refine lv_if_le (tgt := 49) hx hb dX6_cell_42 (by decide) (fun q => absurd q (by decide)) (fun _ => ?_)
    refine lv_iconst (v := 0) hx hb dX6_cell_45 (by decide) ?_
    refine lv_goto (tgt := 58) hx hb dX6_cell_46 (by decide) ?_
    exact kq_retMi (1) hx hb hr hlocks hP hD hS dX6_cell_58 (by first | exact ⟨fun _ => rfl, fun q _ => absurd q.1 (by assumption)⟩ | exact ⟨fun _ => rfl, fun q _ => absurd q.2 (by assumption)⟩ | exact ⟨fun q => absurd ⟨by assumption, by assumption⟩ q, fun _ _ => rfl⟩)
  · skip
    have c_1 := kq_bt c_1
    refine lv_iload_n hx hb dX6_cell_8 rfl (lv_at hl 2 rfl) ?_
    refine lv_iload_n hx hb dX6_cell_9 rfl (lv_at hl 3 rfl) ?_
    refine kq_cS (As := [.int x1, .int x2]) (rest := [.ref oM]) ⟨hx, hb, hml, hown, hts⟩ (c_X6_isCell l dC dI cI x1 x2 ) (va_cwS 2 hts gX6_cell_X6_isCell rfl rfl rfl (by decide +kernel) ⟨Nat.le_of_ble_eq_true rfl, Nat.le_of_ble_eq_true rfl⟩) (hP.sub [] rfl) hK rfl hl.1 rfl (Nat.le_of_ble_eq_true rfl) dX6_cell_10 ⟨Nat.le_of_ble_eq_true rfl, Nat.le_of_ble_eq_true rfl⟩ ?_
    refine lv_if_ne (tgt := 20) hx hb dX6_cell_13 (by decide) (fun c_3 => ?_) (fun c_3 => ?_)
    · skip
      have c_3 := kq_bt c_3
      refine lv_iload hx hb dX6_cell_20 (lv_at hl 4 rfl) ?_
      refine lv_iconst (v := 0) hx hb dX6_cell_22 (by decide) ?_
      refine lv_iconst (v := 3) hx hb dX6_cell_23 (by decide) ?_
      refine kq_cS (As := [.int x3, .int 0, .int 3]) (rest := [.ref oM]) ⟨hx, hb, hml, hown, hts⟩ (c_X6_in l dC dI cI x3 0 3 ) (va_cwS 3 hts gX6_cell_X6_in rfl rfl rfl (by decide +kernel) ⟨Nat.le_of_ble_eq_true rfl, Nat.le_of_ble_eq_true rfl⟩) (hP.sub [] rfl) hK rfl hl.1 rfl (Nat.le_of_ble_eq_true rfl) dX6_cell_24 ⟨Nat.le_of_ble_eq_true rfl, Nat.le_of_ble_eq_true rfl⟩ ?_
      refine lv_if_eq (tgt := 34) hx hb dX6_cell_27 (by decide) (fun c_4 => ?_) (fun c_4 => ?_)
      · skip
        have c_4 := kq_bf c_4
        refine lv_iconst (v := 2) hx hb dX6_cell_34 (by decide) ?_
        refine va_put (D := (dC, dI)) (ci := 6) (v := .int 2) (ty := .int) (C := RX6) (T := TX6) (N := 14) hx hb hts (by decide +kernel) tyX6 tyX6_ok nmX6 hown hK.1 hP hD hS 0 rfl rfl 0 (by decide) (hts (.fieldLink RX6 22 "NoteWatermarksModel" "thrown" "I") (by decide +kernel)) (fun _ h9 => h9) rfl (by decide +kernel) rfl rfl (Nat.le_of_ble_eq_true rfl) dX6_cell_35 (fun H locs hP hD hS => ?_)
        have hP : va_P (dC, dI) vwCl [(oM, .inr (6, [.int 2, .ref rz, .ref r2, .int (nI km), .ref rb, .int (nI n), .int tp, .int lf, .int hg, .int wd, .ref rq, .int pm, .int stt, .long hh]))] H := hP
        have hD : va_D A [(oM, .inr (6, [.int 2, .ref rz, .ref r2, .int (nI km), .ref rb, .int (nI n), .int tp, .int lf, .int hg, .int wd, .ref rq, .int pm, .int stt, .long hh]))] := hD
        refine lv_aload_n hx hb dX6_cell_38 rfl (lv_at hl 0 rfl) ?_
        refine va_get (D := (dC, dI)) (ci := 6) (v := .int 2) (C := RX6) (T := TX6) (N := 14) hx hb hts (by decide +kernel) hown hK.1 hP 0 rfl rfl 0 (by decide) (hts (.fieldLink RX6 22 "NoteWatermarksModel" "thrown" "I") (by decide +kernel)) (fun _ h9 => h9) rfl dX6_cell_39 ?_
        refine lv_if_le (tgt := 49) hx hb dX6_cell_42 (by decide) (fun q => absurd q (by decide)) (fun _ => ?_)
        refine lv_iconst (v := 0) hx hb dX6_cell_45 (by decide) ?_
        refine lv_goto (tgt := 58) hx hb dX6_cell_46 (by decide) ?_
        exact kq_retMi (2) hx hb hr hlocks hP hD hS dX6_cell_58 (by first | exact ⟨fun _ => rfl, fun q _ => absurd q.1 (by assumption)⟩ | exact ⟨fun _ => rfl, fun q _ => absurd q.2 (by assumption)⟩ | exact ⟨fun q => absurd ⟨by assumption, by assumption⟩ q, fun _ _ => rfl⟩)
      · skip
        have c_4 := kq_bt c_4
        exact absurd ⟨by assumption, by assumption, c_4⟩ hbad
    · skip
      have c_3 := kq_bf c_3
      refine lv_iconst (v := 1) hx hb dX6_cell_16 (by decide) ?_
      refine lv_goto (tgt := 35) hx hb dX6_cell_17 (by decide) ?_
      refine va_put (D := (dC, dI)) (ci := 6) (v := .int 1) (ty := .int) (C := RX6) (T := TX6) (N := 14) hx hb hts (by decide +kernel) tyX6 tyX6_ok nmX6 hown hK.1 hP hD hS 0 rfl rfl 0 (by decide) (hts (.fieldLink RX6 22 "NoteWatermarksModel" "thrown" "I") (by decide +kernel)) (fun _ h9 => h9) rfl (by decide +kernel) rfl rfl (Nat.le_of_ble_eq_true rfl) dX6_cell_35 (fun H locs hP hD hS => ?_)
      have hP : va_P (dC, dI) vwCl [(oM, .inr (6, [.int 1, .ref rz, .ref r2, .int (nI km), .ref rb, .int (nI n), .int tp, .int lf, .int hg, .int wd, .ref rq, .int pm, .int stt, .long hh]))] H := hP
      have hD : va_D A [(oM, .inr (6, [.int 1, .ref rz, .ref r2, .int (nI km), .ref rb, .int (nI n), .int tp, .int lf, .int hg, .int wd, .ref rq, .int pm, .int stt, .long hh]))] := hD
      refine lv_aload_n hx hb dX6_cell_38 rfl (lv_at hl 0 rfl) ?_
      refine va_get (D := (dC, dI)) (ci := 6) (v := .int 1) (C := RX6) (T := TX6) (N := 14) hx hb hts (by decide +kernel) hown hK.1 hP 0 rfl rfl 0 (by decide) (hts (.fieldLink RX6 22 "NoteWatermarksModel" "thrown" "I") (by decide +kernel)) (fun _ h9 => h9) rfl dX6_cell_39 ?_
      refine lv_if_le (tgt := 49) hx hb dX6_cell_42 (by decide) (fun q => absurd q (by decide)) (fun _ => ?_)
      refine lv_iconst (v := 0) hx hb dX6_cell_45 (by decide) ?_
      refine lv_goto (tgt := 58) hx hb dX6_cell_46 (by decide) ?_
      exact kq_retMi (1) hx hb hr hlocks hP hD hS dX6_cell_58 (by first | exact ⟨fun _ => rfl, fun q _ => absurd q.1 (by assumption)⟩ | exact ⟨fun _ => rfl, fun q _ => absurd q.2 (by assumption)⟩ | exact ⟨fun q => absurd ⟨by assumption, by assumption⟩ q, fun _ _ => rfl⟩)
set_option maxHeartbeats 4000000 in
set_option maxRecDepth 100000 in
theorem c_X6_contrast_t (l : Launch) (dC : Nat → ClassId) (dI : Nat → Nat → Nat) (cI : ClassId) (sz : Nat) (oM : Nat) (rz : Nat) (r2 : Nat) (rb : Nat) (rq : Nat) (km : Nat) (n : Nat) (th : Int32) (tp : Int32) (lf : Int32) (hg : Int32) (wd : Int32) (pm : Int32) (stt : Int32) (hh : Int64) (z : Nat → Int32) (v : Nat → Int32) (x1 : Int32) (x2 : Int32) (hbad : ¬ ((0 ≤ x1 ∧ x1 ≤ 3) ∧ (0 ≤ x2 ∧ x2 ≤ 999))) : Met l yX6_contrast wsX6_contrast ({ frames := 6, cells := 0, slots := 0, locals := 144 }) (kq_M dC dI cI [.ref oM, .int x1, .int x2] sz [(oM, .inr (6, [.int th, .ref rz, .ref r2, .int (nI km), .ref rb, .int (nI n), .int tp, .int lf, .int hg, .int wd, .ref rq, .int pm, .int stt, .long hh]))]) (va_Qi (fun (r : Int32) (u : Int32) => (¬ ((0 ≤ x1 ∧ x1 ≤ 3) ∧ (0 ≤ x2 ∧ x2 ≤ 999)) → u = 1) ∧ (((0 ≤ x1 ∧ x1 ≤ 3) ∧ (0 ≤ x2 ∧ x2 ≤ 999)) → ¬ True → u = 2)) (kq_B dC dI (va_A [(oM, .inr (6, [.int th, .ref rz, .ref r2, .int (nI km), .ref rb, .int (nI n), .int tp, .int lf, .int hg, .int wd, .ref rq, .int pm, .int stt, .long hh]))] sz) (fun u : Int32 => [(oM, .inr (6, [.int u, .ref rz, .ref r2, .int (nI km), .ref rb, .int (nI n), .int tp, .int lf, .int hg, .int wd, .ref rq, .int pm, .int stt, .long hh]))])) (va_A [(oM, .inr (6, [.int th, .ref rz, .ref r2, .int (nI km), .ref rb, .int (nI n), .int tp, .int lf, .int hg, .int wd, .ref rq, .int pm, .int stt, .long hh]))] sz)) 0 0 (va_A [(oM, .inr (6, [.int th, .ref rz, .ref r2, .int (nI km), .ref rb, .int (nI n), .int tp, .int lf, .int hg, .int wd, .ref rq, .int pm, .int stt, .long hh]))] sz) := by
  refine kq_startM (cc := cX6_contrast) (maxL := 3) (ret := (some .int)) (by decide) rfl (Nat.le_of_ble_eq_true rfl) ?_
  intro p e s m below meth c hx hb hr hml hown hlocks hts hsz hA hP hD hS hK hnm ls hl
  subst hsz
  generalize hAe : va_A [(oM, .inr (6, [.int th, .ref rz, .ref r2, .int (nI km), .ref rb, .int (nI n), .int tp, .int lf, .int hg, .int wd, .ref rq, .int pm, .int stt, .long hh]))] s.heap.size = A at hA hD hS ⊢
  have hown : s.vm.findClass RX6 = some m.cls := hown
  have hl : lv_has ls 3 [(0, .ref oM), (1, .int x1), (2, .int x2)] := hl
  refine lv_aload_n hx hb dX6_contrast_0 rfl (lv_at hl 0 rfl) ?_
  refine lv_iload_n hx hb dX6_contrast_1 rfl (lv_at hl 1 rfl) ?_
  refine kq_cS (As := [.int x1]) (rest := [.ref oM]) ⟨hx, hb, hml, hown, hts⟩ (c_X6_isFigure l dC dI cI x1 ) (va_cwS 1 hts gX6_contrast_X6_isFigure rfl rfl rfl (by decide +kernel) ⟨Nat.le_of_ble_eq_true rfl, Nat.le_of_ble_eq_true rfl⟩) (hP.sub [] rfl) hK rfl hl.1 rfl (Nat.le_of_ble_eq_true rfl) dX6_contrast_2 ⟨Nat.le_of_ble_eq_true rfl, Nat.le_of_ble_eq_true rfl⟩ ?_
  refine lv_if_eq (tgt := 19) hx hb dX6_contrast_5 (by decide) (fun c_1 => ?_) (fun c_1 => ?_)
  · skip
    have c_1 := kq_bf c_1
    refine lv_iconst (v := 1) hx hb dX6_contrast_19 (by decide) ?_
    refine va_put (D := (dC, dI)) (ci := 6) (v := .int 1) (ty := .int) (C := RX6) (T := TX6) (N := 14) hx hb hts (by decide +kernel) tyX6 tyX6_ok nmX6 hown hK.1 hP hD hS 0 rfl rfl 0 (by decide) (hts (.fieldLink RX6 22 "NoteWatermarksModel" "thrown" "I") (by decide +kernel)) (fun _ h9 => h9) rfl (by decide +kernel) rfl rfl (Nat.le_of_ble_eq_true rfl) dX6_contrast_20 (fun H locs hP hD hS => ?_)
    have hP : va_P (dC, dI) vwCl [(oM, .inr (6, [.int 1, .ref rz, .ref r2, .int (nI km), .ref rb, .int (nI n), .int tp, .int lf, .int hg, .int wd, .ref rq, .int pm, .int stt, .long hh]))] H := hP
    have hD : va_D A [(oM, .inr (6, [.int 1, .ref rz, .ref r2, .int (nI km), .ref rb, .int (nI n), .int tp, .int lf, .int hg, .int wd, .ref rq, .int pm, .int stt, .long hh]))] := hD
    refine lv_aload_n hx hb dX6_contrast_23 rfl (lv_at hl 0 rfl) ?_
    refine va_get (D := (dC, dI)) (ci := 6) (v := .int 1) (C := RX6) (T := TX6) (N := 14) hx hb hts (by decide +kernel) hown hK.1 hP 0 rfl rfl 0 (by decide) (hts (.fieldLink RX6 22 "NoteWatermarksModel" "thrown" "I") (by decide +kernel)) (fun _ h9 => h9) rfl dX6_contrast_24 ?_
    refine lv_if_le (tgt := 34) hx hb dX6_contrast_27 (by decide) (fun q => absurd q (by decide)) (fun _ => ?_)
    refine lv_iconst (v := 0) hx hb dX6_contrast_30 (by decide) ?_
    refine lv_goto (tgt := 40) hx hb dX6_contrast_31 (by decide) ?_
    exact kq_retMi (1) hx hb hr hlocks hP hD hS dX6_contrast_40 (by first | exact ⟨fun _ => rfl, fun q _ => absurd q.1 (by assumption)⟩ | exact ⟨fun _ => rfl, fun q _ => absurd q.2 (by assumption)⟩ | exact ⟨fun q => absurd ⟨by assumption, by assumption⟩ q, fun _ _ => rfl⟩)
  · skip
    have c_1 := kq_bt c_1
    refine lv_iload_n hx hb dX6_contrast_8 rfl (lv_at hl 2 rfl) ?_
    refine kq_cS (As := [.int x2]) (rest := [.ref oM]) ⟨hx, hb, hml, hown, hts⟩ (c_X6_isNote l dC dI cI x2 ) (va_cwS 1 hts gX6_contrast_X6_isNote rfl rfl rfl (by decide +kernel) ⟨Nat.le_of_ble_eq_true rfl, Nat.le_of_ble_eq_true rfl⟩) (hP.sub [] rfl) hK rfl hl.1 rfl (Nat.le_of_ble_eq_true rfl) dX6_contrast_9 ⟨Nat.le_of_ble_eq_true rfl, Nat.le_of_ble_eq_true rfl⟩ ?_
    refine lv_if_eq (tgt := 19) hx hb dX6_contrast_12 (by decide) (fun c_3 => ?_) (fun c_3 => ?_)
    · skip
      have c_3 := kq_bf c_3
      refine lv_iconst (v := 1) hx hb dX6_contrast_19 (by decide) ?_
      refine va_put (D := (dC, dI)) (ci := 6) (v := .int 1) (ty := .int) (C := RX6) (T := TX6) (N := 14) hx hb hts (by decide +kernel) tyX6 tyX6_ok nmX6 hown hK.1 hP hD hS 0 rfl rfl 0 (by decide) (hts (.fieldLink RX6 22 "NoteWatermarksModel" "thrown" "I") (by decide +kernel)) (fun _ h9 => h9) rfl (by decide +kernel) rfl rfl (Nat.le_of_ble_eq_true rfl) dX6_contrast_20 (fun H locs hP hD hS => ?_)
      have hP : va_P (dC, dI) vwCl [(oM, .inr (6, [.int 1, .ref rz, .ref r2, .int (nI km), .ref rb, .int (nI n), .int tp, .int lf, .int hg, .int wd, .ref rq, .int pm, .int stt, .long hh]))] H := hP
      have hD : va_D A [(oM, .inr (6, [.int 1, .ref rz, .ref r2, .int (nI km), .ref rb, .int (nI n), .int tp, .int lf, .int hg, .int wd, .ref rq, .int pm, .int stt, .long hh]))] := hD
      refine lv_aload_n hx hb dX6_contrast_23 rfl (lv_at hl 0 rfl) ?_
      refine va_get (D := (dC, dI)) (ci := 6) (v := .int 1) (C := RX6) (T := TX6) (N := 14) hx hb hts (by decide +kernel) hown hK.1 hP 0 rfl rfl 0 (by decide) (hts (.fieldLink RX6 22 "NoteWatermarksModel" "thrown" "I") (by decide +kernel)) (fun _ h9 => h9) rfl dX6_contrast_24 ?_
      refine lv_if_le (tgt := 34) hx hb dX6_contrast_27 (by decide) (fun q => absurd q (by decide)) (fun _ => ?_)
      refine lv_iconst (v := 0) hx hb dX6_contrast_30 (by decide) ?_
      refine lv_goto (tgt := 40) hx hb dX6_contrast_31 (by decide) ?_
      exact kq_retMi (1) hx hb hr hlocks hP hD hS dX6_contrast_40 (by first | exact ⟨fun _ => rfl, fun q _ => absurd q.1 (by assumption)⟩ | exact ⟨fun _ => rfl, fun q _ => absurd q.2 (by assumption)⟩ | exact ⟨fun q => absurd ⟨by assumption, by assumption⟩ q, fun _ _ => rfl⟩)
    · skip
      have c_3 := kq_bt c_3
      exact absurd ⟨by assumption, c_3⟩ hbad
set_option maxHeartbeats 4000000 in
set_option maxRecDepth 100000 in
theorem c_X6_count_t (l : Launch) (dC : Nat → ClassId) (dI : Nat → Nat → Nat) (cI : ClassId) (sz : Nat) (oM : Nat) (rz : Nat) (r2 : Nat) (rb : Nat) (rq : Nat) (km : Nat) (n : Nat) (th : Int32) (tp : Int32) (lf : Int32) (hg : Int32) (wd : Int32) (pm : Int32) (stt : Int32) (hh : Int64) (z : Nat → Int32) (v : Nat → Int32) (x1 : Int32) (hbad : ¬ ((0 ≤ x1 ∧ x1 ≤ 8))) : Met l yX6_count wsX6_count ({ frames := 10, cells := 0, slots := 0, locals := 232 }) (kq_M dC dI cI [.ref oM, .int x1] sz [(oM, .inr (6, [.int th, .ref rz, .ref r2, .int (nI km), .ref rb, .int (nI n), .int tp, .int lf, .int hg, .int wd, .ref rq, .int pm, .int stt, .long hh]))]) (va_Qi (fun (r : Int32) (u : Int32) => (¬ ((0 ≤ x1 ∧ x1 ≤ 8)) → u = 1) ∧ (((0 ≤ x1 ∧ x1 ≤ 8)) → ¬ True → u = 2)) (kq_B dC dI (va_A [(oM, .inr (6, [.int th, .ref rz, .ref r2, .int (nI km), .ref rb, .int (nI n), .int tp, .int lf, .int hg, .int wd, .ref rq, .int pm, .int stt, .long hh]))] sz) (fun u : Int32 => [(oM, .inr (6, [.int u, .ref rz, .ref r2, .int (nI km), .ref rb, .int (nI n), .int tp, .int lf, .int hg, .int wd, .ref rq, .int pm, .int stt, .long hh]))])) (va_A [(oM, .inr (6, [.int th, .ref rz, .ref r2, .int (nI km), .ref rb, .int (nI n), .int tp, .int lf, .int hg, .int wd, .ref rq, .int pm, .int stt, .long hh]))] sz)) 0 0 (va_A [(oM, .inr (6, [.int th, .ref rz, .ref r2, .int (nI km), .ref rb, .int (nI n), .int tp, .int lf, .int hg, .int wd, .ref rq, .int pm, .int stt, .long hh]))] sz) := by
  refine kq_startM (cc := cX6_count) (maxL := 2) (ret := (some .int)) (by decide) rfl (Nat.le_of_ble_eq_true rfl) ?_
  intro p e s m below meth c hx hb hr hml hown hlocks hts hsz hA hP hD hS hK hnm ls hl
  subst hsz
  generalize hAe : va_A [(oM, .inr (6, [.int th, .ref rz, .ref r2, .int (nI km), .ref rb, .int (nI n), .int tp, .int lf, .int hg, .int wd, .ref rq, .int pm, .int stt, .long hh]))] s.heap.size = A at hA hD hS ⊢
  have hown : s.vm.findClass RX6 = some m.cls := hown
  have hl : lv_has ls 2 [(0, .ref oM), (1, .int x1)] := hl
  refine lv_aload_n hx hb dX6_count_0 rfl (lv_at hl 0 rfl) ?_
  refine lv_iload_n hx hb dX6_count_1 rfl (lv_at hl 1 rfl) ?_
  refine lv_iconst (v := 0) hx hb dX6_count_2 (by decide) ?_
  refine lv_bipush (v := 8) hx hb dX6_count_3 (by decide) ?_
  refine kq_cS (As := [.int x1, .int 0, .int 8]) (rest := [.ref oM]) ⟨hx, hb, hml, hown, hts⟩ (c_X6_in l dC dI cI x1 0 8 ) (va_cwS 3 hts gX6_count_X6_in rfl rfl rfl (by decide +kernel) ⟨Nat.le_of_ble_eq_true rfl, Nat.le_of_ble_eq_true rfl⟩) (hP.sub [] rfl) hK rfl hl.1 rfl (Nat.le_of_ble_eq_true rfl) dX6_count_5 ⟨Nat.le_of_ble_eq_true rfl, Nat.le_of_ble_eq_true rfl⟩ ?_
  refine lv_if_eq (tgt := 15) hx hb dX6_count_8 (by decide) (fun c_1 => ?_) (fun c_1 => ?_)
  · skip
    have c_1 := kq_bf c_1
    refine lv_iconst (v := 1) hx hb dX6_count_15 (by decide) ?_
    refine va_put (D := (dC, dI)) (ci := 6) (v := .int 1) (ty := .int) (C := RX6) (T := TX6) (N := 14) hx hb hts (by decide +kernel) tyX6 tyX6_ok nmX6 hown hK.1 hP hD hS 0 rfl rfl 0 (by decide) (hts (.fieldLink RX6 22 "NoteWatermarksModel" "thrown" "I") (by decide +kernel)) (fun _ h9 => h9) rfl (by decide +kernel) rfl rfl (Nat.le_of_ble_eq_true rfl) dX6_count_16 (fun H locs hP hD hS => ?_)
    have hP : va_P (dC, dI) vwCl [(oM, .inr (6, [.int 1, .ref rz, .ref r2, .int (nI km), .ref rb, .int (nI n), .int tp, .int lf, .int hg, .int wd, .ref rq, .int pm, .int stt, .long hh]))] H := hP
    have hD : va_D A [(oM, .inr (6, [.int 1, .ref rz, .ref r2, .int (nI km), .ref rb, .int (nI n), .int tp, .int lf, .int hg, .int wd, .ref rq, .int pm, .int stt, .long hh]))] := hD
    refine lv_aload_n hx hb dX6_count_19 rfl (lv_at hl 0 rfl) ?_
    refine va_get (D := (dC, dI)) (ci := 6) (v := .int 1) (C := RX6) (T := TX6) (N := 14) hx hb hts (by decide +kernel) hown hK.1 hP 0 rfl rfl 0 (by decide) (hts (.fieldLink RX6 22 "NoteWatermarksModel" "thrown" "I") (by decide +kernel)) (fun _ h9 => h9) rfl dX6_count_20 ?_
    refine lv_if_le (tgt := 30) hx hb dX6_count_23 (by decide) (fun q => absurd q (by decide)) (fun _ => ?_)
    refine lv_iconst (v := 0) hx hb dX6_count_26 (by decide) ?_
    refine lv_goto (tgt := 35) hx hb dX6_count_27 (by decide) ?_
    exact kq_retMi (1) hx hb hr hlocks hP hD hS dX6_count_35 (by first | exact ⟨fun _ => rfl, fun q _ => absurd q (by assumption)⟩ | exact ⟨fun q => absurd (by assumption) q, fun _ _ => rfl⟩)
  · skip
    have c_1 := kq_bt c_1
    exact absurd c_1 hbad
set_option maxHeartbeats 4000000 in
set_option maxRecDepth 100000 in
theorem c_X6_setting_t (l : Launch) (dC : Nat → ClassId) (dI : Nat → Nat → Nat) (cI : ClassId) (sz : Nat) (oM : Nat) (rz : Nat) (r2 : Nat) (rb : Nat) (rq : Nat) (km : Nat) (n : Nat) (th : Int32) (tp : Int32) (lf : Int32) (hg : Int32) (wd : Int32) (pm : Int32) (stt : Int32) (hh : Int64) (z : Nat → Int32) (v : Nat → Int32) (x1 : Int32) (hbad : ¬ ((0 ≤ x1 ∧ x1 ≤ 2))) : Met l yX6_setting wsX6_setting ({ frames := 1, cells := 0, slots := 0, locals := 22 }) (kq_M dC dI cI [.ref oM, .int x1] sz [(oM, .inr (6, [.int th, .ref rz, .ref r2, .int (nI km), .ref rb, .int (nI n), .int tp, .int lf, .int hg, .int wd, .ref rq, .int pm, .int stt, .long hh]))]) (va_Qi (fun (r : Int32) (u : Int32) => (¬ ((0 ≤ x1 ∧ x1 ≤ 2)) → u = 1) ∧ (((0 ≤ x1 ∧ x1 ≤ 2)) → ¬ True → u = 2)) (kq_B dC dI (va_A [(oM, .inr (6, [.int th, .ref rz, .ref r2, .int (nI km), .ref rb, .int (nI n), .int tp, .int lf, .int hg, .int wd, .ref rq, .int pm, .int stt, .long hh]))] sz) (fun u : Int32 => [(oM, .inr (6, [.int u, .ref rz, .ref r2, .int (nI km), .ref rb, .int (nI n), .int tp, .int lf, .int hg, .int wd, .ref rq, .int pm, .int stt, .long hh]))])) (va_A [(oM, .inr (6, [.int th, .ref rz, .ref r2, .int (nI km), .ref rb, .int (nI n), .int tp, .int lf, .int hg, .int wd, .ref rq, .int pm, .int stt, .long hh]))] sz)) 0 0 (va_A [(oM, .inr (6, [.int th, .ref rz, .ref r2, .int (nI km), .ref rb, .int (nI n), .int tp, .int lf, .int hg, .int wd, .ref rq, .int pm, .int stt, .long hh]))] sz) := by
  refine kq_startM (cc := cX6_setting) (maxL := 2) (ret := (some .int)) (by decide) rfl (Nat.le_of_ble_eq_true rfl) ?_
  intro p e s m below meth c hx hb hr hml hown hlocks hts hsz hA hP hD hS hK hnm ls hl
  subst hsz
  generalize hAe : va_A [(oM, .inr (6, [.int th, .ref rz, .ref r2, .int (nI km), .ref rb, .int (nI n), .int tp, .int lf, .int hg, .int wd, .ref rq, .int pm, .int stt, .long hh]))] s.heap.size = A at hA hD hS ⊢
  have hown : s.vm.findClass RX6 = some m.cls := hown
  have hl : lv_has ls 2 [(0, .ref oM), (1, .int x1)] := hl
  refine lv_aload_n hx hb dX6_setting_0 rfl (lv_at hl 0 rfl) ?_
  refine lv_iload_n hx hb dX6_setting_1 rfl (lv_at hl 1 rfl) ?_
  refine lv_iconst (v := 0) hx hb dX6_setting_2 (by decide) ?_
  refine lv_iconst (v := 2) hx hb dX6_setting_3 (by decide) ?_
  refine kq_cS (As := [.int x1, .int 0, .int 2]) (rest := [.ref oM]) ⟨hx, hb, hml, hown, hts⟩ (c_X6_in l dC dI cI x1 0 2 ) (va_cwS 3 hts gX6_setting_X6_in rfl rfl rfl (by decide +kernel) ⟨Nat.le_of_ble_eq_true rfl, Nat.le_of_ble_eq_true rfl⟩) (hP.sub [] rfl) hK rfl hl.1 rfl (Nat.le_of_ble_eq_true rfl) dX6_setting_4 ⟨Nat.le_of_ble_eq_true rfl, Nat.le_of_ble_eq_true rfl⟩ ?_
  refine lv_if_eq (tgt := 14) hx hb dX6_setting_7 (by decide) (fun c_1 => ?_) (fun c_1 => ?_)
  · skip
    have c_1 := kq_bf c_1
    refine lv_iconst (v := 1) hx hb dX6_setting_14 (by decide) ?_
    refine va_put (D := (dC, dI)) (ci := 6) (v := .int 1) (ty := .int) (C := RX6) (T := TX6) (N := 14) hx hb hts (by decide +kernel) tyX6 tyX6_ok nmX6 hown hK.1 hP hD hS 0 rfl rfl 0 (by decide) (hts (.fieldLink RX6 22 "NoteWatermarksModel" "thrown" "I") (by decide +kernel)) (fun _ h9 => h9) rfl (by decide +kernel) rfl rfl (Nat.le_of_ble_eq_true rfl) dX6_setting_15 (fun H locs hP hD hS => ?_)
    have hP : va_P (dC, dI) vwCl [(oM, .inr (6, [.int 1, .ref rz, .ref r2, .int (nI km), .ref rb, .int (nI n), .int tp, .int lf, .int hg, .int wd, .ref rq, .int pm, .int stt, .long hh]))] H := hP
    have hD : va_D A [(oM, .inr (6, [.int 1, .ref rz, .ref r2, .int (nI km), .ref rb, .int (nI n), .int tp, .int lf, .int hg, .int wd, .ref rq, .int pm, .int stt, .long hh]))] := hD
    refine lv_aload_n hx hb dX6_setting_18 rfl (lv_at hl 0 rfl) ?_
    refine va_get (D := (dC, dI)) (ci := 6) (v := .int 1) (C := RX6) (T := TX6) (N := 14) hx hb hts (by decide +kernel) hown hK.1 hP 0 rfl rfl 0 (by decide) (hts (.fieldLink RX6 22 "NoteWatermarksModel" "thrown" "I") (by decide +kernel)) (fun _ h9 => h9) rfl dX6_setting_19 ?_
    refine lv_if_le (tgt := 29) hx hb dX6_setting_22 (by decide) (fun q => absurd q (by decide)) (fun _ => ?_)
    refine lv_iconst (v := 0) hx hb dX6_setting_25 (by decide) ?_
    refine lv_goto (tgt := 37) hx hb dX6_setting_26 (by decide) ?_
    exact kq_retMi (1) hx hb hr hlocks hP hD hS dX6_setting_37 (by first | exact ⟨fun _ => rfl, fun q _ => absurd q (by assumption)⟩ | exact ⟨fun q => absurd (by assumption) q, fun _ _ => rfl⟩)
  · skip
    have c_1 := kq_bt c_1
    exact absurd c_1 hbad
set_option maxHeartbeats 4000000 in
set_option maxRecDepth 100000 in
theorem c_X6_bestPhase_t (l : Launch) (dC : Nat → ClassId) (dI : Nat → Nat → Nat) (cI : ClassId) (sz : Nat) (oM : Nat) (rz : Nat) (r2 : Nat) (rb : Nat) (rq : Nat) (km : Nat) (n : Nat) (th : Int32) (tp : Int32) (lf : Int32) (hg : Int32) (wd : Int32) (pm : Int32) (stt : Int32) (hh : Int64) (z : Nat → Int32) (v : Nat → Int32) (x1 : Int32) (x2 : Int32) (hbad : ¬ ((0 ≤ x1 ∧ x1 ≤ 2) ∧ (0 ≤ x2 ∧ x2 ≤ 3))) : Met l yX6_bestPhase wsX6_bestPhase ({ frames := 7, cells := 0, slots := 0, locals := 171 }) (kq_M dC dI cI [.ref oM, .int x1, .int x2] sz [(oM, .inr (6, [.int th, .ref rz, .ref r2, .int (nI km), .ref rb, .int (nI n), .int tp, .int lf, .int hg, .int wd, .ref rq, .int pm, .int stt, .long hh]))]) (va_Qi (fun (r : Int32) (u : Int32) => (¬ ((0 ≤ x1 ∧ x1 ≤ 2) ∧ (0 ≤ x2 ∧ x2 ≤ 3)) → u = 1) ∧ (((0 ≤ x1 ∧ x1 ≤ 2) ∧ (0 ≤ x2 ∧ x2 ≤ 3)) → ¬ True → u = 2)) (kq_B dC dI (va_A [(oM, .inr (6, [.int th, .ref rz, .ref r2, .int (nI km), .ref rb, .int (nI n), .int tp, .int lf, .int hg, .int wd, .ref rq, .int pm, .int stt, .long hh]))] sz) (fun u : Int32 => [(oM, .inr (6, [.int u, .ref rz, .ref r2, .int (nI km), .ref rb, .int (nI n), .int tp, .int lf, .int hg, .int wd, .ref rq, .int pm, .int stt, .long hh]))])) (va_A [(oM, .inr (6, [.int th, .ref rz, .ref r2, .int (nI km), .ref rb, .int (nI n), .int tp, .int lf, .int hg, .int wd, .ref rq, .int pm, .int stt, .long hh]))] sz)) 0 0 (va_A [(oM, .inr (6, [.int th, .ref rz, .ref r2, .int (nI km), .ref rb, .int (nI n), .int tp, .int lf, .int hg, .int wd, .ref rq, .int pm, .int stt, .long hh]))] sz) := by
  refine kq_startM (cc := cX6_bestPhase) (maxL := 3) (ret := (some .int)) (by decide) rfl (Nat.le_of_ble_eq_true rfl) ?_
  intro p e s m below meth c hx hb hr hml hown hlocks hts hsz hA hP hD hS hK hnm ls hl
  subst hsz
  generalize hAe : va_A [(oM, .inr (6, [.int th, .ref rz, .ref r2, .int (nI km), .ref rb, .int (nI n), .int tp, .int lf, .int hg, .int wd, .ref rq, .int pm, .int stt, .long hh]))] s.heap.size = A at hA hD hS ⊢
  have hown : s.vm.findClass RX6 = some m.cls := hown
  have hl : lv_has ls 3 [(0, .ref oM), (1, .int x1), (2, .int x2)] := hl
  refine lv_aload_n hx hb dX6_bestPhase_0 rfl (lv_at hl 0 rfl) ?_
  refine lv_iload_n hx hb dX6_bestPhase_1 rfl (lv_at hl 1 rfl) ?_
  refine kq_cS (As := [.int x1]) (rest := [.ref oM]) ⟨hx, hb, hml, hown, hts⟩ (c_X6_isRoll l dC dI cI x1 ) (va_cwS 1 hts gX6_bestPhase_X6_isRoll rfl rfl rfl (by decide +kernel) ⟨Nat.le_of_ble_eq_true rfl, Nat.le_of_ble_eq_true rfl⟩) (hP.sub [] rfl) hK rfl hl.1 rfl (Nat.le_of_ble_eq_true rfl) dX6_bestPhase_2 ⟨Nat.le_of_ble_eq_true rfl, Nat.le_of_ble_eq_true rfl⟩ ?_
  refine lv_if_eq (tgt := 19) hx hb dX6_bestPhase_5 (by decide) (fun c_1 => ?_) (fun c_1 => ?_)
  · skip
    have c_1 := kq_bf c_1
    refine lv_iconst (v := 1) hx hb dX6_bestPhase_19 (by decide) ?_
    refine va_put (D := (dC, dI)) (ci := 6) (v := .int 1) (ty := .int) (C := RX6) (T := TX6) (N := 14) hx hb hts (by decide +kernel) tyX6 tyX6_ok nmX6 hown hK.1 hP hD hS 0 rfl rfl 0 (by decide) (hts (.fieldLink RX6 22 "NoteWatermarksModel" "thrown" "I") (by decide +kernel)) (fun _ h9 => h9) rfl (by decide +kernel) rfl rfl (Nat.le_of_ble_eq_true rfl) dX6_bestPhase_20 (fun H locs hP hD hS => ?_)
    have hP : va_P (dC, dI) vwCl [(oM, .inr (6, [.int 1, .ref rz, .ref r2, .int (nI km), .ref rb, .int (nI n), .int tp, .int lf, .int hg, .int wd, .ref rq, .int pm, .int stt, .long hh]))] H := hP
    have hD : va_D A [(oM, .inr (6, [.int 1, .ref rz, .ref r2, .int (nI km), .ref rb, .int (nI n), .int tp, .int lf, .int hg, .int wd, .ref rq, .int pm, .int stt, .long hh]))] := hD
    refine lv_aload_n hx hb dX6_bestPhase_23 rfl (lv_at hl 0 rfl) ?_
    refine va_get (D := (dC, dI)) (ci := 6) (v := .int 1) (C := RX6) (T := TX6) (N := 14) hx hb hts (by decide +kernel) hown hK.1 hP 0 rfl rfl 0 (by decide) (hts (.fieldLink RX6 22 "NoteWatermarksModel" "thrown" "I") (by decide +kernel)) (fun _ h9 => h9) rfl dX6_bestPhase_24 ?_
    refine lv_if_le (tgt := 34) hx hb dX6_bestPhase_27 (by decide) (fun q => absurd q (by decide)) (fun _ => ?_)
    refine lv_iconst (v := 0) hx hb dX6_bestPhase_30 (by decide) ?_
    refine lv_goto (tgt := 40) hx hb dX6_bestPhase_31 (by decide) ?_
    exact kq_retMi (1) hx hb hr hlocks hP hD hS dX6_bestPhase_40 (by first | exact ⟨fun _ => rfl, fun q _ => absurd q.1 (by assumption)⟩ | exact ⟨fun _ => rfl, fun q _ => absurd q.2 (by assumption)⟩ | exact ⟨fun q => absurd ⟨by assumption, by assumption⟩ q, fun _ _ => rfl⟩)
  · skip
    have c_1 := kq_bt c_1
    refine lv_iload_n hx hb dX6_bestPhase_8 rfl (lv_at hl 2 rfl) ?_
    refine kq_cS (As := [.int x2]) (rest := [.ref oM]) ⟨hx, hb, hml, hown, hts⟩ (c_X6_isFigure l dC dI cI x2 ) (va_cwS 1 hts gX6_bestPhase_X6_isFigure rfl rfl rfl (by decide +kernel) ⟨Nat.le_of_ble_eq_true rfl, Nat.le_of_ble_eq_true rfl⟩) (hP.sub [] rfl) hK rfl hl.1 rfl (Nat.le_of_ble_eq_true rfl) dX6_bestPhase_9 ⟨Nat.le_of_ble_eq_true rfl, Nat.le_of_ble_eq_true rfl⟩ ?_
    refine lv_if_eq (tgt := 19) hx hb dX6_bestPhase_12 (by decide) (fun c_3 => ?_) (fun c_3 => ?_)
    · skip
      have c_3 := kq_bf c_3
      refine lv_iconst (v := 1) hx hb dX6_bestPhase_19 (by decide) ?_
      refine va_put (D := (dC, dI)) (ci := 6) (v := .int 1) (ty := .int) (C := RX6) (T := TX6) (N := 14) hx hb hts (by decide +kernel) tyX6 tyX6_ok nmX6 hown hK.1 hP hD hS 0 rfl rfl 0 (by decide) (hts (.fieldLink RX6 22 "NoteWatermarksModel" "thrown" "I") (by decide +kernel)) (fun _ h9 => h9) rfl (by decide +kernel) rfl rfl (Nat.le_of_ble_eq_true rfl) dX6_bestPhase_20 (fun H locs hP hD hS => ?_)
      have hP : va_P (dC, dI) vwCl [(oM, .inr (6, [.int 1, .ref rz, .ref r2, .int (nI km), .ref rb, .int (nI n), .int tp, .int lf, .int hg, .int wd, .ref rq, .int pm, .int stt, .long hh]))] H := hP
      have hD : va_D A [(oM, .inr (6, [.int 1, .ref rz, .ref r2, .int (nI km), .ref rb, .int (nI n), .int tp, .int lf, .int hg, .int wd, .ref rq, .int pm, .int stt, .long hh]))] := hD
      refine lv_aload_n hx hb dX6_bestPhase_23 rfl (lv_at hl 0 rfl) ?_
      refine va_get (D := (dC, dI)) (ci := 6) (v := .int 1) (C := RX6) (T := TX6) (N := 14) hx hb hts (by decide +kernel) hown hK.1 hP 0 rfl rfl 0 (by decide) (hts (.fieldLink RX6 22 "NoteWatermarksModel" "thrown" "I") (by decide +kernel)) (fun _ h9 => h9) rfl dX6_bestPhase_24 ?_
      refine lv_if_le (tgt := 34) hx hb dX6_bestPhase_27 (by decide) (fun q => absurd q (by decide)) (fun _ => ?_)
      refine lv_iconst (v := 0) hx hb dX6_bestPhase_30 (by decide) ?_
      refine lv_goto (tgt := 40) hx hb dX6_bestPhase_31 (by decide) ?_
      exact kq_retMi (1) hx hb hr hlocks hP hD hS dX6_bestPhase_40 (by first | exact ⟨fun _ => rfl, fun q _ => absurd q.1 (by assumption)⟩ | exact ⟨fun _ => rfl, fun q _ => absurd q.2 (by assumption)⟩ | exact ⟨fun q => absurd ⟨by assumption, by assumption⟩ q, fun _ _ => rfl⟩)
    · skip
      have c_3 := kq_bt c_3
      exact absurd ⟨by assumption, c_3⟩ hbad
set_option maxHeartbeats 4000000 in
set_option maxRecDepth 100000 in
theorem c_X6_standsOut_t (l : Launch) (dC : Nat → ClassId) (dI : Nat → Nat → Nat) (cI : ClassId) (sz : Nat) (oM : Nat) (rz : Nat) (r2 : Nat) (rb : Nat) (rq : Nat) (km : Nat) (n : Nat) (th : Int32) (tp : Int32) (lf : Int32) (hg : Int32) (wd : Int32) (pm : Int32) (stt : Int32) (hh : Int64) (z : Nat → Int32) (v : Nat → Int32) (x1 : Int32) (x2 : Int32) (x3 : Int32) (hbad : ¬ ((1 ≤ x1 ∧ x1 ≤ 6) ∧ (1 ≤ x2 ∧ x2 ≤ 12) ∧ (0 ≤ x3 ∧ x3 ≤ 2))) : Met l yX6_standsOut wsX6_standsOut ({ frames := 7, cells := 0, slots := 0, locals := 171 }) (kq_M dC dI cI [.ref oM, .int x1, .int x2, .int x3] sz [(oM, .inr (6, [.int th, .ref rz, .ref r2, .int (nI km), .ref rb, .int (nI n), .int tp, .int lf, .int hg, .int wd, .ref rq, .int pm, .int stt, .long hh]))]) (va_Qi (fun (r : Int32) (u : Int32) => (¬ ((1 ≤ x1 ∧ x1 ≤ 6) ∧ (1 ≤ x2 ∧ x2 ≤ 12) ∧ (0 ≤ x3 ∧ x3 ≤ 2)) → u = 1) ∧ (((1 ≤ x1 ∧ x1 ≤ 6) ∧ (1 ≤ x2 ∧ x2 ≤ 12) ∧ (0 ≤ x3 ∧ x3 ≤ 2)) → ¬ True → u = 2)) (kq_B dC dI (va_A [(oM, .inr (6, [.int th, .ref rz, .ref r2, .int (nI km), .ref rb, .int (nI n), .int tp, .int lf, .int hg, .int wd, .ref rq, .int pm, .int stt, .long hh]))] sz) (fun u : Int32 => [(oM, .inr (6, [.int u, .ref rz, .ref r2, .int (nI km), .ref rb, .int (nI n), .int tp, .int lf, .int hg, .int wd, .ref rq, .int pm, .int stt, .long hh]))])) (va_A [(oM, .inr (6, [.int th, .ref rz, .ref r2, .int (nI km), .ref rb, .int (nI n), .int tp, .int lf, .int hg, .int wd, .ref rq, .int pm, .int stt, .long hh]))] sz)) 0 0 (va_A [(oM, .inr (6, [.int th, .ref rz, .ref r2, .int (nI km), .ref rb, .int (nI n), .int tp, .int lf, .int hg, .int wd, .ref rq, .int pm, .int stt, .long hh]))] sz) := by
  refine kq_startM (cc := cX6_standsOut) (maxL := 4) (ret := (some .int)) (by decide) rfl (Nat.le_of_ble_eq_true rfl) ?_
  intro p e s m below meth c hx hb hr hml hown hlocks hts hsz hA hP hD hS hK hnm ls hl
  subst hsz
  generalize hAe : va_A [(oM, .inr (6, [.int th, .ref rz, .ref r2, .int (nI km), .ref rb, .int (nI n), .int tp, .int lf, .int hg, .int wd, .ref rq, .int pm, .int stt, .long hh]))] s.heap.size = A at hA hD hS ⊢
  have hown : s.vm.findClass RX6 = some m.cls := hown
  have hl : lv_has ls 4 [(0, .ref oM), (1, .int x1), (2, .int x2), (3, .int x3)] := hl
  refine lv_aload_n hx hb dX6_standsOut_0 rfl (lv_at hl 0 rfl) ?_
  refine lv_iload_n hx hb dX6_standsOut_1 rfl (lv_at hl 1 rfl) ?_
  refine lv_iconst (v := 1) hx hb dX6_standsOut_2 (by decide) ?_
  refine lv_bipush (v := 6) hx hb dX6_standsOut_3 (by decide) ?_
  refine kq_cS (As := [.int x1, .int 1, .int 6]) (rest := [.ref oM]) ⟨hx, hb, hml, hown, hts⟩ (c_X6_in l dC dI cI x1 1 6 ) (va_cwS 3 hts gX6_standsOut_X6_in rfl rfl rfl (by decide +kernel) ⟨Nat.le_of_ble_eq_true rfl, Nat.le_of_ble_eq_true rfl⟩) (hP.sub [] rfl) hK rfl hl.1 rfl (Nat.le_of_ble_eq_true rfl) dX6_standsOut_5 ⟨Nat.le_of_ble_eq_true rfl, Nat.le_of_ble_eq_true rfl⟩ ?_
  refine lv_if_eq (tgt := 34) hx hb dX6_standsOut_8 (by decide) (fun c_1 => ?_) (fun c_1 => ?_)
  · skip
    have c_1 := kq_bf c_1
    refine lv_iconst (v := 1) hx hb dX6_standsOut_34 (by decide) ?_
    refine va_put (D := (dC, dI)) (ci := 6) (v := .int 1) (ty := .int) (C := RX6) (T := TX6) (N := 14) hx hb hts (by decide +kernel) tyX6 tyX6_ok nmX6 hown hK.1 hP hD hS 0 rfl rfl 0 (by decide) (hts (.fieldLink RX6 22 "NoteWatermarksModel" "thrown" "I") (by decide +kernel)) (fun _ h9 => h9) rfl (by decide +kernel) rfl rfl (Nat.le_of_ble_eq_true rfl) dX6_standsOut_35 (fun H locs hP hD hS => ?_)
    have hP : va_P (dC, dI) vwCl [(oM, .inr (6, [.int 1, .ref rz, .ref r2, .int (nI km), .ref rb, .int (nI n), .int tp, .int lf, .int hg, .int wd, .ref rq, .int pm, .int stt, .long hh]))] H := hP
    have hD : va_D A [(oM, .inr (6, [.int 1, .ref rz, .ref r2, .int (nI km), .ref rb, .int (nI n), .int tp, .int lf, .int hg, .int wd, .ref rq, .int pm, .int stt, .long hh]))] := hD
    refine lv_aload_n hx hb dX6_standsOut_38 rfl (lv_at hl 0 rfl) ?_
    refine va_get (D := (dC, dI)) (ci := 6) (v := .int 1) (C := RX6) (T := TX6) (N := 14) hx hb hts (by decide +kernel) hown hK.1 hP 0 rfl rfl 0 (by decide) (hts (.fieldLink RX6 22 "NoteWatermarksModel" "thrown" "I") (by decide +kernel)) (fun _ h9 => h9) rfl dX6_standsOut_39 ?_
    refine lv_if_le (tgt := 49) hx hb dX6_standsOut_42 (by decide) (fun q => absurd q (by decide)) (fun _ => ?_)
    refine lv_iconst (v := 0) hx hb dX6_standsOut_45 (by decide) ?_
    refine lv_goto (tgt := 56) hx hb dX6_standsOut_46 (by decide) ?_
    exact kq_retMi (1) hx hb hr hlocks hP hD hS dX6_standsOut_56 (by first | exact ⟨fun _ => rfl, fun q _ => absurd q.1 (by assumption)⟩ | exact ⟨fun _ => rfl, fun q _ => absurd q.2.1 (by assumption)⟩ | exact ⟨fun _ => rfl, fun q _ => absurd q.2.2 (by assumption)⟩ | exact ⟨fun q => absurd ⟨by assumption, by assumption, by assumption⟩ q, fun _ _ => rfl⟩)
  · skip
    have c_1 := kq_bt c_1
    refine lv_iload_n hx hb dX6_standsOut_11 rfl (lv_at hl 2 rfl) ?_
    refine lv_iconst (v := 1) hx hb dX6_standsOut_12 (by decide) ?_
    refine lv_bipush (v := 12) hx hb dX6_standsOut_13 (by decide) ?_
    refine kq_cS (As := [.int x2, .int 1, .int 12]) (rest := [.ref oM]) ⟨hx, hb, hml, hown, hts⟩ (c_X6_in l dC dI cI x2 1 12 ) (va_cwS 3 hts gX6_standsOut_X6_in rfl rfl rfl (by decide +kernel) ⟨Nat.le_of_ble_eq_true rfl, Nat.le_of_ble_eq_true rfl⟩) (hP.sub [] rfl) hK rfl hl.1 rfl (Nat.le_of_ble_eq_true rfl) dX6_standsOut_15 ⟨Nat.le_of_ble_eq_true rfl, Nat.le_of_ble_eq_true rfl⟩ ?_
    refine lv_if_eq (tgt := 34) hx hb dX6_standsOut_18 (by decide) (fun c_3 => ?_) (fun c_3 => ?_)
    · skip
      have c_3 := kq_bf c_3
      refine lv_iconst (v := 1) hx hb dX6_standsOut_34 (by decide) ?_
      refine va_put (D := (dC, dI)) (ci := 6) (v := .int 1) (ty := .int) (C := RX6) (T := TX6) (N := 14) hx hb hts (by decide +kernel) tyX6 tyX6_ok nmX6 hown hK.1 hP hD hS 0 rfl rfl 0 (by decide) (hts (.fieldLink RX6 22 "NoteWatermarksModel" "thrown" "I") (by decide +kernel)) (fun _ h9 => h9) rfl (by decide +kernel) rfl rfl (Nat.le_of_ble_eq_true rfl) dX6_standsOut_35 (fun H locs hP hD hS => ?_)
      have hP : va_P (dC, dI) vwCl [(oM, .inr (6, [.int 1, .ref rz, .ref r2, .int (nI km), .ref rb, .int (nI n), .int tp, .int lf, .int hg, .int wd, .ref rq, .int pm, .int stt, .long hh]))] H := hP
      have hD : va_D A [(oM, .inr (6, [.int 1, .ref rz, .ref r2, .int (nI km), .ref rb, .int (nI n), .int tp, .int lf, .int hg, .int wd, .ref rq, .int pm, .int stt, .long hh]))] := hD
      refine lv_aload_n hx hb dX6_standsOut_38 rfl (lv_at hl 0 rfl) ?_
      refine va_get (D := (dC, dI)) (ci := 6) (v := .int 1) (C := RX6) (T := TX6) (N := 14) hx hb hts (by decide +kernel) hown hK.1 hP 0 rfl rfl 0 (by decide) (hts (.fieldLink RX6 22 "NoteWatermarksModel" "thrown" "I") (by decide +kernel)) (fun _ h9 => h9) rfl dX6_standsOut_39 ?_
      refine lv_if_le (tgt := 49) hx hb dX6_standsOut_42 (by decide) (fun q => absurd q (by decide)) (fun _ => ?_)
      refine lv_iconst (v := 0) hx hb dX6_standsOut_45 (by decide) ?_
      refine lv_goto (tgt := 56) hx hb dX6_standsOut_46 (by decide) ?_
      exact kq_retMi (1) hx hb hr hlocks hP hD hS dX6_standsOut_56 (by first | exact ⟨fun _ => rfl, fun q _ => absurd q.1 (by assumption)⟩ | exact ⟨fun _ => rfl, fun q _ => absurd q.2.1 (by assumption)⟩ | exact ⟨fun _ => rfl, fun q _ => absurd q.2.2 (by assumption)⟩ | exact ⟨fun q => absurd ⟨by assumption, by assumption, by assumption⟩ q, fun _ _ => rfl⟩)
    · skip
      have c_3 := kq_bt c_3
      refine lv_iload_n hx hb dX6_standsOut_21 rfl (lv_at hl 3 rfl) ?_
      refine lv_iconst (v := 0) hx hb dX6_standsOut_22 (by decide) ?_
      refine lv_iconst (v := 2) hx hb dX6_standsOut_23 (by decide) ?_
      refine kq_cS (As := [.int x3, .int 0, .int 2]) (rest := [.ref oM]) ⟨hx, hb, hml, hown, hts⟩ (c_X6_in l dC dI cI x3 0 2 ) (va_cwS 3 hts gX6_standsOut_X6_in rfl rfl rfl (by decide +kernel) ⟨Nat.le_of_ble_eq_true rfl, Nat.le_of_ble_eq_true rfl⟩) (hP.sub [] rfl) hK rfl hl.1 rfl (Nat.le_of_ble_eq_true rfl) dX6_standsOut_24 ⟨Nat.le_of_ble_eq_true rfl, Nat.le_of_ble_eq_true rfl⟩ ?_
      refine lv_if_eq (tgt := 34) hx hb dX6_standsOut_27 (by decide) (fun c_5 => ?_) (fun c_5 => ?_)
      · skip
        have c_5 := kq_bf c_5
        refine lv_iconst (v := 1) hx hb dX6_standsOut_34 (by decide) ?_
        refine va_put (D := (dC, dI)) (ci := 6) (v := .int 1) (ty := .int) (C := RX6) (T := TX6) (N := 14) hx hb hts (by decide +kernel) tyX6 tyX6_ok nmX6 hown hK.1 hP hD hS 0 rfl rfl 0 (by decide) (hts (.fieldLink RX6 22 "NoteWatermarksModel" "thrown" "I") (by decide +kernel)) (fun _ h9 => h9) rfl (by decide +kernel) rfl rfl (Nat.le_of_ble_eq_true rfl) dX6_standsOut_35 (fun H locs hP hD hS => ?_)
        have hP : va_P (dC, dI) vwCl [(oM, .inr (6, [.int 1, .ref rz, .ref r2, .int (nI km), .ref rb, .int (nI n), .int tp, .int lf, .int hg, .int wd, .ref rq, .int pm, .int stt, .long hh]))] H := hP
        have hD : va_D A [(oM, .inr (6, [.int 1, .ref rz, .ref r2, .int (nI km), .ref rb, .int (nI n), .int tp, .int lf, .int hg, .int wd, .ref rq, .int pm, .int stt, .long hh]))] := hD
        refine lv_aload_n hx hb dX6_standsOut_38 rfl (lv_at hl 0 rfl) ?_
        refine va_get (D := (dC, dI)) (ci := 6) (v := .int 1) (C := RX6) (T := TX6) (N := 14) hx hb hts (by decide +kernel) hown hK.1 hP 0 rfl rfl 0 (by decide) (hts (.fieldLink RX6 22 "NoteWatermarksModel" "thrown" "I") (by decide +kernel)) (fun _ h9 => h9) rfl dX6_standsOut_39 ?_
        refine lv_if_le (tgt := 49) hx hb dX6_standsOut_42 (by decide) (fun q => absurd q (by decide)) (fun _ => ?_)
        refine lv_iconst (v := 0) hx hb dX6_standsOut_45 (by decide) ?_
        refine lv_goto (tgt := 56) hx hb dX6_standsOut_46 (by decide) ?_
        exact kq_retMi (1) hx hb hr hlocks hP hD hS dX6_standsOut_56 (by first | exact ⟨fun _ => rfl, fun q _ => absurd q.1 (by assumption)⟩ | exact ⟨fun _ => rfl, fun q _ => absurd q.2.1 (by assumption)⟩ | exact ⟨fun _ => rfl, fun q _ => absurd q.2.2 (by assumption)⟩ | exact ⟨fun q => absurd ⟨by assumption, by assumption, by assumption⟩ q, fun _ _ => rfl⟩)
      · skip
        have c_5 := kq_bt c_5
        exact absurd ⟨by assumption, by assumption, c_5⟩ hbad
set_option maxHeartbeats 4000000 in
set_option maxRecDepth 100000 in
theorem c_X6_bend_t (l : Launch) (dC : Nat → ClassId) (dI : Nat → Nat → Nat) (cI : ClassId) (sz : Nat) (oM : Nat) (rz : Nat) (r2 : Nat) (rb : Nat) (rq : Nat) (km : Nat) (n : Nat) (th : Int32) (tp : Int32) (lf : Int32) (hg : Int32) (wd : Int32) (pm : Int32) (stt : Int32) (hh : Int64) (z : Nat → Int32) (zs : Nat → Int32) (bf : Nat → Int32) (pt : Nat → Int32) (v : Nat → Int32) (hn : n ≤ 60) (hq : ¬ (n_q bf n = 5 ∨ n_q bf n = 7)) : Met l yX6_bend wsX6_bend ({ frames := 5, cells := 0, slots := 0, locals := 107 }) (kq_M dC dI cI [.ref oM] sz [(oM, .inr (6, [.int th, .ref rz, .ref r2, .int (nI km), .ref rb, .int (nI n), .int tp, .int lf, .int hg, .int wd, .ref rq, .int pm, .int stt, .long hh])), (rb, .inl (cI, 60, .inl bf)), (rq, .inl (cI, 72, .inl pt))]) (va_Qi (fun (r : Int32) (u : Int32 × Nat × Nat × (Nat → Int32)) => u.1 = 1) (kq_B dC dI (va_A [(oM, .inr (6, [.int th, .ref rz, .ref r2, .int (nI km), .ref rb, .int (nI n), .int tp, .int lf, .int hg, .int wd, .ref rq, .int pm, .int stt, .long hh])), (rb, .inl (cI, 60, .inl bf)), (rq, .inl (cI, 72, .inl pt))] sz) (fun u : Int32 × Nat × Nat × (Nat → Int32) => [(oM, .inr (6, [.int u.1, .ref rz, .ref r2, .int (nI km), .ref rb, .int (nI n), .int tp, .int lf, .int hg, .int wd, .ref rq, .int (nI u.2.2.1), .int (nI u.2.1), .long hh])), (rb, .inl (cI, 60, .inl bf)), (rq, .inl (cI, 72, .inl u.2.2.2))])) (va_A [(oM, .inr (6, [.int th, .ref rz, .ref r2, .int (nI km), .ref rb, .int (nI n), .int tp, .int lf, .int hg, .int wd, .ref rq, .int pm, .int stt, .long hh])), (rb, .inl (cI, 60, .inl bf)), (rq, .inl (cI, 72, .inl pt))] sz)) 0 0 (va_A [(oM, .inr (6, [.int th, .ref rz, .ref r2, .int (nI km), .ref rb, .int (nI n), .int tp, .int lf, .int hg, .int wd, .ref rq, .int pm, .int stt, .long hh])), (rb, .inl (cI, 60, .inl bf)), (rq, .inl (cI, 72, .inl pt))] sz) := by
  refine kq_startM (cc := cX6_bend) (maxL := 2) (ret := (some .int)) (by decide) rfl (Nat.le_of_ble_eq_true rfl) ?_
  intro p e s m below meth c hx hb hr hml hown hlocks hts hsz hA hP hD hS hK hnm ls hl
  subst hsz
  generalize hAe : va_A [(oM, .inr (6, [.int th, .ref rz, .ref r2, .int (nI km), .ref rb, .int (nI n), .int tp, .int lf, .int hg, .int wd, .ref rq, .int pm, .int stt, .long hh])), (rb, .inl (cI, 60, .inl bf)), (rq, .inl (cI, 72, .inl pt))] s.heap.size = A at hA hD hS ⊢
  have hown : s.vm.findClass RX6 = some m.cls := hown
  have hl : lv_has ls 2 [(0, .ref oM)] := hl
  refine lv_aload_n hx hb dX6_bend_0 rfl (lv_at hl 0 rfl) ?_
  refine lv_aload_n hx hb dX6_bend_1 rfl (lv_at hl 0 rfl) ?_
  refine kq_callMi (wr := []) (va_runV (As := []) (rest := [.ref oM]) ⟨hx, hb, hml, hown, hts⟩ (c_X6_isWhole l dC dI cI s.heap.size oM rz r2 rb rq km n th tp lf hg wd pm stt hh bf pt (by first | assumption | omega)) (cwV 0 hts gX6_bend_X6_isWhole rfl rfl rfl (by decide +kernel) ⟨Nat.le_of_ble_eq_true rfl, Nat.le_of_ble_eq_true rfl⟩) (kq_preV (ci := 6) (q0 := 0) (hP.sub [0, 1, 2] rfl) (hD.sub [0, 1, 2] (by decide) rfl) hK rfl rfl) rfl rfl hl.1 rfl (lv_room (Nat.le_of_ble_eq_true rfl)) dX6_bend_2 ⟨Nat.le_of_ble_eq_true rfl, Nat.le_of_ble_eq_true rfl⟩) hP hD hS hA [0, 1, 2] [] rfl rfl (by decide) (by decide) (fun r_1 u_2 H locs hw_3 hP hD hS => ?_)
  obtain ⟨s1_4, p1_5, pt1_6⟩ := u_2
  have hP : va_P (dC, dI) vwCl [(oM, .inr (6, [.int th, .ref rz, .ref r2, .int (nI km), .ref rb, .int (nI n), .int tp, .int lf, .int hg, .int wd, .ref rq, .int (nI p1_5), .int (nI s1_4), .long hh])), (rb, .inl (cI, 60, .inl bf)), (rq, .inl (cI, 72, .inl pt1_6))] H := hP
  have hD : va_D A [(oM, .inr (6, [.int th, .ref rz, .ref r2, .int (nI km), .ref rb, .int (nI n), .int tp, .int lf, .int hg, .int wd, .ref rq, .int (nI p1_5), .int (nI s1_4), .long hh])), (rb, .inl (cI, 60, .inl bf)), (rq, .inl (cI, 72, .inl pt1_6))] := hD
  try dsimp only at hw_3
  try dsimp only at hw_3
  obtain ⟨hr1, hok⟩ := hw_3
  refine kq_top (z := 0) (hr1.trans (if_neg hq)) ?_
  refine lv_if_eq (tgt := 12) hx hb dX6_bend_5 (by decide) (fun c_7 => ?_) (fun c_7 => ?_)
  · skip
    refine lv_iconst (v := 1) hx hb dX6_bend_12 (by decide) ?_
    refine va_put (D := (dC, dI)) (ci := 6) (v := .int 1) (ty := .int) (C := RX6) (T := TX6) (N := 14) hx hb hts (by decide +kernel) tyX6 tyX6_ok nmX6 hown hK.1 hP hD hS 0 rfl rfl 0 (by decide) (hts (.fieldLink RX6 22 "NoteWatermarksModel" "thrown" "I") (by decide +kernel)) (fun _ h9 => h9) rfl (by decide +kernel) rfl rfl (Nat.le_of_ble_eq_true rfl) dX6_bend_13 (fun H locs hP hD hS => ?_)
    have hP : va_P (dC, dI) vwCl [(oM, .inr (6, [.int 1, .ref rz, .ref r2, .int (nI km), .ref rb, .int (nI n), .int tp, .int lf, .int hg, .int wd, .ref rq, .int (nI p1_5), .int (nI s1_4), .long hh])), (rb, .inl (cI, 60, .inl bf)), (rq, .inl (cI, 72, .inl pt1_6))] H := hP
    have hD : va_D A [(oM, .inr (6, [.int 1, .ref rz, .ref r2, .int (nI km), .ref rb, .int (nI n), .int tp, .int lf, .int hg, .int wd, .ref rq, .int (nI p1_5), .int (nI s1_4), .long hh])), (rb, .inl (cI, 60, .inl bf)), (rq, .inl (cI, 72, .inl pt1_6))] := hD
    refine lv_aload_n hx hb dX6_bend_16 rfl (lv_at hl 0 rfl) ?_
    refine va_get (D := (dC, dI)) (ci := 6) (v := .int 1) (C := RX6) (T := TX6) (N := 14) hx hb hts (by decide +kernel) hown hK.1 hP 0 rfl rfl 0 (by decide) (hts (.fieldLink RX6 22 "NoteWatermarksModel" "thrown" "I") (by decide +kernel)) (fun _ h9 => h9) rfl dX6_bend_17 ?_
    refine lv_if_le (tgt := 25) hx hb dX6_bend_20 (by decide) (fun q => absurd q (by decide)) (fun _ => ?_)
    refine lv_iconst (v := 0) hx hb dX6_bend_23 (by decide) ?_
    exact kq_retMi (1, s1_4, p1_5, pt1_6) hx hb hr hlocks hP hD hS dX6_bend_24 (by rfl)
  · skip
    exact absurd rfl c_7
