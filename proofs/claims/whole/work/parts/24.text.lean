set_option maxHeartbeats 4000000 in
set_option maxRecDepth 100000 in
theorem c_X4_length (l : Launch) (dC : Nat → ClassId) (dI : Nat → Nat → Nat) (cI : ClassId) (oT : Nat) (rc : Nat) (n : Nat) (cd : Nat → Int32)  : Met l yX4_length wsX4_length ({ frames := 0, cells := 0, slots := 0, locals := 0 }) (kq_R dC dI cI [.ref oT] [(oT, .inr (4, [.ref rc, .int (nI n)]))]) (QcRead (nI n)) 0 0 (fun _ => False) := by
  refine kq_start (cc := cX4_length) (maxL := 1) (ret := (some .int)) (plainFor_of_name (by decide)) rfl (Nat.le_of_ble_eq_true rfl) ?_
  intro p e s m below meth c hx hb hr hml hown hlocks hts hP hK ls hl
  have hown : s.vm.findClass RX4 = some m.cls := hown
  have hl : lv_has ls 1 [(0, .ref oT)] := hl
  refine lv_aload_n hx hb dX4_length_0 rfl (lv_at hl 0 rfl) ?_
  refine va_get (D := (dC, dI)) (ci := 4) (v := .int (nI n)) (C := RX4) (T := TX4) (N := 2) hx hb hts (by decide +kernel) hown hK.1 hP 0 rfl rfl 1 (by decide) (hts (.fieldLink RX4 15 "NoteWatermarks$WireText" "length" "I") (by decide +kernel)) (fun _ h9 => h9) rfl dX4_length_1 ?_
  exact kq_ret hx hb hr hlocks dX4_length_4 (by rfl)
set_option maxHeartbeats 4000000 in
set_option maxRecDepth 100000 in
theorem c_X4_isFull (l : Launch) (dC : Nat → ClassId) (dI : Nat → Nat → Nat) (cI : ClassId) (oT : Nat) (rc : Nat) (n : Nat) (cd : Nat → Int32) (hn : n ≤ 60) : Met l yX4_isFull wsX4_isFull ({ frames := 0, cells := 0, slots := 0, locals := 0 }) (kq_R dC dI cI [.ref oT] [(oT, .inr (4, [.ref rc, .int (nI n)]))]) (QcRead (if 60 ≤ n then (1:Int32) else 0)) 0 0 (fun _ => False) := by
  refine kq_start (cc := cX4_isFull) (maxL := 1) (ret := (some .boolean)) (plainFor_of_name (by decide)) rfl (Nat.le_of_ble_eq_true rfl) ?_
  intro p e s m below meth c hx hb hr hml hown hlocks hts hP hK ls hl
  have hown : s.vm.findClass RX4 = some m.cls := hown
  have hl : lv_has ls 1 [(0, .ref oT)] := hl
  refine lv_aload_n hx hb dX4_isFull_0 rfl (lv_at hl 0 rfl) ?_
  refine va_get (D := (dC, dI)) (ci := 4) (v := .int (nI n)) (C := RX4) (T := TX4) (N := 2) hx hb hts (by decide +kernel) hown hK.1 hP 0 rfl rfl 1 (by decide) (hts (.fieldLink RX4 15 "NoteWatermarks$WireText" "length" "I") (by decide +kernel)) (fun _ h9 => h9) rfl dX4_isFull_1 ?_
  refine lv_bipush (v := 60) hx hb dX4_isFull_4 (by decide) ?_
  refine lv_icmp_lt (tgt := 13) hx hb dX4_isFull_6 (by decide) (fun c_1 => ?_) (fun c_1 => ?_)
  · skip
    have c_1 := kq_ltN (a := n) (b := 60) c_1 (by omega) (by omega)
    refine lv_iconst (v := 0) hx hb dX4_isFull_13 (by decide) ?_
    exact kq_retz hx hb hr hlocks dX4_isFull_14 (Or.inl rfl) (by first | rw [if_pos (by omega)] | rw [if_neg (by omega)])
  · skip
    have c_1 := kq_nltN (a := n) (b := 60) c_1 (by omega) (by omega)
    refine lv_iconst (v := 1) hx hb dX4_isFull_9 (by decide) ?_
    refine lv_goto (tgt := 14) hx hb dX4_isFull_10 (by decide) ?_
    exact kq_retz hx hb hr hlocks dX4_isFull_14 (Or.inr rfl) (by first | rw [if_pos (by omega)] | rw [if_neg (by omega)])
set_option maxHeartbeats 4000000 in
set_option maxRecDepth 100000 in
theorem c_X4_add (l : Launch) (dC : Nat → ClassId) (dI : Nat → Nat → Nat) (cI : ClassId) (sz : Nat) (oT : Nat) (rc : Nat) (n : Nat) (cd : Nat → Int32) (x : Int32) (hn : n < 60) : Met l yX4_add wsX4_add ({ frames := 1, cells := 0, slots := 0, locals := 21 }) (kq_M dC dI cI [.ref oT, .int x] sz [(oT, .inr (4, [.ref rc, .int (nI n)])), (rc, .inl (cI, 60, .inl cd))]) (va_Qv (fun (u : Unit) => True) (kq_B dC dI (va_A [(oT, .inr (4, [.ref rc, .int (nI n)])), (rc, .inl (cI, 60, .inl cd))] sz) (fun u : Unit => [(oT, .inr (4, [.ref rc, .int (nI (n + 1))])), (rc, .inl (cI, 60, .inl (upd cd n x)))])) (va_A [(oT, .inr (4, [.ref rc, .int (nI n)])), (rc, .inl (cI, 60, .inl cd))] sz)) 0 0 (va_A [(oT, .inr (4, [.ref rc, .int (nI n)])), (rc, .inl (cI, 60, .inl cd))] sz) := by
  refine kq_startM (cc := cX4_add) (maxL := 2) (ret := none) (by decide) rfl (Nat.le_of_ble_eq_true rfl) ?_
  intro p e s m below meth c hx hb hr hml hown hlocks hts hsz hA hP hD hS hK hnm ls hl
  subst hsz
  generalize hAe : va_A [(oT, .inr (4, [.ref rc, .int (nI n)])), (rc, .inl (cI, 60, .inl cd))] s.heap.size = A at hA hD hS ⊢
  have hown : s.vm.findClass RX4 = some m.cls := hown
  have hl : lv_has ls 2 [(0, .ref oT), (1, .int x)] := hl
  refine lv_aload_n hx hb dX4_add_0 rfl (lv_at hl 0 rfl) ?_
  refine va_get (D := (dC, dI)) (ci := 4) (v := .int (nI n)) (C := RX4) (T := TX4) (N := 2) hx hb hts (by decide +kernel) hown hK.1 hP 0 rfl rfl 1 (by decide) (hts (.fieldLink RX4 15 "NoteWatermarks$WireText" "length" "I") (by decide +kernel)) (fun _ h9 => h9) rfl dX4_add_1 ?_
  refine lv_aload_n hx hb dX4_add_4 rfl (lv_at hl 0 rfl) ?_
  refine va_get (D := (dC, dI)) (ci := 4) (v := .ref rc) (C := RX4) (T := TX4) (N := 2) hx hb hts (by decide +kernel) hown hK.1 hP 0 rfl rfl 0 (by decide) (hts (.fieldLink RX4 11 "NoteWatermarks$WireText" "codes" "[I") (by decide +kernel)) (fun _ h9 => h9) rfl dX4_add_5 ?_
  refine va_alen (v := 60) hx hb hK.1 hP 1 0 rfl rfl rfl dX4_add_8 ?_
  refine kq_cN (As := [.int (nI n), .int 60]) (rest := []) ⟨hx, hb, hml, hown, hts⟩ (c_X5_isIndex_n l dC dI cI n 60 (by first | assumption | omega) (by first | assumption | omega)) (va_cnB (own := RX4) (host := RX5) (index := 19) (y := yX5_isIndex) 2 hts gX4_add_X5_isIndex_n19 rfl rfl rfl (hK.2 _ (by simp [kq_nest])) (hts (.initialized RX5) (by decide +kernel)) (by decide +kernel) ⟨Nat.le_of_ble_eq_true rfl, Nat.le_of_ble_eq_true rfl⟩) (hts (.static yX5_isIndex) (by decide +kernel)) (hP.sub [] rfl) hK rfl hl.1 rfl (Nat.le_of_ble_eq_true rfl) dX4_add_9 ⟨Nat.le_of_ble_eq_true rfl, Nat.le_of_ble_eq_true rfl⟩ ?_
  refine lv_if_eq (tgt := 35) hx hb dX4_add_12 (by decide) (fun c_1 => ?_) (fun c_1 => ?_)
  · skip
    have c_1 := kq_bf c_1
    exact absurd (show n < 60 by omega) c_1
  · skip
    have c_1 := kq_bt c_1
    refine lv_aload_n hx hb dX4_add_15 rfl (lv_at hl 0 rfl) ?_
    refine va_get (D := (dC, dI)) (ci := 4) (v := .ref rc) (C := RX4) (T := TX4) (N := 2) hx hb hts (by decide +kernel) hown hK.1 hP 0 rfl rfl 0 (by decide) (hts (.fieldLink RX4 11 "NoteWatermarks$WireText" "codes" "[I") (by decide +kernel)) (fun _ h9 => h9) rfl dX4_add_16 ?_
    refine lv_aload_n hx hb dX4_add_19 rfl (lv_at hl 0 rfl) ?_
    refine va_get (D := (dC, dI)) (ci := 4) (v := .int (nI n)) (C := RX4) (T := TX4) (N := 2) hx hb hts (by decide +kernel) hown hK.1 hP 0 rfl rfl 1 (by decide) (hts (.fieldLink RX4 15 "NoteWatermarks$WireText" "length" "I") (by decide +kernel)) (fun _ h9 => h9) rfl dX4_add_20 ?_
    refine lv_iload_n hx hb dX4_add_23 rfl (lv_at hl 1 rfl) ?_
    refine va_iast hx hb hK.1 hP hD hS 1 0 rfl rfl (vp_in_nI (show n < 60 from by omega) (by omega)) dX4_add_24 (fun H locs hP hD hS => ?_)
    rw [nI_clamp (Nat.lt_trans (show n < 60 from by omega) (by omega))] at hP hD
    have hP : va_P (dC, dI) vwCl [(oT, .inr (4, [.ref rc, .int (nI n)])), (rc, .inl (cI, 60, .inl (upd cd n x)))] H := hP
    have hD : va_D A [(oT, .inr (4, [.ref rc, .int (nI n)])), (rc, .inl (cI, 60, .inl (upd cd n x)))] := hD
    refine lv_aload_n hx hb dX4_add_25 rfl (lv_at hl 0 rfl) ?_
    refine lv_dup hx hb dX4_add_26 rfl ?_
    refine va_get (D := (dC, dI)) (ci := 4) (v := .int (nI n)) (C := RX4) (T := TX4) (N := 2) hx hb hts (by decide +kernel) hown hK.1 hP 0 rfl rfl 1 (by decide) (hts (.fieldLink RX4 15 "NoteWatermarks$WireText" "length" "I") (by decide +kernel)) (fun _ h9 => h9) rfl dX4_add_27 ?_
    refine lv_iconst (v := 1) hx hb dX4_add_30 (by decide) ?_
    refine lv_iadd hx hb dX4_add_31 ?_
    refine kq_top (z := nI (n + 1)) (nI_add n 1) ?_
    refine va_put (D := (dC, dI)) (ci := 4) (v := .int (nI (n + 1))) (ty := .int) (C := RX4) (T := TX4) (N := 2) hx hb hts (by decide +kernel) tyX4 tyX4_ok nmX4 hown hK.1 hP hD hS 0 rfl rfl 1 (by decide) (hts (.fieldLink RX4 15 "NoteWatermarks$WireText" "length" "I") (by decide +kernel)) (fun _ h9 => h9) rfl (by decide +kernel) rfl rfl (Nat.le_of_ble_eq_true rfl) dX4_add_32 (fun H locs hP hD hS => ?_)
    have hP : va_P (dC, dI) vwCl [(oT, .inr (4, [.ref rc, .int (nI (n + 1))])), (rc, .inl (cI, 60, .inl (upd cd n x)))] H := hP
    have hD : va_D A [(oT, .inr (4, [.ref rc, .int (nI (n + 1))])), (rc, .inl (cI, 60, .inl (upd cd n x)))] := hD
    exact kq_retMv () hx hb hr hlocks hP hD hS dX4_add_35 (by trivial)
set_option maxHeartbeats 4000000 in
set_option maxRecDepth 100000 in
theorem c_X4_empty (l : Launch) (dC : Nat → ClassId) (dI : Nat → Nat → Nat) (cI : ClassId) (sz : Nat) (oT : Nat) (rc : Nat) (n : Nat) (cd : Nat → Int32)  : Met l yX4_empty wsX4_empty ({ frames := 0, cells := 0, slots := 0, locals := 0 }) (kq_M dC dI cI [.ref oT] sz [(oT, .inr (4, [.ref rc, .int (nI n)]))]) (va_Qv (fun (u : Unit) => True) (kq_B dC dI (va_A [(oT, .inr (4, [.ref rc, .int (nI n)]))] sz) (fun u : Unit => [(oT, .inr (4, [.ref rc, .int (nI 0)]))])) (va_A [(oT, .inr (4, [.ref rc, .int (nI n)]))] sz)) 0 0 (va_A [(oT, .inr (4, [.ref rc, .int (nI n)]))] sz) := by
  refine kq_startM (cc := cX4_empty) (maxL := 1) (ret := none) (by decide) rfl (Nat.le_of_ble_eq_true rfl) ?_
  intro p e s m below meth c hx hb hr hml hown hlocks hts hsz hA hP hD hS hK hnm ls hl
  subst hsz
  generalize hAe : va_A [(oT, .inr (4, [.ref rc, .int (nI n)]))] s.heap.size = A at hA hD hS ⊢
  have hown : s.vm.findClass RX4 = some m.cls := hown
  have hl : lv_has ls 1 [(0, .ref oT)] := hl
  refine lv_aload_n hx hb dX4_empty_0 rfl (lv_at hl 0 rfl) ?_
  refine lv_iconst (v := 0) hx hb dX4_empty_1 (by decide) ?_
  refine va_put (D := (dC, dI)) (ci := 4) (v := .int 0) (ty := .int) (C := RX4) (T := TX4) (N := 2) hx hb hts (by decide +kernel) tyX4 tyX4_ok nmX4 hown hK.1 hP hD hS 0 rfl rfl 1 (by decide) (hts (.fieldLink RX4 15 "NoteWatermarks$WireText" "length" "I") (by decide +kernel)) (fun _ h9 => h9) rfl (by decide +kernel) rfl rfl (Nat.le_of_ble_eq_true rfl) dX4_empty_2 (fun H locs hP hD hS => ?_)
  have hP : va_P (dC, dI) vwCl [(oT, .inr (4, [.ref rc, .int 0]))] H := hP
  have hD : va_D A [(oT, .inr (4, [.ref rc, .int 0]))] := hD
  exact kq_retMv () hx hb hr hlocks hP hD hS dX4_empty_5 (by trivial)
set_option maxHeartbeats 4000000 in
set_option maxRecDepth 100000 in
theorem c_X4_codeAt_n (l : Launch) (dC : Nat → ClassId) (dI : Nat → Nat → Nat) (cI : ClassId) (oT : Nat) (rc : Nat) (n : Nat) (cd : Nat → Int32) (i : Nat) (hn : n ≤ 60) (hi : i < n) : Met l yX4_codeAt wsX4_codeAt ({ frames := 1, cells := 0, slots := 0, locals := 21 }) (kq_R dC dI cI [.ref oT, .int (nI i)] [(oT, .inr (4, [.ref rc, .int (nI n)])), (rc, .inl (cI, 60, .inl cd))]) (QcRead (cd i)) 0 0 (fun _ => False) := by
  refine kq_start (cc := cX4_codeAt) (maxL := 2) (ret := (some .int)) (plainFor_of_name (by decide)) rfl (Nat.le_of_ble_eq_true rfl) ?_
  intro p e s m below meth c hx hb hr hml hown hlocks hts hP hK ls hl
  have hown : s.vm.findClass RX4 = some m.cls := hown
  have hl : lv_has ls 2 [(0, .ref oT), (1, .int (nI i))] := hl
  refine lv_iload_n hx hb dX4_codeAt_0 rfl (lv_at hl 1 rfl) ?_
  refine lv_aload_n hx hb dX4_codeAt_1 rfl (lv_at hl 0 rfl) ?_
  refine va_get (D := (dC, dI)) (ci := 4) (v := .int (nI n)) (C := RX4) (T := TX4) (N := 2) hx hb hts (by decide +kernel) hown hK.1 hP 0 rfl rfl 1 (by decide) (hts (.fieldLink RX4 15 "NoteWatermarks$WireText" "length" "I") (by decide +kernel)) (fun _ h9 => h9) rfl dX4_codeAt_2 ?_
  refine kq_cN (As := [.int (nI i), .int (nI n)]) (rest := []) ⟨hx, hb, hml, hown, hts⟩ (c_X5_isIndex_n l dC dI cI i n (by first | assumption | omega) (by first | assumption | omega)) (va_cnB (own := RX4) (host := RX5) (index := 19) (y := yX5_isIndex) 2 hts gX4_codeAt_X5_isIndex_n19 rfl rfl rfl (hK.2 _ (by simp [kq_nest])) (hts (.initialized RX5) (by decide +kernel)) (by decide +kernel) ⟨Nat.le_of_ble_eq_true rfl, Nat.le_of_ble_eq_true rfl⟩) (hts (.static yX5_isIndex) (by decide +kernel)) (hP.sub [] rfl) hK rfl hl.1 rfl (Nat.le_of_ble_eq_true rfl) dX4_codeAt_5 ⟨Nat.le_of_ble_eq_true rfl, Nat.le_of_ble_eq_true rfl⟩ ?_
  refine lv_if_eq (tgt := 29) hx hb dX4_codeAt_8 (by decide) (fun c_1 => ?_) (fun c_1 => ?_)
  · skip
    have c_1 := kq_bf c_1
    exact absurd hi c_1
  · skip
    have c_1 := kq_bt c_1
    refine lv_iload_n hx hb dX4_codeAt_11 rfl (lv_at hl 1 rfl) ?_
    refine lv_aload_n hx hb dX4_codeAt_12 rfl (lv_at hl 0 rfl) ?_
    refine va_get (D := (dC, dI)) (ci := 4) (v := .ref rc) (C := RX4) (T := TX4) (N := 2) hx hb hts (by decide +kernel) hown hK.1 hP 0 rfl rfl 0 (by decide) (hts (.fieldLink RX4 11 "NoteWatermarks$WireText" "codes" "[I") (by decide +kernel)) (fun _ h9 => h9) rfl dX4_codeAt_13 ?_
    refine va_alen (v := 60) hx hb hK.1 hP 1 0 rfl rfl rfl dX4_codeAt_16 ?_
    refine lv_icmp_ge (tgt := 29) hx hb dX4_codeAt_17 (by decide) (fun c_2 => ?_) (fun c_2 => ?_)
    · skip
      have c_2 := kq_leN (a := 60) (b := i) c_2 (by omega) (by omega)
      exact absurd c_2 (by omega)
    · skip
      have c_2 := kq_nleN (a := 60) (b := i) c_2 (by omega) (by omega)
      refine lv_aload_n hx hb dX4_codeAt_20 rfl (lv_at hl 0 rfl) ?_
      refine va_get (D := (dC, dI)) (ci := 4) (v := .ref rc) (C := RX4) (T := TX4) (N := 2) hx hb hts (by decide +kernel) hown hK.1 hP 0 rfl rfl 0 (by decide) (hts (.fieldLink RX4 11 "NoteWatermarks$WireText" "codes" "[I") (by decide +kernel)) (fun _ h9 => h9) rfl dX4_codeAt_21 ?_
      refine lv_iload_n hx hb dX4_codeAt_24 rfl (lv_at hl 1 rfl) ?_
      refine va_iald hx hb hK.1 hP 1 0 rfl rfl (vp_in_nI (show i < 60 from by omega) (by omega)) dX4_codeAt_25 ?_
      refine kq_top (z := cd i) (congrArg cd (nI_clamp (Nat.lt_trans (show i < 60 from by omega) (by omega)))) ?_
      refine lv_goto (tgt := 30) hx hb dX4_codeAt_26 (by decide) ?_
      exact kq_ret hx hb hr hlocks dX4_codeAt_30 (by rfl)
set_option maxHeartbeats 4000000 in
set_option maxRecDepth 100000 in
theorem c_X4_codeAt (l : Launch) (dC : Nat → ClassId) (dI : Nat → Nat → Nat) (cI : ClassId) (oT : Nat) (rc : Nat) (n : Nat) (cd : Nat → Int32) (i : Nat) (hn : n ≤ 60) (hi : i < 100) : Met l yX4_codeAt wsX4_codeAt ({ frames := 1, cells := 0, slots := 0, locals := 21 }) (kq_R dC dI cI [.ref oT, .int (nI i)] [(oT, .inr (4, [.ref rc, .int (nI n)])), (rc, .inl (cI, 60, .inl cd))]) (QcRead (n_at cd n i)) 0 0 (fun _ => False) := by
  refine kq_start (cc := cX4_codeAt) (maxL := 2) (ret := (some .int)) (plainFor_of_name (by decide)) rfl (Nat.le_of_ble_eq_true rfl) ?_
  intro p e s m below meth c hx hb hr hml hown hlocks hts hP hK ls hl
  have hown : s.vm.findClass RX4 = some m.cls := hown
  have hl : lv_has ls 2 [(0, .ref oT), (1, .int (nI i))] := hl
  refine lv_iload_n hx hb dX4_codeAt_0 rfl (lv_at hl 1 rfl) ?_
  refine lv_aload_n hx hb dX4_codeAt_1 rfl (lv_at hl 0 rfl) ?_
  refine va_get (D := (dC, dI)) (ci := 4) (v := .int (nI n)) (C := RX4) (T := TX4) (N := 2) hx hb hts (by decide +kernel) hown hK.1 hP 0 rfl rfl 1 (by decide) (hts (.fieldLink RX4 15 "NoteWatermarks$WireText" "length" "I") (by decide +kernel)) (fun _ h9 => h9) rfl dX4_codeAt_2 ?_
  refine kq_cN (As := [.int (nI i), .int (nI n)]) (rest := []) ⟨hx, hb, hml, hown, hts⟩ (c_X5_isIndex_n l dC dI cI i n (by first | assumption | omega) (by first | assumption | omega)) (va_cnB (own := RX4) (host := RX5) (index := 19) (y := yX5_isIndex) 2 hts gX4_codeAt_X5_isIndex_n19 rfl rfl rfl (hK.2 _ (by simp [kq_nest])) (hts (.initialized RX5) (by decide +kernel)) (by decide +kernel) ⟨Nat.le_of_ble_eq_true rfl, Nat.le_of_ble_eq_true rfl⟩) (hts (.static yX5_isIndex) (by decide +kernel)) (hP.sub [] rfl) hK rfl hl.1 rfl (Nat.le_of_ble_eq_true rfl) dX4_codeAt_5 ⟨Nat.le_of_ble_eq_true rfl, Nat.le_of_ble_eq_true rfl⟩ ?_
  refine lv_if_eq (tgt := 29) hx hb dX4_codeAt_8 (by decide) (fun c_1 => ?_) (fun c_1 => ?_)
  · skip
    have c_1 := kq_bf c_1
    refine lv_iconst (v := 0) hx hb dX4_codeAt_29 (by decide) ?_
    exact kq_ret hx hb hr hlocks dX4_codeAt_30 (by first | exact (if_pos (by assumption)).symm | exact (if_neg (by assumption)).symm)
  · skip
    have c_1 := kq_bt c_1
    refine lv_iload_n hx hb dX4_codeAt_11 rfl (lv_at hl 1 rfl) ?_
    refine lv_aload_n hx hb dX4_codeAt_12 rfl (lv_at hl 0 rfl) ?_
    refine va_get (D := (dC, dI)) (ci := 4) (v := .ref rc) (C := RX4) (T := TX4) (N := 2) hx hb hts (by decide +kernel) hown hK.1 hP 0 rfl rfl 0 (by decide) (hts (.fieldLink RX4 11 "NoteWatermarks$WireText" "codes" "[I") (by decide +kernel)) (fun _ h9 => h9) rfl dX4_codeAt_13 ?_
    refine va_alen (v := 60) hx hb hK.1 hP 1 0 rfl rfl rfl dX4_codeAt_16 ?_
    refine lv_icmp_ge (tgt := 29) hx hb dX4_codeAt_17 (by decide) (fun c_2 => ?_) (fun c_2 => ?_)
    · skip
      have c_2 := kq_leN (a := 60) (b := i) c_2 (by omega) (by omega)
      exact absurd c_2 (by omega)
    · skip
      have c_2 := kq_nleN (a := 60) (b := i) c_2 (by omega) (by omega)
      refine lv_aload_n hx hb dX4_codeAt_20 rfl (lv_at hl 0 rfl) ?_
      refine va_get (D := (dC, dI)) (ci := 4) (v := .ref rc) (C := RX4) (T := TX4) (N := 2) hx hb hts (by decide +kernel) hown hK.1 hP 0 rfl rfl 0 (by decide) (hts (.fieldLink RX4 11 "NoteWatermarks$WireText" "codes" "[I") (by decide +kernel)) (fun _ h9 => h9) rfl dX4_codeAt_21 ?_
      refine lv_iload_n hx hb dX4_codeAt_24 rfl (lv_at hl 1 rfl) ?_
      refine va_iald hx hb hK.1 hP 1 0 rfl rfl (vp_in_nI (show i < 60 from by omega) (by omega)) dX4_codeAt_25 ?_
      refine kq_top (z := cd i) (congrArg cd (nI_clamp (Nat.lt_trans (show i < 60 from by omega) (by omega)))) ?_
      refine lv_goto (tgt := 30) hx hb dX4_codeAt_26 (by decide) ?_
      exact kq_ret hx hb hr hlocks dX4_codeAt_30 (by first | exact (if_pos (by assumption)).symm | exact (if_neg (by assumption)).symm)
set_option maxHeartbeats 4000000 in
set_option maxRecDepth 100000 in
theorem c_X4_behind (l : Launch) (dC : Nat → ClassId) (dI : Nat → Nat → Nat) (cI : ClassId) (q : Nat) (x : Int32) (hq : q < 8) : Met l yX4_behind wsX4_behind ({ frames := 1, cells := 0, slots := 0, locals := 22 }) (kq_R dC dI cI [.int (nI q), .int x] []) (QcRead (n_rt (n_nx q x))) 0 0 (fun _ => False) := by
  refine kq_start (cc := cX4_behind) (maxL := 2) (ret := (some .int)) (plainFor_of_name (by decide)) rfl (Nat.le_of_ble_eq_true rfl) ?_
  intro p e s m below meth c hx hb hr hml hown hlocks hts hP hK ls hl
  have hown : s.vm.findClass RX4 = some m.cls := hown
  have hl : lv_has ls 2 [(0, .int (nI q)), (1, .int x)] := hl
  refine lv_iload_n hx hb dX4_behind_0 rfl (lv_at hl 0 rfl) ?_
  rcases (show q = 0 ∨ q = 1 ∨ q = 2 ∨ q = 3 ∨ q = 4 ∨ q = 5 ∨ q = 6 ∨ q = 7 from by omega) with rfl | rfl | rfl | rfl | rfl | rfl | rfl | rfl
  · skip
    refine lv_tableIn (off := 43) (tgt := 44) hx hb dX4_behind_1 (by decide) (by decide) (by decide) (by decide) ?_
    refine lv_iload_n hx hb dX4_behind_44 rfl (lv_at hl 1 rfl) ?_
    refine lv_bipush (v := 48) hx hb dX4_behind_45 (by decide) ?_
    refine lv_bipush (v := 50) hx hb dX4_behind_47 (by decide) ?_
    refine kq_cN (As := [.int x, .int 48, .int 50]) (rest := []) ⟨hx, hb, hml, hown, hts⟩ (c_X5_isBetween l dC dI cI x 48 50 ) (va_cnB (own := RX4) (host := RX5) (index := 31) (y := yX5_isBetween) 3 hts gX4_behind_X5_isBetween_n31 rfl rfl rfl (hK.2 _ (by simp [kq_nest])) (hts (.initialized RX5) (by decide +kernel)) (by decide +kernel) ⟨Nat.le_of_ble_eq_true rfl, Nat.le_of_ble_eq_true rfl⟩) (hts (.static yX5_isBetween) (by decide +kernel)) (hP.sub [] rfl) hK rfl hl.1 rfl (Nat.le_of_ble_eq_true rfl) dX4_behind_49 ⟨Nat.le_of_ble_eq_true rfl, Nat.le_of_ble_eq_true rfl⟩ ?_
    refine lv_if_eq (tgt := 59) hx hb dX4_behind_52 (by decide) (fun c_1 => ?_) (fun c_1 => ?_)
    · skip
      have c_1 := kq_bf c_1
      refine lv_iconst (v := (-1)) hx hb dX4_behind_59 (by decide) ?_
      exact kq_ret hx hb hr hlocks dX4_behind_60 (by show n_rt 8 = n_rt (ite _ _ _); first | exact (congrArg n_rt (if_pos (by assumption))).symm | exact (congrArg n_rt (if_neg (by assumption))).symm | exact (congrArg n_rt (if_pos (Or.inl (by assumption)))).symm | exact (congrArg n_rt (if_pos (Or.inr (by assumption)))).symm | exact (congrArg n_rt (if_neg (fun z => z.elim (by assumption) (by assumption)))).symm | exact (congrArg n_rt ((if_neg (by assumption)).trans (if_pos (by assumption)))).symm | exact (congrArg n_rt ((if_neg (by assumption)).trans (if_neg (by assumption)))).symm)
    · skip
      have c_1 := kq_bt c_1
      refine lv_iconst (v := 1) hx hb dX4_behind_55 (by decide) ?_
      refine lv_goto (tgt := 60) hx hb dX4_behind_56 (by decide) ?_
      exact kq_ret hx hb hr hlocks dX4_behind_60 (by show n_rt 1 = n_rt (ite _ _ _); first | exact (congrArg n_rt (if_pos (by assumption))).symm | exact (congrArg n_rt (if_neg (by assumption))).symm | exact (congrArg n_rt (if_pos (Or.inl (by assumption)))).symm | exact (congrArg n_rt (if_pos (Or.inr (by assumption)))).symm | exact (congrArg n_rt (if_neg (fun z => z.elim (by assumption) (by assumption)))).symm | exact (congrArg n_rt ((if_neg (by assumption)).trans (if_pos (by assumption)))).symm | exact (congrArg n_rt ((if_neg (by assumption)).trans (if_neg (by assumption)))).symm)
  · skip
    refine lv_tableIn (off := 60) (tgt := 61) hx hb dX4_behind_1 (by decide) (by decide) (by decide) (by decide) ?_
    refine lv_iload_n hx hb dX4_behind_61 rfl (lv_at hl 1 rfl) ?_
    refine lv_bipush (v := 48) hx hb dX4_behind_62 (by decide) ?_
    refine lv_bipush (v := 53) hx hb dX4_behind_64 (by decide) ?_
    refine kq_cN (As := [.int x, .int 48, .int 53]) (rest := []) ⟨hx, hb, hml, hown, hts⟩ (c_X5_isBetween l dC dI cI x 48 53 ) (va_cnB (own := RX4) (host := RX5) (index := 31) (y := yX5_isBetween) 3 hts gX4_behind_X5_isBetween_n31 rfl rfl rfl (hK.2 _ (by simp [kq_nest])) (hts (.initialized RX5) (by decide +kernel)) (by decide +kernel) ⟨Nat.le_of_ble_eq_true rfl, Nat.le_of_ble_eq_true rfl⟩) (hts (.static yX5_isBetween) (by decide +kernel)) (hP.sub [] rfl) hK rfl hl.1 rfl (Nat.le_of_ble_eq_true rfl) dX4_behind_66 ⟨Nat.le_of_ble_eq_true rfl, Nat.le_of_ble_eq_true rfl⟩ ?_
    refine lv_if_eq (tgt := 76) hx hb dX4_behind_69 (by decide) (fun c_2 => ?_) (fun c_2 => ?_)
    · skip
      have c_2 := kq_bf c_2
      refine lv_iconst (v := (-1)) hx hb dX4_behind_76 (by decide) ?_
      exact kq_ret hx hb hr hlocks dX4_behind_77 (by show n_rt 8 = n_rt (ite _ _ _); first | exact (congrArg n_rt (if_pos (by assumption))).symm | exact (congrArg n_rt (if_neg (by assumption))).symm | exact (congrArg n_rt (if_pos (Or.inl (by assumption)))).symm | exact (congrArg n_rt (if_pos (Or.inr (by assumption)))).symm | exact (congrArg n_rt (if_neg (fun z => z.elim (by assumption) (by assumption)))).symm | exact (congrArg n_rt ((if_neg (by assumption)).trans (if_pos (by assumption)))).symm | exact (congrArg n_rt ((if_neg (by assumption)).trans (if_neg (by assumption)))).symm)
    · skip
      have c_2 := kq_bt c_2
      refine lv_iconst (v := 2) hx hb dX4_behind_72 (by decide) ?_
      refine lv_goto (tgt := 77) hx hb dX4_behind_73 (by decide) ?_
      exact kq_ret hx hb hr hlocks dX4_behind_77 (by show n_rt 2 = n_rt (ite _ _ _); first | exact (congrArg n_rt (if_pos (by assumption))).symm | exact (congrArg n_rt (if_neg (by assumption))).symm | exact (congrArg n_rt (if_pos (Or.inl (by assumption)))).symm | exact (congrArg n_rt (if_pos (Or.inr (by assumption)))).symm | exact (congrArg n_rt (if_neg (fun z => z.elim (by assumption) (by assumption)))).symm | exact (congrArg n_rt ((if_neg (by assumption)).trans (if_pos (by assumption)))).symm | exact (congrArg n_rt ((if_neg (by assumption)).trans (if_neg (by assumption)))).symm)
  · skip
    refine lv_tableIn (off := 77) (tgt := 78) hx hb dX4_behind_1 (by decide) (by decide) (by decide) (by decide) ?_
    refine lv_iload_n hx hb dX4_behind_78 rfl (lv_at hl 1 rfl) ?_
    refine lv_bipush (v := 97) hx hb dX4_behind_79 (by decide) ?_
    refine lv_bipush (v := 112) hx hb dX4_behind_81 (by decide) ?_
    refine kq_cN (As := [.int x, .int 97, .int 112]) (rest := []) ⟨hx, hb, hml, hown, hts⟩ (c_X5_isBetween l dC dI cI x 97 112 ) (va_cnB (own := RX4) (host := RX5) (index := 31) (y := yX5_isBetween) 3 hts gX4_behind_X5_isBetween_n31 rfl rfl rfl (hK.2 _ (by simp [kq_nest])) (hts (.initialized RX5) (by decide +kernel)) (by decide +kernel) ⟨Nat.le_of_ble_eq_true rfl, Nat.le_of_ble_eq_true rfl⟩) (hts (.static yX5_isBetween) (by decide +kernel)) (hP.sub [] rfl) hK rfl hl.1 rfl (Nat.le_of_ble_eq_true rfl) dX4_behind_83 ⟨Nat.le_of_ble_eq_true rfl, Nat.le_of_ble_eq_true rfl⟩ ?_
    refine lv_if_eq (tgt := 93) hx hb dX4_behind_86 (by decide) (fun c_3 => ?_) (fun c_3 => ?_)
    · skip
      have c_3 := kq_bf c_3
      refine lv_iconst (v := (-1)) hx hb dX4_behind_93 (by decide) ?_
      exact kq_ret hx hb hr hlocks dX4_behind_94 (by show n_rt 8 = n_rt (ite _ _ _); first | exact (congrArg n_rt (if_pos (by assumption))).symm | exact (congrArg n_rt (if_neg (by assumption))).symm | exact (congrArg n_rt (if_pos (Or.inl (by assumption)))).symm | exact (congrArg n_rt (if_pos (Or.inr (by assumption)))).symm | exact (congrArg n_rt (if_neg (fun z => z.elim (by assumption) (by assumption)))).symm | exact (congrArg n_rt ((if_neg (by assumption)).trans (if_pos (by assumption)))).symm | exact (congrArg n_rt ((if_neg (by assumption)).trans (if_neg (by assumption)))).symm)
    · skip
      have c_3 := kq_bt c_3
      refine lv_iconst (v := 3) hx hb dX4_behind_89 (by decide) ?_
      refine lv_goto (tgt := 94) hx hb dX4_behind_90 (by decide) ?_
      exact kq_ret hx hb hr hlocks dX4_behind_94 (by show n_rt 3 = n_rt (ite _ _ _); first | exact (congrArg n_rt (if_pos (by assumption))).symm | exact (congrArg n_rt (if_neg (by assumption))).symm | exact (congrArg n_rt (if_pos (Or.inl (by assumption)))).symm | exact (congrArg n_rt (if_pos (Or.inr (by assumption)))).symm | exact (congrArg n_rt (if_neg (fun z => z.elim (by assumption) (by assumption)))).symm | exact (congrArg n_rt ((if_neg (by assumption)).trans (if_pos (by assumption)))).symm | exact (congrArg n_rt ((if_neg (by assumption)).trans (if_neg (by assumption)))).symm)
  · skip
    refine lv_tableIn (off := 94) (tgt := 95) hx hb dX4_behind_1 (by decide) (by decide) (by decide) (by decide) ?_
    refine lv_iload_n hx hb dX4_behind_95 rfl (lv_at hl 1 rfl) ?_
    refine lv_bipush (v := 43) hx hb dX4_behind_96 (by decide) ?_
    refine lv_icmp_eq (tgt := 107) hx hb dX4_behind_98 (by decide) (fun c_4 => ?_) (fun c_4 => ?_)
    · skip
      refine lv_iconst (v := 4) hx hb dX4_behind_107 (by decide) ?_
      refine lv_goto (tgt := 112) hx hb dX4_behind_108 (by decide) ?_
      exact kq_ret hx hb hr hlocks dX4_behind_112 (by show n_rt 4 = n_rt (ite _ _ _); first | exact (congrArg n_rt (if_pos (by assumption))).symm | exact (congrArg n_rt (if_neg (by assumption))).symm | exact (congrArg n_rt (if_pos (Or.inl (by assumption)))).symm | exact (congrArg n_rt (if_pos (Or.inr (by assumption)))).symm | exact (congrArg n_rt (if_neg (fun z => z.elim (by assumption) (by assumption)))).symm | exact (congrArg n_rt ((if_neg (by assumption)).trans (if_pos (by assumption)))).symm | exact (congrArg n_rt ((if_neg (by assumption)).trans (if_neg (by assumption)))).symm)
    · skip
      refine lv_iload_n hx hb dX4_behind_101 rfl (lv_at hl 1 rfl) ?_
      refine lv_bipush (v := 45) hx hb dX4_behind_102 (by decide) ?_
      refine lv_icmp_ne (tgt := 111) hx hb dX4_behind_104 (by decide) (fun c_5 => ?_) (fun c_5 => ?_)
      · skip
        refine lv_iconst (v := (-1)) hx hb dX4_behind_111 (by decide) ?_
        exact kq_ret hx hb hr hlocks dX4_behind_112 (by show n_rt 8 = n_rt (ite _ _ _); first | exact (congrArg n_rt (if_pos (by assumption))).symm | exact (congrArg n_rt (if_neg (by assumption))).symm | exact (congrArg n_rt (if_pos (Or.inl (by assumption)))).symm | exact (congrArg n_rt (if_pos (Or.inr (by assumption)))).symm | exact (congrArg n_rt (if_neg (fun z => z.elim (by assumption) (by assumption)))).symm | exact (congrArg n_rt ((if_neg (by assumption)).trans (if_pos (by assumption)))).symm | exact (congrArg n_rt ((if_neg (by assumption)).trans (if_neg (by assumption)))).symm)
      · skip
        refine lv_iconst (v := 4) hx hb dX4_behind_107 (by decide) ?_
        refine lv_goto (tgt := 112) hx hb dX4_behind_108 (by decide) ?_
        exact kq_ret hx hb hr hlocks dX4_behind_112 (by show n_rt 4 = n_rt (ite _ _ _); first | exact (congrArg n_rt (if_pos (by assumption))).symm | exact (congrArg n_rt (if_neg (by assumption))).symm | exact (congrArg n_rt (if_pos (Or.inl (by assumption)))).symm | exact (congrArg n_rt (if_pos (Or.inr (by assumption)))).symm | exact (congrArg n_rt (if_neg (fun z => z.elim (by assumption) (by assumption)))).symm | exact (congrArg n_rt ((if_neg (by assumption)).trans (if_pos (by assumption)))).symm | exact (congrArg n_rt ((if_neg (by assumption)).trans (if_neg (by assumption)))).symm)
  · skip
    refine lv_tableIn (off := 112) (tgt := 113) hx hb dX4_behind_1 (by decide) (by decide) (by decide) (by decide) ?_
    refine lv_iload_n hx hb dX4_behind_113 rfl (lv_at hl 1 rfl) ?_
    refine lv_bipush (v := 48) hx hb dX4_behind_114 (by decide) ?_
    refine lv_bipush (v := 51) hx hb dX4_behind_116 (by decide) ?_
    refine kq_cN (As := [.int x, .int 48, .int 51]) (rest := []) ⟨hx, hb, hml, hown, hts⟩ (c_X5_isBetween l dC dI cI x 48 51 ) (va_cnB (own := RX4) (host := RX5) (index := 31) (y := yX5_isBetween) 3 hts gX4_behind_X5_isBetween_n31 rfl rfl rfl (hK.2 _ (by simp [kq_nest])) (hts (.initialized RX5) (by decide +kernel)) (by decide +kernel) ⟨Nat.le_of_ble_eq_true rfl, Nat.le_of_ble_eq_true rfl⟩) (hts (.static yX5_isBetween) (by decide +kernel)) (hP.sub [] rfl) hK rfl hl.1 rfl (Nat.le_of_ble_eq_true rfl) dX4_behind_118 ⟨Nat.le_of_ble_eq_true rfl, Nat.le_of_ble_eq_true rfl⟩ ?_
    refine lv_if_eq (tgt := 128) hx hb dX4_behind_121 (by decide) (fun c_6 => ?_) (fun c_6 => ?_)
    · skip
      have c_6 := kq_bf c_6
      refine lv_iconst (v := (-1)) hx hb dX4_behind_128 (by decide) ?_
      exact kq_ret hx hb hr hlocks dX4_behind_129 (by show n_rt 8 = n_rt (ite _ _ _); first | exact (congrArg n_rt (if_pos (by assumption))).symm | exact (congrArg n_rt (if_neg (by assumption))).symm | exact (congrArg n_rt (if_pos (Or.inl (by assumption)))).symm | exact (congrArg n_rt (if_pos (Or.inr (by assumption)))).symm | exact (congrArg n_rt (if_neg (fun z => z.elim (by assumption) (by assumption)))).symm | exact (congrArg n_rt ((if_neg (by assumption)).trans (if_pos (by assumption)))).symm | exact (congrArg n_rt ((if_neg (by assumption)).trans (if_neg (by assumption)))).symm)
    · skip
      have c_6 := kq_bt c_6
      refine lv_iconst (v := 5) hx hb dX4_behind_124 (by decide) ?_
      refine lv_goto (tgt := 129) hx hb dX4_behind_125 (by decide) ?_
      exact kq_ret hx hb hr hlocks dX4_behind_129 (by show n_rt 5 = n_rt (ite _ _ _); first | exact (congrArg n_rt (if_pos (by assumption))).symm | exact (congrArg n_rt (if_neg (by assumption))).symm | exact (congrArg n_rt (if_pos (Or.inl (by assumption)))).symm | exact (congrArg n_rt (if_pos (Or.inr (by assumption)))).symm | exact (congrArg n_rt (if_neg (fun z => z.elim (by assumption) (by assumption)))).symm | exact (congrArg n_rt ((if_neg (by assumption)).trans (if_pos (by assumption)))).symm | exact (congrArg n_rt ((if_neg (by assumption)).trans (if_neg (by assumption)))).symm)
  · skip
    refine lv_tableIn (off := 129) (tgt := 130) hx hb dX4_behind_1 (by decide) (by decide) (by decide) (by decide) ?_
    refine lv_iload_n hx hb dX4_behind_130 rfl (lv_at hl 1 rfl) ?_
    refine lv_bipush (v := 42) hx hb dX4_behind_131 (by decide) ?_
    refine lv_icmp_ne (tgt := 141) hx hb dX4_behind_133 (by decide) (fun c_7 => ?_) (fun c_7 => ?_)
    · skip
      refine lv_iload_n hx hb dX4_behind_141 rfl (lv_at hl 1 rfl) ?_
      refine lv_bipush (v := 59) hx hb dX4_behind_142 (by decide) ?_
      refine lv_icmp_ne (tgt := 151) hx hb dX4_behind_144 (by decide) (fun c_8 => ?_) (fun c_8 => ?_)
      · skip
        refine lv_iconst (v := (-1)) hx hb dX4_behind_151 (by decide) ?_
        exact kq_ret hx hb hr hlocks dX4_behind_152 (by show n_rt 8 = n_rt (ite _ _ _); first | exact (congrArg n_rt (if_pos (by assumption))).symm | exact (congrArg n_rt (if_neg (by assumption))).symm | exact (congrArg n_rt (if_pos (Or.inl (by assumption)))).symm | exact (congrArg n_rt (if_pos (Or.inr (by assumption)))).symm | exact (congrArg n_rt (if_neg (fun z => z.elim (by assumption) (by assumption)))).symm | exact (congrArg n_rt ((if_neg (by assumption)).trans (if_pos (by assumption)))).symm | exact (congrArg n_rt ((if_neg (by assumption)).trans (if_neg (by assumption)))).symm)
      · skip
        refine lv_iconst (v := 0) hx hb dX4_behind_147 (by decide) ?_
        refine lv_goto (tgt := 152) hx hb dX4_behind_148 (by decide) ?_
        exact kq_ret hx hb hr hlocks dX4_behind_152 (by show n_rt 0 = n_rt (ite _ _ _); first | exact (congrArg n_rt (if_pos (by assumption))).symm | exact (congrArg n_rt (if_neg (by assumption))).symm | exact (congrArg n_rt (if_pos (Or.inl (by assumption)))).symm | exact (congrArg n_rt (if_pos (Or.inr (by assumption)))).symm | exact (congrArg n_rt (if_neg (fun z => z.elim (by assumption) (by assumption)))).symm | exact (congrArg n_rt ((if_neg (by assumption)).trans (if_pos (by assumption)))).symm | exact (congrArg n_rt ((if_neg (by assumption)).trans (if_neg (by assumption)))).symm)
    · skip
      refine lv_bipush (v := 6) hx hb dX4_behind_136 (by decide) ?_
      refine lv_goto (tgt := 152) hx hb dX4_behind_138 (by decide) ?_
      exact kq_ret hx hb hr hlocks dX4_behind_152 (by show n_rt 6 = n_rt (ite _ _ _); first | exact (congrArg n_rt (if_pos (by assumption))).symm | exact (congrArg n_rt (if_neg (by assumption))).symm | exact (congrArg n_rt (if_pos (Or.inl (by assumption)))).symm | exact (congrArg n_rt (if_pos (Or.inr (by assumption)))).symm | exact (congrArg n_rt (if_neg (fun z => z.elim (by assumption) (by assumption)))).symm | exact (congrArg n_rt ((if_neg (by assumption)).trans (if_pos (by assumption)))).symm | exact (congrArg n_rt ((if_neg (by assumption)).trans (if_neg (by assumption)))).symm)
  · skip
    refine lv_tableIn (off := 152) (tgt := 153) hx hb dX4_behind_1 (by decide) (by decide) (by decide) (by decide) ?_
    refine lv_iload_n hx hb dX4_behind_153 rfl (lv_at hl 1 rfl) ?_
    refine lv_bipush (v := 50) hx hb dX4_behind_154 (by decide) ?_
    refine lv_bipush (v := 57) hx hb dX4_behind_156 (by decide) ?_
    refine kq_cN (As := [.int x, .int 50, .int 57]) (rest := []) ⟨hx, hb, hml, hown, hts⟩ (c_X5_isBetween l dC dI cI x 50 57 ) (va_cnB (own := RX4) (host := RX5) (index := 31) (y := yX5_isBetween) 3 hts gX4_behind_X5_isBetween_n31 rfl rfl rfl (hK.2 _ (by simp [kq_nest])) (hts (.initialized RX5) (by decide +kernel)) (by decide +kernel) ⟨Nat.le_of_ble_eq_true rfl, Nat.le_of_ble_eq_true rfl⟩) (hts (.static yX5_isBetween) (by decide +kernel)) (hP.sub [] rfl) hK rfl hl.1 rfl (Nat.le_of_ble_eq_true rfl) dX4_behind_158 ⟨Nat.le_of_ble_eq_true rfl, Nat.le_of_ble_eq_true rfl⟩ ?_
    refine lv_if_eq (tgt := 169) hx hb dX4_behind_161 (by decide) (fun c_9 => ?_) (fun c_9 => ?_)
    · skip
      have c_9 := kq_bf c_9
      refine lv_iconst (v := (-1)) hx hb dX4_behind_169 (by decide) ?_
      exact kq_ret hx hb hr hlocks dX4_behind_170 (by show n_rt 8 = n_rt (ite _ _ _); first | exact (congrArg n_rt (if_pos (by assumption))).symm | exact (congrArg n_rt (if_neg (by assumption))).symm | exact (congrArg n_rt (if_pos (Or.inl (by assumption)))).symm | exact (congrArg n_rt (if_pos (Or.inr (by assumption)))).symm | exact (congrArg n_rt (if_neg (fun z => z.elim (by assumption) (by assumption)))).symm | exact (congrArg n_rt ((if_neg (by assumption)).trans (if_pos (by assumption)))).symm | exact (congrArg n_rt ((if_neg (by assumption)).trans (if_neg (by assumption)))).symm)
    · skip
      have c_9 := kq_bt c_9
      refine lv_bipush (v := 7) hx hb dX4_behind_164 (by decide) ?_
      refine lv_goto (tgt := 170) hx hb dX4_behind_166 (by decide) ?_
      exact kq_ret hx hb hr hlocks dX4_behind_170 (by show n_rt 7 = n_rt (ite _ _ _); first | exact (congrArg n_rt (if_pos (by assumption))).symm | exact (congrArg n_rt (if_neg (by assumption))).symm | exact (congrArg n_rt (if_pos (Or.inl (by assumption)))).symm | exact (congrArg n_rt (if_pos (Or.inr (by assumption)))).symm | exact (congrArg n_rt (if_neg (fun z => z.elim (by assumption) (by assumption)))).symm | exact (congrArg n_rt ((if_neg (by assumption)).trans (if_pos (by assumption)))).symm | exact (congrArg n_rt ((if_neg (by assumption)).trans (if_neg (by assumption)))).symm)
  · skip
    refine lv_tableOut (tgt := 171) hx hb dX4_behind_1 (by decide) (by decide) ?_
    refine lv_iload_n hx hb dX4_behind_171 rfl (lv_at hl 1 rfl) ?_
    refine lv_bipush (v := 59) hx hb dX4_behind_172 (by decide) ?_
    refine lv_icmp_ne (tgt := 181) hx hb dX4_behind_174 (by decide) (fun c_10 => ?_) (fun c_10 => ?_)
    · skip
      refine lv_iconst (v := (-1)) hx hb dX4_behind_181 (by decide) ?_
      exact kq_ret hx hb hr hlocks dX4_behind_182 (by show n_rt 8 = n_rt (ite _ _ _); first | exact (congrArg n_rt (if_pos (by assumption))).symm | exact (congrArg n_rt (if_neg (by assumption))).symm | exact (congrArg n_rt (if_pos (Or.inl (by assumption)))).symm | exact (congrArg n_rt (if_pos (Or.inr (by assumption)))).symm | exact (congrArg n_rt (if_neg (fun z => z.elim (by assumption) (by assumption)))).symm | exact (congrArg n_rt ((if_neg (by assumption)).trans (if_pos (by assumption)))).symm | exact (congrArg n_rt ((if_neg (by assumption)).trans (if_neg (by assumption)))).symm)
    · skip
      refine lv_iconst (v := 0) hx hb dX4_behind_177 (by decide) ?_
      refine lv_goto (tgt := 182) hx hb dX4_behind_178 (by decide) ?_
      exact kq_ret hx hb hr hlocks dX4_behind_182 (by show n_rt 0 = n_rt (ite _ _ _); first | exact (congrArg n_rt (if_pos (by assumption))).symm | exact (congrArg n_rt (if_neg (by assumption))).symm | exact (congrArg n_rt (if_pos (Or.inl (by assumption)))).symm | exact (congrArg n_rt (if_pos (Or.inr (by assumption)))).symm | exact (congrArg n_rt (if_neg (fun z => z.elim (by assumption) (by assumption)))).symm | exact (congrArg n_rt ((if_neg (by assumption)).trans (if_pos (by assumption)))).symm | exact (congrArg n_rt ((if_neg (by assumption)).trans (if_neg (by assumption)))).symm)
set_option maxHeartbeats 4000000 in
set_option maxRecDepth 100000 in
theorem c_X4_firstWrong (l : Launch) (dC : Nat → ClassId) (dI : Nat → Nat → Nat) (cI : ClassId) (oT : Nat) (rc : Nat) (n : Nat) (cd : Nat → Int32) (hn : n ≤ 60) : Met l yX4_firstWrong wsX4_firstWrong ({ frames := 2, cells := 0, slots := 0, locals := 43 }) (kq_R dC dI cI [.ref oT] [(oT, .inr (4, [.ref rc, .int (nI n)])), (rc, .inl (cI, 60, .inl cd))]) (QcRead (nI (n_fe cd n))) 0 0 (fun _ => False) := by
  refine kq_start (cc := cX4_firstWrong) (maxL := 3) (ret := (some .int)) (plainFor_of_name (by decide)) rfl (Nat.le_of_ble_eq_true rfl) ?_
  intro p e s m below meth c hx hb hr hml hown hlocks hts hP hK ls hl
  have hown : s.vm.findClass RX4 = some m.cls := hown
  have hl : lv_has ls 3 [(0, .ref oT)] := hl
  refine lv_iconst (v := 0) hx hb dX4_firstWrong_0 (by decide) ?_
  refine lv_istore_n (lv' := [(1, .int 0), (0, .ref oT)]) hx hb dX4_firstWrong_1 rfl hl (by decide) rfl (fun ls hl => ?_)
  refine lv_iconst (v := 0) hx hb dX4_firstWrong_2 (by decide) ?_
  refine lv_istore_n (lv' := [(2, .int 0), (1, .int 0), (0, .ref oT)]) hx hb dX4_firstWrong_3 rfl hl (by decide) rfl (fun ls hl => ?_)
  refine kq_loop1 (A1 := Nat) (fun (k : Nat) => n - k) (fun (k : Nat) => (k ≤ n) ∧ (¬ n_q cd k = 8)) (fun (k : Nat) => [(0, .ref oT), (1, .int (nI (n_q cd k))), (2, .int (nI k))]) (nL := 3) ?_ 0 ⟨(by omega), (by exact (by decide : ¬ (0 : Nat) = 8))⟩ _ (lv_sub hl [2, 1, 0] rfl)
  intro k hi_2 ih_1 ls hl
  obtain ⟨ik, i8⟩ := hi_2
  have hl : lv_has ls 3 [(0, .ref oT), (1, .int (nI (n_q cd k))), (2, .int (nI k))] := hl
  refine lv_iload_n hx hb dX4_firstWrong_4 rfl (lv_at hl 2 rfl) ?_
  refine lv_aload_n hx hb dX4_firstWrong_5 rfl (lv_at hl 0 rfl) ?_
  refine va_get (D := (dC, dI)) (ci := 4) (v := .int (nI n)) (C := RX4) (T := TX4) (N := 2) hx hb hts (by decide +kernel) hown hK.1 hP 0 rfl rfl 1 (by decide) (hts (.fieldLink RX4 15 "NoteWatermarks$WireText" "length" "I") (by decide +kernel)) (fun _ h9 => h9) rfl dX4_firstWrong_6 ?_
  refine lv_icmp_ge (tgt := 35) hx hb dX4_firstWrong_9 (by decide) (fun c_3 => ?_) (fun c_3 => ?_)
  · skip
    have c_3 := kq_leN (a := n) (b := k) c_3 (by omega) (by omega)
    refine lv_aload_n hx hb dX4_firstWrong_35 rfl (lv_at hl 0 rfl) ?_
    refine va_get (D := (dC, dI)) (ci := 4) (v := .int (nI n)) (C := RX4) (T := TX4) (N := 2) hx hb hts (by decide +kernel) hown hK.1 hP 0 rfl rfl 1 (by decide) (hts (.fieldLink RX4 15 "NoteWatermarks$WireText" "length" "I") (by decide +kernel)) (fun _ h9 => h9) rfl dX4_firstWrong_36 ?_
    exact kq_ret hx hb hr hlocks dX4_firstWrong_39 (by rw [n_fe_all (k := n) (by rw [show n = k by omega]; exact i8)])
  · skip
    have c_3 := kq_nleN (a := n) (b := k) c_3 (by omega) (by omega)
    have hq8 : n_q cd k < 8 := by have := n_q_le (cd := cd) (k := k); omega
    refine lv_iload_n hx hb dX4_firstWrong_12 rfl (lv_at hl 1 rfl) ?_
    refine lv_aload_n hx hb dX4_firstWrong_13 rfl (lv_at hl 0 rfl) ?_
    refine lv_iload_n hx hb dX4_firstWrong_14 rfl (lv_at hl 2 rfl) ?_
    refine kq_cV (As := [.int (nI k)]) (rest := [.int (nI (n_q cd k))]) ⟨hx, hb, hml, hown, hts⟩ (c_X4_codeAt_n l dC dI cI oT rc n cd k (by first | assumption | omega) (by first | assumption | omega)) (cwV 1 hts gX4_firstWrong_X4_codeAt rfl rfl rfl (by decide +kernel) ⟨Nat.le_of_ble_eq_true rfl, Nat.le_of_ble_eq_true rfl⟩) (hP.sub [0, 1] rfl) hK (ci := 4) (q0 := 0) rfl rfl rfl rfl hl.1 rfl (Nat.le_of_ble_eq_true rfl) dX4_firstWrong_15 ⟨Nat.le_of_ble_eq_true rfl, Nat.le_of_ble_eq_true rfl⟩ ?_
    refine kq_cS (As := [.int (nI (n_q cd k)), .int (cd k)]) (rest := []) ⟨hx, hb, hml, hown, hts⟩ (c_X4_behind l dC dI cI (n_q cd k) (cd k) (by first | assumption | omega)) (va_cwS 2 hts gX4_firstWrong_X4_behind rfl rfl rfl (by decide +kernel) ⟨Nat.le_of_ble_eq_true rfl, Nat.le_of_ble_eq_true rfl⟩) (hP.sub [] rfl) hK rfl hl.1 rfl (Nat.le_of_ble_eq_true rfl) dX4_firstWrong_18 ⟨Nat.le_of_ble_eq_true rfl, Nat.le_of_ble_eq_true rfl⟩ ?_
    refine lv_istore_n (lv' := [(1, .int (n_rt (n_nx (n_q cd k) (cd k)))), (0, .ref oT), (2, .int (nI k))]) hx hb dX4_firstWrong_21 rfl hl (by decide) rfl (fun ls hl => ?_)
    refine lv_iload_n hx hb dX4_firstWrong_22 rfl (lv_at hl 0 rfl) ?_
    refine lv_iconst (v := (-1)) hx hb dX4_firstWrong_23 (by decide) ?_
    refine lv_icmp_ne (tgt := 29) hx hb dX4_firstWrong_24 (by decide) (fun c_4 => ?_) (fun c_4 => ?_)
    · skip
      have h8 : ¬ n_nx (n_q cd k) (cd k) = 8 := fun q => c_4 ((n_rt_m n_nx_le).mpr q)
      rw [n_rt_n h8] at hl
      refine lv_iinc (v := nI (k + 1)) (lv' := [(2, .int (nI (k + 1))), (1, .int (nI (n_nx (n_q cd k) (cd k)))), (0, .ref oT)]) hx hb dX4_firstWrong_29 hl (k := 2) rfl (nI_1 k) (by decide) rfl (fun ls hl => ?_)
      refine lv_goto (tgt := 4) hx hb dX4_firstWrong_32 (by decide) ?_
      exact ih_1 (k + 1) ⟨(by omega), (by exact h8)⟩ (by show n - (k + 1) < n - k; omega) _ (lv_sub hl [2, 1, 0] rfl)
    · skip
      have h8 : n_q cd (k + 1) = 8 := (n_rt_m n_nx_le).mp c_4
      refine lv_iload_n hx hb dX4_firstWrong_27 rfl (lv_at hl 2 rfl) ?_
      exact kq_ret hx hb hr hlocks dX4_firstWrong_28 (by rw [n_fe_at i8 h8 (by omega)])
set_option maxHeartbeats 4000000 in
set_option maxRecDepth 100000 in
theorem c_X4_isComplete (l : Launch) (dC : Nat → ClassId) (dI : Nat → Nat → Nat) (cI : ClassId) (oT : Nat) (rc : Nat) (n : Nat) (cd : Nat → Int32) (hn : n ≤ 60) : Met l yX4_isComplete wsX4_isComplete ({ frames := 2, cells := 0, slots := 0, locals := 43 }) (kq_R dC dI cI [.ref oT] [(oT, .inr (4, [.ref rc, .int (nI n)])), (rc, .inl (cI, 60, .inl cd))]) (QcRead (if n_q cd n = 5 ∨ n_q cd n = 7 then (1:Int32) else 0)) 0 0 (fun _ => False) := by
  refine kq_start (cc := cX4_isComplete) (maxL := 3) (ret := (some .boolean)) (plainFor_of_name (by decide)) rfl (Nat.le_of_ble_eq_true rfl) ?_
  intro p e s m below meth c hx hb hr hml hown hlocks hts hP hK ls hl
  have hown : s.vm.findClass RX4 = some m.cls := hown
  have hl : lv_has ls 3 [(0, .ref oT)] := hl
  refine lv_iconst (v := 0) hx hb dX4_isComplete_0 (by decide) ?_
  refine lv_istore_n (lv' := [(1, .int 0), (0, .ref oT)]) hx hb dX4_isComplete_1 rfl hl (by decide) rfl (fun ls hl => ?_)
  refine lv_iconst (v := 0) hx hb dX4_isComplete_2 (by decide) ?_
  refine lv_istore_n (lv' := [(2, .int 0), (1, .int 0), (0, .ref oT)]) hx hb dX4_isComplete_3 rfl hl (by decide) rfl (fun ls hl => ?_)
  refine kq_loop1 (A1 := Nat) (fun (k : Nat) => n - k) (fun (k : Nat) => (k ≤ n)) (fun (k : Nat) => [(0, .ref oT), (1, .int (n_rt (n_q cd k))), (2, .int (nI k))]) (nL := 3) ?_ 0 (by omega) _ (lv_sub hl [2, 1, 0] rfl)
  intro k hi_2 ih_1 ls hl
  have ik : k ≤ n := hi_2
  have hl : lv_has ls 3 [(0, .ref oT), (1, .int (n_rt (n_q cd k))), (2, .int (nI k))] := hl
  refine lv_iload_n hx hb dX4_isComplete_4 rfl (lv_at hl 2 rfl) ?_
  refine lv_aload_n hx hb dX4_isComplete_5 rfl (lv_at hl 0 rfl) ?_
  refine va_get (D := (dC, dI)) (ci := 4) (v := .int (nI n)) (C := RX4) (T := TX4) (N := 2) hx hb hts (by decide +kernel) hown hK.1 hP 0 rfl rfl 1 (by decide) (hts (.fieldLink RX4 15 "NoteWatermarks$WireText" "length" "I") (by decide +kernel)) (fun _ h9 => h9) rfl dX4_isComplete_6 ?_
  refine lv_icmp_ge (tgt := 33) hx hb dX4_isComplete_9 (by decide) (fun c_3 => ?_) (fun c_3 => ?_)
  · skip
    have c_3 := kq_leN (a := n) (b := k) c_3 (by omega) (by omega)
    have hxx : k = n ∨ n_q cd k = 8 := Or.inl (by omega)
    refine lv_iload_n hx hb dX4_isComplete_33 rfl (lv_at hl 1 rfl) ?_
    refine lv_iconst (v := 5) hx hb dX4_isComplete_34 (by decide) ?_
    refine lv_icmp_eq (tgt := 44) hx hb dX4_isComplete_35 (by decide) (fun c_4 => ?_) (fun c_4 => ?_)
    · skip
      refine lv_iconst (v := 1) hx hb dX4_isComplete_44 (by decide) ?_
      refine lv_goto (tgt := 49) hx hb dX4_isComplete_45 (by decide) ?_
      exact kq_retz hx hb hr hlocks dX4_isComplete_49 (Or.inr rfl) (by first | rw [if_pos (Or.inl ((n_cmp ik hxx 5 (by decide)).mp (by assumption)))] | rw [if_pos (Or.inr ((n_cmp ik hxx 7 (by decide)).mp (by assumption)))])
    · skip
      refine lv_iload_n hx hb dX4_isComplete_38 rfl (lv_at hl 1 rfl) ?_
      refine lv_bipush (v := 7) hx hb dX4_isComplete_39 (by decide) ?_
      refine lv_icmp_ne (tgt := 48) hx hb dX4_isComplete_41 (by decide) (fun c_5 => ?_) (fun c_5 => ?_)
      · skip
        refine lv_iconst (v := 0) hx hb dX4_isComplete_48 (by decide) ?_
        exact kq_retz hx hb hr hlocks dX4_isComplete_49 (Or.inl rfl) (by rw [if_neg (fun q => q.elim (fun z => absurd ((n_cmp ik hxx 5 (by decide)).mpr z) (by assumption)) (fun z => absurd ((n_cmp ik hxx 7 (by decide)).mpr z) (by assumption)))])
      · skip
        refine lv_iconst (v := 1) hx hb dX4_isComplete_44 (by decide) ?_
        refine lv_goto (tgt := 49) hx hb dX4_isComplete_45 (by decide) ?_
        exact kq_retz hx hb hr hlocks dX4_isComplete_49 (Or.inr rfl) (by first | rw [if_pos (Or.inl ((n_cmp ik hxx 5 (by decide)).mp (by assumption)))] | rw [if_pos (Or.inr ((n_cmp ik hxx 7 (by decide)).mp (by assumption)))])
  · skip
    have c_3 := kq_nleN (a := n) (b := k) c_3 (by omega) (by omega)
    refine lv_iload_n hx hb dX4_isComplete_12 rfl (lv_at hl 1 rfl) ?_
    refine lv_iconst (v := (-1)) hx hb dX4_isComplete_13 (by decide) ?_
    refine lv_icmp_eq (tgt := 33) hx hb dX4_isComplete_14 (by decide) (fun c_6 => ?_) (fun c_6 => ?_)
    · skip
      have hxx : k = n ∨ n_q cd k = 8 := Or.inr ((n_rt_m n_q_le).mp c_6)
      refine lv_iload_n hx hb dX4_isComplete_33 rfl (lv_at hl 1 rfl) ?_
      refine lv_iconst (v := 5) hx hb dX4_isComplete_34 (by decide) ?_
      refine lv_icmp_eq (tgt := 44) hx hb dX4_isComplete_35 (by decide) (fun c_7 => ?_) (fun c_7 => ?_)
      · skip
        refine lv_iconst (v := 1) hx hb dX4_isComplete_44 (by decide) ?_
        refine lv_goto (tgt := 49) hx hb dX4_isComplete_45 (by decide) ?_
        exact kq_retz hx hb hr hlocks dX4_isComplete_49 (Or.inr rfl) (by first | rw [if_pos (Or.inl ((n_cmp ik hxx 5 (by decide)).mp (by assumption)))] | rw [if_pos (Or.inr ((n_cmp ik hxx 7 (by decide)).mp (by assumption)))])
      · skip
        refine lv_iload_n hx hb dX4_isComplete_38 rfl (lv_at hl 1 rfl) ?_
        refine lv_bipush (v := 7) hx hb dX4_isComplete_39 (by decide) ?_
        refine lv_icmp_ne (tgt := 48) hx hb dX4_isComplete_41 (by decide) (fun c_8 => ?_) (fun c_8 => ?_)
        · skip
          refine lv_iconst (v := 0) hx hb dX4_isComplete_48 (by decide) ?_
          exact kq_retz hx hb hr hlocks dX4_isComplete_49 (Or.inl rfl) (by rw [if_neg (fun q => q.elim (fun z => absurd ((n_cmp ik hxx 5 (by decide)).mpr z) (by assumption)) (fun z => absurd ((n_cmp ik hxx 7 (by decide)).mpr z) (by assumption)))])
        · skip
          refine lv_iconst (v := 1) hx hb dX4_isComplete_44 (by decide) ?_
          refine lv_goto (tgt := 49) hx hb dX4_isComplete_45 (by decide) ?_
          exact kq_retz hx hb hr hlocks dX4_isComplete_49 (Or.inr rfl) (by first | rw [if_pos (Or.inl ((n_cmp ik hxx 5 (by decide)).mp (by assumption)))] | rw [if_pos (Or.inr ((n_cmp ik hxx 7 (by decide)).mp (by assumption)))])
    · skip
      have h8 : ¬ n_q cd k = 8 := fun q => c_6 ((n_rt_m n_q_le).mpr q)
      have hq8 : n_q cd k < 8 := by have := n_q_le (cd := cd) (k := k); omega
      refine lv_iload_n hx hb dX4_isComplete_17 rfl (lv_at hl 1 rfl) ?_
      refine kq_top (z := nI (n_q cd k)) (n_rt_n h8) ?_
      refine lv_aload_n hx hb dX4_isComplete_18 rfl (lv_at hl 0 rfl) ?_
      refine lv_iload_n hx hb dX4_isComplete_19 rfl (lv_at hl 2 rfl) ?_
      refine kq_cV (As := [.int (nI k)]) (rest := [.int (nI (n_q cd k))]) ⟨hx, hb, hml, hown, hts⟩ (c_X4_codeAt_n l dC dI cI oT rc n cd k (by first | assumption | omega) (by first | assumption | omega)) (cwV 1 hts gX4_isComplete_X4_codeAt rfl rfl rfl (by decide +kernel) ⟨Nat.le_of_ble_eq_true rfl, Nat.le_of_ble_eq_true rfl⟩) (hP.sub [0, 1] rfl) hK (ci := 4) (q0 := 0) rfl rfl rfl rfl hl.1 rfl (Nat.le_of_ble_eq_true rfl) dX4_isComplete_20 ⟨Nat.le_of_ble_eq_true rfl, Nat.le_of_ble_eq_true rfl⟩ ?_
      refine kq_cS (As := [.int (nI (n_q cd k)), .int (cd k)]) (rest := []) ⟨hx, hb, hml, hown, hts⟩ (c_X4_behind l dC dI cI (n_q cd k) (cd k) (by first | assumption | omega)) (va_cwS 2 hts gX4_isComplete_X4_behind rfl rfl rfl (by decide +kernel) ⟨Nat.le_of_ble_eq_true rfl, Nat.le_of_ble_eq_true rfl⟩) (hP.sub [] rfl) hK rfl hl.1 rfl (Nat.le_of_ble_eq_true rfl) dX4_isComplete_23 ⟨Nat.le_of_ble_eq_true rfl, Nat.le_of_ble_eq_true rfl⟩ ?_
      refine lv_istore_n (lv' := [(1, .int (n_rt (n_nx (n_q cd k) (cd k)))), (0, .ref oT), (2, .int (nI k))]) hx hb dX4_isComplete_26 rfl hl (by decide) rfl (fun ls hl => ?_)
      refine lv_iinc (v := nI (k + 1)) (lv' := [(2, .int (nI (k + 1))), (1, .int (n_rt (n_nx (n_q cd k) (cd k)))), (0, .ref oT)]) hx hb dX4_isComplete_27 hl (k := 2) rfl (nI_1 k) (by decide) rfl (fun ls hl => ?_)
      refine lv_goto (tgt := 4) hx hb dX4_isComplete_30 (by decide) ?_
      exact ih_1 (k + 1) (by omega) (by show n - (k + 1) < n - k; omega) _ (lv_sub hl [2, 1, 0] rfl)
set_option maxHeartbeats 4000000 in
set_option maxRecDepth 100000 in
theorem c_X4_bendPart (l : Launch) (dC : Nat → ClassId) (dI : Nat → Nat → Nat) (cI : ClassId) (sz : Nat) (oT : Nat) (rc : Nat) (n : Nat) (oS : Nat) (rv : Nat) (rs : Nat) (cnt : Int32) (cd : Nat → Int32) (v : Nat → Int32) (k : Nat) (t : Nat) (hn : n ≤ 60) (h5 : k + 5 ≤ n) (e0 : cd k - 48 = nI (n_dg cd k) ∧ n_dg cd k ≤ 2) (e1 : cd (k + 1) - 48 = nI (n_dg cd (k + 1)) ∧ n_dg cd (k + 1) ≤ 5) (e2 : cd (k + 2) - 97 = nI (n_dl cd (k + 2)) ∧ n_dl cd (k + 2) ≤ 15) (ht : t ≤ 9) : Met l yX4_bendPart wsX4_bendPart ({ frames := 2, cells := 0, slots := 0, locals := 42 }) (kq_M dC dI cI [.ref oT, .ref oS, .int (nI k), .int (nI t)] sz [(oT, .inr (4, [.ref rc, .int (nI n)])), (rc, .inl (cI, 60, .inl cd)), (oS, .inr (3, [.ref rv, .ref rs, .int cnt])), (rv, .inl (cI, 385, .inl v))]) (va_Qv (fun (u : Unit) => True) (kq_B dC dI (va_A [(oT, .inr (4, [.ref rc, .int (nI n)])), (rc, .inl (cI, 60, .inl cd)), (oS, .inr (3, [.ref rv, .ref rs, .int cnt])), (rv, .inl (cI, 385, .inl v))] sz) (fun u : Unit => [(oT, .inr (4, [.ref rc, .int (nI n)])), (rc, .inl (cI, 60, .inl cd)), (oS, .inr (3, [.ref rv, .ref rs, .int cnt])), (rv, .inl (cI, 385, .inl (n_bp v (n_dg cd k) (n_dg cd (k + 1)) (n_dl cd (k + 2)) t (n_dw cd k))))])) (va_A [(oT, .inr (4, [.ref rc, .int (nI n)])), (rc, .inl (cI, 60, .inl cd)), (oS, .inr (3, [.ref rv, .ref rs, .int cnt])), (rv, .inl (cI, 385, .inl v))] sz)) 0 0 (va_A [(oT, .inr (4, [.ref rc, .int (nI n)])), (rc, .inl (cI, 60, .inl cd)), (oS, .inr (3, [.ref rv, .ref rs, .int cnt])), (rv, .inl (cI, 385, .inl v))] sz) := by
  refine kq_startM (cc := cX4_bendPart) (maxL := 11) (ret := none) (by decide) rfl (Nat.le_of_ble_eq_true rfl) ?_
  intro p e s m below meth c hx hb hr hml hown hlocks hts hsz hA hP hD hS hK hnm ls hl
  subst hsz
  generalize hAe : va_A [(oT, .inr (4, [.ref rc, .int (nI n)])), (rc, .inl (cI, 60, .inl cd)), (oS, .inr (3, [.ref rv, .ref rs, .int cnt])), (rv, .inl (cI, 385, .inl v))] s.heap.size = A at hA hD hS ⊢
  have hown : s.vm.findClass RX4 = some m.cls := hown
  have hl : lv_has ls 11 [(0, .ref oT), (1, .ref oS), (2, .int (nI k)), (3, .int (nI t))] := hl
  refine lv_aload_n hx hb dX4_bendPart_0 rfl (lv_at hl 0 rfl) ?_
  refine lv_iload_n hx hb dX4_bendPart_1 rfl (lv_at hl 2 rfl) ?_
  refine lv_iconst (v := 0) hx hb dX4_bendPart_2 (by decide) ?_
  refine lv_iadd hx hb dX4_bendPart_3 ?_
  refine kq_top (z := nI (k + 0)) (nI_add k 0) ?_
  refine kq_cV (As := [.int (nI (k + 0))]) (rest := []) ⟨hx, hb, hml, hown, hts⟩ (c_X4_codeAt_n l dC dI cI oT rc n cd (k + 0) (by first | assumption | omega) (by first | assumption | omega)) (cwV 1 hts gX4_bendPart_X4_codeAt rfl rfl rfl (by decide +kernel) ⟨Nat.le_of_ble_eq_true rfl, Nat.le_of_ble_eq_true rfl⟩) (hP.sub [0, 1] rfl) hK (ci := 4) (q0 := 0) rfl rfl rfl rfl hl.1 rfl (Nat.le_of_ble_eq_true rfl) dX4_bendPart_4 ⟨Nat.le_of_ble_eq_true rfl, Nat.le_of_ble_eq_true rfl⟩ ?_
  refine lv_bipush (v := 48) hx hb dX4_bendPart_7 (by decide) ?_
  refine lv_isub hx hb dX4_bendPart_9 ?_
  refine kq_top (z := nI (n_dg cd k)) (e0.1) ?_
  refine lv_istore (lv' := [(4, .int (nI (n_dg cd k))), (0, .ref oT), (1, .ref oS), (2, .int (nI k)), (3, .int (nI t))]) hx hb dX4_bendPart_10 hl (by decide) rfl (fun ls hl => ?_)
  refine lv_aload_n hx hb dX4_bendPart_12 rfl (lv_at hl 1 rfl) ?_
  refine lv_iload_n hx hb dX4_bendPart_13 rfl (lv_at hl 3 rfl) ?_
  refine lv_iconst (v := 1) hx hb dX4_bendPart_14 (by decide) ?_
  refine lv_iadd hx hb dX4_bendPart_15 ?_
  refine kq_top (z := nI (k + 1)) (nI_add k 1) ?_
  refine kq_cV (As := [.int (nI (k + 1))]) (rest := []) ⟨hx, hb, hml, hown, hts⟩ (c_X4_codeAt_n l dC dI cI oT rc n cd (k + 1) (by first | assumption | omega) (by first | assumption | omega)) (cwV 1 hts gX4_bendPart_X4_codeAt rfl rfl rfl (by decide +kernel) ⟨Nat.le_of_ble_eq_true rfl, Nat.le_of_ble_eq_true rfl⟩) (hP.sub [0, 1] rfl) hK (ci := 4) (q0 := 0) rfl rfl rfl rfl hl.1 rfl (Nat.le_of_ble_eq_true rfl) dX4_bendPart_16 ⟨Nat.le_of_ble_eq_true rfl, Nat.le_of_ble_eq_true rfl⟩ ?_
  refine lv_bipush (v := 48) hx hb dX4_bendPart_19 (by decide) ?_
  refine lv_isub hx hb dX4_bendPart_21 ?_
  refine kq_top (z := nI (n_dg cd (k + 1))) (e1.1) ?_
  refine lv_istore (lv' := [(5, .int (nI (n_dg cd (k + 1)))), (4, .int (nI (n_dg cd k))), (0, .ref oT), (1, .ref oS), (2, .int (nI k)), (3, .int (nI t))]) hx hb dX4_bendPart_22 hl (by decide) rfl (fun ls hl => ?_)
  refine lv_aload_n hx hb dX4_bendPart_24 rfl (lv_at hl 2 rfl) ?_
  refine lv_iload_n hx hb dX4_bendPart_25 rfl (lv_at hl 4 rfl) ?_
  refine lv_iconst (v := 2) hx hb dX4_bendPart_26 (by decide) ?_
  refine lv_iadd hx hb dX4_bendPart_27 ?_
  refine kq_top (z := nI (k + 2)) (nI_add k 2) ?_
  refine kq_cV (As := [.int (nI (k + 2))]) (rest := []) ⟨hx, hb, hml, hown, hts⟩ (c_X4_codeAt_n l dC dI cI oT rc n cd (k + 2) (by first | assumption | omega) (by first | assumption | omega)) (cwV 1 hts gX4_bendPart_X4_codeAt rfl rfl rfl (by decide +kernel) ⟨Nat.le_of_ble_eq_true rfl, Nat.le_of_ble_eq_true rfl⟩) (hP.sub [0, 1] rfl) hK (ci := 4) (q0 := 0) rfl rfl rfl rfl hl.1 rfl (Nat.le_of_ble_eq_true rfl) dX4_bendPart_28 ⟨Nat.le_of_ble_eq_true rfl, Nat.le_of_ble_eq_true rfl⟩ ?_
  refine lv_bipush (v := 97) hx hb dX4_bendPart_31 (by decide) ?_
  refine lv_isub hx hb dX4_bendPart_33 ?_
  refine kq_top (z := nI (n_dl cd (k + 2))) (e2.1) ?_
  refine lv_istore (lv' := [(6, .int (nI (n_dl cd (k + 2)))), (5, .int (nI (n_dg cd (k + 1)))), (4, .int (nI (n_dg cd k))), (0, .ref oT), (1, .ref oS), (2, .int (nI k)), (3, .int (nI t))]) hx hb dX4_bendPart_34 hl (by decide) rfl (fun ls hl => ?_)
  refine lv_aload_n hx hb dX4_bendPart_36 rfl (lv_at hl 3 rfl) ?_
  refine lv_iload_n hx hb dX4_bendPart_37 rfl (lv_at hl 5 rfl) ?_
  refine lv_iconst (v := 4) hx hb dX4_bendPart_38 (by decide) ?_
  refine lv_iadd hx hb dX4_bendPart_39 ?_
  refine kq_top (z := nI (k + 4)) (nI_add k 4) ?_
  refine kq_cV (As := [.int (nI (k + 4))]) (rest := []) ⟨hx, hb, hml, hown, hts⟩ (c_X4_codeAt_n l dC dI cI oT rc n cd (k + 4) (by first | assumption | omega) (by first | assumption | omega)) (cwV 1 hts gX4_bendPart_X4_codeAt rfl rfl rfl (by decide +kernel) ⟨Nat.le_of_ble_eq_true rfl, Nat.le_of_ble_eq_true rfl⟩) (hP.sub [0, 1] rfl) hK (ci := 4) (q0 := 0) rfl rfl rfl rfl hl.1 rfl (Nat.le_of_ble_eq_true rfl) dX4_bendPart_40 ⟨Nat.le_of_ble_eq_true rfl, Nat.le_of_ble_eq_true rfl⟩ ?_
  refine lv_bipush (v := 48) hx hb dX4_bendPart_43 (by decide) ?_
  refine lv_isub hx hb dX4_bendPart_45 ?_
  refine lv_istore (lv' := [(7, .int ((cd (k + 4)) - 48)), (6, .int (nI (n_dl cd (k + 2)))), (5, .int (nI (n_dg cd (k + 1)))), (4, .int (nI (n_dg cd k))), (0, .ref oT), (1, .ref oS), (2, .int (nI k)), (3, .int (nI t))]) hx hb dX4_bendPart_46 hl (by decide) rfl (fun ls hl => ?_)
  refine lv_aload_n hx hb dX4_bendPart_48 rfl (lv_at hl 4 rfl) ?_
  refine lv_iload_n hx hb dX4_bendPart_49 rfl (lv_at hl 6 rfl) ?_
  refine lv_iconst (v := 3) hx hb dX4_bendPart_50 (by decide) ?_
  refine lv_iadd hx hb dX4_bendPart_51 ?_
  refine kq_top (z := nI (k + 3)) (nI_add k 3) ?_
  refine kq_cV (As := [.int (nI (k + 3))]) (rest := []) ⟨hx, hb, hml, hown, hts⟩ (c_X4_codeAt_n l dC dI cI oT rc n cd (k + 3) (by first | assumption | omega) (by first | assumption | omega)) (cwV 1 hts gX4_bendPart_X4_codeAt rfl rfl rfl (by decide +kernel) ⟨Nat.le_of_ble_eq_true rfl, Nat.le_of_ble_eq_true rfl⟩) (hP.sub [0, 1] rfl) hK (ci := 4) (q0 := 0) rfl rfl rfl rfl hl.1 rfl (Nat.le_of_ble_eq_true rfl) dX4_bendPart_52 ⟨Nat.le_of_ble_eq_true rfl, Nat.le_of_ble_eq_true rfl⟩ ?_
  refine lv_bipush (v := 45) hx hb dX4_bendPart_55 (by decide) ?_
  refine lv_icmp_ne (tgt := 66) hx hb dX4_bendPart_57 (by decide) (fun c_1 => ?_) (fun c_1 => ?_)
  · skip
    refine lv_iload hx hb dX4_bendPart_66 (lv_at hl 0 rfl) ?_
    refine kq_top (z := n_dw cd k) (by first | exact (if_pos (by assumption)).symm | exact (if_neg (by assumption)).symm) ?_
    refine lv_istore (lv' := [(8, .int (n_dw cd k)), (7, .int ((cd (k + 4)) - 48)), (6, .int (nI (n_dl cd (k + 2)))), (5, .int (nI (n_dg cd (k + 1)))), (4, .int (nI (n_dg cd k))), (0, .ref oT), (1, .ref oS), (2, .int (nI k)), (3, .int (nI t))]) hx hb dX4_bendPart_68 hl (by decide) rfl (fun ls hl => ?_)
    refine lv_iload hx hb dX4_bendPart_70 (lv_at hl 2 rfl) ?_
    refine lv_iload_n hx hb dX4_bendPart_72 rfl (lv_at hl 8 rfl) ?_
    refine lv_iadd hx hb dX4_bendPart_73 ?_
    refine kq_top (z := nI ((n_dl cd (k + 2)) + t)) (nI_add (n_dl cd (k + 2)) t) ?_
    refine lv_bipush (v := 16) hx hb dX4_bendPart_74 (by decide) ?_
    refine va_mmin hx hb (hml.trans hl.1.symm) hown (hts (.methodLink RX4 39 Lib.Math.min.name) (by decide +kernel)) (hts (.static Lib.Math.min.name) (by decide +kernel)) (hts (.initialized "java/lang/Math") (by decide +kernel)) (hts (.code Lib.Math.min.name Lib.Math.min.code 2 (some .int)) (by decide +kernel)) (Nat.le_of_ble_eq_true rfl) (Nat.le_of_ble_eq_true rfl) (Nat.le_of_ble_eq_true rfl) (Nat.le_of_ble_eq_true rfl) dX4_bendPart_76 ?_
    refine kq_top (z := nI (min ((n_dl cd (k + 2)) + t) 16)) (kq_min (a := ((n_dl cd (k + 2)) + t)) (b := 16) (by omega) (by omega)) ?_
    refine lv_istore (lv' := [(9, .int (nI (min ((n_dl cd (k + 2)) + t) 16))), (8, .int (n_dw cd k)), (7, .int ((cd (k + 4)) - 48)), (6, .int (nI (n_dl cd (k + 2)))), (5, .int (nI (n_dg cd (k + 1)))), (4, .int (nI (n_dg cd k))), (0, .ref oT), (1, .ref oS), (2, .int (nI k)), (3, .int (nI t))]) hx hb dX4_bendPart_79 hl (by decide) rfl (fun ls hl => ?_)
    refine lv_iload hx hb dX4_bendPart_81 (lv_at hl 3 rfl) ?_
    refine lv_istore (lv' := [(10, .int (nI (n_dl cd (k + 2)))), (9, .int (nI (min ((n_dl cd (k + 2)) + t) 16))), (8, .int (n_dw cd k)), (7, .int ((cd (k + 4)) - 48)), (6, .int (nI (n_dl cd (k + 2)))), (5, .int (nI (n_dg cd (k + 1)))), (4, .int (nI (n_dg cd k))), (0, .ref oT), (1, .ref oS), (2, .int (nI k)), (3, .int (nI t))]) hx hb dX4_bendPart_83 hl (by decide) rfl (fun ls hl => ?_)
    refine kq_loopM2 (A1 := Nat) (A2 := Nat → Int32) (fun (j : Nat) (g : Nat → Int32) => 16 - j) (fun (j : Nat) (g : Nat → Int32) => (n_dl cd (k + 2) ≤ j ∧ j ≤ min (n_dl cd (k + 2) + t) 16) ∧ (∀ y, g y = if (n_dg cd k * 6 + n_dg cd (k + 1)) * 16 + n_dl cd (k + 2) ≤ y ∧ y < (n_dg cd k * 6 + n_dg cd (k + 1)) * 16 + j then n_dw cd k else v y)) (fun (j : Nat) (g : Nat → Int32) => [(0, .ref oT), (1, .ref oS), (4, .int (nI (n_dg cd k))), (5, .int (nI (n_dg cd (k + 1)))), (8, .int (n_dw cd k)), (9, .int (nI (min (n_dl cd (k + 2) + t) 16))), (10, .int (nI j))]) (fun (j : Nat) (g : Nat → Int32) => [(oT, .inr (4, [.ref rc, .int (nI n)])), (rc, .inl (cI, 60, .inl cd)), (oS, .inr (3, [.ref rv, .ref rs, .int cnt])), (rv, .inl (cI, 385, .inl g))]) (nL := 11) hK ?_ (n_dl cd (k + 2)) v ⟨(by omega), (by intro y; rw [if_neg (by omega)])⟩ hP hD hS _ (lv_sub hl [7, 8, 6, 5, 2, 1, 0] rfl)
    intro j g hi_3 ih_2 H locs hP hD hS ls hl
    obtain ⟨ij, ig⟩ := hi_3
    have hl : lv_has ls 11 [(0, .ref oT), (1, .ref oS), (4, .int (nI (n_dg cd k))), (5, .int (nI (n_dg cd (k + 1)))), (8, .int (n_dw cd k)), (9, .int (nI (min (n_dl cd (k + 2) + t) 16))), (10, .int (nI j))] := hl
    have hP : va_P (dC, dI) vwCl [(oT, .inr (4, [.ref rc, .int (nI n)])), (rc, .inl (cI, 60, .inl cd)), (oS, .inr (3, [.ref rv, .ref rs, .int cnt])), (rv, .inl (cI, 385, .inl g))] H := hP
    have hD : va_D A [(oT, .inr (4, [.ref rc, .int (nI n)])), (rc, .inl (cI, 60, .inl cd)), (oS, .inr (3, [.ref rv, .ref rs, .int cnt])), (rv, .inl (cI, 385, .inl g))] := hD
    refine lv_iload hx hb dX4_bendPart_85 (lv_at hl 6 rfl) ?_
    refine lv_iload hx hb dX4_bendPart_87 (lv_at hl 5 rfl) ?_
    refine lv_icmp_ge (tgt := 113) hx hb dX4_bendPart_89 (by decide) (fun c_4 => ?_) (fun c_4 => ?_)
    · skip
      have c_4 := kq_leN (a := (min (n_dl cd (k + 2) + t) 16)) (b := j) c_4 (by omega) (by omega)
      have hg : g = n_bp v (n_dg cd k) (n_dg cd (k + 1)) (n_dl cd (k + 2)) t (n_dw cd k) := by funext y; rw [ig y, n_bp, show j = min (n_dl cd (k + 2) + t) 16 by omega]
      rw [hg] at hP hD
      exact kq_retMv () hx hb hr hlocks hP hD hS dX4_bendPart_113 (by trivial)
    · skip
      have c_4 := kq_nleN (a := (min (n_dl cd (k + 2) + t) 16)) (b := j) c_4 (by omega) (by omega)
      refine lv_aload_n hx hb dX4_bendPart_92 rfl (lv_at hl 1 rfl) ?_
      refine lv_iload hx hb dX4_bendPart_93 (lv_at hl 2 rfl) ?_
      refine lv_iload hx hb dX4_bendPart_95 (lv_at hl 3 rfl) ?_
      refine lv_iload hx hb dX4_bendPart_97 (lv_at hl 6 rfl) ?_
      refine kq_cS (As := [.int (nI (n_dg cd k)), .int (nI (n_dg cd (k + 1))), .int (nI j)]) (rest := [.ref oS]) ⟨hx, hb, hml, hown, hts⟩ (c_X3_wirePlace l dC dI cI (n_dg cd k) (n_dg cd (k + 1)) j ) (va_cwS 3 hts gX4_bendPart_X3_wirePlace rfl rfl rfl (by decide +kernel) ⟨Nat.le_of_ble_eq_true rfl, Nat.le_of_ble_eq_true rfl⟩) (hP.sub [] rfl) hK rfl hl.1 rfl (Nat.le_of_ble_eq_true rfl) dX4_bendPart_99 ⟨Nat.le_of_ble_eq_true rfl, Nat.le_of_ble_eq_true rfl⟩ ?_
      refine lv_iload hx hb dX4_bendPart_102 (lv_at hl 4 rfl) ?_
      refine kq_callMv (wr := [(oT, .inr (4, [.ref rc, .int (nI n)])), (rc, .inl (cI, 60, .inl cd))]) (va_runV (As := [.int (nI (((n_dg cd k) * 6 + (n_dg cd (k + 1))) * 16 + j)), .int (n_dw cd k)]) (rest := []) ⟨hx, hb, hml, hown, hts⟩ (c_X3_put l dC dI cI H.size oS rv rs cnt g (((n_dg cd k) * 6 + (n_dg cd (k + 1))) * 16 + j) (n_dw cd k) (by first | assumption | omega)) (cwV 2 hts gX4_bendPart_X3_put rfl rfl rfl (by decide +kernel) ⟨Nat.le_of_ble_eq_true rfl, Nat.le_of_ble_eq_true rfl⟩) (kq_preV (ci := 3) (q0 := 0) (hP.sub [2, 3] rfl) (hD.sub [2, 3] (by decide) rfl) hK rfl rfl) rfl rfl hl.1 rfl (lv_room (Nat.le_of_ble_eq_true rfl)) dX4_bendPart_104 ⟨Nat.le_of_ble_eq_true rfl, Nat.le_of_ble_eq_true rfl⟩) hP hD hS hA [2, 3] [0, 1] rfl rfl (by decide) (by decide) (fun u_6 H locs hw_7 hP hD hS => ?_)
      have hP : va_P (dC, dI) vwCl [(oT, .inr (4, [.ref rc, .int (nI n)])), (rc, .inl (cI, 60, .inl cd)), (oS, .inr (3, [.ref rv, .ref rs, .int cnt])), (rv, .inl (cI, 385, .inl (upd g (((n_dg cd k) * 6 + (n_dg cd (k + 1))) * 16 + j) (n_dw cd k))))] H := hP
      have hD : va_D A [(oT, .inr (4, [.ref rc, .int (nI n)])), (rc, .inl (cI, 60, .inl cd)), (oS, .inr (3, [.ref rv, .ref rs, .int cnt])), (rv, .inl (cI, 385, .inl (upd g (((n_dg cd k) * 6 + (n_dg cd (k + 1))) * 16 + j) (n_dw cd k))))] := hD
      refine lv_iinc (v := nI (j + 1)) (lv' := [(10, .int (nI (j + 1))), (0, .ref oT), (1, .ref oS), (4, .int (nI (n_dg cd k))), (5, .int (nI (n_dg cd (k + 1)))), (8, .int (n_dw cd k)), (9, .int (nI (min (n_dl cd (k + 2) + t) 16)))]) hx hb dX4_bendPart_107 hl (k := 6) rfl (nI_1 j) (by decide) rfl (fun ls hl => ?_)
      refine lv_goto (tgt := 85) hx hb dX4_bendPart_110 (by decide) ?_
      exact ih_2 (j + 1) (upd g (((n_dg cd k) * 6 + (n_dg cd (k + 1))) * 16 + j) (n_dw cd k)) ⟨(by omega), (by intro y; by_cases hy : y = (n_dg cd k * 6 + n_dg cd (k + 1)) * 16 + j; subst hy; rw [pk_us, if_pos (by omega)]; rw [pk_un hy, ig y]; split; rw [if_pos (by omega)]; rw [if_neg (by omega)])⟩ (by show 16 - (j + 1) < 16 - j; omega) _ _ hP hD hS _ (lv_sub hl [1, 2, 3, 4, 5, 6, 0] rfl)
  · skip
    refine lv_iload hx hb dX4_bendPart_60 (lv_at hl 0 rfl) ?_
    refine lv_ineg hx hb dX4_bendPart_62 ?_
    refine lv_goto (tgt := 68) hx hb dX4_bendPart_63 (by decide) ?_
    refine kq_top (z := n_dw cd k) (by first | exact (if_pos (by assumption)).symm | exact (if_neg (by assumption)).symm) ?_
    refine lv_istore (lv' := [(8, .int (n_dw cd k)), (7, .int ((cd (k + 4)) - 48)), (6, .int (nI (n_dl cd (k + 2)))), (5, .int (nI (n_dg cd (k + 1)))), (4, .int (nI (n_dg cd k))), (0, .ref oT), (1, .ref oS), (2, .int (nI k)), (3, .int (nI t))]) hx hb dX4_bendPart_68 hl (by decide) rfl (fun ls hl => ?_)
    refine lv_iload hx hb dX4_bendPart_70 (lv_at hl 2 rfl) ?_
    refine lv_iload_n hx hb dX4_bendPart_72 rfl (lv_at hl 8 rfl) ?_
    refine lv_iadd hx hb dX4_bendPart_73 ?_
    refine kq_top (z := nI ((n_dl cd (k + 2)) + t)) (nI_add (n_dl cd (k + 2)) t) ?_
    refine lv_bipush (v := 16) hx hb dX4_bendPart_74 (by decide) ?_
    refine va_mmin hx hb (hml.trans hl.1.symm) hown (hts (.methodLink RX4 39 Lib.Math.min.name) (by decide +kernel)) (hts (.static Lib.Math.min.name) (by decide +kernel)) (hts (.initialized "java/lang/Math") (by decide +kernel)) (hts (.code Lib.Math.min.name Lib.Math.min.code 2 (some .int)) (by decide +kernel)) (Nat.le_of_ble_eq_true rfl) (Nat.le_of_ble_eq_true rfl) (Nat.le_of_ble_eq_true rfl) (Nat.le_of_ble_eq_true rfl) dX4_bendPart_76 ?_
    refine kq_top (z := nI (min ((n_dl cd (k + 2)) + t) 16)) (kq_min (a := ((n_dl cd (k + 2)) + t)) (b := 16) (by omega) (by omega)) ?_
    refine lv_istore (lv' := [(9, .int (nI (min ((n_dl cd (k + 2)) + t) 16))), (8, .int (n_dw cd k)), (7, .int ((cd (k + 4)) - 48)), (6, .int (nI (n_dl cd (k + 2)))), (5, .int (nI (n_dg cd (k + 1)))), (4, .int (nI (n_dg cd k))), (0, .ref oT), (1, .ref oS), (2, .int (nI k)), (3, .int (nI t))]) hx hb dX4_bendPart_79 hl (by decide) rfl (fun ls hl => ?_)
    refine lv_iload hx hb dX4_bendPart_81 (lv_at hl 3 rfl) ?_
    refine lv_istore (lv' := [(10, .int (nI (n_dl cd (k + 2)))), (9, .int (nI (min ((n_dl cd (k + 2)) + t) 16))), (8, .int (n_dw cd k)), (7, .int ((cd (k + 4)) - 48)), (6, .int (nI (n_dl cd (k + 2)))), (5, .int (nI (n_dg cd (k + 1)))), (4, .int (nI (n_dg cd k))), (0, .ref oT), (1, .ref oS), (2, .int (nI k)), (3, .int (nI t))]) hx hb dX4_bendPart_83 hl (by decide) rfl (fun ls hl => ?_)
    refine kq_loopM2 (A1 := Nat) (A2 := Nat → Int32) (fun (j : Nat) (g : Nat → Int32) => 16 - j) (fun (j : Nat) (g : Nat → Int32) => (n_dl cd (k + 2) ≤ j ∧ j ≤ min (n_dl cd (k + 2) + t) 16) ∧ (∀ y, g y = if (n_dg cd k * 6 + n_dg cd (k + 1)) * 16 + n_dl cd (k + 2) ≤ y ∧ y < (n_dg cd k * 6 + n_dg cd (k + 1)) * 16 + j then n_dw cd k else v y)) (fun (j : Nat) (g : Nat → Int32) => [(0, .ref oT), (1, .ref oS), (4, .int (nI (n_dg cd k))), (5, .int (nI (n_dg cd (k + 1)))), (8, .int (n_dw cd k)), (9, .int (nI (min (n_dl cd (k + 2) + t) 16))), (10, .int (nI j))]) (fun (j : Nat) (g : Nat → Int32) => [(oT, .inr (4, [.ref rc, .int (nI n)])), (rc, .inl (cI, 60, .inl cd)), (oS, .inr (3, [.ref rv, .ref rs, .int cnt])), (rv, .inl (cI, 385, .inl g))]) (nL := 11) hK ?_ (n_dl cd (k + 2)) v ⟨(by omega), (by intro y; rw [if_neg (by omega)])⟩ hP hD hS _ (lv_sub hl [7, 8, 6, 5, 2, 1, 0] rfl)
    intro j g hi_9 ih_8 H locs hP hD hS ls hl
    obtain ⟨ij, ig⟩ := hi_9
    have hl : lv_has ls 11 [(0, .ref oT), (1, .ref oS), (4, .int (nI (n_dg cd k))), (5, .int (nI (n_dg cd (k + 1)))), (8, .int (n_dw cd k)), (9, .int (nI (min (n_dl cd (k + 2) + t) 16))), (10, .int (nI j))] := hl
    have hP : va_P (dC, dI) vwCl [(oT, .inr (4, [.ref rc, .int (nI n)])), (rc, .inl (cI, 60, .inl cd)), (oS, .inr (3, [.ref rv, .ref rs, .int cnt])), (rv, .inl (cI, 385, .inl g))] H := hP
    have hD : va_D A [(oT, .inr (4, [.ref rc, .int (nI n)])), (rc, .inl (cI, 60, .inl cd)), (oS, .inr (3, [.ref rv, .ref rs, .int cnt])), (rv, .inl (cI, 385, .inl g))] := hD
    refine lv_iload hx hb dX4_bendPart_85 (lv_at hl 6 rfl) ?_
    refine lv_iload hx hb dX4_bendPart_87 (lv_at hl 5 rfl) ?_
    refine lv_icmp_ge (tgt := 113) hx hb dX4_bendPart_89 (by decide) (fun c_10 => ?_) (fun c_10 => ?_)
    · skip
      have c_10 := kq_leN (a := (min (n_dl cd (k + 2) + t) 16)) (b := j) c_10 (by omega) (by omega)
      have hg : g = n_bp v (n_dg cd k) (n_dg cd (k + 1)) (n_dl cd (k + 2)) t (n_dw cd k) := by funext y; rw [ig y, n_bp, show j = min (n_dl cd (k + 2) + t) 16 by omega]
      rw [hg] at hP hD
      exact kq_retMv () hx hb hr hlocks hP hD hS dX4_bendPart_113 (by trivial)
    · skip
      have c_10 := kq_nleN (a := (min (n_dl cd (k + 2) + t) 16)) (b := j) c_10 (by omega) (by omega)
      refine lv_aload_n hx hb dX4_bendPart_92 rfl (lv_at hl 1 rfl) ?_
      refine lv_iload hx hb dX4_bendPart_93 (lv_at hl 2 rfl) ?_
      refine lv_iload hx hb dX4_bendPart_95 (lv_at hl 3 rfl) ?_
      refine lv_iload hx hb dX4_bendPart_97 (lv_at hl 6 rfl) ?_
      refine kq_cS (As := [.int (nI (n_dg cd k)), .int (nI (n_dg cd (k + 1))), .int (nI j)]) (rest := [.ref oS]) ⟨hx, hb, hml, hown, hts⟩ (c_X3_wirePlace l dC dI cI (n_dg cd k) (n_dg cd (k + 1)) j ) (va_cwS 3 hts gX4_bendPart_X3_wirePlace rfl rfl rfl (by decide +kernel) ⟨Nat.le_of_ble_eq_true rfl, Nat.le_of_ble_eq_true rfl⟩) (hP.sub [] rfl) hK rfl hl.1 rfl (Nat.le_of_ble_eq_true rfl) dX4_bendPart_99 ⟨Nat.le_of_ble_eq_true rfl, Nat.le_of_ble_eq_true rfl⟩ ?_
      refine lv_iload hx hb dX4_bendPart_102 (lv_at hl 4 rfl) ?_
      refine kq_callMv (wr := [(oT, .inr (4, [.ref rc, .int (nI n)])), (rc, .inl (cI, 60, .inl cd))]) (va_runV (As := [.int (nI (((n_dg cd k) * 6 + (n_dg cd (k + 1))) * 16 + j)), .int (n_dw cd k)]) (rest := []) ⟨hx, hb, hml, hown, hts⟩ (c_X3_put l dC dI cI H.size oS rv rs cnt g (((n_dg cd k) * 6 + (n_dg cd (k + 1))) * 16 + j) (n_dw cd k) (by first | assumption | omega)) (cwV 2 hts gX4_bendPart_X3_put rfl rfl rfl (by decide +kernel) ⟨Nat.le_of_ble_eq_true rfl, Nat.le_of_ble_eq_true rfl⟩) (kq_preV (ci := 3) (q0 := 0) (hP.sub [2, 3] rfl) (hD.sub [2, 3] (by decide) rfl) hK rfl rfl) rfl rfl hl.1 rfl (lv_room (Nat.le_of_ble_eq_true rfl)) dX4_bendPart_104 ⟨Nat.le_of_ble_eq_true rfl, Nat.le_of_ble_eq_true rfl⟩) hP hD hS hA [2, 3] [0, 1] rfl rfl (by decide) (by decide) (fun u_12 H locs hw_13 hP hD hS => ?_)
      have hP : va_P (dC, dI) vwCl [(oT, .inr (4, [.ref rc, .int (nI n)])), (rc, .inl (cI, 60, .inl cd)), (oS, .inr (3, [.ref rv, .ref rs, .int cnt])), (rv, .inl (cI, 385, .inl (upd g (((n_dg cd k) * 6 + (n_dg cd (k + 1))) * 16 + j) (n_dw cd k))))] H := hP
      have hD : va_D A [(oT, .inr (4, [.ref rc, .int (nI n)])), (rc, .inl (cI, 60, .inl cd)), (oS, .inr (3, [.ref rv, .ref rs, .int cnt])), (rv, .inl (cI, 385, .inl (upd g (((n_dg cd k) * 6 + (n_dg cd (k + 1))) * 16 + j) (n_dw cd k))))] := hD
      refine lv_iinc (v := nI (j + 1)) (lv' := [(10, .int (nI (j + 1))), (0, .ref oT), (1, .ref oS), (4, .int (nI (n_dg cd k))), (5, .int (nI (n_dg cd (k + 1)))), (8, .int (n_dw cd k)), (9, .int (nI (min (n_dl cd (k + 2) + t) 16)))]) hx hb dX4_bendPart_107 hl (k := 6) rfl (nI_1 j) (by decide) rfl (fun ls hl => ?_)
      refine lv_goto (tgt := 85) hx hb dX4_bendPart_110 (by decide) ?_
      exact ih_8 (j + 1) (upd g (((n_dg cd k) * 6 + (n_dg cd (k + 1))) * 16 + j) (n_dw cd k)) ⟨(by omega), (by intro y; by_cases hy : y = (n_dg cd k * 6 + n_dg cd (k + 1)) * 16 + j; subst hy; rw [pk_us, if_pos (by omega)]; rw [pk_un hy, ig y]; split; rw [if_pos (by omega)]; rw [if_neg (by omega)])⟩ (by show 16 - (j + 1) < 16 - j; omega) _ _ hP hD hS _ (lv_sub hl [1, 2, 3, 4, 5, 6, 0] rfl)
set_option maxHeartbeats 4000000 in
set_option maxRecDepth 100000 in
theorem c_X4_bendWires (l : Launch) (dC : Nat → ClassId) (dI : Nat → Nat → Nat) (cI : ClassId) (sz : Nat) (oT : Nat) (rc : Nat) (n : Nat) (oS : Nat) (rv : Nat) (rs : Nat) (cnt : Int32) (cd : Nat → Int32) (v : Nat → Int32) (hn : n ≤ 60) (hq : n_q cd n = 5 ∨ n_q cd n = 7) : Met l yX4_bendWires wsX4_bendWires ({ frames := 3, cells := 0, slots := 0, locals := 72 }) (kq_M dC dI cI [.ref oT, .ref oS] sz [(oT, .inr (4, [.ref rc, .int (nI n)])), (rc, .inl (cI, 60, .inl cd)), (oS, .inr (3, [.ref rv, .ref rs, .int cnt])), (rv, .inl (cI, 385, .inl v))]) (va_Qv (fun (u : Unit) => True) (kq_B dC dI (va_A [(oT, .inr (4, [.ref rc, .int (nI n)])), (rc, .inl (cI, 60, .inl cd)), (oS, .inr (3, [.ref rv, .ref rs, .int cnt])), (rv, .inl (cI, 385, .inl v))] sz) (fun u : Unit => [(oT, .inr (4, [.ref rc, .int (nI n)])), (rc, .inl (cI, 60, .inl cd)), (oS, .inr (3, [.ref rv, .ref rs, .int cnt])), (rv, .inl (cI, 385, .inl (n_bw cd n 61 0 v)))])) (va_A [(oT, .inr (4, [.ref rc, .int (nI n)])), (rc, .inl (cI, 60, .inl cd)), (oS, .inr (3, [.ref rv, .ref rs, .int cnt])), (rv, .inl (cI, 385, .inl v))] sz)) 0 0 (va_A [(oT, .inr (4, [.ref rc, .int (nI n)])), (rc, .inl (cI, 60, .inl cd)), (oS, .inr (3, [.ref rv, .ref rs, .int cnt])), (rv, .inl (cI, 385, .inl v))] sz) := by
  refine kq_startM (cc := cX4_bendWires) (maxL := 4) (ret := none) (by decide) rfl (Nat.le_of_ble_eq_true rfl) ?_
  intro p e s m below meth c hx hb hr hml hown hlocks hts hsz hA hP hD hS hK hnm ls hl
  subst hsz
  generalize hAe : va_A [(oT, .inr (4, [.ref rc, .int (nI n)])), (rc, .inl (cI, 60, .inl cd)), (oS, .inr (3, [.ref rv, .ref rs, .int cnt])), (rv, .inl (cI, 385, .inl v))] s.heap.size = A at hA hD hS ⊢
  have hown : s.vm.findClass RX4 = some m.cls := hown
  have hl : lv_has ls 4 [(0, .ref oT), (1, .ref oS)] := hl
  refine lv_iconst (v := 0) hx hb dX4_bendWires_0 (by decide) ?_
  refine lv_istore_n (lv' := [(2, .int 0), (0, .ref oT), (1, .ref oS)]) hx hb dX4_bendWires_1 rfl hl (by decide) rfl (fun ls hl => ?_)
  refine kq_loopM3 (A1 := Nat) (A2 := Nat) (A3 := Nat → Int32) (fun (k : Nat) (f : Nat) (u : Nat → Int32) => n - k) (fun (k : Nat) (f : Nat) (u : Nat → Int32) => (k ≤ n + 1 ∧ n < k + f) ∧ (k < n → n_q cd k = 0) ∧ (n_bw cd n f k u = n_bw cd n 61 0 v)) (fun (k : Nat) (f : Nat) (u : Nat → Int32) => [(0, .ref oT), (1, .ref oS), (2, .int (nI k))]) (fun (k : Nat) (f : Nat) (u : Nat → Int32) => [(oT, .inr (4, [.ref rc, .int (nI n)])), (rc, .inl (cI, 60, .inl cd)), (oS, .inr (3, [.ref rv, .ref rs, .int cnt])), (rv, .inl (cI, 385, .inl u))]) (nL := 4) hK ?_ 0 61 v ⟨(by omega), (by exact fun _ => rfl), (by rfl)⟩ hP hD hS _ (lv_sub hl [1, 2, 0] rfl)
  intro k f u hi_2 ih_1 H locs hP hD hS ls hl
  obtain ⟨ik, iq, ig⟩ := hi_2
  have hl : lv_has ls 4 [(0, .ref oT), (1, .ref oS), (2, .int (nI k))] := hl
  have hP : va_P (dC, dI) vwCl [(oT, .inr (4, [.ref rc, .int (nI n)])), (rc, .inl (cI, 60, .inl cd)), (oS, .inr (3, [.ref rv, .ref rs, .int cnt])), (rv, .inl (cI, 385, .inl u))] H := hP
  have hD : va_D A [(oT, .inr (4, [.ref rc, .int (nI n)])), (rc, .inl (cI, 60, .inl cd)), (oS, .inr (3, [.ref rv, .ref rs, .int cnt])), (rv, .inl (cI, 385, .inl u))] := hD
  refine lv_iload_n hx hb dX4_bendWires_2 rfl (lv_at hl 2 rfl) ?_
  refine lv_aload_n hx hb dX4_bendWires_3 rfl (lv_at hl 0 rfl) ?_
  refine va_get (D := (dC, dI)) (ci := 4) (v := .int (nI n)) (C := RX4) (T := TX4) (N := 2) hx hb hts (by decide +kernel) hown hK.1 hP 0 rfl rfl 1 (by decide) (hts (.fieldLink RX4 15 "NoteWatermarks$WireText" "length" "I") (by decide +kernel)) (fun _ h9 => h9) rfl dX4_bendWires_4 ?_
  refine lv_icmp_ge (tgt := 71) hx hb dX4_bendWires_7 (by decide) (fun c_3 => ?_) (fun c_3 => ?_)
  · skip
    have c_3 := kq_leN (a := n) (b := k) c_3 (by omega) (by omega)
    have hu : u = n_bw cd n 61 0 v := by rw [← ig]; cases f with | zero => rfl | succ f => rw [n_bw, if_neg (by omega)]
    rw [hu] at hP hD
    exact kq_retMv () hx hb hr hlocks hP hD hS dX4_bendWires_71 (by trivial)
  · skip
    have c_3 := kq_nleN (a := n) (b := k) c_3 (by omega) (by omega)
    have hb1 := n_part hq (show k < n by omega) (iq (by omega))
    obtain ⟨h5, e0, e1, e2, hq5⟩ := hb1
    have hb2 := n_part2 hq hq5 h5
    refine lv_aload_n hx hb dX4_bendWires_10 rfl (lv_at hl 0 rfl) ?_
    refine lv_iload_n hx hb dX4_bendWires_11 rfl (lv_at hl 2 rfl) ?_
    refine lv_iconst (v := 5) hx hb dX4_bendWires_12 (by decide) ?_
    refine lv_iadd hx hb dX4_bendWires_13 ?_
    refine kq_top (z := nI (k + 5)) (nI_add k 5) ?_
    refine kq_cV (As := [.int (nI (k + 5))]) (rest := []) ⟨hx, hb, hml, hown, hts⟩ (c_X4_codeAt l dC dI cI oT rc n cd (k + 5) (by first | assumption | omega) (by first | assumption | omega)) (cwV 1 hts gX4_bendWires_X4_codeAt rfl rfl rfl (by decide +kernel) ⟨Nat.le_of_ble_eq_true rfl, Nat.le_of_ble_eq_true rfl⟩) (hP.sub [0, 1] rfl) hK (ci := 4) (q0 := 0) rfl rfl rfl rfl hl.1 rfl (Nat.le_of_ble_eq_true rfl) dX4_bendWires_14 ⟨Nat.le_of_ble_eq_true rfl, Nat.le_of_ble_eq_true rfl⟩ ?_
    refine lv_bipush (v := 42) hx hb dX4_bendWires_17 (by decide) ?_
    refine lv_icmp_ne (tgt := 26) hx hb dX4_bendWires_19 (by decide) (fun c_4 => ?_) (fun c_4 => ?_)
    · skip
      have h42 : ¬ n_at cd n (k + 5) = 42 := c_4
      refine lv_iconst (v := 0) hx hb dX4_bendWires_26 (by decide) ?_
      refine lv_istore_n (lv' := [(3, .int 0), (0, .ref oT), (1, .ref oS), (2, .int (nI k))]) hx hb dX4_bendWires_27 rfl hl (by decide) rfl (fun ls hl => ?_)
      refine lv_aload_n hx hb dX4_bendWires_28 rfl (lv_at hl 1 rfl) ?_
      refine lv_aload_n hx hb dX4_bendWires_29 rfl (lv_at hl 2 rfl) ?_
      refine lv_iload_n hx hb dX4_bendWires_30 rfl (lv_at hl 3 rfl) ?_
      refine lv_iload_n hx hb dX4_bendWires_31 rfl (lv_at hl 0 rfl) ?_
      refine lv_if_eq (tgt := 49) hx hb dX4_bendWires_32 (by decide) (fun _ => ?_) (fun q => absurd q (by decide))
      refine lv_iconst (v := 1) hx hb dX4_bendWires_49 (by decide) ?_
      refine kq_callMv (wr := []) (va_runV (As := [.ref oS, .int (nI k), .int 1]) (rest := []) ⟨hx, hb, hml, hown, hts⟩ (c_X4_bendPart l dC dI cI H.size oT rc n oS rv rs cnt cd u k 1 (by first | assumption | omega) (by first | assumption | omega) (by first | assumption | omega) (by first | assumption | omega) (by first | assumption | omega) (by first | assumption | omega)) (cwV 3 hts gX4_bendWires_X4_bendPart rfl rfl rfl (by decide +kernel) ⟨Nat.le_of_ble_eq_true rfl, Nat.le_of_ble_eq_true rfl⟩) (kq_preV (ci := 4) (q0 := 0) (hP.sub [0, 1, 2, 3] rfl) (hD.sub [0, 1, 2, 3] (by decide) rfl) hK rfl rfl) rfl rfl hl.1 rfl (lv_room (Nat.le_of_ble_eq_true rfl)) dX4_bendWires_50 ⟨Nat.le_of_ble_eq_true rfl, Nat.le_of_ble_eq_true rfl⟩) hP hD hS hA [0, 1, 2, 3] [] rfl rfl (by decide) (by decide) (fun u_7 H locs hw_8 hP hD hS => ?_)
      have hP : va_P (dC, dI) vwCl [(oT, .inr (4, [.ref rc, .int (nI n)])), (rc, .inl (cI, 60, .inl cd)), (oS, .inr (3, [.ref rv, .ref rs, .int cnt])), (rv, .inl (cI, 385, .inl (n_bp u (n_dg cd k) (n_dg cd (k + 1)) (n_dl cd (k + 2)) 1 (n_dw cd k))))] H := hP
      have hD : va_D A [(oT, .inr (4, [.ref rc, .int (nI n)])), (rc, .inl (cI, 60, .inl cd)), (oS, .inr (3, [.ref rv, .ref rs, .int cnt])), (rv, .inl (cI, 385, .inl (n_bp u (n_dg cd k) (n_dg cd (k + 1)) (n_dl cd (k + 2)) 1 (n_dw cd k))))] := hD
      refine lv_iload_n hx hb dX4_bendWires_53 rfl (lv_at hl 3 rfl) ?_
      refine lv_iload_n hx hb dX4_bendWires_54 rfl (lv_at hl 0 rfl) ?_
      refine lv_if_eq (tgt := 63) hx hb dX4_bendWires_55 (by decide) (fun _ => ?_) (fun q => absurd q (by decide))
      refine lv_iconst (v := 5) hx hb dX4_bendWires_63 (by decide) ?_
      refine lv_iconst (v := 1) hx hb dX4_bendWires_64 (by decide) ?_
      refine lv_iadd hx hb dX4_bendWires_65 ?_
      refine kq_top (z := nI (5 + 1)) (nI_add 5 1) ?_
      refine lv_iadd hx hb dX4_bendWires_66 ?_
      refine kq_top (z := nI (k + (5 + 1))) (nI_add k (5 + 1)) ?_
      refine lv_istore_n (lv' := [(2, .int (nI (k + (5 + 1)))), (3, .int 0), (0, .ref oT), (1, .ref oS)]) hx hb dX4_bendWires_67 rfl hl (by decide) rfl (fun ls hl => ?_)
      refine lv_goto (tgt := 2) hx hb dX4_bendWires_68 (by decide) ?_
      exact ih_1 (k + (5 + 1)) (f - 1) (n_bp u (n_dg cd k) (n_dg cd (k + 1)) (n_dl cd (k + 2)) 1 (n_dw cd k)) ⟨(by omega), (by intro q; first | exact hb2.1 h42 |>.2.2.2.2.2.2 (by omega) | exact hb2.2 h42 (by omega)), (by rw [← ig, show f = (f - 1) + 1 by omega, n_bw, if_pos (show k < n by omega)]; first | rw [if_pos h42, n_dt, if_pos h42]; rfl | rw [if_neg h42, n_dt, if_neg h42]; rfl)⟩ (by show n - (k + (5 + 1)) < n - k; omega) _ _ hP hD hS _ (lv_sub hl [2, 3, 0] rfl)
    · skip
      have h42 : n_at cd n (k + 5) = 42 := c_4
      obtain ⟨g1, g2, g3, g4, g5, g6, g7⟩ := hb2.1 h42
      refine lv_iconst (v := 1) hx hb dX4_bendWires_22 (by decide) ?_
      refine lv_goto (tgt := 27) hx hb dX4_bendWires_23 (by decide) ?_
      refine lv_istore_n (lv' := [(3, .int 1), (0, .ref oT), (1, .ref oS), (2, .int (nI k))]) hx hb dX4_bendWires_27 rfl hl (by decide) rfl (fun ls hl => ?_)
      refine lv_aload_n hx hb dX4_bendWires_28 rfl (lv_at hl 1 rfl) ?_
      refine lv_aload_n hx hb dX4_bendWires_29 rfl (lv_at hl 2 rfl) ?_
      refine lv_iload_n hx hb dX4_bendWires_30 rfl (lv_at hl 3 rfl) ?_
      refine lv_iload_n hx hb dX4_bendWires_31 rfl (lv_at hl 0 rfl) ?_
      refine lv_if_eq (tgt := 49) hx hb dX4_bendWires_32 (by decide) (fun q => absurd q (by decide)) (fun _ => ?_)
      refine lv_aload_n hx hb dX4_bendWires_35 rfl (lv_at hl 1 rfl) ?_
      refine lv_iload_n hx hb dX4_bendWires_36 rfl (lv_at hl 3 rfl) ?_
      refine lv_bipush (v := 6) hx hb dX4_bendWires_37 (by decide) ?_
      refine lv_iadd hx hb dX4_bendWires_39 ?_
      refine kq_top (z := nI (k + 6)) (nI_add k 6) ?_
      refine kq_cV (As := [.int (nI (k + 6))]) (rest := [.int (nI k), .ref oS, .ref oT]) ⟨hx, hb, hml, hown, hts⟩ (c_X4_codeAt_n l dC dI cI oT rc n cd (k + 6) (by first | assumption | omega) (by first | assumption | omega)) (cwV 1 hts gX4_bendWires_X4_codeAt rfl rfl rfl (by decide +kernel) ⟨Nat.le_of_ble_eq_true rfl, Nat.le_of_ble_eq_true rfl⟩) (hP.sub [0, 1] rfl) hK (ci := 4) (q0 := 0) rfl rfl rfl rfl hl.1 rfl (Nat.le_of_ble_eq_true rfl) dX4_bendWires_40 ⟨Nat.le_of_ble_eq_true rfl, Nat.le_of_ble_eq_true rfl⟩ ?_
      refine lv_bipush (v := 48) hx hb dX4_bendWires_43 (by decide) ?_
      refine lv_isub hx hb dX4_bendWires_45 ?_
      refine kq_top (z := nI (n_dg cd (k + 6))) ((hb2.1 h42).2.1) ?_
      refine lv_goto (tgt := 50) hx hb dX4_bendWires_46 (by decide) ?_
      refine kq_callMv (wr := []) (va_runV (As := [.ref oS, .int (nI k), .int (nI (n_dg cd (k + 6)))]) (rest := []) ⟨hx, hb, hml, hown, hts⟩ (c_X4_bendPart l dC dI cI H.size oT rc n oS rv rs cnt cd u k (n_dg cd (k + 6)) (by first | assumption | omega) (by first | assumption | omega) (by first | assumption | omega) (by first | assumption | omega) (by first | assumption | omega) (by first | assumption | omega)) (cwV 3 hts gX4_bendWires_X4_bendPart rfl rfl rfl (by decide +kernel) ⟨Nat.le_of_ble_eq_true rfl, Nat.le_of_ble_eq_true rfl⟩) (kq_preV (ci := 4) (q0 := 0) (hP.sub [0, 1, 2, 3] rfl) (hD.sub [0, 1, 2, 3] (by decide) rfl) hK rfl rfl) rfl rfl hl.1 rfl (lv_room (Nat.le_of_ble_eq_true rfl)) dX4_bendWires_50 ⟨Nat.le_of_ble_eq_true rfl, Nat.le_of_ble_eq_true rfl⟩) hP hD hS hA [0, 1, 2, 3] [] rfl rfl (by decide) (by decide) (fun u_12 H locs hw_13 hP hD hS => ?_)
      have hP : va_P (dC, dI) vwCl [(oT, .inr (4, [.ref rc, .int (nI n)])), (rc, .inl (cI, 60, .inl cd)), (oS, .inr (3, [.ref rv, .ref rs, .int cnt])), (rv, .inl (cI, 385, .inl (n_bp u (n_dg cd k) (n_dg cd (k + 1)) (n_dl cd (k + 2)) (n_dg cd (k + 6)) (n_dw cd k))))] H := hP
      have hD : va_D A [(oT, .inr (4, [.ref rc, .int (nI n)])), (rc, .inl (cI, 60, .inl cd)), (oS, .inr (3, [.ref rv, .ref rs, .int cnt])), (rv, .inl (cI, 385, .inl (n_bp u (n_dg cd k) (n_dg cd (k + 1)) (n_dl cd (k + 2)) (n_dg cd (k + 6)) (n_dw cd k))))] := hD
      refine lv_iload_n hx hb dX4_bendWires_53 rfl (lv_at hl 3 rfl) ?_
      refine lv_iload_n hx hb dX4_bendWires_54 rfl (lv_at hl 0 rfl) ?_
      refine lv_if_eq (tgt := 63) hx hb dX4_bendWires_55 (by decide) (fun q => absurd q (by decide)) (fun _ => ?_)
      refine lv_bipush (v := 7) hx hb dX4_bendWires_58 (by decide) ?_
      refine lv_goto (tgt := 64) hx hb dX4_bendWires_60 (by decide) ?_
      refine lv_iconst (v := 1) hx hb dX4_bendWires_64 (by decide) ?_
      refine lv_iadd hx hb dX4_bendWires_65 ?_
      refine kq_top (z := nI (7 + 1)) (nI_add 7 1) ?_
      refine lv_iadd hx hb dX4_bendWires_66 ?_
      refine kq_top (z := nI (k + (7 + 1))) (nI_add k (7 + 1)) ?_
      refine lv_istore_n (lv' := [(2, .int (nI (k + (7 + 1)))), (3, .int 1), (0, .ref oT), (1, .ref oS)]) hx hb dX4_bendWires_67 rfl hl (by decide) rfl (fun ls hl => ?_)
      refine lv_goto (tgt := 2) hx hb dX4_bendWires_68 (by decide) ?_
      exact ih_1 (k + (7 + 1)) (f - 1) (n_bp u (n_dg cd k) (n_dg cd (k + 1)) (n_dl cd (k + 2)) (n_dg cd (k + 6)) (n_dw cd k)) ⟨(by omega), (by intro q; first | exact hb2.1 h42 |>.2.2.2.2.2.2 (by omega) | exact hb2.2 h42 (by omega)), (by rw [← ig, show f = (f - 1) + 1 by omega, n_bw, if_pos (show k < n by omega)]; first | rw [if_pos h42, n_dt, if_pos h42]; rfl | rw [if_neg h42, n_dt, if_neg h42]; rfl)⟩ (by show n - (k + (7 + 1)) < n - k; omega) _ _ hP hD hS _ (lv_sub hl [2, 3, 0] rfl)
