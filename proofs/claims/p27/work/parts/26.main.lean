set_option maxHeartbeats 4000000 in
set_option maxRecDepth 100000 in
theorem c_X5_modulo_i (l : Launch) (dC : Nat → ClassId) (dI : Nat → Nat → Nat) (cI : ClassId) (x : Int32) (d : Nat) (t : Nat) (hd0 : 0 < d) (hd9 : d < 2 ^ 30) (ht : x.toInt % (d : Int) = t) : Met l yX5_modulo wsX5_modulo ({ frames := 0, cells := 0, slots := 0, locals := 0 }) (kq_R dC dI cI [.int x, .int (nI d)] []) (QcRead (nI t)) 0 0 (fun _ => False) := by
  refine kq_start (cc := cX5_modulo) (maxL := 3) (ret := (some .int)) (plainFor_of_name (by decide)) rfl (Nat.le_of_ble_eq_true rfl) ?_
  intro p e s m below meth c hx hb hr hml hown hlocks hts hP hK ls hl
  have hown : s.vm.findClass RX5 = some m.cls := hown
  have hl : lv_has ls 3 [(0, .int x), (1, .int (nI d))] := hl
  refine lv_iload_n hx hb dX5_modulo_0 rfl (lv_at hl 1 rfl) ?_
  refine lv_iconst (v := 1) hx hb dX5_modulo_1 (by decide) ?_
  refine lv_icmp_ge (tgt := 7) hx hb dX5_modulo_2 (by decide) (fun c_1 => ?_) (fun c_1 => ?_)
  · skip
    have c_1 := kq_leN (a := 1) (b := d) c_1 (by omega) (by omega)
    refine lv_iload_n hx hb dX5_modulo_7 rfl (lv_at hl 0 rfl) ?_
    refine lv_iload_n hx hb dX5_modulo_8 rfl (lv_at hl 1 rfl) ?_
    refine lv_irem hx hb dX5_modulo_9 (nI_ne0 hd0 (by omega)) ?_
    refine lv_istore_n (lv' := [(2, .int (x - x / (nI d) * (nI d))), (0, .int x), (1, .int (nI d))]) hx hb dX5_modulo_10 rfl hl (by decide) rfl (fun ls hl => ?_)
    refine lv_iload_n hx hb dX5_modulo_11 rfl (lv_at hl 0 rfl) ?_
    refine lv_if_ge (tgt := 21) hx hb dX5_modulo_12 (by decide) (fun c_2 => ?_) (fun c_2 => ?_)
    · skip
      refine lv_iload_n hx hb dX5_modulo_21 rfl (lv_at hl 0 rfl) ?_
      exact kq_ret hx hb hr hlocks dX5_modulo_22 (by first | exact kq_mod1 hd0 hd9 ht (by assumption) | exact kq_mod2 hd0 hd9 ht (by assumption))
    · skip
      refine lv_iload_n hx hb dX5_modulo_15 rfl (lv_at hl 0 rfl) ?_
      refine lv_iload_n hx hb dX5_modulo_16 rfl (lv_at hl 2 rfl) ?_
      refine lv_iadd hx hb dX5_modulo_17 ?_
      refine lv_goto (tgt := 22) hx hb dX5_modulo_18 (by decide) ?_
      exact kq_ret hx hb hr hlocks dX5_modulo_22 (by first | exact kq_mod1 hd0 hd9 ht (by assumption) | exact kq_mod2 hd0 hd9 ht (by assumption))
  · skip
    have c_1 := kq_nleN (a := 1) (b := d) c_1 (by omega) (by omega)
    exact absurd c_1 (by omega)
set_option maxHeartbeats 4000000 in
set_option maxRecDepth 100000 in
theorem c_X2_turnTo_i (l : Launch) (dC : Nat → ClassId) (dI : Nat → Nat → Nat) (cI : ClassId) (sz : Nat) (oR : Nat) (oS : Nat) (rv : Nat) (rs : Nat) (cnt : Int32) (v : Nat → Int32) (a : Nat) (t : Nat) (q : Nat) (x : Int32) (ha : a < 3) (hq : v (288 + a) = nI q) (hq1 : 0 < q ∧ q < 32768) (ht : x.toInt % (q : Int) = t) : Met l yX2_turnTo wsX2_turnTo ({ frames := 1, cells := 0, slots := 0, locals := 22 }) (kq_M dC dI cI [.ref oR, .int (nI a), .int x] sz [(oR, .inr (2, [.ref oS])), (oS, .inr (3, [.ref rv, .ref rs, .int cnt])), (rv, .inl (cI, 385, .inl v))]) (va_Qv (fun (u : Unit) => True) (kq_B dC dI (va_A [(oR, .inr (2, [.ref oS])), (oS, .inr (3, [.ref rv, .ref rs, .int cnt])), (rv, .inl (cI, 385, .inl v))] sz) (fun u : Unit => [(oR, .inr (2, [.ref oS])), (oS, .inr (3, [.ref rv, .ref rs, .int cnt])), (rv, .inl (cI, 385, .inl (upd v (291 + a) (nI t))))])) (va_A [(oR, .inr (2, [.ref oS])), (oS, .inr (3, [.ref rv, .ref rs, .int cnt])), (rv, .inl (cI, 385, .inl v))] sz)) 0 0 (va_A [(oR, .inr (2, [.ref oS])), (oS, .inr (3, [.ref rv, .ref rs, .int cnt])), (rv, .inl (cI, 385, .inl v))] sz) := by
  refine kq_startM (cc := cX2_turnTo) (maxL := 4) (ret := none) (by decide) rfl (Nat.le_of_ble_eq_true rfl) ?_
  intro p e s m below meth c hx hb hr hml hown hlocks hts hsz hA hP hD hS hK hnm ls hl
  subst hsz
  generalize hAe : va_A [(oR, .inr (2, [.ref oS])), (oS, .inr (3, [.ref rv, .ref rs, .int cnt])), (rv, .inl (cI, 385, .inl v))] s.heap.size = A at hA hD hS ⊢
  have hown : s.vm.findClass RX2 = some m.cls := hown
  have hl : lv_has ls 4 [(0, .ref oR), (1, .int (nI a)), (2, .int x)] := hl
  refine lv_aload_n hx hb dX2_turnTo_0 rfl (lv_at hl 0 rfl) ?_
  refine va_get (D := (dC, dI)) (ci := 2) (v := .ref oS) (C := RX2) (T := TX2) (N := 1) hx hb hts (by decide +kernel) hown hK.1 hP 0 rfl rfl 0 (by decide) (hts (.fieldLink RX2 9 "NoteWatermarks$Rolls" "state" "LNoteWatermarks$State;") (by decide +kernel)) (fun _ h9 => h9) rfl dX2_turnTo_1 ?_
  refine lv_iload_n hx hb dX2_turnTo_4 rfl (lv_at hl 1 rfl) ?_
  refine kq_cS (As := [.int (nI a)]) (rest := [.ref oS]) ⟨hx, hb, hml, hown, hts⟩ (c_X3_circumferencePlace l dC dI cI a ) (va_cwS 1 hts gX2_turnTo_X3_circumferencePlace rfl rfl rfl (by decide +kernel) ⟨Nat.le_of_ble_eq_true rfl, Nat.le_of_ble_eq_true rfl⟩) (hP.sub [] rfl) hK rfl hl.1 rfl (Nat.le_of_ble_eq_true rfl) dX2_turnTo_5 ⟨Nat.le_of_ble_eq_true rfl, Nat.le_of_ble_eq_true rfl⟩ ?_
  refine kq_cV (As := [.int (nI (288 + a))]) (rest := []) ⟨hx, hb, hml, hown, hts⟩ (c_X3_at l dC dI cI oS rv rs cnt v (288 + a) (by first | assumption | omega)) (cwV 1 hts gX2_turnTo_X3_at rfl rfl rfl (by decide +kernel) ⟨Nat.le_of_ble_eq_true rfl, Nat.le_of_ble_eq_true rfl⟩) (hP.sub [1, 2] rfl) hK (ci := 3) (q0 := 0) rfl rfl rfl rfl hl.1 rfl (Nat.le_of_ble_eq_true rfl) dX2_turnTo_8 ⟨Nat.le_of_ble_eq_true rfl, Nat.le_of_ble_eq_true rfl⟩ ?_
  refine kq_top (z := nI q) (hq) ?_
  refine lv_istore_n (lv' := [(3, .int (nI q)), (0, .ref oR), (1, .int (nI a)), (2, .int x)]) hx hb dX2_turnTo_11 rfl hl (by decide) rfl (fun ls hl => ?_)
  refine lv_aload_n hx hb dX2_turnTo_12 rfl (lv_at hl 1 rfl) ?_
  refine va_get (D := (dC, dI)) (ci := 2) (v := .ref oS) (C := RX2) (T := TX2) (N := 1) hx hb hts (by decide +kernel) hown hK.1 hP 0 rfl rfl 0 (by decide) (hts (.fieldLink RX2 9 "NoteWatermarks$Rolls" "state" "LNoteWatermarks$State;") (by decide +kernel)) (fun _ h9 => h9) rfl dX2_turnTo_13 ?_
  refine lv_iload_n hx hb dX2_turnTo_16 rfl (lv_at hl 2 rfl) ?_
  refine kq_cS (As := [.int (nI a)]) (rest := [.ref oS]) ⟨hx, hb, hml, hown, hts⟩ (c_X3_phasePlace l dC dI cI a ) (va_cwS 1 hts gX2_turnTo_X3_phasePlace rfl rfl rfl (by decide +kernel) ⟨Nat.le_of_ble_eq_true rfl, Nat.le_of_ble_eq_true rfl⟩) (hP.sub [] rfl) hK rfl hl.1 rfl (Nat.le_of_ble_eq_true rfl) dX2_turnTo_17 ⟨Nat.le_of_ble_eq_true rfl, Nat.le_of_ble_eq_true rfl⟩ ?_
  refine lv_iload_n hx hb dX2_turnTo_20 rfl (lv_at hl 3 rfl) ?_
  refine lv_iload_n hx hb dX2_turnTo_21 rfl (lv_at hl 0 rfl) ?_
  refine kq_cN (As := [.int x, .int (nI q)]) (rest := [.int (nI (291 + a)), .ref oS]) ⟨hx, hb, hml, hown, hts⟩ (c_X5_modulo_i l dC dI cI x q t (by first | assumption | omega) (by first | assumption | omega) (by first | assumption | omega)) (va_cnB (own := RX2) (host := RX5) (index := 27) (y := yX5_modulo) 2 hts gX2_turnTo_X5_modulo_n27 rfl rfl rfl (hK.2 _ (by simp [kq_nest])) (hts (.initialized RX5) (by decide +kernel)) (by decide +kernel) ⟨Nat.le_of_ble_eq_true rfl, Nat.le_of_ble_eq_true rfl⟩) (hts (.static yX5_modulo) (by decide +kernel)) (hP.sub [] rfl) hK rfl hl.1 rfl (Nat.le_of_ble_eq_true rfl) dX2_turnTo_22 ⟨Nat.le_of_ble_eq_true rfl, Nat.le_of_ble_eq_true rfl⟩ ?_
  refine kq_callMv (wr := [(oR, .inr (2, [.ref oS]))]) (va_runV (As := [.int (nI (291 + a)), .int (nI t)]) (rest := []) ⟨hx, hb, hml, hown, hts⟩ (c_X3_put l dC dI cI s.heap.size oS rv rs cnt v (291 + a) (nI t) (by first | assumption | omega)) (cwV 2 hts gX2_turnTo_X3_put rfl rfl rfl (by decide +kernel) ⟨Nat.le_of_ble_eq_true rfl, Nat.le_of_ble_eq_true rfl⟩) (kq_preV (ci := 3) (q0 := 0) (hP.sub [1, 2] rfl) (hD.sub [1, 2] (by decide) rfl) hK rfl rfl) rfl rfl hl.1 rfl (lv_room (Nat.le_of_ble_eq_true rfl)) dX2_turnTo_25 ⟨Nat.le_of_ble_eq_true rfl, Nat.le_of_ble_eq_true rfl⟩) hP hD hS hA [1, 2] [0] rfl rfl (by decide) (by decide) (fun u_2 H locs hw_3 hP hD hS => ?_)
  have hP : va_P (dC, dI) vwCl [(oR, .inr (2, [.ref oS])), (oS, .inr (3, [.ref rv, .ref rs, .int cnt])), (rv, .inl (cI, 385, .inl (upd v (291 + a) (nI t))))] H := hP
  have hD : va_D A [(oR, .inr (2, [.ref oS])), (oS, .inr (3, [.ref rv, .ref rs, .int cnt])), (rv, .inl (cI, 385, .inl (upd v (291 + a) (nI t))))] := hD
  exact kq_retMv () hx hb hr hlocks hP hD hS dX2_turnTo_28 (by trivial)
set_option maxHeartbeats 4000000 in
set_option maxRecDepth 100000 in
theorem c_X5_needPlace (l : Launch) (dC : Nat → ClassId) (dI : Nat → Nat → Nat) (cI : ClassId) (sz : Nat)   : Met l yX5_needPlace wsX5_needPlace ({ frames := 0, cells := 0, slots := 0, locals := 0 }) (kq_M dC dI cI [.int 1] sz []) (va_Qv (fun (u : Unit) => True) (kq_B dC dI (va_A [] sz) (fun u : Unit => [])) (va_A [] sz)) 0 0 (va_A [] sz) := by
  refine kq_startM (cc := cX5_needPlace) (maxL := 1) (ret := none) (by decide) rfl (Nat.le_of_ble_eq_true rfl) ?_
  intro p e s m below meth c hx hb hr hml hown hlocks hts hsz hA hP hD hS hK hnm ls hl
  subst hsz
  generalize hAe : va_A [] s.heap.size = A at hA hD hS ⊢
  have hown : s.vm.findClass RX5 = some m.cls := hown
  have hl : lv_has ls 1 [(0, .int 1)] := hl
  refine lv_iload_n hx hb dX5_needPlace_0 rfl (lv_at hl 0 rfl) ?_
  refine lv_if_ne (tgt := 15) hx hb dX5_needPlace_1 (by decide) (fun _ => ?_) (fun q => absurd q (by decide))
  exact kq_retMv () hx hb hr hlocks hP hD hS dX5_needPlace_15 (by trivial)
set_option maxHeartbeats 4000000 in
set_option maxRecDepth 100000 in
theorem c_X5_needArgument (l : Launch) (dC : Nat → ClassId) (dI : Nat → Nat → Nat) (cI : ClassId) (sz : Nat)   : Met l yX5_needArgument wsX5_needArgument ({ frames := 0, cells := 0, slots := 0, locals := 0 }) (kq_M dC dI cI [.int 1] sz []) (va_Qv (fun (u : Unit) => True) (kq_B dC dI (va_A [] sz) (fun u : Unit => [])) (va_A [] sz)) 0 0 (va_A [] sz) := by
  refine kq_startM (cc := cX5_needArgument) (maxL := 1) (ret := none) (by decide) rfl (Nat.le_of_ble_eq_true rfl) ?_
  intro p e s m below meth c hx hb hr hml hown hlocks hts hsz hA hP hD hS hK hnm ls hl
  subst hsz
  generalize hAe : va_A [] s.heap.size = A at hA hD hS ⊢
  have hown : s.vm.findClass RX5 = some m.cls := hown
  have hl : lv_has ls 1 [(0, .int 1)] := hl
  refine lv_iload_n hx hb dX5_needArgument_0 rfl (lv_at hl 0 rfl) ?_
  refine lv_if_ne (tgt := 15) hx hb dX5_needArgument_1 (by decide) (fun _ => ?_) (fun q => absurd q (by decide))
  exact kq_retMv () hx hb hr hlocks hP hD hS dX5_needArgument_15 (by trivial)
set_option maxHeartbeats 4000000 in
set_option maxRecDepth 100000 in
theorem c_X5_wire (l : Launch) (dC : Nat → ClassId) (dI : Nat → Nat → Nat) (cI : ClassId) (sz : Nat) (oX : Nat) (oS : Nat) (oR : Nat) (oN : Nat) (o2 : Nat) (oF : Nat) (oT : Nat) (rv : Nat) (rs : Nat) (kc : Nat) (v : Nat → Int32) (sv : Nat → Int32) (a : Nat) (b : Nat) (d : Nat) (x : Int32) (hkc : kc ≤ 6) (ha : a < 3) (hb9 : b < 6) (hd : d < 16) (hx9 : -3 ≤ x ∧ x ≤ 3) : Met l yX5_wire wsX5_wire ({ frames := 2, cells := 0, slots := 0, locals := 60 }) (kq_M dC dI cI [.ref oX, .int (nI a), .int (nI b), .int (nI d), .int x] sz [(oX, .inr (5, [.ref oS, .ref oR, .ref oN, .ref o2, .ref oF, .ref oT])), (oS, .inr (3, [.ref rv, .ref rs, .int (nI kc)])), (rv, .inl (cI, 385, .inl v)), (rs, .inl (cI, 2310, .inl sv))]) (va_Qi (fun (r : Int32) (u : Unit) => r = v ((a * 6 + b) * 16 + d) + 100) (kq_B dC dI (va_A [(oX, .inr (5, [.ref oS, .ref oR, .ref oN, .ref o2, .ref oF, .ref oT])), (oS, .inr (3, [.ref rv, .ref rs, .int (nI kc)])), (rv, .inl (cI, 385, .inl v)), (rs, .inl (cI, 2310, .inl sv))] sz) (fun u : Unit => [(oX, .inr (5, [.ref oS, .ref oR, .ref oN, .ref o2, .ref oF, .ref oT])), (oS, .inr (3, [.ref rv, .ref rs, .int (nI (min (kc + 1) 6))])), (rv, .inl (cI, 385, .inl (upd v ((a * 6 + b) * 16 + d) x))), (rs, .inl (cI, 2310, .inl (n_push v sv)))])) (va_A [(oX, .inr (5, [.ref oS, .ref oR, .ref oN, .ref o2, .ref oF, .ref oT])), (oS, .inr (3, [.ref rv, .ref rs, .int (nI kc)])), (rv, .inl (cI, 385, .inl v)), (rs, .inl (cI, 2310, .inl sv))] sz)) 0 0 (va_A [(oX, .inr (5, [.ref oS, .ref oR, .ref oN, .ref o2, .ref oF, .ref oT])), (oS, .inr (3, [.ref rv, .ref rs, .int (nI kc)])), (rv, .inl (cI, 385, .inl v)), (rs, .inl (cI, 2310, .inl sv))] sz) := by
  refine kq_startM (cc := cX5_wire) (maxL := 6) (ret := (some .int)) (by decide) rfl (Nat.le_of_ble_eq_true rfl) ?_
  intro p e s m below meth c hx hb hr hml hown hlocks hts hsz hA hP hD hS hK hnm ls hl
  subst hsz
  generalize hAe : va_A [(oX, .inr (5, [.ref oS, .ref oR, .ref oN, .ref o2, .ref oF, .ref oT])), (oS, .inr (3, [.ref rv, .ref rs, .int (nI kc)])), (rv, .inl (cI, 385, .inl v)), (rs, .inl (cI, 2310, .inl sv))] s.heap.size = A at hA hD hS ⊢
  have hown : s.vm.findClass RX5 = some m.cls := hown
  have hl : lv_has ls 6 [(0, .ref oX), (1, .int (nI a)), (2, .int (nI b)), (3, .int (nI d)), (4, .int x)] := hl
  refine lv_iload_n hx hb dX5_wire_0 rfl (lv_at hl 1 rfl) ?_
  refine lv_iconst (v := 3) hx hb dX5_wire_1 (by decide) ?_
  refine kq_cS (As := [.int (nI a), .int 3]) (rest := []) ⟨hx, hb, hml, hown, hts⟩ (c_X5_isIndex_n l dC dI cI a 3 (by first | assumption | omega) (by first | assumption | omega)) (va_cwS 2 hts gX5_wire_X5_isIndex rfl rfl rfl (by decide +kernel) ⟨Nat.le_of_ble_eq_true rfl, Nat.le_of_ble_eq_true rfl⟩) (hP.sub [] rfl) hK rfl hl.1 rfl (Nat.le_of_ble_eq_true rfl) dX5_wire_2 ⟨Nat.le_of_ble_eq_true rfl, Nat.le_of_ble_eq_true rfl⟩ ?_
  refine lv_if_eq (tgt := 30) hx hb dX5_wire_5 (by decide) (fun c_1 => ?_) (fun c_1 => ?_)
  · skip
    have c_1 := kq_bf c_1
    exact absurd ha c_1
  · skip
    have c_1 := kq_bt c_1
    refine lv_iload_n hx hb dX5_wire_8 rfl (lv_at hl 2 rfl) ?_
    refine lv_bipush (v := 6) hx hb dX5_wire_9 (by decide) ?_
    refine kq_cS (As := [.int (nI b), .int 6]) (rest := []) ⟨hx, hb, hml, hown, hts⟩ (c_X5_isIndex_n l dC dI cI b 6 (by first | assumption | omega) (by first | assumption | omega)) (va_cwS 2 hts gX5_wire_X5_isIndex rfl rfl rfl (by decide +kernel) ⟨Nat.le_of_ble_eq_true rfl, Nat.le_of_ble_eq_true rfl⟩) (hP.sub [] rfl) hK rfl hl.1 rfl (Nat.le_of_ble_eq_true rfl) dX5_wire_11 ⟨Nat.le_of_ble_eq_true rfl, Nat.le_of_ble_eq_true rfl⟩ ?_
    refine lv_if_eq (tgt := 30) hx hb dX5_wire_14 (by decide) (fun c_2 => ?_) (fun c_2 => ?_)
    · skip
      have c_2 := kq_bf c_2
      exact absurd hb9 c_2
    · skip
      have c_2 := kq_bt c_2
      refine lv_iload_n hx hb dX5_wire_17 rfl (lv_at hl 3 rfl) ?_
      refine lv_bipush (v := 16) hx hb dX5_wire_18 (by decide) ?_
      refine kq_cS (As := [.int (nI d), .int 16]) (rest := []) ⟨hx, hb, hml, hown, hts⟩ (c_X5_isIndex_n l dC dI cI d 16 (by first | assumption | omega) (by first | assumption | omega)) (va_cwS 2 hts gX5_wire_X5_isIndex rfl rfl rfl (by decide +kernel) ⟨Nat.le_of_ble_eq_true rfl, Nat.le_of_ble_eq_true rfl⟩) (hP.sub [] rfl) hK rfl hl.1 rfl (Nat.le_of_ble_eq_true rfl) dX5_wire_20 ⟨Nat.le_of_ble_eq_true rfl, Nat.le_of_ble_eq_true rfl⟩ ?_
      refine lv_if_eq (tgt := 30) hx hb dX5_wire_23 (by decide) (fun c_3 => ?_) (fun c_3 => ?_)
      · skip
        have c_3 := kq_bf c_3
        exact absurd hd c_3
      · skip
        have c_3 := kq_bt c_3
        refine lv_iconst (v := 1) hx hb dX5_wire_26 (by decide) ?_
        refine lv_goto (tgt := 31) hx hb dX5_wire_27 (by decide) ?_
        refine kq_callMv (wr := [(oX, .inr (5, [.ref oS, .ref oR, .ref oN, .ref o2, .ref oF, .ref oT])), (oS, .inr (3, [.ref rv, .ref rs, .int (nI kc)])), (rv, .inl (cI, 385, .inl v)), (rs, .inl (cI, 2310, .inl sv))]) (va_runS (As := [.int 1]) (rest := []) ⟨hx, hb, hml, hown, hts⟩ (c_X5_needPlace l dC dI cI s.heap.size  ) (va_cwS 1 hts gX5_wire_X5_needPlace rfl rfl rfl (by decide +kernel) ⟨Nat.le_of_ble_eq_true rfl, Nat.le_of_ble_eq_true rfl⟩) (kq_preS (hP.sub [] rfl) (hD.sub [] (by decide) rfl) hK) rfl rfl hl.1 rfl (lv_room (Nat.le_of_ble_eq_true rfl)) dX5_wire_31 ⟨Nat.le_of_ble_eq_true rfl, Nat.le_of_ble_eq_true rfl⟩) hP hD hS hA [] [0, 1, 2, 3] rfl rfl (by decide) (by decide) (fun u_5 H locs hw_6 hP hD hS => ?_)
        have hP : va_P (dC, dI) vwCl [(oX, .inr (5, [.ref oS, .ref oR, .ref oN, .ref o2, .ref oF, .ref oT])), (oS, .inr (3, [.ref rv, .ref rs, .int (nI kc)])), (rv, .inl (cI, 385, .inl v)), (rs, .inl (cI, 2310, .inl sv))] H := hP
        have hD : va_D A [(oX, .inr (5, [.ref oS, .ref oR, .ref oN, .ref o2, .ref oF, .ref oT])), (oS, .inr (3, [.ref rv, .ref rs, .int (nI kc)])), (rv, .inl (cI, 385, .inl v)), (rs, .inl (cI, 2310, .inl sv))] := hD
        refine lv_iload hx hb dX5_wire_34 (lv_at hl 4 rfl) ?_
        refine lv_bipush (v := (-3)) hx hb dX5_wire_36 (by decide) ?_
        refine lv_iconst (v := 3) hx hb dX5_wire_38 (by decide) ?_
        refine kq_cS (As := [.int x, .int (-3), .int 3]) (rest := []) ⟨hx, hb, hml, hown, hts⟩ (c_X5_isBetween l dC dI cI x (-3) 3 ) (va_cwS 3 hts gX5_wire_X5_isBetween rfl rfl rfl (by decide +kernel) ⟨Nat.le_of_ble_eq_true rfl, Nat.le_of_ble_eq_true rfl⟩) (hP.sub [] rfl) hK rfl hl.1 rfl (Nat.le_of_ble_eq_true rfl) dX5_wire_39 ⟨Nat.le_of_ble_eq_true rfl, Nat.le_of_ble_eq_true rfl⟩ ?_
        refine kq_top (z := 1) (if_pos (hx9)) ?_
        refine kq_callMv (wr := [(oX, .inr (5, [.ref oS, .ref oR, .ref oN, .ref o2, .ref oF, .ref oT])), (oS, .inr (3, [.ref rv, .ref rs, .int (nI kc)])), (rv, .inl (cI, 385, .inl v)), (rs, .inl (cI, 2310, .inl sv))]) (va_runS (As := [.int 1]) (rest := []) ⟨hx, hb, hml, hown, hts⟩ (c_X5_needArgument l dC dI cI H.size  ) (va_cwS 1 hts gX5_wire_X5_needArgument rfl rfl rfl (by decide +kernel) ⟨Nat.le_of_ble_eq_true rfl, Nat.le_of_ble_eq_true rfl⟩) (kq_preS (hP.sub [] rfl) (hD.sub [] (by decide) rfl) hK) rfl rfl hl.1 rfl (lv_room (Nat.le_of_ble_eq_true rfl)) dX5_wire_42 ⟨Nat.le_of_ble_eq_true rfl, Nat.le_of_ble_eq_true rfl⟩) hP hD hS hA [] [0, 1, 2, 3] rfl rfl (by decide) (by decide) (fun u_8 H locs hw_9 hP hD hS => ?_)
        have hP : va_P (dC, dI) vwCl [(oX, .inr (5, [.ref oS, .ref oR, .ref oN, .ref o2, .ref oF, .ref oT])), (oS, .inr (3, [.ref rv, .ref rs, .int (nI kc)])), (rv, .inl (cI, 385, .inl v)), (rs, .inl (cI, 2310, .inl sv))] H := hP
        have hD : va_D A [(oX, .inr (5, [.ref oS, .ref oR, .ref oN, .ref o2, .ref oF, .ref oT])), (oS, .inr (3, [.ref rv, .ref rs, .int (nI kc)])), (rv, .inl (cI, 385, .inl v)), (rs, .inl (cI, 2310, .inl sv))] := hD
        refine lv_aload_n hx hb dX5_wire_45 rfl (lv_at hl 0 rfl) ?_
        refine va_get (D := (dC, dI)) (ci := 5) (v := .ref oS) (C := RX5) (T := TX5) (N := 6) hx hb hts (by decide +kernel) hown hK.1 hP 0 rfl rfl 0 (by decide) (hts (.fieldLink RX5 12 "NoteWatermarks" "state" "LNoteWatermarks$State;") (by decide +kernel)) (fun _ h9 => h9) rfl dX5_wire_46 ?_
        refine kq_callMv (wr := [(oX, .inr (5, [.ref oS, .ref oR, .ref oN, .ref o2, .ref oF, .ref oT]))]) (va_runV (As := []) (rest := []) ⟨hx, hb, hml, hown, hts⟩ (c_X3_save l dC dI cI H.size oS rv rs kc v sv (by first | assumption | omega)) (cwV 0 hts gX5_wire_X3_save rfl rfl rfl (by decide +kernel) ⟨Nat.le_of_ble_eq_true rfl, Nat.le_of_ble_eq_true rfl⟩) (kq_preV (ci := 3) (q0 := 0) (hP.sub [1, 2, 3] rfl) (hD.sub [1, 2, 3] (by decide) rfl) hK rfl rfl) rfl rfl hl.1 rfl (lv_room (Nat.le_of_ble_eq_true rfl)) dX5_wire_49 ⟨Nat.le_of_ble_eq_true rfl, Nat.le_of_ble_eq_true rfl⟩) hP hD hS hA [1, 2, 3] [0] rfl rfl (by decide) (by decide) (fun u_11 H locs hw_12 hP hD hS => ?_)
        have hP : va_P (dC, dI) vwCl [(oX, .inr (5, [.ref oS, .ref oR, .ref oN, .ref o2, .ref oF, .ref oT])), (oS, .inr (3, [.ref rv, .ref rs, .int (nI (min (kc + 1) 6))])), (rv, .inl (cI, 385, .inl v)), (rs, .inl (cI, 2310, .inl (n_push v sv)))] H := hP
        have hD : va_D A [(oX, .inr (5, [.ref oS, .ref oR, .ref oN, .ref o2, .ref oF, .ref oT])), (oS, .inr (3, [.ref rv, .ref rs, .int (nI (min (kc + 1) 6))])), (rv, .inl (cI, 385, .inl v)), (rs, .inl (cI, 2310, .inl (n_push v sv)))] := hD
        refine lv_aload_n hx hb dX5_wire_52 rfl (lv_at hl 0 rfl) ?_
        refine va_get (D := (dC, dI)) (ci := 5) (v := .ref oS) (C := RX5) (T := TX5) (N := 6) hx hb hts (by decide +kernel) hown hK.1 hP 0 rfl rfl 0 (by decide) (hts (.fieldLink RX5 12 "NoteWatermarks" "state" "LNoteWatermarks$State;") (by decide +kernel)) (fun _ h9 => h9) rfl dX5_wire_53 ?_
        refine lv_iload_n hx hb dX5_wire_56 rfl (lv_at hl 1 rfl) ?_
        refine lv_iload_n hx hb dX5_wire_57 rfl (lv_at hl 2 rfl) ?_
        refine lv_iload_n hx hb dX5_wire_58 rfl (lv_at hl 3 rfl) ?_
        refine kq_cS (As := [.int (nI a), .int (nI b), .int (nI d)]) (rest := [.ref oS]) ⟨hx, hb, hml, hown, hts⟩ (c_X3_wirePlace l dC dI cI a b d ) (va_cwS 3 hts gX5_wire_X3_wirePlace rfl rfl rfl (by decide +kernel) ⟨Nat.le_of_ble_eq_true rfl, Nat.le_of_ble_eq_true rfl⟩) (hP.sub [] rfl) hK rfl hl.1 rfl (Nat.le_of_ble_eq_true rfl) dX5_wire_59 ⟨Nat.le_of_ble_eq_true rfl, Nat.le_of_ble_eq_true rfl⟩ ?_
        refine kq_cV (As := [.int (nI ((a * 6 + b) * 16 + d))]) (rest := []) ⟨hx, hb, hml, hown, hts⟩ (c_X3_at l dC dI cI oS rv rs (nI (min (kc + 1) 6)) v ((a * 6 + b) * 16 + d) (by first | assumption | omega)) (cwV 1 hts gX5_wire_X3_at rfl rfl rfl (by decide +kernel) ⟨Nat.le_of_ble_eq_true rfl, Nat.le_of_ble_eq_true rfl⟩) (hP.sub [1, 2] rfl) hK (ci := 3) (q0 := 0) rfl rfl rfl rfl hl.1 rfl (Nat.le_of_ble_eq_true rfl) dX5_wire_62 ⟨Nat.le_of_ble_eq_true rfl, Nat.le_of_ble_eq_true rfl⟩ ?_
        refine lv_istore (lv' := [(5, .int (v ((a * 6 + b) * 16 + d))), (0, .ref oX), (1, .int (nI a)), (2, .int (nI b)), (3, .int (nI d)), (4, .int x)]) hx hb dX5_wire_65 hl (by decide) rfl (fun ls hl => ?_)
        refine lv_aload_n hx hb dX5_wire_67 rfl (lv_at hl 1 rfl) ?_
        refine va_get (D := (dC, dI)) (ci := 5) (v := .ref oS) (C := RX5) (T := TX5) (N := 6) hx hb hts (by decide +kernel) hown hK.1 hP 0 rfl rfl 0 (by decide) (hts (.fieldLink RX5 12 "NoteWatermarks" "state" "LNoteWatermarks$State;") (by decide +kernel)) (fun _ h9 => h9) rfl dX5_wire_68 ?_
        refine lv_iload_n hx hb dX5_wire_71 rfl (lv_at hl 2 rfl) ?_
        refine lv_iload_n hx hb dX5_wire_72 rfl (lv_at hl 3 rfl) ?_
        refine lv_iload_n hx hb dX5_wire_73 rfl (lv_at hl 4 rfl) ?_
        refine kq_cS (As := [.int (nI a), .int (nI b), .int (nI d)]) (rest := [.ref oS]) ⟨hx, hb, hml, hown, hts⟩ (c_X3_wirePlace l dC dI cI a b d ) (va_cwS 3 hts gX5_wire_X3_wirePlace rfl rfl rfl (by decide +kernel) ⟨Nat.le_of_ble_eq_true rfl, Nat.le_of_ble_eq_true rfl⟩) (hP.sub [] rfl) hK rfl hl.1 rfl (Nat.le_of_ble_eq_true rfl) dX5_wire_74 ⟨Nat.le_of_ble_eq_true rfl, Nat.le_of_ble_eq_true rfl⟩ ?_
        refine lv_iload hx hb dX5_wire_77 (lv_at hl 5 rfl) ?_
        refine kq_callMv (wr := [(oX, .inr (5, [.ref oS, .ref oR, .ref oN, .ref o2, .ref oF, .ref oT])), (rs, .inl (cI, 2310, .inl (n_push v sv)))]) (va_runV (As := [.int (nI ((a * 6 + b) * 16 + d)), .int x]) (rest := []) ⟨hx, hb, hml, hown, hts⟩ (c_X3_put l dC dI cI H.size oS rv rs (nI (min (kc + 1) 6)) v ((a * 6 + b) * 16 + d) x (by first | assumption | omega)) (cwV 2 hts gX5_wire_X3_put rfl rfl rfl (by decide +kernel) ⟨Nat.le_of_ble_eq_true rfl, Nat.le_of_ble_eq_true rfl⟩) (kq_preV (ci := 3) (q0 := 0) (hP.sub [1, 2] rfl) (hD.sub [1, 2] (by decide) rfl) hK rfl rfl) rfl rfl hl.1 rfl (lv_room (Nat.le_of_ble_eq_true rfl)) dX5_wire_79 ⟨Nat.le_of_ble_eq_true rfl, Nat.le_of_ble_eq_true rfl⟩) hP hD hS hA [1, 2] [0, 3] rfl rfl (by decide) (by decide) (fun u_14 H locs hw_15 hP hD hS => ?_)
        have hP : va_P (dC, dI) vwCl [(oX, .inr (5, [.ref oS, .ref oR, .ref oN, .ref o2, .ref oF, .ref oT])), (rs, .inl (cI, 2310, .inl (n_push v sv))), (oS, .inr (3, [.ref rv, .ref rs, .int (nI (min (kc + 1) 6))])), (rv, .inl (cI, 385, .inl (upd v ((a * 6 + b) * 16 + d) x)))] H := hP
        have hD : va_D A [(oX, .inr (5, [.ref oS, .ref oR, .ref oN, .ref o2, .ref oF, .ref oT])), (rs, .inl (cI, 2310, .inl (n_push v sv))), (oS, .inr (3, [.ref rv, .ref rs, .int (nI (min (kc + 1) 6))])), (rv, .inl (cI, 385, .inl (upd v ((a * 6 + b) * 16 + d) x)))] := hD
        refine lv_iload hx hb dX5_wire_82 (lv_at hl 0 rfl) ?_
        refine lv_bipush (v := 100) hx hb dX5_wire_84 (by decide) ?_
        refine lv_iadd hx hb dX5_wire_86 ?_
        exact kq_retMi () hx hb hr hlocks (hP.sub [0, 2, 3, 1] rfl) (hD.sub [0, 2, 3, 1] (by decide) rfl) hS dX5_wire_87 (by rfl)
set_option maxHeartbeats 4000000 in
set_option maxRecDepth 100000 in
theorem c_X5_size (l : Launch) (dC : Nat → ClassId) (dI : Nat → Nat → Nat) (cI : ClassId) (sz : Nat) (oX : Nat) (oS : Nat) (oR : Nat) (oN : Nat) (o2 : Nat) (oF : Nat) (oT : Nat) (rv : Nat) (rs : Nat) (kc : Nat) (v : Nat → Int32) (sv : Nat → Int32) (a : Nat) (k : Nat) (hkc : kc ≤ 6) (ha : a < 3) (hk : 4 ≤ k ∧ k ≤ 16) (hI : n_I v) : Met l yX5_size wsX5_size ({ frames := 2, cells := 0, slots := 0, locals := 60 }) (kq_M dC dI cI [.ref oX, .int (nI a), .int (nI k)] sz [(oX, .inr (5, [.ref oS, .ref oR, .ref oN, .ref o2, .ref oF, .ref oT])), (oS, .inr (3, [.ref rv, .ref rs, .int (nI kc)])), (rv, .inl (cI, 385, .inl v)), (rs, .inl (cI, 2310, .inl sv)), (oR, .inr (2, [.ref oS]))]) (va_Qi (fun (r : Int32) (u : Unit) => r = v (288 + a)) (kq_B dC dI (va_A [(oX, .inr (5, [.ref oS, .ref oR, .ref oN, .ref o2, .ref oF, .ref oT])), (oS, .inr (3, [.ref rv, .ref rs, .int (nI kc)])), (rv, .inl (cI, 385, .inl v)), (rs, .inl (cI, 2310, .inl sv)), (oR, .inr (2, [.ref oS]))] sz) (fun u : Unit => [(oX, .inr (5, [.ref oS, .ref oR, .ref oN, .ref o2, .ref oF, .ref oT])), (oS, .inr (3, [.ref rv, .ref rs, .int (nI (min (kc + 1) 6))])), (rv, .inl (cI, 385, .inl (upd (upd v (288 + a) (nI k)) (291 + a) (nI (n_p v a % k))))), (rs, .inl (cI, 2310, .inl (n_push v sv))), (oR, .inr (2, [.ref oS]))])) (va_A [(oX, .inr (5, [.ref oS, .ref oR, .ref oN, .ref o2, .ref oF, .ref oT])), (oS, .inr (3, [.ref rv, .ref rs, .int (nI kc)])), (rv, .inl (cI, 385, .inl v)), (rs, .inl (cI, 2310, .inl sv)), (oR, .inr (2, [.ref oS]))] sz)) 0 0 (va_A [(oX, .inr (5, [.ref oS, .ref oR, .ref oN, .ref o2, .ref oF, .ref oT])), (oS, .inr (3, [.ref rv, .ref rs, .int (nI kc)])), (rv, .inl (cI, 385, .inl v)), (rs, .inl (cI, 2310, .inl sv)), (oR, .inr (2, [.ref oS]))] sz) := by
  refine kq_startM (cc := cX5_size) (maxL := 4) (ret := (some .int)) (by decide) rfl (Nat.le_of_ble_eq_true rfl) ?_
  intro p e s m below meth c hx hb hr hml hown hlocks hts hsz hA hP hD hS hK hnm ls hl
  subst hsz
  generalize hAe : va_A [(oX, .inr (5, [.ref oS, .ref oR, .ref oN, .ref o2, .ref oF, .ref oT])), (oS, .inr (3, [.ref rv, .ref rs, .int (nI kc)])), (rv, .inl (cI, 385, .inl v)), (rs, .inl (cI, 2310, .inl sv)), (oR, .inr (2, [.ref oS]))] s.heap.size = A at hA hD hS ⊢
  have hown : s.vm.findClass RX5 = some m.cls := hown
  have hl : lv_has ls 4 [(0, .ref oX), (1, .int (nI a)), (2, .int (nI k))] := hl
  have h16 := n_I_c16 hI ha
  have hpc := n_I_pc hI ha
  refine lv_iload_n hx hb dX5_size_0 rfl (lv_at hl 1 rfl) ?_
  refine lv_iconst (v := 3) hx hb dX5_size_1 (by decide) ?_
  refine kq_cS (As := [.int (nI a), .int 3]) (rest := []) ⟨hx, hb, hml, hown, hts⟩ (c_X5_isIndex_n l dC dI cI a 3 (by first | assumption | omega) (by first | assumption | omega)) (va_cwS 2 hts gX5_size_X5_isIndex rfl rfl rfl (by decide +kernel) ⟨Nat.le_of_ble_eq_true rfl, Nat.le_of_ble_eq_true rfl⟩) (hP.sub [] rfl) hK rfl hl.1 rfl (Nat.le_of_ble_eq_true rfl) dX5_size_2 ⟨Nat.le_of_ble_eq_true rfl, Nat.le_of_ble_eq_true rfl⟩ ?_
  refine kq_top (z := 1) (if_pos (ha)) ?_
  refine kq_callMv (wr := [(oX, .inr (5, [.ref oS, .ref oR, .ref oN, .ref o2, .ref oF, .ref oT])), (oS, .inr (3, [.ref rv, .ref rs, .int (nI kc)])), (rv, .inl (cI, 385, .inl v)), (rs, .inl (cI, 2310, .inl sv)), (oR, .inr (2, [.ref oS]))]) (va_runS (As := [.int 1]) (rest := []) ⟨hx, hb, hml, hown, hts⟩ (c_X5_needPlace l dC dI cI s.heap.size  ) (va_cwS 1 hts gX5_size_X5_needPlace rfl rfl rfl (by decide +kernel) ⟨Nat.le_of_ble_eq_true rfl, Nat.le_of_ble_eq_true rfl⟩) (kq_preS (hP.sub [] rfl) (hD.sub [] (by decide) rfl) hK) rfl rfl hl.1 rfl (lv_room (Nat.le_of_ble_eq_true rfl)) dX5_size_5 ⟨Nat.le_of_ble_eq_true rfl, Nat.le_of_ble_eq_true rfl⟩) hP hD hS hA [] [0, 1, 2, 3, 4] rfl rfl (by decide) (by decide) (fun u_2 H locs hw_3 hP hD hS => ?_)
  have hP : va_P (dC, dI) vwCl [(oX, .inr (5, [.ref oS, .ref oR, .ref oN, .ref o2, .ref oF, .ref oT])), (oS, .inr (3, [.ref rv, .ref rs, .int (nI kc)])), (rv, .inl (cI, 385, .inl v)), (rs, .inl (cI, 2310, .inl sv)), (oR, .inr (2, [.ref oS]))] H := hP
  have hD : va_D A [(oX, .inr (5, [.ref oS, .ref oR, .ref oN, .ref o2, .ref oF, .ref oT])), (oS, .inr (3, [.ref rv, .ref rs, .int (nI kc)])), (rv, .inl (cI, 385, .inl v)), (rs, .inl (cI, 2310, .inl sv)), (oR, .inr (2, [.ref oS]))] := hD
  refine lv_iload_n hx hb dX5_size_8 rfl (lv_at hl 2 rfl) ?_
  refine lv_iconst (v := 4) hx hb dX5_size_9 (by decide) ?_
  refine lv_bipush (v := 16) hx hb dX5_size_10 (by decide) ?_
  refine kq_cS (As := [.int (nI k), .int 4, .int 16]) (rest := []) ⟨hx, hb, hml, hown, hts⟩ (c_X5_isBetween_n l dC dI cI k 4 16 (by first | assumption | omega) (by first | assumption | omega) (by first | assumption | omega)) (va_cwS 3 hts gX5_size_X5_isBetween rfl rfl rfl (by decide +kernel) ⟨Nat.le_of_ble_eq_true rfl, Nat.le_of_ble_eq_true rfl⟩) (hP.sub [] rfl) hK rfl hl.1 rfl (Nat.le_of_ble_eq_true rfl) dX5_size_12 ⟨Nat.le_of_ble_eq_true rfl, Nat.le_of_ble_eq_true rfl⟩ ?_
  refine kq_top (z := 1) (if_pos (hk)) ?_
  refine kq_callMv (wr := [(oX, .inr (5, [.ref oS, .ref oR, .ref oN, .ref o2, .ref oF, .ref oT])), (oS, .inr (3, [.ref rv, .ref rs, .int (nI kc)])), (rv, .inl (cI, 385, .inl v)), (rs, .inl (cI, 2310, .inl sv)), (oR, .inr (2, [.ref oS]))]) (va_runS (As := [.int 1]) (rest := []) ⟨hx, hb, hml, hown, hts⟩ (c_X5_needArgument l dC dI cI H.size  ) (va_cwS 1 hts gX5_size_X5_needArgument rfl rfl rfl (by decide +kernel) ⟨Nat.le_of_ble_eq_true rfl, Nat.le_of_ble_eq_true rfl⟩) (kq_preS (hP.sub [] rfl) (hD.sub [] (by decide) rfl) hK) rfl rfl hl.1 rfl (lv_room (Nat.le_of_ble_eq_true rfl)) dX5_size_15 ⟨Nat.le_of_ble_eq_true rfl, Nat.le_of_ble_eq_true rfl⟩) hP hD hS hA [] [0, 1, 2, 3, 4] rfl rfl (by decide) (by decide) (fun u_5 H locs hw_6 hP hD hS => ?_)
  have hP : va_P (dC, dI) vwCl [(oX, .inr (5, [.ref oS, .ref oR, .ref oN, .ref o2, .ref oF, .ref oT])), (oS, .inr (3, [.ref rv, .ref rs, .int (nI kc)])), (rv, .inl (cI, 385, .inl v)), (rs, .inl (cI, 2310, .inl sv)), (oR, .inr (2, [.ref oS]))] H := hP
  have hD : va_D A [(oX, .inr (5, [.ref oS, .ref oR, .ref oN, .ref o2, .ref oF, .ref oT])), (oS, .inr (3, [.ref rv, .ref rs, .int (nI kc)])), (rv, .inl (cI, 385, .inl v)), (rs, .inl (cI, 2310, .inl sv)), (oR, .inr (2, [.ref oS]))] := hD
  refine lv_aload_n hx hb dX5_size_18 rfl (lv_at hl 0 rfl) ?_
  refine va_get (D := (dC, dI)) (ci := 5) (v := .ref oS) (C := RX5) (T := TX5) (N := 6) hx hb hts (by decide +kernel) hown hK.1 hP 0 rfl rfl 0 (by decide) (hts (.fieldLink RX5 12 "NoteWatermarks" "state" "LNoteWatermarks$State;") (by decide +kernel)) (fun _ h9 => h9) rfl dX5_size_19 ?_
  refine kq_callMv (wr := [(oX, .inr (5, [.ref oS, .ref oR, .ref oN, .ref o2, .ref oF, .ref oT])), (oR, .inr (2, [.ref oS]))]) (va_runV (As := []) (rest := []) ⟨hx, hb, hml, hown, hts⟩ (c_X3_save l dC dI cI H.size oS rv rs kc v sv (by first | assumption | omega)) (cwV 0 hts gX5_size_X3_save rfl rfl rfl (by decide +kernel) ⟨Nat.le_of_ble_eq_true rfl, Nat.le_of_ble_eq_true rfl⟩) (kq_preV (ci := 3) (q0 := 0) (hP.sub [1, 2, 3] rfl) (hD.sub [1, 2, 3] (by decide) rfl) hK rfl rfl) rfl rfl hl.1 rfl (lv_room (Nat.le_of_ble_eq_true rfl)) dX5_size_22 ⟨Nat.le_of_ble_eq_true rfl, Nat.le_of_ble_eq_true rfl⟩) hP hD hS hA [1, 2, 3] [0, 4] rfl rfl (by decide) (by decide) (fun u_8 H locs hw_9 hP hD hS => ?_)
  have hP : va_P (dC, dI) vwCl [(oX, .inr (5, [.ref oS, .ref oR, .ref oN, .ref o2, .ref oF, .ref oT])), (oR, .inr (2, [.ref oS])), (oS, .inr (3, [.ref rv, .ref rs, .int (nI (min (kc + 1) 6))])), (rv, .inl (cI, 385, .inl v)), (rs, .inl (cI, 2310, .inl (n_push v sv)))] H := hP
  have hD : va_D A [(oX, .inr (5, [.ref oS, .ref oR, .ref oN, .ref o2, .ref oF, .ref oT])), (oR, .inr (2, [.ref oS])), (oS, .inr (3, [.ref rv, .ref rs, .int (nI (min (kc + 1) 6))])), (rv, .inl (cI, 385, .inl v)), (rs, .inl (cI, 2310, .inl (n_push v sv)))] := hD
  refine lv_aload_n hx hb dX5_size_25 rfl (lv_at hl 0 rfl) ?_
  refine va_get (D := (dC, dI)) (ci := 5) (v := .ref oS) (C := RX5) (T := TX5) (N := 6) hx hb hts (by decide +kernel) hown hK.1 hP 0 rfl rfl 0 (by decide) (hts (.fieldLink RX5 12 "NoteWatermarks" "state" "LNoteWatermarks$State;") (by decide +kernel)) (fun _ h9 => h9) rfl dX5_size_26 ?_
  refine lv_iload_n hx hb dX5_size_29 rfl (lv_at hl 1 rfl) ?_
  refine kq_cS (As := [.int (nI a)]) (rest := [.ref oS]) ⟨hx, hb, hml, hown, hts⟩ (c_X3_circumferencePlace l dC dI cI a ) (va_cwS 1 hts gX5_size_X3_circumferencePlace rfl rfl rfl (by decide +kernel) ⟨Nat.le_of_ble_eq_true rfl, Nat.le_of_ble_eq_true rfl⟩) (hP.sub [] rfl) hK rfl hl.1 rfl (Nat.le_of_ble_eq_true rfl) dX5_size_30 ⟨Nat.le_of_ble_eq_true rfl, Nat.le_of_ble_eq_true rfl⟩ ?_
  refine kq_cV (As := [.int (nI (288 + a))]) (rest := []) ⟨hx, hb, hml, hown, hts⟩ (c_X3_at l dC dI cI oS rv rs (nI (min (kc + 1) 6)) v (288 + a) (by first | assumption | omega)) (cwV 1 hts gX5_size_X3_at rfl rfl rfl (by decide +kernel) ⟨Nat.le_of_ble_eq_true rfl, Nat.le_of_ble_eq_true rfl⟩) (hP.sub [2, 3] rfl) hK (ci := 3) (q0 := 0) rfl rfl rfl rfl hl.1 rfl (Nat.le_of_ble_eq_true rfl) dX5_size_33 ⟨Nat.le_of_ble_eq_true rfl, Nat.le_of_ble_eq_true rfl⟩ ?_
  refine lv_istore_n (lv' := [(3, .int (v (288 + a))), (0, .ref oX), (1, .int (nI a)), (2, .int (nI k))]) hx hb dX5_size_36 rfl hl (by decide) rfl (fun ls hl => ?_)
  refine lv_aload_n hx hb dX5_size_37 rfl (lv_at hl 1 rfl) ?_
  refine va_get (D := (dC, dI)) (ci := 5) (v := .ref oS) (C := RX5) (T := TX5) (N := 6) hx hb hts (by decide +kernel) hown hK.1 hP 0 rfl rfl 0 (by decide) (hts (.fieldLink RX5 12 "NoteWatermarks" "state" "LNoteWatermarks$State;") (by decide +kernel)) (fun _ h9 => h9) rfl dX5_size_38 ?_
  refine lv_iload_n hx hb dX5_size_41 rfl (lv_at hl 2 rfl) ?_
  refine kq_cS (As := [.int (nI a)]) (rest := [.ref oS]) ⟨hx, hb, hml, hown, hts⟩ (c_X3_circumferencePlace l dC dI cI a ) (va_cwS 1 hts gX5_size_X3_circumferencePlace rfl rfl rfl (by decide +kernel) ⟨Nat.le_of_ble_eq_true rfl, Nat.le_of_ble_eq_true rfl⟩) (hP.sub [] rfl) hK rfl hl.1 rfl (Nat.le_of_ble_eq_true rfl) dX5_size_42 ⟨Nat.le_of_ble_eq_true rfl, Nat.le_of_ble_eq_true rfl⟩ ?_
  refine lv_iload_n hx hb dX5_size_45 rfl (lv_at hl 3 rfl) ?_
  refine kq_callMv (wr := [(oX, .inr (5, [.ref oS, .ref oR, .ref oN, .ref o2, .ref oF, .ref oT])), (oR, .inr (2, [.ref oS])), (rs, .inl (cI, 2310, .inl (n_push v sv)))]) (va_runV (As := [.int (nI (288 + a)), .int (nI k)]) (rest := []) ⟨hx, hb, hml, hown, hts⟩ (c_X3_put l dC dI cI H.size oS rv rs (nI (min (kc + 1) 6)) v (288 + a) (nI k) (by first | assumption | omega)) (cwV 2 hts gX5_size_X3_put rfl rfl rfl (by decide +kernel) ⟨Nat.le_of_ble_eq_true rfl, Nat.le_of_ble_eq_true rfl⟩) (kq_preV (ci := 3) (q0 := 0) (hP.sub [2, 3] rfl) (hD.sub [2, 3] (by decide) rfl) hK rfl rfl) rfl rfl hl.1 rfl (lv_room (Nat.le_of_ble_eq_true rfl)) dX5_size_46 ⟨Nat.le_of_ble_eq_true rfl, Nat.le_of_ble_eq_true rfl⟩) hP hD hS hA [2, 3] [0, 1, 4] rfl rfl (by decide) (by decide) (fun u_11 H locs hw_12 hP hD hS => ?_)
  have hP : va_P (dC, dI) vwCl [(oX, .inr (5, [.ref oS, .ref oR, .ref oN, .ref o2, .ref oF, .ref oT])), (oR, .inr (2, [.ref oS])), (rs, .inl (cI, 2310, .inl (n_push v sv))), (oS, .inr (3, [.ref rv, .ref rs, .int (nI (min (kc + 1) 6))])), (rv, .inl (cI, 385, .inl (upd v (288 + a) (nI k))))] H := hP
  have hD : va_D A [(oX, .inr (5, [.ref oS, .ref oR, .ref oN, .ref o2, .ref oF, .ref oT])), (oR, .inr (2, [.ref oS])), (rs, .inl (cI, 2310, .inl (n_push v sv))), (oS, .inr (3, [.ref rv, .ref rs, .int (nI (min (kc + 1) 6))])), (rv, .inl (cI, 385, .inl (upd v (288 + a) (nI k))))] := hD
  refine lv_aload_n hx hb dX5_size_49 rfl (lv_at hl 1 rfl) ?_
  refine va_get (D := (dC, dI)) (ci := 5) (v := .ref oR) (C := RX5) (T := TX5) (N := 6) hx hb hts (by decide +kernel) hown hK.1 hP 0 rfl rfl 1 (by decide) (hts (.fieldLink RX5 21 "NoteWatermarks" "rolls" "LNoteWatermarks$Rolls;") (by decide +kernel)) (fun _ h9 => h9) rfl dX5_size_50 ?_
  refine lv_iload_n hx hb dX5_size_53 rfl (lv_at hl 2 rfl) ?_
  refine lv_aload_n hx hb dX5_size_54 rfl (lv_at hl 1 rfl) ?_
  refine va_get (D := (dC, dI)) (ci := 5) (v := .ref oS) (C := RX5) (T := TX5) (N := 6) hx hb hts (by decide +kernel) hown hK.1 hP 0 rfl rfl 0 (by decide) (hts (.fieldLink RX5 12 "NoteWatermarks" "state" "LNoteWatermarks$State;") (by decide +kernel)) (fun _ h9 => h9) rfl dX5_size_55 ?_
  refine lv_iload_n hx hb dX5_size_58 rfl (lv_at hl 2 rfl) ?_
  refine kq_cS (As := [.int (nI a)]) (rest := [.ref oS, .int (nI a), .ref oR]) ⟨hx, hb, hml, hown, hts⟩ (c_X3_phasePlace l dC dI cI a ) (va_cwS 1 hts gX5_size_X3_phasePlace rfl rfl rfl (by decide +kernel) ⟨Nat.le_of_ble_eq_true rfl, Nat.le_of_ble_eq_true rfl⟩) (hP.sub [] rfl) hK rfl hl.1 rfl (Nat.le_of_ble_eq_true rfl) dX5_size_59 ⟨Nat.le_of_ble_eq_true rfl, Nat.le_of_ble_eq_true rfl⟩ ?_
  refine kq_cV (As := [.int (nI (291 + a))]) (rest := [.int (nI a), .ref oR]) ⟨hx, hb, hml, hown, hts⟩ (c_X3_at l dC dI cI oS rv rs (nI (min (kc + 1) 6)) (upd v (288 + a) (nI k)) (291 + a) (by first | assumption | omega)) (cwV 1 hts gX5_size_X3_at rfl rfl rfl (by decide +kernel) ⟨Nat.le_of_ble_eq_true rfl, Nat.le_of_ble_eq_true rfl⟩) (hP.sub [3, 4] rfl) hK (ci := 3) (q0 := 0) rfl rfl rfl rfl hl.1 rfl (Nat.le_of_ble_eq_true rfl) dX5_size_62 ⟨Nat.le_of_ble_eq_true rfl, Nat.le_of_ble_eq_true rfl⟩ ?_
  refine kq_top (z := nI (n_p v a)) ((pk_un (by omega)).trans (n_I_p hI ha)) ?_
  refine kq_callMv (wr := [(oX, .inr (5, [.ref oS, .ref oR, .ref oN, .ref o2, .ref oF, .ref oT])), (rs, .inl (cI, 2310, .inl (n_push v sv)))]) (va_runV (As := [.int (nI a), .int (nI (n_p v a))]) (rest := []) ⟨hx, hb, hml, hown, hts⟩ (c_X2_turnTo_n l dC dI cI H.size oR oS rv rs (nI (min (kc + 1) 6)) (upd v (288 + a) (nI k)) a (n_p v a) k (by first | assumption | omega) (by first | assumption | omega) (pk_us) (by first | assumption | omega)) (cwV 2 hts gX5_size_X2_turnTo rfl rfl rfl (by decide +kernel) ⟨Nat.le_of_ble_eq_true rfl, Nat.le_of_ble_eq_true rfl⟩) (kq_preV (ci := 2) (q0 := 0) (hP.sub [1, 3, 4] rfl) (hD.sub [1, 3, 4] (by decide) rfl) hK rfl rfl) rfl rfl hl.1 rfl (lv_room (Nat.le_of_ble_eq_true rfl)) dX5_size_65 ⟨Nat.le_of_ble_eq_true rfl, Nat.le_of_ble_eq_true rfl⟩) hP hD hS hA [1, 3, 4] [0, 2] rfl rfl (by decide) (by decide) (fun u_14 H locs hw_15 hP hD hS => ?_)
  have hP : va_P (dC, dI) vwCl [(oX, .inr (5, [.ref oS, .ref oR, .ref oN, .ref o2, .ref oF, .ref oT])), (rs, .inl (cI, 2310, .inl (n_push v sv))), (oR, .inr (2, [.ref oS])), (oS, .inr (3, [.ref rv, .ref rs, .int (nI (min (kc + 1) 6))])), (rv, .inl (cI, 385, .inl (upd (upd v (288 + a) (nI k)) (291 + a) (nI ((n_p v a) % k)))))] H := hP
  have hD : va_D A [(oX, .inr (5, [.ref oS, .ref oR, .ref oN, .ref o2, .ref oF, .ref oT])), (rs, .inl (cI, 2310, .inl (n_push v sv))), (oR, .inr (2, [.ref oS])), (oS, .inr (3, [.ref rv, .ref rs, .int (nI (min (kc + 1) 6))])), (rv, .inl (cI, 385, .inl (upd (upd v (288 + a) (nI k)) (291 + a) (nI ((n_p v a) % k)))))] := hD
  refine lv_iload_n hx hb dX5_size_68 rfl (lv_at hl 0 rfl) ?_
  exact kq_retMi () hx hb hr hlocks (hP.sub [0, 3, 4, 1, 2] rfl) (hD.sub [0, 3, 4, 1, 2] (by decide) rfl) hS dX5_size_69 (by rfl)
set_option maxHeartbeats 4000000 in
set_option maxRecDepth 100000 in
theorem c_X5_turn (l : Launch) (dC : Nat → ClassId) (dI : Nat → Nat → Nat) (cI : ClassId) (sz : Nat) (oX : Nat) (oS : Nat) (oR : Nat) (oN : Nat) (o2 : Nat) (oF : Nat) (oT : Nat) (rv : Nat) (rs : Nat) (kc : Nat) (v : Nat → Int32) (sv : Nat → Int32) (a : Nat) (k9 : Nat) (x : Int32) (hkc : kc ≤ 6) (ha : a < 3) (hu : k9 ≤ 198) (hx9 : x = nI k9 - 99) (hx8 : -99 ≤ x ∧ x ≤ 99) (hI : n_I v) : Met l yX5_turn wsX5_turn ({ frames := 2, cells := 0, slots := 0, locals := 60 }) (kq_M dC dI cI [.ref oX, .int (nI a), .int x] sz [(oX, .inr (5, [.ref oS, .ref oR, .ref oN, .ref o2, .ref oF, .ref oT])), (oS, .inr (3, [.ref rv, .ref rs, .int (nI kc)])), (rv, .inl (cI, 385, .inl v)), (rs, .inl (cI, 2310, .inl sv)), (oR, .inr (2, [.ref oS]))]) (va_Qi (fun (r : Int32) (u : Unit) => r = nI ((n_p v a + k9 + 100 * n_c v a - 99) % n_c v a)) (kq_B dC dI (va_A [(oX, .inr (5, [.ref oS, .ref oR, .ref oN, .ref o2, .ref oF, .ref oT])), (oS, .inr (3, [.ref rv, .ref rs, .int (nI kc)])), (rv, .inl (cI, 385, .inl v)), (rs, .inl (cI, 2310, .inl sv)), (oR, .inr (2, [.ref oS]))] sz) (fun u : Unit => [(oX, .inr (5, [.ref oS, .ref oR, .ref oN, .ref o2, .ref oF, .ref oT])), (oS, .inr (3, [.ref rv, .ref rs, .int (nI (min (kc + 1) 6))])), (rv, .inl (cI, 385, .inl (upd v (291 + a) (nI ((n_p v a + k9 + 100 * n_c v a - 99) % n_c v a))))), (rs, .inl (cI, 2310, .inl (n_push v sv))), (oR, .inr (2, [.ref oS]))])) (va_A [(oX, .inr (5, [.ref oS, .ref oR, .ref oN, .ref o2, .ref oF, .ref oT])), (oS, .inr (3, [.ref rv, .ref rs, .int (nI kc)])), (rv, .inl (cI, 385, .inl v)), (rs, .inl (cI, 2310, .inl sv)), (oR, .inr (2, [.ref oS]))] sz)) 0 0 (va_A [(oX, .inr (5, [.ref oS, .ref oR, .ref oN, .ref o2, .ref oF, .ref oT])), (oS, .inr (3, [.ref rv, .ref rs, .int (nI kc)])), (rv, .inl (cI, 385, .inl v)), (rs, .inl (cI, 2310, .inl sv)), (oR, .inr (2, [.ref oS]))] sz) := by
  refine kq_startM (cc := cX5_turn) (maxL := 3) (ret := (some .int)) (by decide) rfl (Nat.le_of_ble_eq_true rfl) ?_
  intro p e s m below meth c hx hb hr hml hown hlocks hts hsz hA hP hD hS hK hnm ls hl
  subst hsz
  generalize hAe : va_A [(oX, .inr (5, [.ref oS, .ref oR, .ref oN, .ref o2, .ref oF, .ref oT])), (oS, .inr (3, [.ref rv, .ref rs, .int (nI kc)])), (rv, .inl (cI, 385, .inl v)), (rs, .inl (cI, 2310, .inl sv)), (oR, .inr (2, [.ref oS]))] s.heap.size = A at hA hD hS ⊢
  have hown : s.vm.findClass RX5 = some m.cls := hown
  have hl : lv_has ls 3 [(0, .ref oX), (1, .int (nI a)), (2, .int x)] := hl
  have h16 := n_I_c16 hI ha
  have hpc := n_I_pc hI ha
  have h4 := n_I_c4 hI ha
  refine lv_iload_n hx hb dX5_turn_0 rfl (lv_at hl 1 rfl) ?_
  refine lv_iconst (v := 3) hx hb dX5_turn_1 (by decide) ?_
  refine kq_cS (As := [.int (nI a), .int 3]) (rest := []) ⟨hx, hb, hml, hown, hts⟩ (c_X5_isIndex_n l dC dI cI a 3 (by first | assumption | omega) (by first | assumption | omega)) (va_cwS 2 hts gX5_turn_X5_isIndex rfl rfl rfl (by decide +kernel) ⟨Nat.le_of_ble_eq_true rfl, Nat.le_of_ble_eq_true rfl⟩) (hP.sub [] rfl) hK rfl hl.1 rfl (Nat.le_of_ble_eq_true rfl) dX5_turn_2 ⟨Nat.le_of_ble_eq_true rfl, Nat.le_of_ble_eq_true rfl⟩ ?_
  refine kq_top (z := 1) (if_pos (ha)) ?_
  refine kq_callMv (wr := [(oX, .inr (5, [.ref oS, .ref oR, .ref oN, .ref o2, .ref oF, .ref oT])), (oS, .inr (3, [.ref rv, .ref rs, .int (nI kc)])), (rv, .inl (cI, 385, .inl v)), (rs, .inl (cI, 2310, .inl sv)), (oR, .inr (2, [.ref oS]))]) (va_runS (As := [.int 1]) (rest := []) ⟨hx, hb, hml, hown, hts⟩ (c_X5_needPlace l dC dI cI s.heap.size  ) (va_cwS 1 hts gX5_turn_X5_needPlace rfl rfl rfl (by decide +kernel) ⟨Nat.le_of_ble_eq_true rfl, Nat.le_of_ble_eq_true rfl⟩) (kq_preS (hP.sub [] rfl) (hD.sub [] (by decide) rfl) hK) rfl rfl hl.1 rfl (lv_room (Nat.le_of_ble_eq_true rfl)) dX5_turn_5 ⟨Nat.le_of_ble_eq_true rfl, Nat.le_of_ble_eq_true rfl⟩) hP hD hS hA [] [0, 1, 2, 3, 4] rfl rfl (by decide) (by decide) (fun u_2 H locs hw_3 hP hD hS => ?_)
  have hP : va_P (dC, dI) vwCl [(oX, .inr (5, [.ref oS, .ref oR, .ref oN, .ref o2, .ref oF, .ref oT])), (oS, .inr (3, [.ref rv, .ref rs, .int (nI kc)])), (rv, .inl (cI, 385, .inl v)), (rs, .inl (cI, 2310, .inl sv)), (oR, .inr (2, [.ref oS]))] H := hP
  have hD : va_D A [(oX, .inr (5, [.ref oS, .ref oR, .ref oN, .ref o2, .ref oF, .ref oT])), (oS, .inr (3, [.ref rv, .ref rs, .int (nI kc)])), (rv, .inl (cI, 385, .inl v)), (rs, .inl (cI, 2310, .inl sv)), (oR, .inr (2, [.ref oS]))] := hD
  refine lv_iload_n hx hb dX5_turn_8 rfl (lv_at hl 2 rfl) ?_
  refine lv_bipush (v := (-99)) hx hb dX5_turn_9 (by decide) ?_
  refine lv_bipush (v := 99) hx hb dX5_turn_11 (by decide) ?_
  refine kq_cS (As := [.int x, .int (-99), .int 99]) (rest := []) ⟨hx, hb, hml, hown, hts⟩ (c_X5_isBetween l dC dI cI x (-99) 99 ) (va_cwS 3 hts gX5_turn_X5_isBetween rfl rfl rfl (by decide +kernel) ⟨Nat.le_of_ble_eq_true rfl, Nat.le_of_ble_eq_true rfl⟩) (hP.sub [] rfl) hK rfl hl.1 rfl (Nat.le_of_ble_eq_true rfl) dX5_turn_13 ⟨Nat.le_of_ble_eq_true rfl, Nat.le_of_ble_eq_true rfl⟩ ?_
  refine kq_top (z := 1) (if_pos (hx8)) ?_
  refine kq_callMv (wr := [(oX, .inr (5, [.ref oS, .ref oR, .ref oN, .ref o2, .ref oF, .ref oT])), (oS, .inr (3, [.ref rv, .ref rs, .int (nI kc)])), (rv, .inl (cI, 385, .inl v)), (rs, .inl (cI, 2310, .inl sv)), (oR, .inr (2, [.ref oS]))]) (va_runS (As := [.int 1]) (rest := []) ⟨hx, hb, hml, hown, hts⟩ (c_X5_needArgument l dC dI cI H.size  ) (va_cwS 1 hts gX5_turn_X5_needArgument rfl rfl rfl (by decide +kernel) ⟨Nat.le_of_ble_eq_true rfl, Nat.le_of_ble_eq_true rfl⟩) (kq_preS (hP.sub [] rfl) (hD.sub [] (by decide) rfl) hK) rfl rfl hl.1 rfl (lv_room (Nat.le_of_ble_eq_true rfl)) dX5_turn_16 ⟨Nat.le_of_ble_eq_true rfl, Nat.le_of_ble_eq_true rfl⟩) hP hD hS hA [] [0, 1, 2, 3, 4] rfl rfl (by decide) (by decide) (fun u_5 H locs hw_6 hP hD hS => ?_)
  have hP : va_P (dC, dI) vwCl [(oX, .inr (5, [.ref oS, .ref oR, .ref oN, .ref o2, .ref oF, .ref oT])), (oS, .inr (3, [.ref rv, .ref rs, .int (nI kc)])), (rv, .inl (cI, 385, .inl v)), (rs, .inl (cI, 2310, .inl sv)), (oR, .inr (2, [.ref oS]))] H := hP
  have hD : va_D A [(oX, .inr (5, [.ref oS, .ref oR, .ref oN, .ref o2, .ref oF, .ref oT])), (oS, .inr (3, [.ref rv, .ref rs, .int (nI kc)])), (rv, .inl (cI, 385, .inl v)), (rs, .inl (cI, 2310, .inl sv)), (oR, .inr (2, [.ref oS]))] := hD
  refine lv_aload_n hx hb dX5_turn_19 rfl (lv_at hl 0 rfl) ?_
  refine va_get (D := (dC, dI)) (ci := 5) (v := .ref oS) (C := RX5) (T := TX5) (N := 6) hx hb hts (by decide +kernel) hown hK.1 hP 0 rfl rfl 0 (by decide) (hts (.fieldLink RX5 12 "NoteWatermarks" "state" "LNoteWatermarks$State;") (by decide +kernel)) (fun _ h9 => h9) rfl dX5_turn_20 ?_
  refine kq_callMv (wr := [(oX, .inr (5, [.ref oS, .ref oR, .ref oN, .ref o2, .ref oF, .ref oT])), (oR, .inr (2, [.ref oS]))]) (va_runV (As := []) (rest := []) ⟨hx, hb, hml, hown, hts⟩ (c_X3_save l dC dI cI H.size oS rv rs kc v sv (by first | assumption | omega)) (cwV 0 hts gX5_turn_X3_save rfl rfl rfl (by decide +kernel) ⟨Nat.le_of_ble_eq_true rfl, Nat.le_of_ble_eq_true rfl⟩) (kq_preV (ci := 3) (q0 := 0) (hP.sub [1, 2, 3] rfl) (hD.sub [1, 2, 3] (by decide) rfl) hK rfl rfl) rfl rfl hl.1 rfl (lv_room (Nat.le_of_ble_eq_true rfl)) dX5_turn_23 ⟨Nat.le_of_ble_eq_true rfl, Nat.le_of_ble_eq_true rfl⟩) hP hD hS hA [1, 2, 3] [0, 4] rfl rfl (by decide) (by decide) (fun u_8 H locs hw_9 hP hD hS => ?_)
  have hP : va_P (dC, dI) vwCl [(oX, .inr (5, [.ref oS, .ref oR, .ref oN, .ref o2, .ref oF, .ref oT])), (oR, .inr (2, [.ref oS])), (oS, .inr (3, [.ref rv, .ref rs, .int (nI (min (kc + 1) 6))])), (rv, .inl (cI, 385, .inl v)), (rs, .inl (cI, 2310, .inl (n_push v sv)))] H := hP
  have hD : va_D A [(oX, .inr (5, [.ref oS, .ref oR, .ref oN, .ref o2, .ref oF, .ref oT])), (oR, .inr (2, [.ref oS])), (oS, .inr (3, [.ref rv, .ref rs, .int (nI (min (kc + 1) 6))])), (rv, .inl (cI, 385, .inl v)), (rs, .inl (cI, 2310, .inl (n_push v sv)))] := hD
  refine lv_aload_n hx hb dX5_turn_26 rfl (lv_at hl 0 rfl) ?_
  refine va_get (D := (dC, dI)) (ci := 5) (v := .ref oR) (C := RX5) (T := TX5) (N := 6) hx hb hts (by decide +kernel) hown hK.1 hP 0 rfl rfl 1 (by decide) (hts (.fieldLink RX5 21 "NoteWatermarks" "rolls" "LNoteWatermarks$Rolls;") (by decide +kernel)) (fun _ h9 => h9) rfl dX5_turn_27 ?_
  refine lv_iload_n hx hb dX5_turn_30 rfl (lv_at hl 1 rfl) ?_
  refine lv_aload_n hx hb dX5_turn_31 rfl (lv_at hl 0 rfl) ?_
  refine va_get (D := (dC, dI)) (ci := 5) (v := .ref oS) (C := RX5) (T := TX5) (N := 6) hx hb hts (by decide +kernel) hown hK.1 hP 0 rfl rfl 0 (by decide) (hts (.fieldLink RX5 12 "NoteWatermarks" "state" "LNoteWatermarks$State;") (by decide +kernel)) (fun _ h9 => h9) rfl dX5_turn_32 ?_
  refine lv_iload_n hx hb dX5_turn_35 rfl (lv_at hl 1 rfl) ?_
  refine kq_cS (As := [.int (nI a)]) (rest := [.ref oS, .int (nI a), .ref oR]) ⟨hx, hb, hml, hown, hts⟩ (c_X3_phasePlace l dC dI cI a ) (va_cwS 1 hts gX5_turn_X3_phasePlace rfl rfl rfl (by decide +kernel) ⟨Nat.le_of_ble_eq_true rfl, Nat.le_of_ble_eq_true rfl⟩) (hP.sub [] rfl) hK rfl hl.1 rfl (Nat.le_of_ble_eq_true rfl) dX5_turn_36 ⟨Nat.le_of_ble_eq_true rfl, Nat.le_of_ble_eq_true rfl⟩ ?_
  refine kq_cV (As := [.int (nI (291 + a))]) (rest := [.int (nI a), .ref oR]) ⟨hx, hb, hml, hown, hts⟩ (c_X3_at l dC dI cI oS rv rs (nI (min (kc + 1) 6)) v (291 + a) (by first | assumption | omega)) (cwV 1 hts gX5_turn_X3_at rfl rfl rfl (by decide +kernel) ⟨Nat.le_of_ble_eq_true rfl, Nat.le_of_ble_eq_true rfl⟩) (hP.sub [2, 3] rfl) hK (ci := 3) (q0 := 0) rfl rfl rfl rfl hl.1 rfl (Nat.le_of_ble_eq_true rfl) dX5_turn_39 ⟨Nat.le_of_ble_eq_true rfl, Nat.le_of_ble_eq_true rfl⟩ ?_
  refine kq_top (z := nI (n_p v a)) (n_I_p hI ha) ?_
  refine lv_iload_n hx hb dX5_turn_42 rfl (lv_at hl 2 rfl) ?_
  refine lv_iadd hx hb dX5_turn_43 ?_
  refine kq_callMv (wr := [(oX, .inr (5, [.ref oS, .ref oR, .ref oN, .ref o2, .ref oF, .ref oT])), (rs, .inl (cI, 2310, .inl (n_push v sv)))]) (va_runV (As := [.int (nI a), .int ((nI (n_p v a)) + x)]) (rest := []) ⟨hx, hb, hml, hown, hts⟩ (c_X2_turnTo_i l dC dI cI H.size oR oS rv rs (nI (min (kc + 1) 6)) v a ((n_p v a + k9 + 100 * n_c v a - 99) % n_c v a) (n_c v a) ((nI (n_p v a)) + x) (by first | assumption | omega) (n_I_c hI ha) (by first | assumption | omega) (kq_99 hx9 hu (by omega) (by omega))) (cwV 2 hts gX5_turn_X2_turnTo rfl rfl rfl (by decide +kernel) ⟨Nat.le_of_ble_eq_true rfl, Nat.le_of_ble_eq_true rfl⟩) (kq_preV (ci := 2) (q0 := 0) (hP.sub [1, 2, 3] rfl) (hD.sub [1, 2, 3] (by decide) rfl) hK rfl rfl) rfl rfl hl.1 rfl (lv_room (Nat.le_of_ble_eq_true rfl)) dX5_turn_44 ⟨Nat.le_of_ble_eq_true rfl, Nat.le_of_ble_eq_true rfl⟩) hP hD hS hA [1, 2, 3] [0, 4] rfl rfl (by decide) (by decide) (fun u_11 H locs hw_12 hP hD hS => ?_)
  have hP : va_P (dC, dI) vwCl [(oX, .inr (5, [.ref oS, .ref oR, .ref oN, .ref o2, .ref oF, .ref oT])), (rs, .inl (cI, 2310, .inl (n_push v sv))), (oR, .inr (2, [.ref oS])), (oS, .inr (3, [.ref rv, .ref rs, .int (nI (min (kc + 1) 6))])), (rv, .inl (cI, 385, .inl (upd v (291 + a) (nI ((n_p v a + k9 + 100 * n_c v a - 99) % n_c v a)))))] H := hP
  have hD : va_D A [(oX, .inr (5, [.ref oS, .ref oR, .ref oN, .ref o2, .ref oF, .ref oT])), (rs, .inl (cI, 2310, .inl (n_push v sv))), (oR, .inr (2, [.ref oS])), (oS, .inr (3, [.ref rv, .ref rs, .int (nI (min (kc + 1) 6))])), (rv, .inl (cI, 385, .inl (upd v (291 + a) (nI ((n_p v a + k9 + 100 * n_c v a - 99) % n_c v a)))))] := hD
  refine lv_aload_n hx hb dX5_turn_47 rfl (lv_at hl 0 rfl) ?_
  refine va_get (D := (dC, dI)) (ci := 5) (v := .ref oS) (C := RX5) (T := TX5) (N := 6) hx hb hts (by decide +kernel) hown hK.1 hP 0 rfl rfl 0 (by decide) (hts (.fieldLink RX5 12 "NoteWatermarks" "state" "LNoteWatermarks$State;") (by decide +kernel)) (fun _ h9 => h9) rfl dX5_turn_48 ?_
  refine lv_iload_n hx hb dX5_turn_51 rfl (lv_at hl 1 rfl) ?_
  refine kq_cS (As := [.int (nI a)]) (rest := [.ref oS]) ⟨hx, hb, hml, hown, hts⟩ (c_X3_phasePlace l dC dI cI a ) (va_cwS 1 hts gX5_turn_X3_phasePlace rfl rfl rfl (by decide +kernel) ⟨Nat.le_of_ble_eq_true rfl, Nat.le_of_ble_eq_true rfl⟩) (hP.sub [] rfl) hK rfl hl.1 rfl (Nat.le_of_ble_eq_true rfl) dX5_turn_52 ⟨Nat.le_of_ble_eq_true rfl, Nat.le_of_ble_eq_true rfl⟩ ?_
  refine kq_cV (As := [.int (nI (291 + a))]) (rest := []) ⟨hx, hb, hml, hown, hts⟩ (c_X3_at l dC dI cI oS rv rs (nI (min (kc + 1) 6)) (upd v (291 + a) (nI ((n_p v a + k9 + 100 * n_c v a - 99) % n_c v a))) (291 + a) (by first | assumption | omega)) (cwV 1 hts gX5_turn_X3_at rfl rfl rfl (by decide +kernel) ⟨Nat.le_of_ble_eq_true rfl, Nat.le_of_ble_eq_true rfl⟩) (hP.sub [3, 4] rfl) hK (ci := 3) (q0 := 0) rfl rfl rfl rfl hl.1 rfl (Nat.le_of_ble_eq_true rfl) dX5_turn_55 ⟨Nat.le_of_ble_eq_true rfl, Nat.le_of_ble_eq_true rfl⟩ ?_
  exact kq_retMi () hx hb hr hlocks (hP.sub [0, 3, 4, 1, 2] rfl) (hD.sub [0, 3, 4, 1, 2] (by decide) rfl) hS dX5_turn_58 (by exact pk_us)
set_option maxHeartbeats 4000000 in
set_option maxRecDepth 100000 in
theorem c_X5_ink (l : Launch) (dC : Nat → ClassId) (dI : Nat → Nat → Nat) (cI : ClassId) (sz : Nat) (oX : Nat) (oS : Nat) (oR : Nat) (oN : Nat) (o2 : Nat) (oF : Nat) (oT : Nat) (rv : Nat) (rs : Nat) (kc : Nat) (v : Nat → Int32) (sv : Nat → Int32) (b : Nat) (d : Nat) (h : Nat) (w : Nat) (x : Int32) (hkc : kc ≤ 6) (hb8 : b < 6) (hd : d < 12) (hh : 1 ≤ h ∧ h ≤ 6 - b) (hw9 : 1 ≤ w ∧ w ≤ 12 - d) (hx9 : 0 ≤ x ∧ x ≤ 9) : Met l yX5_ink wsX5_ink ({ frames := 2, cells := 0, slots := 0, locals := 60 }) (kq_M dC dI cI [.ref oX, .int (nI b), .int (nI d), .int (nI h), .int (nI w), .int x] sz [(oX, .inr (5, [.ref oS, .ref oR, .ref oN, .ref o2, .ref oF, .ref oT])), (oS, .inr (3, [.ref rv, .ref rs, .int (nI kc)])), (rv, .inl (cI, 385, .inl v)), (rs, .inl (cI, 2310, .inl sv))]) (va_Qi (fun (r : Int32) (u : Unit) => r = n_inkn v b d h w x) (kq_B dC dI (va_A [(oX, .inr (5, [.ref oS, .ref oR, .ref oN, .ref o2, .ref oF, .ref oT])), (oS, .inr (3, [.ref rv, .ref rs, .int (nI kc)])), (rv, .inl (cI, 385, .inl v)), (rs, .inl (cI, 2310, .inl sv))] sz) (fun u : Unit => [(oX, .inr (5, [.ref oS, .ref oR, .ref oN, .ref o2, .ref oF, .ref oT])), (oS, .inr (3, [.ref rv, .ref rs, .int (nI (min (kc + 1) 6))])), (rv, .inl (cI, 385, .inl (n_ink v b d h w x))), (rs, .inl (cI, 2310, .inl (n_push v sv)))])) (va_A [(oX, .inr (5, [.ref oS, .ref oR, .ref oN, .ref o2, .ref oF, .ref oT])), (oS, .inr (3, [.ref rv, .ref rs, .int (nI kc)])), (rv, .inl (cI, 385, .inl v)), (rs, .inl (cI, 2310, .inl sv))] sz)) 0 0 (va_A [(oX, .inr (5, [.ref oS, .ref oR, .ref oN, .ref o2, .ref oF, .ref oT])), (oS, .inr (3, [.ref rv, .ref rs, .int (nI kc)])), (rv, .inl (cI, 385, .inl v)), (rs, .inl (cI, 2310, .inl sv))] sz) := by
  refine kq_startM (cc := cX5_ink) (maxL := 10) (ret := (some .int)) (by decide) rfl (Nat.le_of_ble_eq_true rfl) ?_
  intro p e s m below meth c hx hb hr hml hown hlocks hts hsz hA hP hD hS hK hnm ls hl
  subst hsz
  generalize hAe : va_A [(oX, .inr (5, [.ref oS, .ref oR, .ref oN, .ref o2, .ref oF, .ref oT])), (oS, .inr (3, [.ref rv, .ref rs, .int (nI kc)])), (rv, .inl (cI, 385, .inl v)), (rs, .inl (cI, 2310, .inl sv))] s.heap.size = A at hA hD hS ⊢
  have hown : s.vm.findClass RX5 = some m.cls := hown
  have hl : lv_has ls 10 [(0, .ref oX), (1, .int (nI b)), (2, .int (nI d)), (3, .int (nI h)), (4, .int (nI w)), (5, .int x)] := hl
  refine lv_iload_n hx hb dX5_ink_0 rfl (lv_at hl 1 rfl) ?_
  refine lv_bipush (v := 6) hx hb dX5_ink_1 (by decide) ?_
  refine kq_cS (As := [.int (nI b), .int 6]) (rest := []) ⟨hx, hb, hml, hown, hts⟩ (c_X5_isIndex_n l dC dI cI b 6 (by first | assumption | omega) (by first | assumption | omega)) (va_cwS 2 hts gX5_ink_X5_isIndex rfl rfl rfl (by decide +kernel) ⟨Nat.le_of_ble_eq_true rfl, Nat.le_of_ble_eq_true rfl⟩) (hP.sub [] rfl) hK rfl hl.1 rfl (Nat.le_of_ble_eq_true rfl) dX5_ink_3 ⟨Nat.le_of_ble_eq_true rfl, Nat.le_of_ble_eq_true rfl⟩ ?_
  refine lv_if_eq (tgt := 22) hx hb dX5_ink_6 (by decide) (fun c_1 => ?_) (fun c_1 => ?_)
  · skip
    have c_1 := kq_bf c_1
    exact absurd hb8 c_1
  · skip
    have c_1 := kq_bt c_1
    refine lv_iload_n hx hb dX5_ink_9 rfl (lv_at hl 2 rfl) ?_
    refine lv_bipush (v := 12) hx hb dX5_ink_10 (by decide) ?_
    refine kq_cS (As := [.int (nI d), .int 12]) (rest := []) ⟨hx, hb, hml, hown, hts⟩ (c_X5_isIndex_n l dC dI cI d 12 (by first | assumption | omega) (by first | assumption | omega)) (va_cwS 2 hts gX5_ink_X5_isIndex rfl rfl rfl (by decide +kernel) ⟨Nat.le_of_ble_eq_true rfl, Nat.le_of_ble_eq_true rfl⟩) (hP.sub [] rfl) hK rfl hl.1 rfl (Nat.le_of_ble_eq_true rfl) dX5_ink_12 ⟨Nat.le_of_ble_eq_true rfl, Nat.le_of_ble_eq_true rfl⟩ ?_
    refine lv_if_eq (tgt := 22) hx hb dX5_ink_15 (by decide) (fun c_2 => ?_) (fun c_2 => ?_)
    · skip
      have c_2 := kq_bf c_2
      exact absurd hd c_2
    · skip
      have c_2 := kq_bt c_2
      refine lv_iconst (v := 1) hx hb dX5_ink_18 (by decide) ?_
      refine lv_goto (tgt := 23) hx hb dX5_ink_19 (by decide) ?_
      refine kq_callMv (wr := [(oX, .inr (5, [.ref oS, .ref oR, .ref oN, .ref o2, .ref oF, .ref oT])), (oS, .inr (3, [.ref rv, .ref rs, .int (nI kc)])), (rv, .inl (cI, 385, .inl v)), (rs, .inl (cI, 2310, .inl sv))]) (va_runS (As := [.int 1]) (rest := []) ⟨hx, hb, hml, hown, hts⟩ (c_X5_needPlace l dC dI cI s.heap.size  ) (va_cwS 1 hts gX5_ink_X5_needPlace rfl rfl rfl (by decide +kernel) ⟨Nat.le_of_ble_eq_true rfl, Nat.le_of_ble_eq_true rfl⟩) (kq_preS (hP.sub [] rfl) (hD.sub [] (by decide) rfl) hK) rfl rfl hl.1 rfl (lv_room (Nat.le_of_ble_eq_true rfl)) dX5_ink_23 ⟨Nat.le_of_ble_eq_true rfl, Nat.le_of_ble_eq_true rfl⟩) hP hD hS hA [] [0, 1, 2, 3] rfl rfl (by decide) (by decide) (fun u_4 H locs hw_5 hP hD hS => ?_)
      have hP : va_P (dC, dI) vwCl [(oX, .inr (5, [.ref oS, .ref oR, .ref oN, .ref o2, .ref oF, .ref oT])), (oS, .inr (3, [.ref rv, .ref rs, .int (nI kc)])), (rv, .inl (cI, 385, .inl v)), (rs, .inl (cI, 2310, .inl sv))] H := hP
      have hD : va_D A [(oX, .inr (5, [.ref oS, .ref oR, .ref oN, .ref o2, .ref oF, .ref oT])), (oS, .inr (3, [.ref rv, .ref rs, .int (nI kc)])), (rv, .inl (cI, 385, .inl v)), (rs, .inl (cI, 2310, .inl sv))] := hD
      refine lv_iload_n hx hb dX5_ink_26 rfl (lv_at hl 3 rfl) ?_
      refine lv_iconst (v := 1) hx hb dX5_ink_27 (by decide) ?_
      refine lv_bipush (v := 6) hx hb dX5_ink_28 (by decide) ?_
      refine lv_iload_n hx hb dX5_ink_30 rfl (lv_at hl 1 rfl) ?_
      refine lv_isub hx hb dX5_ink_31 ?_
      refine kq_top (z := nI (6 - b)) (pk_sub (a := 6) (b := b) (by omega)) ?_
      refine kq_cS (As := [.int (nI h), .int 1, .int (nI (6 - b))]) (rest := []) ⟨hx, hb, hml, hown, hts⟩ (c_X5_isBetween_n l dC dI cI h 1 (6 - b) (by first | assumption | omega) (by first | assumption | omega) (by first | assumption | omega)) (va_cwS 3 hts gX5_ink_X5_isBetween rfl rfl rfl (by decide +kernel) ⟨Nat.le_of_ble_eq_true rfl, Nat.le_of_ble_eq_true rfl⟩) (hP.sub [] rfl) hK rfl hl.1 rfl (Nat.le_of_ble_eq_true rfl) dX5_ink_32 ⟨Nat.le_of_ble_eq_true rfl, Nat.le_of_ble_eq_true rfl⟩ ?_
      refine lv_if_eq (tgt := 66) hx hb dX5_ink_35 (by decide) (fun c_6 => ?_) (fun c_6 => ?_)
      · skip
        have c_6 := kq_bf c_6
        exact absurd hh c_6
      · skip
        have c_6 := kq_bt c_6
        refine lv_iload hx hb dX5_ink_38 (lv_at hl 4 rfl) ?_
        refine lv_iconst (v := 1) hx hb dX5_ink_40 (by decide) ?_
        refine lv_bipush (v := 12) hx hb dX5_ink_41 (by decide) ?_
        refine lv_iload_n hx hb dX5_ink_43 rfl (lv_at hl 2 rfl) ?_
        refine lv_isub hx hb dX5_ink_44 ?_
        refine kq_top (z := nI (12 - d)) (pk_sub (a := 12) (b := d) (by omega)) ?_
        refine kq_cS (As := [.int (nI w), .int 1, .int (nI (12 - d))]) (rest := []) ⟨hx, hb, hml, hown, hts⟩ (c_X5_isBetween_n l dC dI cI w 1 (12 - d) (by first | assumption | omega) (by first | assumption | omega) (by first | assumption | omega)) (va_cwS 3 hts gX5_ink_X5_isBetween rfl rfl rfl (by decide +kernel) ⟨Nat.le_of_ble_eq_true rfl, Nat.le_of_ble_eq_true rfl⟩) (hP.sub [] rfl) hK rfl hl.1 rfl (Nat.le_of_ble_eq_true rfl) dX5_ink_45 ⟨Nat.le_of_ble_eq_true rfl, Nat.le_of_ble_eq_true rfl⟩ ?_
        refine lv_if_eq (tgt := 66) hx hb dX5_ink_48 (by decide) (fun c_7 => ?_) (fun c_7 => ?_)
        · skip
          have c_7 := kq_bf c_7
          exact absurd hw9 c_7
        · skip
          have c_7 := kq_bt c_7
          refine lv_iload hx hb dX5_ink_51 (lv_at hl 5 rfl) ?_
          refine lv_iconst (v := 0) hx hb dX5_ink_53 (by decide) ?_
          refine lv_bipush (v := 9) hx hb dX5_ink_54 (by decide) ?_
          refine kq_cS (As := [.int x, .int 0, .int 9]) (rest := []) ⟨hx, hb, hml, hown, hts⟩ (c_X5_isBetween l dC dI cI x 0 9 ) (va_cwS 3 hts gX5_ink_X5_isBetween rfl rfl rfl (by decide +kernel) ⟨Nat.le_of_ble_eq_true rfl, Nat.le_of_ble_eq_true rfl⟩) (hP.sub [] rfl) hK rfl hl.1 rfl (Nat.le_of_ble_eq_true rfl) dX5_ink_56 ⟨Nat.le_of_ble_eq_true rfl, Nat.le_of_ble_eq_true rfl⟩ ?_
          refine lv_if_eq (tgt := 66) hx hb dX5_ink_59 (by decide) (fun c_8 => ?_) (fun c_8 => ?_)
          · skip
            have c_8 := kq_bf c_8
            exact absurd hx9 c_8
          · skip
            have c_8 := kq_bt c_8
            refine lv_iconst (v := 1) hx hb dX5_ink_62 (by decide) ?_
            refine lv_goto (tgt := 67) hx hb dX5_ink_63 (by decide) ?_
            refine kq_callMv (wr := [(oX, .inr (5, [.ref oS, .ref oR, .ref oN, .ref o2, .ref oF, .ref oT])), (oS, .inr (3, [.ref rv, .ref rs, .int (nI kc)])), (rv, .inl (cI, 385, .inl v)), (rs, .inl (cI, 2310, .inl sv))]) (va_runS (As := [.int 1]) (rest := []) ⟨hx, hb, hml, hown, hts⟩ (c_X5_needArgument l dC dI cI H.size  ) (va_cwS 1 hts gX5_ink_X5_needArgument rfl rfl rfl (by decide +kernel) ⟨Nat.le_of_ble_eq_true rfl, Nat.le_of_ble_eq_true rfl⟩) (kq_preS (hP.sub [] rfl) (hD.sub [] (by decide) rfl) hK) rfl rfl hl.1 rfl (lv_room (Nat.le_of_ble_eq_true rfl)) dX5_ink_67 ⟨Nat.le_of_ble_eq_true rfl, Nat.le_of_ble_eq_true rfl⟩) hP hD hS hA [] [0, 1, 2, 3] rfl rfl (by decide) (by decide) (fun u_10 H locs hw_11 hP hD hS => ?_)
            have hP : va_P (dC, dI) vwCl [(oX, .inr (5, [.ref oS, .ref oR, .ref oN, .ref o2, .ref oF, .ref oT])), (oS, .inr (3, [.ref rv, .ref rs, .int (nI kc)])), (rv, .inl (cI, 385, .inl v)), (rs, .inl (cI, 2310, .inl sv))] H := hP
            have hD : va_D A [(oX, .inr (5, [.ref oS, .ref oR, .ref oN, .ref o2, .ref oF, .ref oT])), (oS, .inr (3, [.ref rv, .ref rs, .int (nI kc)])), (rv, .inl (cI, 385, .inl v)), (rs, .inl (cI, 2310, .inl sv))] := hD
            refine lv_aload_n hx hb dX5_ink_70 rfl (lv_at hl 0 rfl) ?_
            refine va_get (D := (dC, dI)) (ci := 5) (v := .ref oS) (C := RX5) (T := TX5) (N := 6) hx hb hts (by decide +kernel) hown hK.1 hP 0 rfl rfl 0 (by decide) (hts (.fieldLink RX5 12 "NoteWatermarks" "state" "LNoteWatermarks$State;") (by decide +kernel)) (fun _ h9 => h9) rfl dX5_ink_71 ?_
            refine kq_callMv (wr := [(oX, .inr (5, [.ref oS, .ref oR, .ref oN, .ref o2, .ref oF, .ref oT]))]) (va_runV (As := []) (rest := []) ⟨hx, hb, hml, hown, hts⟩ (c_X3_save l dC dI cI H.size oS rv rs kc v sv (by first | assumption | omega)) (cwV 0 hts gX5_ink_X3_save rfl rfl rfl (by decide +kernel) ⟨Nat.le_of_ble_eq_true rfl, Nat.le_of_ble_eq_true rfl⟩) (kq_preV (ci := 3) (q0 := 0) (hP.sub [1, 2, 3] rfl) (hD.sub [1, 2, 3] (by decide) rfl) hK rfl rfl) rfl rfl hl.1 rfl (lv_room (Nat.le_of_ble_eq_true rfl)) dX5_ink_74 ⟨Nat.le_of_ble_eq_true rfl, Nat.le_of_ble_eq_true rfl⟩) hP hD hS hA [1, 2, 3] [0] rfl rfl (by decide) (by decide) (fun u_13 H locs hw_14 hP hD hS => ?_)
            have hP : va_P (dC, dI) vwCl [(oX, .inr (5, [.ref oS, .ref oR, .ref oN, .ref o2, .ref oF, .ref oT])), (oS, .inr (3, [.ref rv, .ref rs, .int (nI (min (kc + 1) 6))])), (rv, .inl (cI, 385, .inl v)), (rs, .inl (cI, 2310, .inl (n_push v sv)))] H := hP
            have hD : va_D A [(oX, .inr (5, [.ref oS, .ref oR, .ref oN, .ref o2, .ref oF, .ref oT])), (oS, .inr (3, [.ref rv, .ref rs, .int (nI (min (kc + 1) 6))])), (rv, .inl (cI, 385, .inl v)), (rs, .inl (cI, 2310, .inl (n_push v sv)))] := hD
            refine lv_iconst (v := 0) hx hb dX5_ink_77 (by decide) ?_
            refine lv_istore (lv' := [(6, .int 0), (0, .ref oX), (1, .int (nI b)), (2, .int (nI d)), (3, .int (nI h)), (4, .int (nI w)), (5, .int x)]) hx hb dX5_ink_78 hl (by decide) rfl (fun ls hl => ?_)
            refine lv_iload_n hx hb dX5_ink_80 rfl (lv_at hl 2 rfl) ?_
            refine lv_istore (lv' := [(7, .int (nI b)), (6, .int 0), (0, .ref oX), (1, .int (nI b)), (2, .int (nI d)), (3, .int (nI h)), (4, .int (nI w)), (5, .int x)]) hx hb dX5_ink_81 hl (by decide) rfl (fun ls hl => ?_)
            refine kq_loopM3 (A1 := Nat) (A2 := Int32) (A3 := Nat → Int32) (fun (y : Nat) (j : Int32) (g : Nat → Int32) => b + h - y) (fun (y : Nat) (j : Int32) (g : Nat → Int32) => (b ≤ y ∧ y ≤ b + h) ∧ (j = n_iv (fun y => n_iv (fun z => if v (294 + (y * 12 + z)) = x then 0 else 1) d (d + w)) b y) ∧ (∀ q, g q = if (294 ≤ q ∧ q < 366) ∧ (b ≤ (q - 294) / 12 ∧ (q - 294) / 12 < y) ∧ (d ≤ (q - 294) % 12 ∧ (q - 294) % 12 < d + w) then x else v q)) (fun (y : Nat) (j : Int32) (g : Nat → Int32) => [(0, .ref oX), (1, .int (nI b)), (2, .int (nI d)), (3, .int (nI h)), (4, .int (nI w)), (5, .int x), (6, .int j), (7, .int (nI y))]) (fun (y : Nat) (j : Int32) (g : Nat → Int32) => [(oX, .inr (5, [.ref oS, .ref oR, .ref oN, .ref o2, .ref oF, .ref oT])), (oS, .inr (3, [.ref rv, .ref rs, .int (nI (min (kc + 1) 6))])), (rv, .inl (cI, 385, .inl g)), (rs, .inl (cI, 2310, .inl (n_push v sv)))]) (nL := 10) hK ?_ b 0 v ⟨(by omega), (by exact n_iv_0.symm), (by intro q; rw [if_neg (by omega)])⟩ hP hD hS _ (lv_sub hl [2, 3, 4, 5, 6, 7, 1, 0] rfl)
            intro y j g hi_16 ih_15 H locs hP hD hS ls hl
            obtain ⟨iy, ij, ig⟩ := hi_16
            have hl : lv_has ls 10 [(0, .ref oX), (1, .int (nI b)), (2, .int (nI d)), (3, .int (nI h)), (4, .int (nI w)), (5, .int x), (6, .int j), (7, .int (nI y))] := hl
            have hP : va_P (dC, dI) vwCl [(oX, .inr (5, [.ref oS, .ref oR, .ref oN, .ref o2, .ref oF, .ref oT])), (oS, .inr (3, [.ref rv, .ref rs, .int (nI (min (kc + 1) 6))])), (rv, .inl (cI, 385, .inl g)), (rs, .inl (cI, 2310, .inl (n_push v sv)))] H := hP
            have hD : va_D A [(oX, .inr (5, [.ref oS, .ref oR, .ref oN, .ref o2, .ref oF, .ref oT])), (oS, .inr (3, [.ref rv, .ref rs, .int (nI (min (kc + 1) 6))])), (rv, .inl (cI, 385, .inl g)), (rs, .inl (cI, 2310, .inl (n_push v sv)))] := hD
            refine lv_iload hx hb dX5_ink_83 (lv_at hl 7 rfl) ?_
            refine lv_iload_n hx hb dX5_ink_85 rfl (lv_at hl 1 rfl) ?_
            refine lv_iload_n hx hb dX5_ink_86 rfl (lv_at hl 3 rfl) ?_
            refine lv_iadd hx hb dX5_ink_87 ?_
            refine kq_top (z := nI (b + h)) (nI_add b h) ?_
            refine lv_icmp_ge (tgt := 152) hx hb dX5_ink_88 (by decide) (fun c_17 => ?_) (fun c_17 => ?_)
            · skip
              have c_17 := kq_leN (a := (b + h)) (b := y) c_17 (by omega) (by omega)
              refine lv_iload hx hb dX5_ink_152 (lv_at hl 6 rfl) ?_
              have hg : g = n_ink v b d h w x := by funext q; rw [ig q, n_ink, show y = b + h by omega]
              rw [hg] at hP hD
              exact kq_retMi () hx hb hr hlocks hP hD hS dX5_ink_154 (by rw [ij, n_inkn, show y = b + h by omega])
            · skip
              have c_17 := kq_nleN (a := (b + h)) (b := y) c_17 (by omega) (by omega)
              refine lv_iload_n hx hb dX5_ink_91 rfl (lv_at hl 2 rfl) ?_
              refine lv_istore (lv' := [(8, .int (nI d)), (0, .ref oX), (1, .int (nI b)), (2, .int (nI d)), (3, .int (nI h)), (4, .int (nI w)), (5, .int x), (6, .int j), (7, .int (nI y))]) hx hb dX5_ink_92 hl (by decide) rfl (fun ls hl => ?_)
              refine kq_loopM3 (A1 := Nat) (A2 := Int32) (A3 := Nat → Int32) (fun (z : Nat) (j : Int32) (g : Nat → Int32) => d + w - z) (fun (z : Nat) (j : Int32) (g : Nat → Int32) => (d ≤ z ∧ z ≤ d + w) ∧ (j = n_iv (fun y => n_iv (fun z => if v (294 + (y * 12 + z)) = x then 0 else 1) d (d + w)) b y + n_iv (fun z => if v (294 + (y * 12 + z)) = x then 0 else 1) d z) ∧ (∀ q, g q = if (294 ≤ q ∧ q < 366) ∧ (b ≤ (q - 294) / 12 ∧ (q - 294) / 12 < y + 1) ∧ (d ≤ (q - 294) % 12 ∧ (q - 294) % 12 < d + w) ∧ ((q - 294) / 12 = y → (q - 294) % 12 < z) then x else v q)) (fun (z : Nat) (j : Int32) (g : Nat → Int32) => [(0, .ref oX), (1, .int (nI b)), (2, .int (nI d)), (3, .int (nI h)), (4, .int (nI w)), (5, .int x), (6, .int j), (7, .int (nI y)), (8, .int (nI z))]) (fun (z : Nat) (j : Int32) (g : Nat → Int32) => [(oX, .inr (5, [.ref oS, .ref oR, .ref oN, .ref o2, .ref oF, .ref oT])), (oS, .inr (3, [.ref rv, .ref rs, .int (nI (min (kc + 1) 6))])), (rv, .inl (cI, 385, .inl g)), (rs, .inl (cI, 2310, .inl (n_push v sv)))]) (nL := 10) hK ?_ d j g ⟨(by omega), (by rw [n_iv_0, Int32.add_zero]; exact ij), (by intro q; rw [ig q]; by_cases hc : (294 ≤ q ∧ q < 366) ∧ (b ≤ (q - 294) / 12 ∧ (q - 294) / 12 < y) ∧ (d ≤ (q - 294) % 12 ∧ (q - 294) % 12 < d + w); rw [if_pos hc, if_pos (by omega)]; rw [if_neg hc, if_neg (by omega)])⟩ hP hD hS _ (lv_sub hl [1, 2, 3, 4, 5, 6, 7, 8, 0] rfl)
              intro z j g hi_19 ih_18 H locs hP hD hS ls hl
              obtain ⟨iz, ij, ig⟩ := hi_19
              have hl : lv_has ls 10 [(0, .ref oX), (1, .int (nI b)), (2, .int (nI d)), (3, .int (nI h)), (4, .int (nI w)), (5, .int x), (6, .int j), (7, .int (nI y)), (8, .int (nI z))] := hl
              have hP : va_P (dC, dI) vwCl [(oX, .inr (5, [.ref oS, .ref oR, .ref oN, .ref o2, .ref oF, .ref oT])), (oS, .inr (3, [.ref rv, .ref rs, .int (nI (min (kc + 1) 6))])), (rv, .inl (cI, 385, .inl g)), (rs, .inl (cI, 2310, .inl (n_push v sv)))] H := hP
              have hD : va_D A [(oX, .inr (5, [.ref oS, .ref oR, .ref oN, .ref o2, .ref oF, .ref oT])), (oS, .inr (3, [.ref rv, .ref rs, .int (nI (min (kc + 1) 6))])), (rv, .inl (cI, 385, .inl g)), (rs, .inl (cI, 2310, .inl (n_push v sv)))] := hD
              refine lv_iload hx hb dX5_ink_94 (lv_at hl 8 rfl) ?_
              refine lv_iload_n hx hb dX5_ink_96 rfl (lv_at hl 2 rfl) ?_
              refine lv_iload hx hb dX5_ink_97 (lv_at hl 4 rfl) ?_
              refine lv_iadd hx hb dX5_ink_99 ?_
              refine kq_top (z := nI (d + w)) (nI_add d w) ?_
              refine lv_icmp_ge (tgt := 146) hx hb dX5_ink_100 (by decide) (fun c_20 => ?_) (fun c_20 => ?_)
              · skip
                have c_20 := kq_leN (a := (d + w)) (b := z) c_20 (by omega) (by omega)
                refine lv_iinc (v := nI (y + 1)) (lv' := [(7, .int (nI (y + 1))), (0, .ref oX), (1, .int (nI b)), (2, .int (nI d)), (3, .int (nI h)), (4, .int (nI w)), (5, .int x), (6, .int j), (8, .int (nI z))]) hx hb dX5_ink_146 hl (k := 7) rfl (nI_1 y) (by decide) rfl (fun ls hl => ?_)
                refine lv_goto (tgt := 83) hx hb dX5_ink_149 (by decide) ?_
                exact ih_15 (y + 1) j g ⟨(by omega), (by rw [n_iv_s (by omega), ij, show z = d + w by omega]), (by intro q; rw [ig q]; by_cases hc : (294 ≤ q ∧ q < 366) ∧ (b ≤ (q - 294) / 12 ∧ (q - 294) / 12 < y + 1) ∧ (d ≤ (q - 294) % 12 ∧ (q - 294) % 12 < d + w); rw [if_pos hc, if_pos (by omega)]; rw [if_neg hc, if_neg (by omega)])⟩ (by show b + h - (y + 1) < b + h - y; omega) _ _ hP hD hS _ (lv_sub hl [1, 2, 3, 4, 5, 6, 7, 0] rfl)
              · skip
                have c_20 := kq_nleN (a := (d + w)) (b := z) c_20 (by omega) (by omega)
                refine lv_iload hx hb dX5_ink_103 (lv_at hl 7 rfl) ?_
                refine lv_iload hx hb dX5_ink_105 (lv_at hl 8 rfl) ?_
                have hgz : g (294 + y * 12 + z) = v (294 + (y * 12 + z)) := by rw [ig, if_neg (by omega), show 294 + y * 12 + z = 294 + (y * 12 + z) by omega]
                refine kq_cS (As := [.int (nI y), .int (nI z)]) (rest := []) ⟨hx, hb, hml, hown, hts⟩ (c_X3_inkPlace l dC dI cI y z ) (va_cwS 2 hts gX5_ink_X3_inkPlace rfl rfl rfl (by decide +kernel) ⟨Nat.le_of_ble_eq_true rfl, Nat.le_of_ble_eq_true rfl⟩) (hP.sub [] rfl) hK rfl hl.1 rfl (Nat.le_of_ble_eq_true rfl) dX5_ink_107 ⟨Nat.le_of_ble_eq_true rfl, Nat.le_of_ble_eq_true rfl⟩ ?_
                refine lv_istore (lv' := [(9, .int (nI (294 + y * 12 + z))), (0, .ref oX), (1, .int (nI b)), (2, .int (nI d)), (3, .int (nI h)), (4, .int (nI w)), (5, .int x), (6, .int j), (7, .int (nI y)), (8, .int (nI z))]) hx hb dX5_ink_110 hl (by decide) rfl (fun ls hl => ?_)
                refine lv_aload_n hx hb dX5_ink_112 rfl (lv_at hl 1 rfl) ?_
                refine va_get (D := (dC, dI)) (ci := 5) (v := .ref oS) (C := RX5) (T := TX5) (N := 6) hx hb hts (by decide +kernel) hown hK.1 hP 0 rfl rfl 0 (by decide) (hts (.fieldLink RX5 12 "NoteWatermarks" "state" "LNoteWatermarks$State;") (by decide +kernel)) (fun _ h9 => h9) rfl dX5_ink_113 ?_
                refine lv_iload hx hb dX5_ink_116 (lv_at hl 0 rfl) ?_
                refine kq_cV (As := [.int (nI (294 + y * 12 + z))]) (rest := []) ⟨hx, hb, hml, hown, hts⟩ (c_X3_at l dC dI cI oS rv rs (nI (min (kc + 1) 6)) g (294 + y * 12 + z) (by first | assumption | omega)) (cwV 1 hts gX5_ink_X3_at rfl rfl rfl (by decide +kernel) ⟨Nat.le_of_ble_eq_true rfl, Nat.le_of_ble_eq_true rfl⟩) (hP.sub [1, 2] rfl) hK (ci := 3) (q0 := 0) rfl rfl rfl rfl hl.1 rfl (Nat.le_of_ble_eq_true rfl) dX5_ink_118 ⟨Nat.le_of_ble_eq_true rfl, Nat.le_of_ble_eq_true rfl⟩ ?_
                refine kq_top (z := v (294 + (y * 12 + z))) (hgz) ?_
                refine lv_iload hx hb dX5_ink_121 (lv_at hl 6 rfl) ?_
                refine lv_icmp_eq (tgt := 140) hx hb dX5_ink_123 (by decide) (fun c_21 => ?_) (fun c_21 => ?_)
                · skip
                  refine lv_iinc (v := nI (z + 1)) (lv' := [(8, .int (nI (z + 1))), (9, .int (nI (294 + y * 12 + z))), (0, .ref oX), (1, .int (nI b)), (2, .int (nI d)), (3, .int (nI h)), (4, .int (nI w)), (5, .int x), (6, .int j), (7, .int (nI y))]) hx hb dX5_ink_140 hl (k := 9) rfl (nI_1 z) (by decide) rfl (fun ls hl => ?_)
                  refine lv_goto (tgt := 94) hx hb dX5_ink_143 (by decide) ?_
                  exact ih_18 (z + 1) j g ⟨(by omega), (by rw [ij, n_iv_s (show d ≤ z by omega)]; first | rw [if_pos (by assumption), Int32.add_zero] | rw [if_neg (by assumption), Int32.add_assoc]), (by intro q; by_cases hq : q = 294 + y * 12 + z; subst hq; (first | rw [pk_us, if_pos (by omega)] | (rw [if_pos (by omega), hgz]; assumption)); (first | rw [pk_un hq, ig q] | rw [ig q]); by_cases hc : (294 ≤ q ∧ q < 366) ∧ (b ≤ (q - 294) / 12 ∧ (q - 294) / 12 < y + 1) ∧ (d ≤ (q - 294) % 12 ∧ (q - 294) % 12 < d + w) ∧ ((q - 294) / 12 = y → (q - 294) % 12 < z); rw [if_pos hc, if_pos (by omega)]; rw [if_neg hc, if_neg (by omega)])⟩ (by show d + w - (z + 1) < d + w - z; omega) _ _ hP hD hS _ (lv_sub hl [2, 3, 4, 5, 6, 7, 8, 9, 0] rfl)
                · skip
                  refine lv_aload_n hx hb dX5_ink_126 rfl (lv_at hl 1 rfl) ?_
                  refine va_get (D := (dC, dI)) (ci := 5) (v := .ref oS) (C := RX5) (T := TX5) (N := 6) hx hb hts (by decide +kernel) hown hK.1 hP 0 rfl rfl 0 (by decide) (hts (.fieldLink RX5 12 "NoteWatermarks" "state" "LNoteWatermarks$State;") (by decide +kernel)) (fun _ h9 => h9) rfl dX5_ink_127 ?_
                  refine lv_iload hx hb dX5_ink_130 (lv_at hl 0 rfl) ?_
                  refine lv_iload hx hb dX5_ink_132 (lv_at hl 6 rfl) ?_
                  refine kq_callMv (wr := [(oX, .inr (5, [.ref oS, .ref oR, .ref oN, .ref o2, .ref oF, .ref oT])), (rs, .inl (cI, 2310, .inl (n_push v sv)))]) (va_runV (As := [.int (nI (294 + y * 12 + z)), .int x]) (rest := []) ⟨hx, hb, hml, hown, hts⟩ (c_X3_put l dC dI cI H.size oS rv rs (nI (min (kc + 1) 6)) g (294 + y * 12 + z) x (by first | assumption | omega)) (cwV 2 hts gX5_ink_X3_put rfl rfl rfl (by decide +kernel) ⟨Nat.le_of_ble_eq_true rfl, Nat.le_of_ble_eq_true rfl⟩) (kq_preV (ci := 3) (q0 := 0) (hP.sub [1, 2] rfl) (hD.sub [1, 2] (by decide) rfl) hK rfl rfl) rfl rfl hl.1 rfl (lv_room (Nat.le_of_ble_eq_true rfl)) dX5_ink_134 ⟨Nat.le_of_ble_eq_true rfl, Nat.le_of_ble_eq_true rfl⟩) hP hD hS hA [1, 2] [0, 3] rfl rfl (by decide) (by decide) (fun u_23 H locs hw_24 hP hD hS => ?_)
                  have hP : va_P (dC, dI) vwCl [(oX, .inr (5, [.ref oS, .ref oR, .ref oN, .ref o2, .ref oF, .ref oT])), (rs, .inl (cI, 2310, .inl (n_push v sv))), (oS, .inr (3, [.ref rv, .ref rs, .int (nI (min (kc + 1) 6))])), (rv, .inl (cI, 385, .inl (upd g (294 + y * 12 + z) x)))] H := hP
                  have hD : va_D A [(oX, .inr (5, [.ref oS, .ref oR, .ref oN, .ref o2, .ref oF, .ref oT])), (rs, .inl (cI, 2310, .inl (n_push v sv))), (oS, .inr (3, [.ref rv, .ref rs, .int (nI (min (kc + 1) 6))])), (rv, .inl (cI, 385, .inl (upd g (294 + y * 12 + z) x)))] := hD
                  refine lv_iinc (v := j + 1) (lv' := [(6, .int (j + 1)), (9, .int (nI (294 + y * 12 + z))), (0, .ref oX), (1, .int (nI b)), (2, .int (nI d)), (3, .int (nI h)), (4, .int (nI w)), (5, .int x), (7, .int (nI y)), (8, .int (nI z))]) hx hb dX5_ink_137 hl (k := 7) rfl (rfl) (by decide) rfl (fun ls hl => ?_)
                  refine lv_iinc (v := nI (z + 1)) (lv' := [(8, .int (nI (z + 1))), (6, .int (j + 1)), (9, .int (nI (294 + y * 12 + z))), (0, .ref oX), (1, .int (nI b)), (2, .int (nI d)), (3, .int (nI h)), (4, .int (nI w)), (5, .int x), (7, .int (nI y))]) hx hb dX5_ink_140 hl (k := 9) rfl (nI_1 z) (by decide) rfl (fun ls hl => ?_)
                  refine lv_goto (tgt := 94) hx hb dX5_ink_143 (by decide) ?_
                  exact ih_18 (z + 1) (j + 1) (upd g (294 + y * 12 + z) x) ⟨(by omega), (by rw [ij, n_iv_s (show d ≤ z by omega)]; first | rw [if_pos (by assumption), Int32.add_zero] | rw [if_neg (by assumption), Int32.add_assoc]), (by intro q; by_cases hq : q = 294 + y * 12 + z; subst hq; (first | rw [pk_us, if_pos (by omega)] | (rw [if_pos (by omega), hgz]; assumption)); (first | rw [pk_un hq, ig q] | rw [ig q]); by_cases hc : (294 ≤ q ∧ q < 366) ∧ (b ≤ (q - 294) / 12 ∧ (q - 294) / 12 < y + 1) ∧ (d ≤ (q - 294) % 12 ∧ (q - 294) % 12 < d + w) ∧ ((q - 294) / 12 = y → (q - 294) % 12 < z); rw [if_pos hc, if_pos (by omega)]; rw [if_neg hc, if_neg (by omega)])⟩ (by show d + w - (z + 1) < d + w - z; omega) _ _ (hP.sub [0, 2, 3, 1] rfl) (hD.sub [0, 2, 3, 1] (by decide) rfl) hS _ (lv_sub hl [3, 4, 5, 6, 7, 8, 1, 9, 0] rfl)
