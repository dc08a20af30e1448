set_option maxHeartbeats 4000000 in
set_option maxRecDepth 100000 in
theorem c_X5_wire_x (l : Launch) (hls : l.stackTraces = false) (dC : Nat → ClassId) (dI : Nat → Nat → Nat) (cI : ClassId) (s1 s2 s3 s4 sz : Nat) (oX : Nat) (oS : Nat) (oR : Nat) (oN : Nat) (o2 : Nat) (oF : Nat) (oT : Nat) (rv : Nat) (rs : Nat) (kc : Nat) (v : Nat → Int32) (sv : Nat → Int32) (x1 : Int32) (x2 : Int32) (x3 : Int32) (x4 : Int32) (hbad : ¬ ((0 ≤ x1 ∧ x1 < 3) ∧ (0 ≤ x2 ∧ x2 < 6) ∧ (0 ≤ x3 ∧ x3 < 16) ∧ (-3 ≤ x4 ∧ x4 ≤ 3))) : vx_Met l yX5_wire wsX5_wire ({ frames := 7, cells := 1, slots := 6, locals := 102 }) (kq_X dC dI cI s1 s2 s3 s4 [.ref oX, .int x1, .int x2, .int x3, .int x4] sz [(oX, .inr (5, [.ref oS, .ref oR, .ref oN, .ref o2, .ref oF, .ref oT])), (oS, .inr (3, [.ref rv, .ref rs, .int (nI kc)])), (rv, .inl (cI, 385, .inl v)), (rs, .inl (cI, 2310, .inl sv))]) kq_no (kq_XC dC dI (fun E => (¬ ((0 ≤ x1 ∧ x1 < 3) ∧ (0 ≤ x2 ∧ x2 < 6) ∧ (0 ≤ x3 ∧ x3 < 16)) → E = "java/lang/IndexOutOfBoundsException") ∧ (((0 ≤ x1 ∧ x1 < 3) ∧ (0 ≤ x2 ∧ x2 < 6) ∧ (0 ≤ x3 ∧ x3 < 16)) → ¬ ((-3 ≤ x4 ∧ x4 ≤ 3)) → E = "java/lang/IllegalArgumentException")) [(oX, .inr (5, [.ref oS, .ref oR, .ref oN, .ref o2, .ref oF, .ref oT])), (oS, .inr (3, [.ref rv, .ref rs, .int (nI kc)])), (rv, .inl (cI, 385, .inl v)), (rs, .inl (cI, 2310, .inl sv))] (va_A [(oX, .inr (5, [.ref oS, .ref oR, .ref oN, .ref o2, .ref oF, .ref oT])), (oS, .inr (3, [.ref rv, .ref rs, .int (nI kc)])), (rv, .inl (cI, 385, .inl v)), (rs, .inl (cI, 2310, .inl sv))] sz)) 1 6 (va_A [(oX, .inr (5, [.ref oS, .ref oR, .ref oN, .ref o2, .ref oF, .ref oT])), (oS, .inr (3, [.ref rv, .ref rs, .int (nI kc)])), (rv, .inl (cI, 385, .inl v)), (rs, .inl (cI, 2310, .inl sv))] sz) := by
  refine kq_startX (cc := cX5_wire) (maxL := 6) (ret := (some .int)) (by decide) rfl (Nat.le_of_ble_eq_true rfl) ?_
  intro p e s m below meth c hx hb hr hml hown hlocks hts hsz hA hP hD hS hK hnm hnt hT ls hl
  subst hsz
  generalize hAe : va_A [(oX, .inr (5, [.ref oS, .ref oR, .ref oN, .ref o2, .ref oF, .ref oT])), (oS, .inr (3, [.ref rv, .ref rs, .int (nI kc)])), (rv, .inl (cI, 385, .inl v)), (rs, .inl (cI, 2310, .inl sv))] s.heap.size = A at hA hD hS hT ⊢
  have hown : s.vm.findClass RX5 = some m.cls := hown
  have hl : lv_has ls 6 [(0, .ref oX), (1, .int x1), (2, .int x2), (3, .int x3), (4, .int x4)] := hl
  refine lv_iload_n hx hb dX5_wire_0 rfl (lv_at hl 1 rfl) ?_
  refine lv_iconst (v := 3) hx hb dX5_wire_1 (by decide) ?_
  refine kq_cS (As := [.int x1, .int 3]) (rest := []) ⟨hx, hb, hml, hown, hts⟩ (c_X5_isIndex l dC dI cI x1 3 ) (va_cwS 2 hts gX5_wire_X5_isIndex rfl rfl rfl (by decide +kernel) ⟨Nat.le_of_ble_eq_true rfl, Nat.le_of_ble_eq_true rfl⟩) (hP.sub [] rfl) hK rfl hl.1 rfl (Nat.le_of_ble_eq_true rfl) dX5_wire_2 ⟨Nat.le_of_ble_eq_true rfl, Nat.le_of_ble_eq_true rfl⟩ ?_
  refine lv_if_eq (tgt := 30) hx hb dX5_wire_5 (by decide) (fun c_1 => ?_) (fun c_1 => ?_)
  · skip
    have c_1 := kq_bf c_1
    refine lv_iconst (v := 0) hx hb dX5_wire_30 (by decide) ?_
    exact kq_xcall [0, 1, 2, 3] (vx_runS (As := [.int 0]) (rest := []) ⟨hx, hb, hml, hown, hts⟩ (c_X5_needPlace_x l hls dC dI cI s1 s2 s3 s4 s.heap.size  ) (va_cwS 1 hts gX5_wire_X5_needPlace rfl rfl rfl (by decide +kernel) ⟨Nat.le_of_ble_eq_true rfl, Nat.le_of_ble_eq_true rfl⟩) (kq_preX hS hA hK hT) rfl rfl hl.1 rfl (lv_room (Nat.le_of_ble_eq_true rfl)) dX5_wire_31 ⟨Nat.le_of_ble_eq_true rfl, Nat.le_of_ble_eq_true rfl⟩) hP hD hS hA rfl rfl hnt hlocks (fun E hE => by subst hE; first | exact ⟨fun _ => rfl, fun q _ => absurd q.1 (by assumption)⟩ | exact ⟨fun _ => rfl, fun q _ => absurd q.2.1 (by assumption)⟩ | exact ⟨fun _ => rfl, fun q _ => absurd q.2.2 (by assumption)⟩ | exact ⟨fun q => absurd ⟨by assumption, by assumption, by assumption⟩ q, fun _ _ => rfl⟩)
  · skip
    have c_1 := kq_bt c_1
    refine lv_iload_n hx hb dX5_wire_8 rfl (lv_at hl 2 rfl) ?_
    refine lv_bipush (v := 6) hx hb dX5_wire_9 (by decide) ?_
    refine kq_cS (As := [.int x2, .int 6]) (rest := []) ⟨hx, hb, hml, hown, hts⟩ (c_X5_isIndex l dC dI cI x2 6 ) (va_cwS 2 hts gX5_wire_X5_isIndex rfl rfl rfl (by decide +kernel) ⟨Nat.le_of_ble_eq_true rfl, Nat.le_of_ble_eq_true rfl⟩) (hP.sub [] rfl) hK rfl hl.1 rfl (Nat.le_of_ble_eq_true rfl) dX5_wire_11 ⟨Nat.le_of_ble_eq_true rfl, Nat.le_of_ble_eq_true rfl⟩ ?_
    refine lv_if_eq (tgt := 30) hx hb dX5_wire_14 (by decide) (fun c_2 => ?_) (fun c_2 => ?_)
    · skip
      have c_2 := kq_bf c_2
      refine lv_iconst (v := 0) hx hb dX5_wire_30 (by decide) ?_
      exact kq_xcall [0, 1, 2, 3] (vx_runS (As := [.int 0]) (rest := []) ⟨hx, hb, hml, hown, hts⟩ (c_X5_needPlace_x l hls dC dI cI s1 s2 s3 s4 s.heap.size  ) (va_cwS 1 hts gX5_wire_X5_needPlace rfl rfl rfl (by decide +kernel) ⟨Nat.le_of_ble_eq_true rfl, Nat.le_of_ble_eq_true rfl⟩) (kq_preX hS hA hK hT) rfl rfl hl.1 rfl (lv_room (Nat.le_of_ble_eq_true rfl)) dX5_wire_31 ⟨Nat.le_of_ble_eq_true rfl, Nat.le_of_ble_eq_true rfl⟩) hP hD hS hA rfl rfl hnt hlocks (fun E hE => by subst hE; first | exact ⟨fun _ => rfl, fun q _ => absurd q.1 (by assumption)⟩ | exact ⟨fun _ => rfl, fun q _ => absurd q.2.1 (by assumption)⟩ | exact ⟨fun _ => rfl, fun q _ => absurd q.2.2 (by assumption)⟩ | exact ⟨fun q => absurd ⟨by assumption, by assumption, by assumption⟩ q, fun _ _ => rfl⟩)
    · skip
      have c_2 := kq_bt c_2
      refine lv_iload_n hx hb dX5_wire_17 rfl (lv_at hl 3 rfl) ?_
      refine lv_bipush (v := 16) hx hb dX5_wire_18 (by decide) ?_
      refine kq_cS (As := [.int x3, .int 16]) (rest := []) ⟨hx, hb, hml, hown, hts⟩ (c_X5_isIndex l dC dI cI x3 16 ) (va_cwS 2 hts gX5_wire_X5_isIndex rfl rfl rfl (by decide +kernel) ⟨Nat.le_of_ble_eq_true rfl, Nat.le_of_ble_eq_true rfl⟩) (hP.sub [] rfl) hK rfl hl.1 rfl (Nat.le_of_ble_eq_true rfl) dX5_wire_20 ⟨Nat.le_of_ble_eq_true rfl, Nat.le_of_ble_eq_true rfl⟩ ?_
      refine lv_if_eq (tgt := 30) hx hb dX5_wire_23 (by decide) (fun c_3 => ?_) (fun c_3 => ?_)
      · skip
        have c_3 := kq_bf c_3
        refine lv_iconst (v := 0) hx hb dX5_wire_30 (by decide) ?_
        exact kq_xcall [0, 1, 2, 3] (vx_runS (As := [.int 0]) (rest := []) ⟨hx, hb, hml, hown, hts⟩ (c_X5_needPlace_x l hls dC dI cI s1 s2 s3 s4 s.heap.size  ) (va_cwS 1 hts gX5_wire_X5_needPlace rfl rfl rfl (by decide +kernel) ⟨Nat.le_of_ble_eq_true rfl, Nat.le_of_ble_eq_true rfl⟩) (kq_preX hS hA hK hT) rfl rfl hl.1 rfl (lv_room (Nat.le_of_ble_eq_true rfl)) dX5_wire_31 ⟨Nat.le_of_ble_eq_true rfl, Nat.le_of_ble_eq_true rfl⟩) hP hD hS hA rfl rfl hnt hlocks (fun E hE => by subst hE; first | exact ⟨fun _ => rfl, fun q _ => absurd q.1 (by assumption)⟩ | exact ⟨fun _ => rfl, fun q _ => absurd q.2.1 (by assumption)⟩ | exact ⟨fun _ => rfl, fun q _ => absurd q.2.2 (by assumption)⟩ | exact ⟨fun q => absurd ⟨by assumption, by assumption, by assumption⟩ q, fun _ _ => rfl⟩)
      · skip
        have c_3 := kq_bt c_3
        refine lv_iconst (v := 1) hx hb dX5_wire_26 (by decide) ?_
        refine lv_goto (tgt := 31) hx hb dX5_wire_27 (by decide) ?_
        refine kq_callMv (wr := [(oX, .inr (5, [.ref oS, .ref oR, .ref oN, .ref o2, .ref oF, .ref oT])), (oS, .inr (3, [.ref rv, .ref rs, .int (nI kc)])), (rv, .inl (cI, 385, .inl v)), (rs, .inl (cI, 2310, .inl sv))]) (va_runS (As := [.int 1]) (rest := []) ⟨hx, hb, hml, hown, hts⟩ (c_X5_needPlace l dC dI cI s.heap.size  ) (va_cwS 1 hts gX5_wire_X5_needPlace rfl rfl rfl (by decide +kernel) ⟨Nat.le_of_ble_eq_true rfl, Nat.le_of_ble_eq_true rfl⟩) (kq_preS (hP.sub [] rfl) (hD.sub [] (by decide) rfl) hK) rfl rfl hl.1 rfl (lv_room (Nat.le_of_ble_eq_true rfl)) dX5_wire_31 ⟨Nat.le_of_ble_eq_true rfl, Nat.le_of_ble_eq_true rfl⟩) hP hD hS hA [] [0, 1, 2, 3] rfl rfl (by decide) (by decide) (fun u_5 H locs hw_6 hP hD hS => ?_)
        have hP : va_P (dC, dI) vwCl [(oX, .inr (5, [.ref oS, .ref oR, .ref oN, .ref o2, .ref oF, .ref oT])), (oS, .inr (3, [.ref rv, .ref rs, .int (nI kc)])), (rv, .inl (cI, 385, .inl v)), (rs, .inl (cI, 2310, .inl sv))] H := hP
        have hD : va_D A [(oX, .inr (5, [.ref oS, .ref oR, .ref oN, .ref o2, .ref oF, .ref oT])), (oS, .inr (3, [.ref rv, .ref rs, .int (nI kc)])), (rv, .inl (cI, 385, .inl v)), (rs, .inl (cI, 2310, .inl sv))] := hD
        refine lv_iload hx hb dX5_wire_34 (lv_at hl 4 rfl) ?_
        refine lv_bipush (v := (-3)) hx hb dX5_wire_36 (by decide) ?_
        refine lv_iconst (v := 3) hx hb dX5_wire_38 (by decide) ?_
        refine kq_cS (As := [.int x4, .int (-3), .int 3]) (rest := []) ⟨hx, hb, hml, hown, hts⟩ (c_X5_isBetween l dC dI cI x4 (-3) 3 ) (va_cwS 3 hts gX5_wire_X5_isBetween rfl rfl rfl (by decide +kernel) ⟨Nat.le_of_ble_eq_true rfl, Nat.le_of_ble_eq_true rfl⟩) (hP.sub [] rfl) hK rfl hl.1 rfl (Nat.le_of_ble_eq_true rfl) dX5_wire_39 ⟨Nat.le_of_ble_eq_true rfl, Nat.le_of_ble_eq_true rfl⟩ ?_
        by_cases b_7 : (-3) ≤ x4 ∧ x4 ≤ 3
        · skip
          exact absurd ⟨by assumption, by assumption, by assumption, b_7⟩ hbad
        · skip
          refine kq_top (z := 0) (if_neg b_7) ?_
          exact kq_xcall [0, 1, 2, 3] (vx_runS (As := [.int 0]) (rest := []) ⟨hx, hb, hml, hown, hts⟩ (c_X5_needArgument_x l hls dC dI cI s1 s2 s3 s4 H.size  ) (va_cwS 1 hts gX5_wire_X5_needArgument rfl rfl rfl (by decide +kernel) ⟨Nat.le_of_ble_eq_true rfl, Nat.le_of_ble_eq_true rfl⟩) (kq_preX hS hA hK hT) rfl rfl hl.1 rfl (lv_room (Nat.le_of_ble_eq_true rfl)) dX5_wire_42 ⟨Nat.le_of_ble_eq_true rfl, Nat.le_of_ble_eq_true rfl⟩) hP hD hS hA rfl rfl hnt hlocks (fun E hE => by subst hE; first | exact ⟨fun _ => rfl, fun q _ => absurd q.1 (by assumption)⟩ | exact ⟨fun _ => rfl, fun q _ => absurd q.2.1 (by assumption)⟩ | exact ⟨fun _ => rfl, fun q _ => absurd q.2.2 (by assumption)⟩ | exact ⟨fun q => absurd ⟨by assumption, by assumption, by assumption⟩ q, fun _ _ => rfl⟩)
set_option maxHeartbeats 4000000 in
set_option maxRecDepth 100000 in
theorem c_X5_size_x (l : Launch) (hls : l.stackTraces = false) (dC : Nat → ClassId) (dI : Nat → Nat → Nat) (cI : ClassId) (s1 s2 s3 s4 sz : Nat) (oX : Nat) (oS : Nat) (oR : Nat) (oN : Nat) (o2 : Nat) (oF : Nat) (oT : Nat) (rv : Nat) (rs : Nat) (kc : Nat) (v : Nat → Int32) (sv : Nat → Int32) (x1 : Int32) (x2 : Int32) (hbad : ¬ ((0 ≤ x1 ∧ x1 < 3) ∧ (4 ≤ x2 ∧ x2 ≤ 16))) : vx_Met l yX5_size wsX5_size ({ frames := 7, cells := 1, slots := 6, locals := 102 }) (kq_X dC dI cI s1 s2 s3 s4 [.ref oX, .int x1, .int x2] sz [(oX, .inr (5, [.ref oS, .ref oR, .ref oN, .ref o2, .ref oF, .ref oT])), (oS, .inr (3, [.ref rv, .ref rs, .int (nI kc)])), (rv, .inl (cI, 385, .inl v)), (rs, .inl (cI, 2310, .inl sv))]) kq_no (kq_XC dC dI (fun E => (¬ ((0 ≤ x1 ∧ x1 < 3)) → E = "java/lang/IndexOutOfBoundsException") ∧ (((0 ≤ x1 ∧ x1 < 3)) → ¬ ((4 ≤ x2 ∧ x2 ≤ 16)) → E = "java/lang/IllegalArgumentException")) [(oX, .inr (5, [.ref oS, .ref oR, .ref oN, .ref o2, .ref oF, .ref oT])), (oS, .inr (3, [.ref rv, .ref rs, .int (nI kc)])), (rv, .inl (cI, 385, .inl v)), (rs, .inl (cI, 2310, .inl sv))] (va_A [(oX, .inr (5, [.ref oS, .ref oR, .ref oN, .ref o2, .ref oF, .ref oT])), (oS, .inr (3, [.ref rv, .ref rs, .int (nI kc)])), (rv, .inl (cI, 385, .inl v)), (rs, .inl (cI, 2310, .inl sv))] sz)) 1 6 (va_A [(oX, .inr (5, [.ref oS, .ref oR, .ref oN, .ref o2, .ref oF, .ref oT])), (oS, .inr (3, [.ref rv, .ref rs, .int (nI kc)])), (rv, .inl (cI, 385, .inl v)), (rs, .inl (cI, 2310, .inl sv))] sz) := by
  refine kq_startX (cc := cX5_size) (maxL := 4) (ret := (some .int)) (by decide) rfl (Nat.le_of_ble_eq_true rfl) ?_
  intro p e s m below meth c hx hb hr hml hown hlocks hts hsz hA hP hD hS hK hnm hnt hT ls hl
  subst hsz
  generalize hAe : va_A [(oX, .inr (5, [.ref oS, .ref oR, .ref oN, .ref o2, .ref oF, .ref oT])), (oS, .inr (3, [.ref rv, .ref rs, .int (nI kc)])), (rv, .inl (cI, 385, .inl v)), (rs, .inl (cI, 2310, .inl sv))] s.heap.size = A at hA hD hS hT ⊢
  have hown : s.vm.findClass RX5 = some m.cls := hown
  have hl : lv_has ls 4 [(0, .ref oX), (1, .int x1), (2, .int x2)] := hl
  refine lv_iload_n hx hb dX5_size_0 rfl (lv_at hl 1 rfl) ?_
  refine lv_iconst (v := 3) hx hb dX5_size_1 (by decide) ?_
  refine kq_cS (As := [.int x1, .int 3]) (rest := []) ⟨hx, hb, hml, hown, hts⟩ (c_X5_isIndex l dC dI cI x1 3 ) (va_cwS 2 hts gX5_size_X5_isIndex rfl rfl rfl (by decide +kernel) ⟨Nat.le_of_ble_eq_true rfl, Nat.le_of_ble_eq_true rfl⟩) (hP.sub [] rfl) hK rfl hl.1 rfl (Nat.le_of_ble_eq_true rfl) dX5_size_2 ⟨Nat.le_of_ble_eq_true rfl, Nat.le_of_ble_eq_true rfl⟩ ?_
  by_cases b_1 : 0 ≤ x1 ∧ x1 < 3
  · skip
    refine kq_top (z := 1) (if_pos b_1) ?_
    refine kq_callMv (wr := [(oX, .inr (5, [.ref oS, .ref oR, .ref oN, .ref o2, .ref oF, .ref oT])), (oS, .inr (3, [.ref rv, .ref rs, .int (nI kc)])), (rv, .inl (cI, 385, .inl v)), (rs, .inl (cI, 2310, .inl sv))]) (va_runS (As := [.int 1]) (rest := []) ⟨hx, hb, hml, hown, hts⟩ (c_X5_needPlace l dC dI cI s.heap.size  ) (va_cwS 1 hts gX5_size_X5_needPlace rfl rfl rfl (by decide +kernel) ⟨Nat.le_of_ble_eq_true rfl, Nat.le_of_ble_eq_true rfl⟩) (kq_preS (hP.sub [] rfl) (hD.sub [] (by decide) rfl) hK) rfl rfl hl.1 rfl (lv_room (Nat.le_of_ble_eq_true rfl)) dX5_size_5 ⟨Nat.le_of_ble_eq_true rfl, Nat.le_of_ble_eq_true rfl⟩) hP hD hS hA [] [0, 1, 2, 3] rfl rfl (by decide) (by decide) (fun u_3 H locs hw_4 hP hD hS => ?_)
    have hP : va_P (dC, dI) vwCl [(oX, .inr (5, [.ref oS, .ref oR, .ref oN, .ref o2, .ref oF, .ref oT])), (oS, .inr (3, [.ref rv, .ref rs, .int (nI kc)])), (rv, .inl (cI, 385, .inl v)), (rs, .inl (cI, 2310, .inl sv))] H := hP
    have hD : va_D A [(oX, .inr (5, [.ref oS, .ref oR, .ref oN, .ref o2, .ref oF, .ref oT])), (oS, .inr (3, [.ref rv, .ref rs, .int (nI kc)])), (rv, .inl (cI, 385, .inl v)), (rs, .inl (cI, 2310, .inl sv))] := hD
    refine lv_iload_n hx hb dX5_size_8 rfl (lv_at hl 2 rfl) ?_
    refine lv_iconst (v := 4) hx hb dX5_size_9 (by decide) ?_
    refine lv_bipush (v := 16) hx hb dX5_size_10 (by decide) ?_
    refine kq_cS (As := [.int x2, .int 4, .int 16]) (rest := []) ⟨hx, hb, hml, hown, hts⟩ (c_X5_isBetween l dC dI cI x2 4 16 ) (va_cwS 3 hts gX5_size_X5_isBetween rfl rfl rfl (by decide +kernel) ⟨Nat.le_of_ble_eq_true rfl, Nat.le_of_ble_eq_true rfl⟩) (hP.sub [] rfl) hK rfl hl.1 rfl (Nat.le_of_ble_eq_true rfl) dX5_size_12 ⟨Nat.le_of_ble_eq_true rfl, Nat.le_of_ble_eq_true rfl⟩ ?_
    by_cases b_5 : 4 ≤ x2 ∧ x2 ≤ 16
    · skip
      exact absurd ⟨by assumption, b_5⟩ hbad
    · skip
      refine kq_top (z := 0) (if_neg b_5) ?_
      exact kq_xcall [0, 1, 2, 3] (vx_runS (As := [.int 0]) (rest := []) ⟨hx, hb, hml, hown, hts⟩ (c_X5_needArgument_x l hls dC dI cI s1 s2 s3 s4 H.size  ) (va_cwS 1 hts gX5_size_X5_needArgument rfl rfl rfl (by decide +kernel) ⟨Nat.le_of_ble_eq_true rfl, Nat.le_of_ble_eq_true rfl⟩) (kq_preX hS hA hK hT) rfl rfl hl.1 rfl (lv_room (Nat.le_of_ble_eq_true rfl)) dX5_size_15 ⟨Nat.le_of_ble_eq_true rfl, Nat.le_of_ble_eq_true rfl⟩) hP hD hS hA rfl rfl hnt hlocks (fun E hE => by subst hE; first | exact ⟨fun _ => rfl, fun q _ => absurd q (by assumption)⟩ | exact ⟨fun q => absurd (by assumption) q, fun _ _ => rfl⟩)
  · skip
    refine kq_top (z := 0) (if_neg b_1) ?_
    exact kq_xcall [0, 1, 2, 3] (vx_runS (As := [.int 0]) (rest := []) ⟨hx, hb, hml, hown, hts⟩ (c_X5_needPlace_x l hls dC dI cI s1 s2 s3 s4 s.heap.size  ) (va_cwS 1 hts gX5_size_X5_needPlace rfl rfl rfl (by decide +kernel) ⟨Nat.le_of_ble_eq_true rfl, Nat.le_of_ble_eq_true rfl⟩) (kq_preX hS hA hK hT) rfl rfl hl.1 rfl (lv_room (Nat.le_of_ble_eq_true rfl)) dX5_size_5 ⟨Nat.le_of_ble_eq_true rfl, Nat.le_of_ble_eq_true rfl⟩) hP hD hS hA rfl rfl hnt hlocks (fun E hE => by subst hE; first | exact ⟨fun _ => rfl, fun q _ => absurd q (by assumption)⟩ | exact ⟨fun q => absurd (by assumption) q, fun _ _ => rfl⟩)
set_option maxHeartbeats 4000000 in
set_option maxRecDepth 100000 in
theorem c_X5_turn_x (l : Launch) (hls : l.stackTraces = false) (dC : Nat → ClassId) (dI : Nat → Nat → Nat) (cI : ClassId) (s1 s2 s3 s4 sz : Nat) (oX : Nat) (oS : Nat) (oR : Nat) (oN : Nat) (o2 : Nat) (oF : Nat) (oT : Nat) (rv : Nat) (rs : Nat) (kc : Nat) (v : Nat → Int32) (sv : Nat → Int32) (x1 : Int32) (x2 : Int32) (hbad : ¬ ((0 ≤ x1 ∧ x1 < 3) ∧ (-99 ≤ x2 ∧ x2 ≤ 99))) : vx_Met l yX5_turn wsX5_turn ({ frames := 7, cells := 1, slots := 6, locals := 102 }) (kq_X dC dI cI s1 s2 s3 s4 [.ref oX, .int x1, .int x2] sz [(oX, .inr (5, [.ref oS, .ref oR, .ref oN, .ref o2, .ref oF, .ref oT])), (oS, .inr (3, [.ref rv, .ref rs, .int (nI kc)])), (rv, .inl (cI, 385, .inl v)), (rs, .inl (cI, 2310, .inl sv))]) kq_no (kq_XC dC dI (fun E => (¬ ((0 ≤ x1 ∧ x1 < 3)) → E = "java/lang/IndexOutOfBoundsException") ∧ (((0 ≤ x1 ∧ x1 < 3)) → ¬ ((-99 ≤ x2 ∧ x2 ≤ 99)) → E = "java/lang/IllegalArgumentException")) [(oX, .inr (5, [.ref oS, .ref oR, .ref oN, .ref o2, .ref oF, .ref oT])), (oS, .inr (3, [.ref rv, .ref rs, .int (nI kc)])), (rv, .inl (cI, 385, .inl v)), (rs, .inl (cI, 2310, .inl sv))] (va_A [(oX, .inr (5, [.ref oS, .ref oR, .ref oN, .ref o2, .ref oF, .ref oT])), (oS, .inr (3, [.ref rv, .ref rs, .int (nI kc)])), (rv, .inl (cI, 385, .inl v)), (rs, .inl (cI, 2310, .inl sv))] sz)) 1 6 (va_A [(oX, .inr (5, [.ref oS, .ref oR, .ref oN, .ref o2, .ref oF, .ref oT])), (oS, .inr (3, [.ref rv, .ref rs, .int (nI kc)])), (rv, .inl (cI, 385, .inl v)), (rs, .inl (cI, 2310, .inl sv))] sz) := by
  refine kq_startX (cc := cX5_turn) (maxL := 3) (ret := (some .int)) (by decide) rfl (Nat.le_of_ble_eq_true rfl) ?_
  intro p e s m below meth c hx hb hr hml hown hlocks hts hsz hA hP hD hS hK hnm hnt hT ls hl
  subst hsz
  generalize hAe : va_A [(oX, .inr (5, [.ref oS, .ref oR, .ref oN, .ref o2, .ref oF, .ref oT])), (oS, .inr (3, [.ref rv, .ref rs, .int (nI kc)])), (rv, .inl (cI, 385, .inl v)), (rs, .inl (cI, 2310, .inl sv))] s.heap.size = A at hA hD hS hT ⊢
  have hown : s.vm.findClass RX5 = some m.cls := hown
  have hl : lv_has ls 3 [(0, .ref oX), (1, .int x1), (2, .int x2)] := hl
  refine lv_iload_n hx hb dX5_turn_0 rfl (lv_at hl 1 rfl) ?_
  refine lv_iconst (v := 3) hx hb dX5_turn_1 (by decide) ?_
  refine kq_cS (As := [.int x1, .int 3]) (rest := []) ⟨hx, hb, hml, hown, hts⟩ (c_X5_isIndex l dC dI cI x1 3 ) (va_cwS 2 hts gX5_turn_X5_isIndex rfl rfl rfl (by decide +kernel) ⟨Nat.le_of_ble_eq_true rfl, Nat.le_of_ble_eq_true rfl⟩) (hP.sub [] rfl) hK rfl hl.1 rfl (Nat.le_of_ble_eq_true rfl) dX5_turn_2 ⟨Nat.le_of_ble_eq_true rfl, Nat.le_of_ble_eq_true rfl⟩ ?_
  by_cases b_1 : 0 ≤ x1 ∧ x1 < 3
  · skip
    refine kq_top (z := 1) (if_pos b_1) ?_
    refine kq_callMv (wr := [(oX, .inr (5, [.ref oS, .ref oR, .ref oN, .ref o2, .ref oF, .ref oT])), (oS, .inr (3, [.ref rv, .ref rs, .int (nI kc)])), (rv, .inl (cI, 385, .inl v)), (rs, .inl (cI, 2310, .inl sv))]) (va_runS (As := [.int 1]) (rest := []) ⟨hx, hb, hml, hown, hts⟩ (c_X5_needPlace l dC dI cI s.heap.size  ) (va_cwS 1 hts gX5_turn_X5_needPlace rfl rfl rfl (by decide +kernel) ⟨Nat.le_of_ble_eq_true rfl, Nat.le_of_ble_eq_true rfl⟩) (kq_preS (hP.sub [] rfl) (hD.sub [] (by decide) rfl) hK) rfl rfl hl.1 rfl (lv_room (Nat.le_of_ble_eq_true rfl)) dX5_turn_5 ⟨Nat.le_of_ble_eq_true rfl, Nat.le_of_ble_eq_true rfl⟩) hP hD hS hA [] [0, 1, 2, 3] rfl rfl (by decide) (by decide) (fun u_3 H locs hw_4 hP hD hS => ?_)
    have hP : va_P (dC, dI) vwCl [(oX, .inr (5, [.ref oS, .ref oR, .ref oN, .ref o2, .ref oF, .ref oT])), (oS, .inr (3, [.ref rv, .ref rs, .int (nI kc)])), (rv, .inl (cI, 385, .inl v)), (rs, .inl (cI, 2310, .inl sv))] H := hP
    have hD : va_D A [(oX, .inr (5, [.ref oS, .ref oR, .ref oN, .ref o2, .ref oF, .ref oT])), (oS, .inr (3, [.ref rv, .ref rs, .int (nI kc)])), (rv, .inl (cI, 385, .inl v)), (rs, .inl (cI, 2310, .inl sv))] := hD
    refine lv_iload_n hx hb dX5_turn_8 rfl (lv_at hl 2 rfl) ?_
    refine lv_bipush (v := (-99)) hx hb dX5_turn_9 (by decide) ?_
    refine lv_bipush (v := 99) hx hb dX5_turn_11 (by decide) ?_
    refine kq_cS (As := [.int x2, .int (-99), .int 99]) (rest := []) ⟨hx, hb, hml, hown, hts⟩ (c_X5_isBetween l dC dI cI x2 (-99) 99 ) (va_cwS 3 hts gX5_turn_X5_isBetween rfl rfl rfl (by decide +kernel) ⟨Nat.le_of_ble_eq_true rfl, Nat.le_of_ble_eq_true rfl⟩) (hP.sub [] rfl) hK rfl hl.1 rfl (Nat.le_of_ble_eq_true rfl) dX5_turn_13 ⟨Nat.le_of_ble_eq_true rfl, Nat.le_of_ble_eq_true rfl⟩ ?_
    by_cases b_5 : (-99) ≤ x2 ∧ x2 ≤ 99
    · skip
      exact absurd ⟨by assumption, b_5⟩ hbad
    · skip
      refine kq_top (z := 0) (if_neg b_5) ?_
      exact kq_xcall [0, 1, 2, 3] (vx_runS (As := [.int 0]) (rest := []) ⟨hx, hb, hml, hown, hts⟩ (c_X5_needArgument_x l hls dC dI cI s1 s2 s3 s4 H.size  ) (va_cwS 1 hts gX5_turn_X5_needArgument rfl rfl rfl (by decide +kernel) ⟨Nat.le_of_ble_eq_true rfl, Nat.le_of_ble_eq_true rfl⟩) (kq_preX hS hA hK hT) rfl rfl hl.1 rfl (lv_room (Nat.le_of_ble_eq_true rfl)) dX5_turn_16 ⟨Nat.le_of_ble_eq_true rfl, Nat.le_of_ble_eq_true rfl⟩) hP hD hS hA rfl rfl hnt hlocks (fun E hE => by subst hE; first | exact ⟨fun _ => rfl, fun q _ => absurd q (by assumption)⟩ | exact ⟨fun q => absurd (by assumption) q, fun _ _ => rfl⟩)
  · skip
    refine kq_top (z := 0) (if_neg b_1) ?_
    exact kq_xcall [0, 1, 2, 3] (vx_runS (As := [.int 0]) (rest := []) ⟨hx, hb, hml, hown, hts⟩ (c_X5_needPlace_x l hls dC dI cI s1 s2 s3 s4 s.heap.size  ) (va_cwS 1 hts gX5_turn_X5_needPlace rfl rfl rfl (by decide +kernel) ⟨Nat.le_of_ble_eq_true rfl, Nat.le_of_ble_eq_true rfl⟩) (kq_preX hS hA hK hT) rfl rfl hl.1 rfl (lv_room (Nat.le_of_ble_eq_true rfl)) dX5_turn_5 ⟨Nat.le_of_ble_eq_true rfl, Nat.le_of_ble_eq_true rfl⟩) hP hD hS hA rfl rfl hnt hlocks (fun E hE => by subst hE; first | exact ⟨fun _ => rfl, fun q _ => absurd q (by assumption)⟩ | exact ⟨fun q => absurd (by assumption) q, fun _ _ => rfl⟩)
set_option maxHeartbeats 4000000 in
set_option maxRecDepth 100000 in
theorem c_X5_clear_x (l : Launch) (hls : l.stackTraces = false) (dC : Nat → ClassId) (dI : Nat → Nat → Nat) (cI : ClassId) (s1 s2 s3 s4 sz : Nat) (oX : Nat) (oS : Nat) (oR : Nat) (oN : Nat) (o2 : Nat) (oF : Nat) (oT : Nat) (rv : Nat) (rs : Nat) (kc : Nat) (v : Nat → Int32) (sv : Nat → Int32) (x1 : Int32) (hbad : ¬ ((0 ≤ x1 ∧ x1 < 3))) : vx_Met l yX5_clear wsX5_clear ({ frames := 7, cells := 1, slots := 6, locals := 102 }) (kq_X dC dI cI s1 s2 s3 s4 [.ref oX, .int x1] sz [(oX, .inr (5, [.ref oS, .ref oR, .ref oN, .ref o2, .ref oF, .ref oT])), (oS, .inr (3, [.ref rv, .ref rs, .int (nI kc)])), (rv, .inl (cI, 385, .inl v)), (rs, .inl (cI, 2310, .inl sv))]) kq_no (kq_XC dC dI (fun E => E = "java/lang/IndexOutOfBoundsException") [(oX, .inr (5, [.ref oS, .ref oR, .ref oN, .ref o2, .ref oF, .ref oT])), (oS, .inr (3, [.ref rv, .ref rs, .int (nI kc)])), (rv, .inl (cI, 385, .inl v)), (rs, .inl (cI, 2310, .inl sv))] (va_A [(oX, .inr (5, [.ref oS, .ref oR, .ref oN, .ref o2, .ref oF, .ref oT])), (oS, .inr (3, [.ref rv, .ref rs, .int (nI kc)])), (rv, .inl (cI, 385, .inl v)), (rs, .inl (cI, 2310, .inl sv))] sz)) 1 6 (va_A [(oX, .inr (5, [.ref oS, .ref oR, .ref oN, .ref o2, .ref oF, .ref oT])), (oS, .inr (3, [.ref rv, .ref rs, .int (nI kc)])), (rv, .inl (cI, 385, .inl v)), (rs, .inl (cI, 2310, .inl sv))] sz) := by
  refine kq_startX (cc := cX5_clear) (maxL := 3) (ret := (some .int)) (by decide) rfl (Nat.le_of_ble_eq_true rfl) ?_
  intro p e s m below meth c hx hb hr hml hown hlocks hts hsz hA hP hD hS hK hnm hnt hT ls hl
  subst hsz
  generalize hAe : va_A [(oX, .inr (5, [.ref oS, .ref oR, .ref oN, .ref o2, .ref oF, .ref oT])), (oS, .inr (3, [.ref rv, .ref rs, .int (nI kc)])), (rv, .inl (cI, 385, .inl v)), (rs, .inl (cI, 2310, .inl sv))] s.heap.size = A at hA hD hS hT ⊢
  have hown : s.vm.findClass RX5 = some m.cls := hown
  have hl : lv_has ls 3 [(0, .ref oX), (1, .int x1)] := hl
  refine lv_iload_n hx hb dX5_clear_0 rfl (lv_at hl 1 rfl) ?_
  refine lv_iconst (v := 3) hx hb dX5_clear_1 (by decide) ?_
  refine kq_cS (As := [.int x1, .int 3]) (rest := []) ⟨hx, hb, hml, hown, hts⟩ (c_X5_isIndex l dC dI cI x1 3 ) (va_cwS 2 hts gX5_clear_X5_isIndex rfl rfl rfl (by decide +kernel) ⟨Nat.le_of_ble_eq_true rfl, Nat.le_of_ble_eq_true rfl⟩) (hP.sub [] rfl) hK rfl hl.1 rfl (Nat.le_of_ble_eq_true rfl) dX5_clear_2 ⟨Nat.le_of_ble_eq_true rfl, Nat.le_of_ble_eq_true rfl⟩ ?_
  by_cases b_1 : 0 ≤ x1 ∧ x1 < 3
  · skip
    exact absurd b_1 hbad
  · skip
    refine kq_top (z := 0) (if_neg b_1) ?_
    exact kq_xcall [0, 1, 2, 3] (vx_runS (As := [.int 0]) (rest := []) ⟨hx, hb, hml, hown, hts⟩ (c_X5_needPlace_x l hls dC dI cI s1 s2 s3 s4 s.heap.size  ) (va_cwS 1 hts gX5_clear_X5_needPlace rfl rfl rfl (by decide +kernel) ⟨Nat.le_of_ble_eq_true rfl, Nat.le_of_ble_eq_true rfl⟩) (kq_preX hS hA hK hT) rfl rfl hl.1 rfl (lv_room (Nat.le_of_ble_eq_true rfl)) dX5_clear_5 ⟨Nat.le_of_ble_eq_true rfl, Nat.le_of_ble_eq_true rfl⟩) hP hD hS hA rfl rfl hnt hlocks (fun E hE => by subst hE; rfl)
set_option maxHeartbeats 4000000 in
set_option maxRecDepth 100000 in
theorem c_X5_ink_x (l : Launch) (hls : l.stackTraces = false) (dC : Nat → ClassId) (dI : Nat → Nat → Nat) (cI : ClassId) (s1 s2 s3 s4 sz : Nat) (oX : Nat) (oS : Nat) (oR : Nat) (oN : Nat) (o2 : Nat) (oF : Nat) (oT : Nat) (rv : Nat) (rs : Nat) (kc : Nat) (v : Nat → Int32) (sv : Nat → Int32) (x1 : Int32) (x2 : Int32) (x3 : Int32) (x4 : Int32) (x5 : Int32) (hbad : ¬ ((0 ≤ x1 ∧ x1 < 6) ∧ (0 ≤ x2 ∧ x2 < 12) ∧ (1 ≤ x3 ∧ x3 ≤ 6 - x1) ∧ (1 ≤ x4 ∧ x4 ≤ 12 - x2) ∧ (0 ≤ x5 ∧ x5 ≤ 9))) : vx_Met l yX5_ink wsX5_ink ({ frames := 7, cells := 1, slots := 6, locals := 102 }) (kq_X dC dI cI s1 s2 s3 s4 [.ref oX, .int x1, .int x2, .int x3, .int x4, .int x5] sz [(oX, .inr (5, [.ref oS, .ref oR, .ref oN, .ref o2, .ref oF, .ref oT]))]) kq_no (kq_XC dC dI (fun E => (¬ ((0 ≤ x1 ∧ x1 < 6) ∧ (0 ≤ x2 ∧ x2 < 12)) → E = "java/lang/IndexOutOfBoundsException") ∧ (((0 ≤ x1 ∧ x1 < 6) ∧ (0 ≤ x2 ∧ x2 < 12)) → ¬ ((1 ≤ x3 ∧ x3 ≤ 6 - x1) ∧ (1 ≤ x4 ∧ x4 ≤ 12 - x2) ∧ (0 ≤ x5 ∧ x5 ≤ 9)) → E = "java/lang/IllegalArgumentException")) [(oX, .inr (5, [.ref oS, .ref oR, .ref oN, .ref o2, .ref oF, .ref oT]))] (va_A [(oX, .inr (5, [.ref oS, .ref oR, .ref oN, .ref o2, .ref oF, .ref oT]))] sz)) 1 6 (va_A [(oX, .inr (5, [.ref oS, .ref oR, .ref oN, .ref o2, .ref oF, .ref oT]))] sz) := by
  refine kq_startX (cc := cX5_ink) (maxL := 10) (ret := (some .int)) (by decide) rfl (Nat.le_of_ble_eq_true rfl) ?_
  intro p e s m below meth c hx hb hr hml hown hlocks hts hsz hA hP hD hS hK hnm hnt hT ls hl
  subst hsz
  generalize hAe : va_A [(oX, .inr (5, [.ref oS, .ref oR, .ref oN, .ref o2, .ref oF, .ref oT]))] s.heap.size = A at hA hD hS hT ⊢
  have hown : s.vm.findClass RX5 = some m.cls := hown
  have hl : lv_has ls 10 [(0, .ref oX), (1, .int x1), (2, .int x2), (3, .int x3), (4, .int x4), (5, .int x5)] := hl
  refine lv_iload_n hx hb dX5_ink_0 rfl (lv_at hl 1 rfl) ?_
  refine lv_bipush (v := 6) hx hb dX5_ink_1 (by decide) ?_
  refine kq_cS (As := [.int x1, .int 6]) (rest := []) ⟨hx, hb, hml, hown, hts⟩ (c_X5_isIndex l dC dI cI x1 6 ) (va_cwS 2 hts gX5_ink_X5_isIndex rfl rfl rfl (by decide +kernel) ⟨Nat.le_of_ble_eq_true rfl, Nat.le_of_ble_eq_true rfl⟩) (hP.sub [] rfl) hK rfl hl.1 rfl (Nat.le_of_ble_eq_true rfl) dX5_ink_3 ⟨Nat.le_of_ble_eq_true rfl, Nat.le_of_ble_eq_true rfl⟩ ?_
  refine lv_if_eq (tgt := 22) hx hb dX5_ink_6 (by decide) (fun c_1 => ?_) (fun c_1 => ?_)
  · skip
    have c_1 := kq_bf c_1
    refine lv_iconst (v := 0) hx hb dX5_ink_22 (by decide) ?_
    exact kq_xcall [0] (vx_runS (As := [.int 0]) (rest := []) ⟨hx, hb, hml, hown, hts⟩ (c_X5_needPlace_x l hls dC dI cI s1 s2 s3 s4 s.heap.size  ) (va_cwS 1 hts gX5_ink_X5_needPlace rfl rfl rfl (by decide +kernel) ⟨Nat.le_of_ble_eq_true rfl, Nat.le_of_ble_eq_true rfl⟩) (kq_preX hS hA hK hT) rfl rfl hl.1 rfl (lv_room (Nat.le_of_ble_eq_true rfl)) dX5_ink_23 ⟨Nat.le_of_ble_eq_true rfl, Nat.le_of_ble_eq_true rfl⟩) hP hD hS hA rfl rfl hnt hlocks (fun E hE => by subst hE; first | exact ⟨fun _ => rfl, fun q _ => absurd q.1 (by assumption)⟩ | exact ⟨fun _ => rfl, fun q _ => absurd q.2 (by assumption)⟩ | exact ⟨fun q => absurd ⟨by assumption, by assumption⟩ q, fun _ _ => rfl⟩)
  · skip
    have c_1 := kq_bt c_1
    refine lv_iload_n hx hb dX5_ink_9 rfl (lv_at hl 2 rfl) ?_
    refine lv_bipush (v := 12) hx hb dX5_ink_10 (by decide) ?_
    refine kq_cS (As := [.int x2, .int 12]) (rest := []) ⟨hx, hb, hml, hown, hts⟩ (c_X5_isIndex l dC dI cI x2 12 ) (va_cwS 2 hts gX5_ink_X5_isIndex rfl rfl rfl (by decide +kernel) ⟨Nat.le_of_ble_eq_true rfl, Nat.le_of_ble_eq_true rfl⟩) (hP.sub [] rfl) hK rfl hl.1 rfl (Nat.le_of_ble_eq_true rfl) dX5_ink_12 ⟨Nat.le_of_ble_eq_true rfl, Nat.le_of_ble_eq_true rfl⟩ ?_
    refine lv_if_eq (tgt := 22) hx hb dX5_ink_15 (by decide) (fun c_2 => ?_) (fun c_2 => ?_)
    · skip
      have c_2 := kq_bf c_2
      refine lv_iconst (v := 0) hx hb dX5_ink_22 (by decide) ?_
      exact kq_xcall [0] (vx_runS (As := [.int 0]) (rest := []) ⟨hx, hb, hml, hown, hts⟩ (c_X5_needPlace_x l hls dC dI cI s1 s2 s3 s4 s.heap.size  ) (va_cwS 1 hts gX5_ink_X5_needPlace rfl rfl rfl (by decide +kernel) ⟨Nat.le_of_ble_eq_true rfl, Nat.le_of_ble_eq_true rfl⟩) (kq_preX hS hA hK hT) rfl rfl hl.1 rfl (lv_room (Nat.le_of_ble_eq_true rfl)) dX5_ink_23 ⟨Nat.le_of_ble_eq_true rfl, Nat.le_of_ble_eq_true rfl⟩) hP hD hS hA rfl rfl hnt hlocks (fun E hE => by subst hE; first | exact ⟨fun _ => rfl, fun q _ => absurd q.1 (by assumption)⟩ | exact ⟨fun _ => rfl, fun q _ => absurd q.2 (by assumption)⟩ | exact ⟨fun q => absurd ⟨by assumption, by assumption⟩ q, fun _ _ => rfl⟩)
    · skip
      have c_2 := kq_bt c_2
      refine lv_iconst (v := 1) hx hb dX5_ink_18 (by decide) ?_
      refine lv_goto (tgt := 23) hx hb dX5_ink_19 (by decide) ?_
      refine kq_callMv (wr := [(oX, .inr (5, [.ref oS, .ref oR, .ref oN, .ref o2, .ref oF, .ref oT]))]) (va_runS (As := [.int 1]) (rest := []) ⟨hx, hb, hml, hown, hts⟩ (c_X5_needPlace l dC dI cI s.heap.size  ) (va_cwS 1 hts gX5_ink_X5_needPlace rfl rfl rfl (by decide +kernel) ⟨Nat.le_of_ble_eq_true rfl, Nat.le_of_ble_eq_true rfl⟩) (kq_preS (hP.sub [] rfl) (hD.sub [] (by decide) rfl) hK) rfl rfl hl.1 rfl (lv_room (Nat.le_of_ble_eq_true rfl)) dX5_ink_23 ⟨Nat.le_of_ble_eq_true rfl, Nat.le_of_ble_eq_true rfl⟩) hP hD hS hA [] [0] rfl rfl (by decide) (by decide) (fun u_4 H locs hw_5 hP hD hS => ?_)
      have hP : va_P (dC, dI) vwCl [(oX, .inr (5, [.ref oS, .ref oR, .ref oN, .ref o2, .ref oF, .ref oT]))] H := hP
      have hD : va_D A [(oX, .inr (5, [.ref oS, .ref oR, .ref oN, .ref o2, .ref oF, .ref oT]))] := hD
      refine lv_iload_n hx hb dX5_ink_26 rfl (lv_at hl 3 rfl) ?_
      refine lv_iconst (v := 1) hx hb dX5_ink_27 (by decide) ?_
      refine lv_bipush (v := 6) hx hb dX5_ink_28 (by decide) ?_
      refine lv_iload_n hx hb dX5_ink_30 rfl (lv_at hl 1 rfl) ?_
      refine lv_isub hx hb dX5_ink_31 ?_
      refine kq_cS (As := [.int x3, .int 1, .int (6 - x1)]) (rest := []) ⟨hx, hb, hml, hown, hts⟩ (c_X5_isBetween l dC dI cI x3 1 (6 - x1) ) (va_cwS 3 hts gX5_ink_X5_isBetween rfl rfl rfl (by decide +kernel) ⟨Nat.le_of_ble_eq_true rfl, Nat.le_of_ble_eq_true rfl⟩) (hP.sub [] rfl) hK rfl hl.1 rfl (Nat.le_of_ble_eq_true rfl) dX5_ink_32 ⟨Nat.le_of_ble_eq_true rfl, Nat.le_of_ble_eq_true rfl⟩ ?_
      refine lv_if_eq (tgt := 66) hx hb dX5_ink_35 (by decide) (fun c_6 => ?_) (fun c_6 => ?_)
      · skip
        have c_6 := kq_bf c_6
        refine lv_iconst (v := 0) hx hb dX5_ink_66 (by decide) ?_
        exact kq_xcall [0] (vx_runS (As := [.int 0]) (rest := []) ⟨hx, hb, hml, hown, hts⟩ (c_X5_needArgument_x l hls dC dI cI s1 s2 s3 s4 H.size  ) (va_cwS 1 hts gX5_ink_X5_needArgument rfl rfl rfl (by decide +kernel) ⟨Nat.le_of_ble_eq_true rfl, Nat.le_of_ble_eq_true rfl⟩) (kq_preX hS hA hK hT) rfl rfl hl.1 rfl (lv_room (Nat.le_of_ble_eq_true rfl)) dX5_ink_67 ⟨Nat.le_of_ble_eq_true rfl, Nat.le_of_ble_eq_true rfl⟩) hP hD hS hA rfl rfl hnt hlocks (fun E hE => by subst hE; first | exact ⟨fun _ => rfl, fun q _ => absurd q.1 (by assumption)⟩ | exact ⟨fun _ => rfl, fun q _ => absurd q.2 (by assumption)⟩ | exact ⟨fun q => absurd ⟨by assumption, by assumption⟩ q, fun _ _ => rfl⟩)
      · skip
        have c_6 := kq_bt c_6
        refine lv_iload hx hb dX5_ink_38 (lv_at hl 4 rfl) ?_
        refine lv_iconst (v := 1) hx hb dX5_ink_40 (by decide) ?_
        refine lv_bipush (v := 12) hx hb dX5_ink_41 (by decide) ?_
        refine lv_iload_n hx hb dX5_ink_43 rfl (lv_at hl 2 rfl) ?_
        refine lv_isub hx hb dX5_ink_44 ?_
        refine kq_cS (As := [.int x4, .int 1, .int (12 - x2)]) (rest := []) ⟨hx, hb, hml, hown, hts⟩ (c_X5_isBetween l dC dI cI x4 1 (12 - x2) ) (va_cwS 3 hts gX5_ink_X5_isBetween rfl rfl rfl (by decide +kernel) ⟨Nat.le_of_ble_eq_true rfl, Nat.le_of_ble_eq_true rfl⟩) (hP.sub [] rfl) hK rfl hl.1 rfl (Nat.le_of_ble_eq_true rfl) dX5_ink_45 ⟨Nat.le_of_ble_eq_true rfl, Nat.le_of_ble_eq_true rfl⟩ ?_
        refine lv_if_eq (tgt := 66) hx hb dX5_ink_48 (by decide) (fun c_7 => ?_) (fun c_7 => ?_)
        · skip
          have c_7 := kq_bf c_7
          refine lv_iconst (v := 0) hx hb dX5_ink_66 (by decide) ?_
          exact kq_xcall [0] (vx_runS (As := [.int 0]) (rest := []) ⟨hx, hb, hml, hown, hts⟩ (c_X5_needArgument_x l hls dC dI cI s1 s2 s3 s4 H.size  ) (va_cwS 1 hts gX5_ink_X5_needArgument rfl rfl rfl (by decide +kernel) ⟨Nat.le_of_ble_eq_true rfl, Nat.le_of_ble_eq_true rfl⟩) (kq_preX hS hA hK hT) rfl rfl hl.1 rfl (lv_room (Nat.le_of_ble_eq_true rfl)) dX5_ink_67 ⟨Nat.le_of_ble_eq_true rfl, Nat.le_of_ble_eq_true rfl⟩) hP hD hS hA rfl rfl hnt hlocks (fun E hE => by subst hE; first | exact ⟨fun _ => rfl, fun q _ => absurd q.1 (by assumption)⟩ | exact ⟨fun _ => rfl, fun q _ => absurd q.2 (by assumption)⟩ | exact ⟨fun q => absurd ⟨by assumption, by assumption⟩ q, fun _ _ => rfl⟩)
        · skip
          have c_7 := kq_bt c_7
          refine lv_iload hx hb dX5_ink_51 (lv_at hl 5 rfl) ?_
          refine lv_iconst (v := 0) hx hb dX5_ink_53 (by decide) ?_
          refine lv_bipush (v := 9) hx hb dX5_ink_54 (by decide) ?_
          refine kq_cS (As := [.int x5, .int 0, .int 9]) (rest := []) ⟨hx, hb, hml, hown, hts⟩ (c_X5_isBetween l dC dI cI x5 0 9 ) (va_cwS 3 hts gX5_ink_X5_isBetween rfl rfl rfl (by decide +kernel) ⟨Nat.le_of_ble_eq_true rfl, Nat.le_of_ble_eq_true rfl⟩) (hP.sub [] rfl) hK rfl hl.1 rfl (Nat.le_of_ble_eq_true rfl) dX5_ink_56 ⟨Nat.le_of_ble_eq_true rfl, Nat.le_of_ble_eq_true rfl⟩ ?_
          refine lv_if_eq (tgt := 66) hx hb dX5_ink_59 (by decide) (fun c_8 => ?_) (fun c_8 => ?_)
          · skip
            have c_8 := kq_bf c_8
            refine lv_iconst (v := 0) hx hb dX5_ink_66 (by decide) ?_
            exact kq_xcall [0] (vx_runS (As := [.int 0]) (rest := []) ⟨hx, hb, hml, hown, hts⟩ (c_X5_needArgument_x l hls dC dI cI s1 s2 s3 s4 H.size  ) (va_cwS 1 hts gX5_ink_X5_needArgument rfl rfl rfl (by decide +kernel) ⟨Nat.le_of_ble_eq_true rfl, Nat.le_of_ble_eq_true rfl⟩) (kq_preX hS hA hK hT) rfl rfl hl.1 rfl (lv_room (Nat.le_of_ble_eq_true rfl)) dX5_ink_67 ⟨Nat.le_of_ble_eq_true rfl, Nat.le_of_ble_eq_true rfl⟩) hP hD hS hA rfl rfl hnt hlocks (fun E hE => by subst hE; first | exact ⟨fun _ => rfl, fun q _ => absurd q.1 (by assumption)⟩ | exact ⟨fun _ => rfl, fun q _ => absurd q.2 (by assumption)⟩ | exact ⟨fun q => absurd ⟨by assumption, by assumption⟩ q, fun _ _ => rfl⟩)
          · skip
            have c_8 := kq_bt c_8
            exact absurd ⟨by assumption, by assumption, by assumption, by assumption, c_8⟩ hbad
set_option maxHeartbeats 4000000 in
set_option maxRecDepth 100000 in
theorem c_X5_figure_x (l : Launch) (hls : l.stackTraces = false) (dC : Nat → ClassId) (dI : Nat → Nat → Nat) (cI : ClassId) (s1 s2 s3 s4 sz : Nat) (oX : Nat) (oS : Nat) (oR : Nat) (oN : Nat) (o2 : Nat) (oF : Nat) (oT : Nat) (rv : Nat) (rs : Nat) (kc : Nat) (v : Nat → Int32) (sv : Nat → Int32) (x0 : Int32) (x1 : Int32) (x2 : Int32) (x3 : Int32) (x4 : Int32) (hbad : ¬ ((0 ≤ x0 ∧ x0 < 4) ∧ (0 ≤ x1 ∧ x1 < 6) ∧ (0 ≤ x2 ∧ x2 < 12) ∧ (1 ≤ x3 ∧ x3 ≤ 6 - x1) ∧ (1 ≤ x4 ∧ x4 ≤ 12 - x2))) : vx_Met l yX5_figure wsX5_figure ({ frames := 7, cells := 1, slots := 6, locals := 102 }) (kq_X dC dI cI s1 s2 s3 s4 [.ref oX, .int x0, .int x1, .int x2, .int x3, .int x4] sz [(oX, .inr (5, [.ref oS, .ref oR, .ref oN, .ref o2, .ref oF, .ref oT]))]) kq_no (kq_XC dC dI (fun E => (¬ ((0 ≤ x0 ∧ x0 < 4) ∧ (0 ≤ x1 ∧ x1 < 6) ∧ (0 ≤ x2 ∧ x2 < 12)) → E = "java/lang/IndexOutOfBoundsException") ∧ (((0 ≤ x0 ∧ x0 < 4) ∧ (0 ≤ x1 ∧ x1 < 6) ∧ (0 ≤ x2 ∧ x2 < 12)) → ¬ ((1 ≤ x3 ∧ x3 ≤ 6 - x1) ∧ (1 ≤ x4 ∧ x4 ≤ 12 - x2)) → E = "java/lang/IllegalArgumentException")) [(oX, .inr (5, [.ref oS, .ref oR, .ref oN, .ref o2, .ref oF, .ref oT]))] (va_A [(oX, .inr (5, [.ref oS, .ref oR, .ref oN, .ref o2, .ref oF, .ref oT]))] sz)) 1 6 (va_A [(oX, .inr (5, [.ref oS, .ref oR, .ref oN, .ref o2, .ref oF, .ref oT]))] sz) := by
  refine kq_startX (cc := cX5_figure) (maxL := 6) (ret := (some .int)) (by decide) rfl (Nat.le_of_ble_eq_true rfl) ?_
  intro p e s m below meth c hx hb hr hml hown hlocks hts hsz hA hP hD hS hK hnm hnt hT ls hl
  subst hsz
  generalize hAe : va_A [(oX, .inr (5, [.ref oS, .ref oR, .ref oN, .ref o2, .ref oF, .ref oT]))] s.heap.size = A at hA hD hS hT ⊢
  have hown : s.vm.findClass RX5 = some m.cls := hown
  have hl : lv_has ls 6 [(0, .ref oX), (1, .int x0), (2, .int x1), (3, .int x2), (4, .int x3), (5, .int x4)] := hl
  refine lv_iload_n hx hb dX5_figure_0 rfl (lv_at hl 1 rfl) ?_
  refine lv_iconst (v := 4) hx hb dX5_figure_1 (by decide) ?_
  refine kq_cS (As := [.int x0, .int 4]) (rest := []) ⟨hx, hb, hml, hown, hts⟩ (c_X5_isIndex l dC dI cI x0 4 ) (va_cwS 2 hts gX5_figure_X5_isIndex rfl rfl rfl (by decide +kernel) ⟨Nat.le_of_ble_eq_true rfl, Nat.le_of_ble_eq_true rfl⟩) (hP.sub [] rfl) hK rfl hl.1 rfl (Nat.le_of_ble_eq_true rfl) dX5_figure_2 ⟨Nat.le_of_ble_eq_true rfl, Nat.le_of_ble_eq_true rfl⟩ ?_
  refine lv_if_eq (tgt := 30) hx hb dX5_figure_5 (by decide) (fun c_1 => ?_) (fun c_1 => ?_)
  · skip
    have c_1 := kq_bf c_1
    refine lv_iconst (v := 0) hx hb dX5_figure_30 (by decide) ?_
    exact kq_xcall [0] (vx_runS (As := [.int 0]) (rest := []) ⟨hx, hb, hml, hown, hts⟩ (c_X5_needPlace_x l hls dC dI cI s1 s2 s3 s4 s.heap.size  ) (va_cwS 1 hts gX5_figure_X5_needPlace rfl rfl rfl (by decide +kernel) ⟨Nat.le_of_ble_eq_true rfl, Nat.le_of_ble_eq_true rfl⟩) (kq_preX hS hA hK hT) rfl rfl hl.1 rfl (lv_room (Nat.le_of_ble_eq_true rfl)) dX5_figure_31 ⟨Nat.le_of_ble_eq_true rfl, Nat.le_of_ble_eq_true rfl⟩) hP hD hS hA rfl rfl hnt hlocks (fun E hE => by subst hE; first | exact ⟨fun _ => rfl, fun q _ => absurd q.1 (by assumption)⟩ | exact ⟨fun _ => rfl, fun q _ => absurd q.2.1 (by assumption)⟩ | exact ⟨fun _ => rfl, fun q _ => absurd q.2.2 (by assumption)⟩ | exact ⟨fun q => absurd ⟨by assumption, by assumption, by assumption⟩ q, fun _ _ => rfl⟩)
  · skip
    have c_1 := kq_bt c_1
    refine lv_iload_n hx hb dX5_figure_8 rfl (lv_at hl 2 rfl) ?_
    refine lv_bipush (v := 6) hx hb dX5_figure_9 (by decide) ?_
    refine kq_cS (As := [.int x1, .int 6]) (rest := []) ⟨hx, hb, hml, hown, hts⟩ (c_X5_isIndex l dC dI cI x1 6 ) (va_cwS 2 hts gX5_figure_X5_isIndex rfl rfl rfl (by decide +kernel) ⟨Nat.le_of_ble_eq_true rfl, Nat.le_of_ble_eq_true rfl⟩) (hP.sub [] rfl) hK rfl hl.1 rfl (Nat.le_of_ble_eq_true rfl) dX5_figure_11 ⟨Nat.le_of_ble_eq_true rfl, Nat.le_of_ble_eq_true rfl⟩ ?_
    refine lv_if_eq (tgt := 30) hx hb dX5_figure_14 (by decide) (fun c_2 => ?_) (fun c_2 => ?_)
    · skip
      have c_2 := kq_bf c_2
      refine lv_iconst (v := 0) hx hb dX5_figure_30 (by decide) ?_
      exact kq_xcall [0] (vx_runS (As := [.int 0]) (rest := []) ⟨hx, hb, hml, hown, hts⟩ (c_X5_needPlace_x l hls dC dI cI s1 s2 s3 s4 s.heap.size  ) (va_cwS 1 hts gX5_figure_X5_needPlace rfl rfl rfl (by decide +kernel) ⟨Nat.le_of_ble_eq_true rfl, Nat.le_of_ble_eq_true rfl⟩) (kq_preX hS hA hK hT) rfl rfl hl.1 rfl (lv_room (Nat.le_of_ble_eq_true rfl)) dX5_figure_31 ⟨Nat.le_of_ble_eq_true rfl, Nat.le_of_ble_eq_true rfl⟩) hP hD hS hA rfl rfl hnt hlocks (fun E hE => by subst hE; first | exact ⟨fun _ => rfl, fun q _ => absurd q.1 (by assumption)⟩ | exact ⟨fun _ => rfl, fun q _ => absurd q.2.1 (by assumption)⟩ | exact ⟨fun _ => rfl, fun q _ => absurd q.2.2 (by assumption)⟩ | exact ⟨fun q => absurd ⟨by assumption, by assumption, by assumption⟩ q, fun _ _ => rfl⟩)
    · skip
      have c_2 := kq_bt c_2
      refine lv_iload_n hx hb dX5_figure_17 rfl (lv_at hl 3 rfl) ?_
      refine lv_bipush (v := 12) hx hb dX5_figure_18 (by decide) ?_
      refine kq_cS (As := [.int x2, .int 12]) (rest := []) ⟨hx, hb, hml, hown, hts⟩ (c_X5_isIndex l dC dI cI x2 12 ) (va_cwS 2 hts gX5_figure_X5_isIndex rfl rfl rfl (by decide +kernel) ⟨Nat.le_of_ble_eq_true rfl, Nat.le_of_ble_eq_true rfl⟩) (hP.sub [] rfl) hK rfl hl.1 rfl (Nat.le_of_ble_eq_true rfl) dX5_figure_20 ⟨Nat.le_of_ble_eq_true rfl, Nat.le_of_ble_eq_true rfl⟩ ?_
      refine lv_if_eq (tgt := 30) hx hb dX5_figure_23 (by decide) (fun c_3 => ?_) (fun c_3 => ?_)
      · skip
        have c_3 := kq_bf c_3
        refine lv_iconst (v := 0) hx hb dX5_figure_30 (by decide) ?_
        exact kq_xcall [0] (vx_runS (As := [.int 0]) (rest := []) ⟨hx, hb, hml, hown, hts⟩ (c_X5_needPlace_x l hls dC dI cI s1 s2 s3 s4 s.heap.size  ) (va_cwS 1 hts gX5_figure_X5_needPlace rfl rfl rfl (by decide +kernel) ⟨Nat.le_of_ble_eq_true rfl, Nat.le_of_ble_eq_true rfl⟩) (kq_preX hS hA hK hT) rfl rfl hl.1 rfl (lv_room (Nat.le_of_ble_eq_true rfl)) dX5_figure_31 ⟨Nat.le_of_ble_eq_true rfl, Nat.le_of_ble_eq_true rfl⟩) hP hD hS hA rfl rfl hnt hlocks (fun E hE => by subst hE; first | exact ⟨fun _ => rfl, fun q _ => absurd q.1 (by assumption)⟩ | exact ⟨fun _ => rfl, fun q _ => absurd q.2.1 (by assumption)⟩ | exact ⟨fun _ => rfl, fun q _ => absurd q.2.2 (by assumption)⟩ | exact ⟨fun q => absurd ⟨by assumption, by assumption, by assumption⟩ q, fun _ _ => rfl⟩)
      · skip
        have c_3 := kq_bt c_3
        refine lv_iconst (v := 1) hx hb dX5_figure_26 (by decide) ?_
        refine lv_goto (tgt := 31) hx hb dX5_figure_27 (by decide) ?_
        refine kq_callMv (wr := [(oX, .inr (5, [.ref oS, .ref oR, .ref oN, .ref o2, .ref oF, .ref oT]))]) (va_runS (As := [.int 1]) (rest := []) ⟨hx, hb, hml, hown, hts⟩ (c_X5_needPlace l dC dI cI s.heap.size  ) (va_cwS 1 hts gX5_figure_X5_needPlace rfl rfl rfl (by decide +kernel) ⟨Nat.le_of_ble_eq_true rfl, Nat.le_of_ble_eq_true rfl⟩) (kq_preS (hP.sub [] rfl) (hD.sub [] (by decide) rfl) hK) rfl rfl hl.1 rfl (lv_room (Nat.le_of_ble_eq_true rfl)) dX5_figure_31 ⟨Nat.le_of_ble_eq_true rfl, Nat.le_of_ble_eq_true rfl⟩) hP hD hS hA [] [0] rfl rfl (by decide) (by decide) (fun u_5 H locs hw_6 hP hD hS => ?_)
        have hP : va_P (dC, dI) vwCl [(oX, .inr (5, [.ref oS, .ref oR, .ref oN, .ref o2, .ref oF, .ref oT]))] H := hP
        have hD : va_D A [(oX, .inr (5, [.ref oS, .ref oR, .ref oN, .ref o2, .ref oF, .ref oT]))] := hD
        refine lv_iload hx hb dX5_figure_34 (lv_at hl 4 rfl) ?_
        refine lv_iconst (v := 1) hx hb dX5_figure_36 (by decide) ?_
        refine lv_bipush (v := 6) hx hb dX5_figure_37 (by decide) ?_
        refine lv_iload_n hx hb dX5_figure_39 rfl (lv_at hl 2 rfl) ?_
        refine lv_isub hx hb dX5_figure_40 ?_
        refine kq_cS (As := [.int x3, .int 1, .int (6 - x1)]) (rest := []) ⟨hx, hb, hml, hown, hts⟩ (c_X5_isBetween l dC dI cI x3 1 (6 - x1) ) (va_cwS 3 hts gX5_figure_X5_isBetween rfl rfl rfl (by decide +kernel) ⟨Nat.le_of_ble_eq_true rfl, Nat.le_of_ble_eq_true rfl⟩) (hP.sub [] rfl) hK rfl hl.1 rfl (Nat.le_of_ble_eq_true rfl) dX5_figure_41 ⟨Nat.le_of_ble_eq_true rfl, Nat.le_of_ble_eq_true rfl⟩ ?_
        refine lv_if_eq (tgt := 64) hx hb dX5_figure_44 (by decide) (fun c_7 => ?_) (fun c_7 => ?_)
        · skip
          have c_7 := kq_bf c_7
          refine lv_iconst (v := 0) hx hb dX5_figure_64 (by decide) ?_
          exact kq_xcall [0] (vx_runS (As := [.int 0]) (rest := []) ⟨hx, hb, hml, hown, hts⟩ (c_X5_needArgument_x l hls dC dI cI s1 s2 s3 s4 H.size  ) (va_cwS 1 hts gX5_figure_X5_needArgument rfl rfl rfl (by decide +kernel) ⟨Nat.le_of_ble_eq_true rfl, Nat.le_of_ble_eq_true rfl⟩) (kq_preX hS hA hK hT) rfl rfl hl.1 rfl (lv_room (Nat.le_of_ble_eq_true rfl)) dX5_figure_65 ⟨Nat.le_of_ble_eq_true rfl, Nat.le_of_ble_eq_true rfl⟩) hP hD hS hA rfl rfl hnt hlocks (fun E hE => by subst hE; first | exact ⟨fun _ => rfl, fun q _ => absurd q.1 (by assumption)⟩ | exact ⟨fun _ => rfl, fun q _ => absurd q.2.1 (by assumption)⟩ | exact ⟨fun _ => rfl, fun q _ => absurd q.2.2 (by assumption)⟩ | exact ⟨fun q => absurd ⟨by assumption, by assumption, by assumption⟩ q, fun _ _ => rfl⟩)
        · skip
          have c_7 := kq_bt c_7
          refine lv_iload hx hb dX5_figure_47 (lv_at hl 5 rfl) ?_
          refine lv_iconst (v := 1) hx hb dX5_figure_49 (by decide) ?_
          refine lv_bipush (v := 12) hx hb dX5_figure_50 (by decide) ?_
          refine lv_iload_n hx hb dX5_figure_52 rfl (lv_at hl 3 rfl) ?_
          refine lv_isub hx hb dX5_figure_53 ?_
          refine kq_cS (As := [.int x4, .int 1, .int (12 - x2)]) (rest := []) ⟨hx, hb, hml, hown, hts⟩ (c_X5_isBetween l dC dI cI x4 1 (12 - x2) ) (va_cwS 3 hts gX5_figure_X5_isBetween rfl rfl rfl (by decide +kernel) ⟨Nat.le_of_ble_eq_true rfl, Nat.le_of_ble_eq_true rfl⟩) (hP.sub [] rfl) hK rfl hl.1 rfl (Nat.le_of_ble_eq_true rfl) dX5_figure_54 ⟨Nat.le_of_ble_eq_true rfl, Nat.le_of_ble_eq_true rfl⟩ ?_
          refine lv_if_eq (tgt := 64) hx hb dX5_figure_57 (by decide) (fun c_8 => ?_) (fun c_8 => ?_)
          · skip
            have c_8 := kq_bf c_8
            refine lv_iconst (v := 0) hx hb dX5_figure_64 (by decide) ?_
            exact kq_xcall [0] (vx_runS (As := [.int 0]) (rest := []) ⟨hx, hb, hml, hown, hts⟩ (c_X5_needArgument_x l hls dC dI cI s1 s2 s3 s4 H.size  ) (va_cwS 1 hts gX5_figure_X5_needArgument rfl rfl rfl (by decide +kernel) ⟨Nat.le_of_ble_eq_true rfl, Nat.le_of_ble_eq_true rfl⟩) (kq_preX hS hA hK hT) rfl rfl hl.1 rfl (lv_room (Nat.le_of_ble_eq_true rfl)) dX5_figure_65 ⟨Nat.le_of_ble_eq_true rfl, Nat.le_of_ble_eq_true rfl⟩) hP hD hS hA rfl rfl hnt hlocks (fun E hE => by subst hE; first | exact ⟨fun _ => rfl, fun q _ => absurd q.1 (by assumption)⟩ | exact ⟨fun _ => rfl, fun q _ => absurd q.2.1 (by assumption)⟩ | exact ⟨fun _ => rfl, fun q _ => absurd q.2.2 (by assumption)⟩ | exact ⟨fun q => absurd ⟨by assumption, by assumption, by assumption⟩ q, fun _ _ => rfl⟩)
          · skip
            have c_8 := kq_bt c_8
            exact absurd ⟨by assumption, by assumption, by assumption, by assumption, c_8⟩ hbad
set_option maxHeartbeats 4000000 in
set_option maxRecDepth 100000 in
theorem c_X5_drop_x (l : Launch) (hls : l.stackTraces = false) (dC : Nat → ClassId) (dI : Nat → Nat → Nat) (cI : ClassId) (s1 s2 s3 s4 sz : Nat) (oX : Nat) (oS : Nat) (oR : Nat) (oN : Nat) (o2 : Nat) (oF : Nat) (oT : Nat) (rv : Nat) (rs : Nat) (kc : Nat) (v : Nat → Int32) (sv : Nat → Int32) (x1 : Int32) (hbad : ¬ ((0 ≤ x1 ∧ x1 < 4))) : vx_Met l yX5_drop wsX5_drop ({ frames := 7, cells := 1, slots := 6, locals := 102 }) (kq_X dC dI cI s1 s2 s3 s4 [.ref oX, .int x1] sz [(oX, .inr (5, [.ref oS, .ref oR, .ref oN, .ref o2, .ref oF, .ref oT]))]) kq_no (kq_XC dC dI (fun E => E = "java/lang/IndexOutOfBoundsException") [(oX, .inr (5, [.ref oS, .ref oR, .ref oN, .ref o2, .ref oF, .ref oT]))] (va_A [(oX, .inr (5, [.ref oS, .ref oR, .ref oN, .ref o2, .ref oF, .ref oT]))] sz)) 1 6 (va_A [(oX, .inr (5, [.ref oS, .ref oR, .ref oN, .ref o2, .ref oF, .ref oT]))] sz) := by
  refine kq_startX (cc := cX5_drop) (maxL := 3) (ret := (some .int)) (by decide) rfl (Nat.le_of_ble_eq_true rfl) ?_
  intro p e s m below meth c hx hb hr hml hown hlocks hts hsz hA hP hD hS hK hnm hnt hT ls hl
  subst hsz
  generalize hAe : va_A [(oX, .inr (5, [.ref oS, .ref oR, .ref oN, .ref o2, .ref oF, .ref oT]))] s.heap.size = A at hA hD hS hT ⊢
  have hown : s.vm.findClass RX5 = some m.cls := hown
  have hl : lv_has ls 3 [(0, .ref oX), (1, .int x1)] := hl
  refine lv_iload_n hx hb dX5_drop_0 rfl (lv_at hl 1 rfl) ?_
  refine lv_iconst (v := 4) hx hb dX5_drop_1 (by decide) ?_
  refine kq_cS (As := [.int x1, .int 4]) (rest := []) ⟨hx, hb, hml, hown, hts⟩ (c_X5_isIndex l dC dI cI x1 4 ) (va_cwS 2 hts gX5_drop_X5_isIndex rfl rfl rfl (by decide +kernel) ⟨Nat.le_of_ble_eq_true rfl, Nat.le_of_ble_eq_true rfl⟩) (hP.sub [] rfl) hK rfl hl.1 rfl (Nat.le_of_ble_eq_true rfl) dX5_drop_2 ⟨Nat.le_of_ble_eq_true rfl, Nat.le_of_ble_eq_true rfl⟩ ?_
  by_cases b_1 : 0 ≤ x1 ∧ x1 < 4
  · skip
    exact absurd b_1 hbad
  · skip
    refine kq_top (z := 0) (if_neg b_1) ?_
    exact kq_xcall [0] (vx_runS (As := [.int 0]) (rest := []) ⟨hx, hb, hml, hown, hts⟩ (c_X5_needPlace_x l hls dC dI cI s1 s2 s3 s4 s.heap.size  ) (va_cwS 1 hts gX5_drop_X5_needPlace rfl rfl rfl (by decide +kernel) ⟨Nat.le_of_ble_eq_true rfl, Nat.le_of_ble_eq_true rfl⟩) (kq_preX hS hA hK hT) rfl rfl hl.1 rfl (lv_room (Nat.le_of_ble_eq_true rfl)) dX5_drop_5 ⟨Nat.le_of_ble_eq_true rfl, Nat.le_of_ble_eq_true rfl⟩) hP hD hS hA rfl rfl hnt hlocks (fun E hE => by subst hE; rfl)
set_option maxHeartbeats 4000000 in
set_option maxRecDepth 100000 in
theorem c_X5_set_x (l : Launch) (hls : l.stackTraces = false) (dC : Nat → ClassId) (dI : Nat → Nat → Nat) (cI : ClassId) (s1 s2 s3 s4 sz : Nat) (oX : Nat) (oS : Nat) (oR : Nat) (oN : Nat) (o2 : Nat) (oF : Nat) (oT : Nat) (rv : Nat) (rs : Nat) (kc : Nat) (v : Nat → Int32) (sv : Nat → Int32) (x1 : Int32) (x2 : Int32) (hbad : ¬ ((0 ≤ x1 ∧ x1 < 3))) : vx_Met l yX5_set wsX5_set ({ frames := 7, cells := 1, slots := 6, locals := 102 }) (kq_X dC dI cI s1 s2 s3 s4 [.ref oX, .int x1, .int x2] sz [(oX, .inr (5, [.ref oS, .ref oR, .ref oN, .ref o2, .ref oF, .ref oT]))]) kq_no (kq_XC dC dI (fun E => E = "java/lang/IndexOutOfBoundsException") [(oX, .inr (5, [.ref oS, .ref oR, .ref oN, .ref o2, .ref oF, .ref oT]))] (va_A [(oX, .inr (5, [.ref oS, .ref oR, .ref oN, .ref o2, .ref oF, .ref oT]))] sz)) 1 6 (va_A [(oX, .inr (5, [.ref oS, .ref oR, .ref oN, .ref o2, .ref oF, .ref oT]))] sz) := by
  refine kq_startX (cc := cX5_set) (maxL := 4) (ret := (some .int)) (by decide) rfl (Nat.le_of_ble_eq_true rfl) ?_
  intro p e s m below meth c hx hb hr hml hown hlocks hts hsz hA hP hD hS hK hnm hnt hT ls hl
  subst hsz
  generalize hAe : va_A [(oX, .inr (5, [.ref oS, .ref oR, .ref oN, .ref o2, .ref oF, .ref oT]))] s.heap.size = A at hA hD hS hT ⊢
  have hown : s.vm.findClass RX5 = some m.cls := hown
  have hl : lv_has ls 4 [(0, .ref oX), (1, .int x1), (2, .int x2)] := hl
  refine lv_iload_n hx hb dX5_set_0 rfl (lv_at hl 1 rfl) ?_
  refine lv_iconst (v := 3) hx hb dX5_set_1 (by decide) ?_
  refine kq_cS (As := [.int x1, .int 3]) (rest := []) ⟨hx, hb, hml, hown, hts⟩ (c_X5_isIndex l dC dI cI x1 3 ) (va_cwS 2 hts gX5_set_X5_isIndex rfl rfl rfl (by decide +kernel) ⟨Nat.le_of_ble_eq_true rfl, Nat.le_of_ble_eq_true rfl⟩) (hP.sub [] rfl) hK rfl hl.1 rfl (Nat.le_of_ble_eq_true rfl) dX5_set_2 ⟨Nat.le_of_ble_eq_true rfl, Nat.le_of_ble_eq_true rfl⟩ ?_
  by_cases b_1 : 0 ≤ x1 ∧ x1 < 3
  · skip
    exact absurd b_1 hbad
  · skip
    refine kq_top (z := 0) (if_neg b_1) ?_
    exact kq_xcall [0] (vx_runS (As := [.int 0]) (rest := []) ⟨hx, hb, hml, hown, hts⟩ (c_X5_needPlace_x l hls dC dI cI s1 s2 s3 s4 s.heap.size  ) (va_cwS 1 hts gX5_set_X5_needPlace rfl rfl rfl (by decide +kernel) ⟨Nat.le_of_ble_eq_true rfl, Nat.le_of_ble_eq_true rfl⟩) (kq_preX hS hA hK hT) rfl rfl hl.1 rfl (lv_room (Nat.le_of_ble_eq_true rfl)) dX5_set_5 ⟨Nat.le_of_ble_eq_true rfl, Nat.le_of_ble_eq_true rfl⟩) hP hD hS hA rfl rfl hnt hlocks (fun E hE => by subst hE; rfl)
set_option maxHeartbeats 4000000 in
set_option maxRecDepth 100000 in
theorem c_X5_set_y (l : Launch) (hls : l.stackTraces = false) (dC : Nat → ClassId) (dI : Nat → Nat → Nat) (cI : ClassId) (s1 s2 s3 s4 sz : Nat) (oX : Nat) (oS : Nat) (oR : Nat) (oN : Nat) (o2 : Nat) (oF : Nat) (oT : Nat) (rv : Nat) (rs : Nat) (kc : Nat) (v : Nat → Int32) (sv : Nat → Int32) (k : Nat) (x2 : Int32) (hk : k < 3) (hbad : ¬ (n_lo k ≤ x2 ∧ x2 ≤ n_hi k)) : vx_Met l yX5_set wsX5_set ({ frames := 7, cells := 1, slots := 6, locals := 102 }) (kq_X dC dI cI s1 s2 s3 s4 [.ref oX, .int (nI k), .int x2] sz [(oX, .inr (5, [.ref oS, .ref oR, .ref oN, .ref o2, .ref oF, .ref oT]))]) kq_no (kq_XC dC dI (fun E => E = "java/lang/IllegalArgumentException") [(oX, .inr (5, [.ref oS, .ref oR, .ref oN, .ref o2, .ref oF, .ref oT]))] (va_A [(oX, .inr (5, [.ref oS, .ref oR, .ref oN, .ref o2, .ref oF, .ref oT]))] sz)) 1 6 (va_A [(oX, .inr (5, [.ref oS, .ref oR, .ref oN, .ref o2, .ref oF, .ref oT]))] sz) := by
  refine kq_startX (cc := cX5_set) (maxL := 4) (ret := (some .int)) (by decide) rfl (Nat.le_of_ble_eq_true rfl) ?_
  intro p e s m below meth c hx hb hr hml hown hlocks hts hsz hA hP hD hS hK hnm hnt hT ls hl
  subst hsz
  generalize hAe : va_A [(oX, .inr (5, [.ref oS, .ref oR, .ref oN, .ref o2, .ref oF, .ref oT]))] s.heap.size = A at hA hD hS hT ⊢
  have hown : s.vm.findClass RX5 = some m.cls := hown
  have hl : lv_has ls 4 [(0, .ref oX), (1, .int (nI k)), (2, .int x2)] := hl
  refine lv_iload_n hx hb dX5_set_0 rfl (lv_at hl 1 rfl) ?_
  refine lv_iconst (v := 3) hx hb dX5_set_1 (by decide) ?_
  refine kq_cS (As := [.int (nI k), .int 3]) (rest := []) ⟨hx, hb, hml, hown, hts⟩ (c_X5_isIndex_n l dC dI cI k 3 (by first | assumption | omega) (by first | assumption | omega)) (va_cwS 2 hts gX5_set_X5_isIndex rfl rfl rfl (by decide +kernel) ⟨Nat.le_of_ble_eq_true rfl, Nat.le_of_ble_eq_true rfl⟩) (hP.sub [] rfl) hK rfl hl.1 rfl (Nat.le_of_ble_eq_true rfl) dX5_set_2 ⟨Nat.le_of_ble_eq_true rfl, Nat.le_of_ble_eq_true rfl⟩ ?_
  refine kq_top (z := 1) (if_pos (hk)) ?_
  refine kq_callMv (wr := [(oX, .inr (5, [.ref oS, .ref oR, .ref oN, .ref o2, .ref oF, .ref oT]))]) (va_runS (As := [.int 1]) (rest := []) ⟨hx, hb, hml, hown, hts⟩ (c_X5_needPlace l dC dI cI s.heap.size  ) (va_cwS 1 hts gX5_set_X5_needPlace rfl rfl rfl (by decide +kernel) ⟨Nat.le_of_ble_eq_true rfl, Nat.le_of_ble_eq_true rfl⟩) (kq_preS (hP.sub [] rfl) (hD.sub [] (by decide) rfl) hK) rfl rfl hl.1 rfl (lv_room (Nat.le_of_ble_eq_true rfl)) dX5_set_5 ⟨Nat.le_of_ble_eq_true rfl, Nat.le_of_ble_eq_true rfl⟩) hP hD hS hA [] [0] rfl rfl (by decide) (by decide) (fun u_2 H locs hw_3 hP hD hS => ?_)
  have hP : va_P (dC, dI) vwCl [(oX, .inr (5, [.ref oS, .ref oR, .ref oN, .ref o2, .ref oF, .ref oT]))] H := hP
  have hD : va_D A [(oX, .inr (5, [.ref oS, .ref oR, .ref oN, .ref o2, .ref oF, .ref oT]))] := hD
  refine lv_iload_n hx hb dX5_set_8 rfl (lv_at hl 1 rfl) ?_
  refine lv_iload_n hx hb dX5_set_9 rfl (lv_at hl 2 rfl) ?_
  refine kq_cS (As := [.int (nI k), .int x2]) (rest := []) ⟨hx, hb, hml, hown, hts⟩ (c_X5_isSettingValue l dC dI cI k x2 (by first | assumption | omega)) (va_cwS 2 hts gX5_set_X5_isSettingValue rfl rfl rfl (by decide +kernel) ⟨Nat.le_of_ble_eq_true rfl, Nat.le_of_ble_eq_true rfl⟩) (hP.sub [] rfl) hK rfl hl.1 rfl (Nat.le_of_ble_eq_true rfl) dX5_set_10 ⟨Nat.le_of_ble_eq_true rfl, Nat.le_of_ble_eq_true rfl⟩ ?_
  by_cases b_4 : n_lo k ≤ x2 ∧ x2 ≤ n_hi k
  · skip
    exact absurd b_4 hbad
  · skip
    refine kq_top (z := 0) (if_neg b_4) ?_
    exact kq_xcall [0] (vx_runS (As := [.int 0]) (rest := []) ⟨hx, hb, hml, hown, hts⟩ (c_X5_needArgument_x l hls dC dI cI s1 s2 s3 s4 H.size  ) (va_cwS 1 hts gX5_set_X5_needArgument rfl rfl rfl (by decide +kernel) ⟨Nat.le_of_ble_eq_true rfl, Nat.le_of_ble_eq_true rfl⟩) (kq_preX hS hA hK hT) rfl rfl hl.1 rfl (lv_room (Nat.le_of_ble_eq_true rfl)) dX5_set_13 ⟨Nat.le_of_ble_eq_true rfl, Nat.le_of_ble_eq_true rfl⟩) hP hD hS hA rfl rfl hnt hlocks (fun E hE => by subst hE; rfl)
set_option maxHeartbeats 4000000 in
set_option maxRecDepth 100000 in
theorem c_X5_append_x (l : Launch) (hls : l.stackTraces = false) (dC : Nat → ClassId) (dI : Nat → Nat → Nat) (cI : ClassId) (s1 s2 s3 s4 sz : Nat) (oX : Nat) (oS : Nat) (oR : Nat) (oN : Nat) (o2 : Nat) (oF : Nat) (oT : Nat) (rv : Nat) (rs : Nat) (kc : Nat) (v : Nat → Int32) (sv : Nat → Int32) (n : Nat) (rc : Nat) (cd : Nat → Int32) (x1 : Int32) (hn : n ≤ 60) (hbad : ¬ ((33 ≤ x1 ∧ x1 ≤ 126) ∧ ¬ n = 60)) : vx_Met l yX5_append wsX5_append ({ frames := 7, cells := 1, slots := 6, locals := 102 }) (kq_X dC dI cI s1 s2 s3 s4 [.ref oX, .int x1] sz [(oX, .inr (5, [.ref oS, .ref oR, .ref oN, .ref o2, .ref oF, .ref oT])), (oT, .inr (4, [.ref rc, .int (nI n)]))]) kq_no (kq_XC dC dI (fun E => (¬ ((33 ≤ x1 ∧ x1 ≤ 126)) → E = "java/lang/IllegalArgumentException") ∧ (((33 ≤ x1 ∧ x1 ≤ 126)) → ¬ (¬ n = 60) → E = "java/lang/IllegalStateException")) [(oX, .inr (5, [.ref oS, .ref oR, .ref oN, .ref o2, .ref oF, .ref oT])), (oT, .inr (4, [.ref rc, .int (nI n)]))] (va_A [(oX, .inr (5, [.ref oS, .ref oR, .ref oN, .ref o2, .ref oF, .ref oT])), (oT, .inr (4, [.ref rc, .int (nI n)]))] sz)) 1 6 (va_A [(oX, .inr (5, [.ref oS, .ref oR, .ref oN, .ref o2, .ref oF, .ref oT])), (oT, .inr (4, [.ref rc, .int (nI n)]))] sz) := by
  refine kq_startX (cc := cX5_append) (maxL := 2) (ret := (some .int)) (by decide) rfl (Nat.le_of_ble_eq_true rfl) ?_
  intro p e s m below meth c hx hb hr hml hown hlocks hts hsz hA hP hD hS hK hnm hnt hT ls hl
  subst hsz
  generalize hAe : va_A [(oX, .inr (5, [.ref oS, .ref oR, .ref oN, .ref o2, .ref oF, .ref oT])), (oT, .inr (4, [.ref rc, .int (nI n)]))] s.heap.size = A at hA hD hS hT ⊢
  have hown : s.vm.findClass RX5 = some m.cls := hown
  have hl : lv_has ls 2 [(0, .ref oX), (1, .int x1)] := hl
  refine lv_iload_n hx hb dX5_append_0 rfl (lv_at hl 1 rfl) ?_
  refine lv_bipush (v := 33) hx hb dX5_append_1 (by decide) ?_
  refine lv_bipush (v := 126) hx hb dX5_append_3 (by decide) ?_
  refine kq_cS (As := [.int x1, .int 33, .int 126]) (rest := []) ⟨hx, hb, hml, hown, hts⟩ (c_X5_isBetween l dC dI cI x1 33 126 ) (va_cwS 3 hts gX5_append_X5_isBetween rfl rfl rfl (by decide +kernel) ⟨Nat.le_of_ble_eq_true rfl, Nat.le_of_ble_eq_true rfl⟩) (hP.sub [] rfl) hK rfl hl.1 rfl (Nat.le_of_ble_eq_true rfl) dX5_append_5 ⟨Nat.le_of_ble_eq_true rfl, Nat.le_of_ble_eq_true rfl⟩ ?_
  by_cases b_1 : 33 ≤ x1 ∧ x1 ≤ 126
  · skip
    refine kq_top (z := 1) (if_pos b_1) ?_
    refine kq_callMv (wr := [(oX, .inr (5, [.ref oS, .ref oR, .ref oN, .ref o2, .ref oF, .ref oT])), (oT, .inr (4, [.ref rc, .int (nI n)]))]) (va_runS (As := [.int 1]) (rest := []) ⟨hx, hb, hml, hown, hts⟩ (c_X5_needArgument l dC dI cI s.heap.size  ) (va_cwS 1 hts gX5_append_X5_needArgument rfl rfl rfl (by decide +kernel) ⟨Nat.le_of_ble_eq_true rfl, Nat.le_of_ble_eq_true rfl⟩) (kq_preS (hP.sub [] rfl) (hD.sub [] (by decide) rfl) hK) rfl rfl hl.1 rfl (lv_room (Nat.le_of_ble_eq_true rfl)) dX5_append_8 ⟨Nat.le_of_ble_eq_true rfl, Nat.le_of_ble_eq_true rfl⟩) hP hD hS hA [] [0, 1] rfl rfl (by decide) (by decide) (fun u_3 H locs hw_4 hP hD hS => ?_)
    have hP : va_P (dC, dI) vwCl [(oX, .inr (5, [.ref oS, .ref oR, .ref oN, .ref o2, .ref oF, .ref oT])), (oT, .inr (4, [.ref rc, .int (nI n)]))] H := hP
    have hD : va_D A [(oX, .inr (5, [.ref oS, .ref oR, .ref oN, .ref o2, .ref oF, .ref oT])), (oT, .inr (4, [.ref rc, .int (nI n)]))] := hD
    refine lv_aload_n hx hb dX5_append_11 rfl (lv_at hl 0 rfl) ?_
    refine va_get (D := (dC, dI)) (ci := 5) (v := .ref oT) (C := RX5) (T := TX5) (N := 6) hx hb hts (by decide +kernel) hown hK.1 hP 0 rfl rfl 5 (by decide) (hts (.fieldLink RX5 47 "NoteWatermarks" "text" "LNoteWatermarks$WireText;") (by decide +kernel)) (fun _ h9 => h9) rfl dX5_append_12 ?_
    refine kq_cV (As := []) (rest := []) ⟨hx, hb, hml, hown, hts⟩ (c_X4_isFull l dC dI cI oT rc n cd (by first | assumption | omega)) (cwV 0 hts gX5_append_X4_isFull rfl rfl rfl (by decide +kernel) ⟨Nat.le_of_ble_eq_true rfl, Nat.le_of_ble_eq_true rfl⟩) (hP.sub [1] rfl) hK (ci := 4) (q0 := 0) rfl rfl rfl rfl hl.1 rfl (Nat.le_of_ble_eq_true rfl) dX5_append_15 ⟨Nat.le_of_ble_eq_true rfl, Nat.le_of_ble_eq_true rfl⟩ ?_
    refine lv_if_eq (tgt := 31) hx hb dX5_append_18 (by decide) (fun c_5 => ?_) (fun c_5 => ?_)
    · skip
      have c_5 := kq_bf c_5
      exact absurd ⟨by assumption, (by omega)⟩ hbad
    · skip
      have c_5 := kq_bt c_5
      exact vx_throwS hx hb hls (own := RX5) (cls := "java/lang/IllegalStateException") (text := _) (names := ["java/lang/RuntimeException", "java/lang/Exception"]) (ik := 122) (is := 124) (ic := 126) (sa := s3) (A := A) hown (by decide +kernel) (by decide +kernel) (hts _ (by decide +kernel)) (hts _ (by decide +kernel)) hT.2.2.2.2.1 (vx_hat (B := [.castable "java/lang/IllegalStateException" "java/lang/IllegalStateException", .declares (Bundle.initS "java/lang/RuntimeException"), .declares (Bundle.initS "java/lang/Exception"), .declares (Bundle.initS Bundle.tN)]) (fun w h => hts w (List.mem_cons_of_mem _ (List.mem_append_left _ (List.mem_append_right _ h)))) (by decide +kernel) (vx_c (va_Nw.use rfl hT.2.2.2.2.2.2.2.2.1) (vx_c (va_Nw.use rfl hT.2.2.2.2.2.2.2.2.2.2.2.1) (vx_c (va_Nw.use rfl hT.2.2.2.2.2.2.2.2.2.2.2.2.1) (vx_c (va_Nw.use rfl hT.2.2.2.2.2.2.2.2.2.2.2.2.2) vx_n))))) (by decide +kernel) hT.1 hT.2.1 hS (hl.1.trans hml.symm) dX5_append_21 dX5_append_24 dX5_append_25 dX5_append_27 dX5_append_30 (fun x hx9 => (hnt x hx9).elim) (Nat.le_of_ble_eq_true rfl) (Nat.le_of_ble_eq_true rfl) (Nat.le_of_ble_eq_true rfl) (Nat.le_of_ble_eq_true rfl) hlocks (fun t _ h1 h2 => kq_xc [0, 1] hP hD hS hA rfl rfl h1 h2 (by first | exact ⟨fun _ => rfl, fun q _ => absurd q (by assumption)⟩ | exact ⟨fun q => absurd (by assumption) q, fun _ _ => rfl⟩)) hS.2.2 (Nat.le_refl _) (Nat.le_refl _)
  · skip
    refine kq_top (z := 0) (if_neg b_1) ?_
    exact kq_xcall [0, 1] (vx_runS (As := [.int 0]) (rest := []) ⟨hx, hb, hml, hown, hts⟩ (c_X5_needArgument_x l hls dC dI cI s1 s2 s3 s4 s.heap.size  ) (va_cwS 1 hts gX5_append_X5_needArgument rfl rfl rfl (by decide +kernel) ⟨Nat.le_of_ble_eq_true rfl, Nat.le_of_ble_eq_true rfl⟩) (kq_preX hS hA hK hT) rfl rfl hl.1 rfl (lv_room (Nat.le_of_ble_eq_true rfl)) dX5_append_8 ⟨Nat.le_of_ble_eq_true rfl, Nat.le_of_ble_eq_true rfl⟩) hP hD hS hA rfl rfl hnt hlocks (fun E hE => by subst hE; first | exact ⟨fun _ => rfl, fun q _ => absurd q (by assumption)⟩ | exact ⟨fun q => absurd (by assumption) q, fun _ _ => rfl⟩)
set_option maxHeartbeats 4000000 in
set_option maxRecDepth 100000 in
theorem c_X5_bend_x (l : Launch) (hls : l.stackTraces = false) (dC : Nat → ClassId) (dI : Nat → Nat → Nat) (cI : ClassId) (s1 s2 s3 s4 sz : Nat) (oX : Nat) (oS : Nat) (oR : Nat) (oN : Nat) (o2 : Nat) (oF : Nat) (oT : Nat) (rv : Nat) (rs : Nat) (kc : Nat) (v : Nat → Int32) (sv : Nat → Int32) (n : Nat) (rc : Nat) (cd : Nat → Int32) (hn : n ≤ 60) (hbad : ¬ (n_q cd n = 5 ∨ n_q cd n = 7)) : vx_Met l yX5_bend wsX5_bend ({ frames := 7, cells := 1, slots := 6, locals := 102 }) (kq_X dC dI cI s1 s2 s3 s4 [.ref oX] sz [(oX, .inr (5, [.ref oS, .ref oR, .ref oN, .ref o2, .ref oF, .ref oT])), (oT, .inr (4, [.ref rc, .int (nI n)])), (rc, .inl (cI, 60, .inl cd))]) kq_no (kq_XC dC dI (fun E => E = "java/lang/IllegalArgumentException") [(oX, .inr (5, [.ref oS, .ref oR, .ref oN, .ref o2, .ref oF, .ref oT])), (oT, .inr (4, [.ref rc, .int (nI n)])), (rc, .inl (cI, 60, .inl cd))] (va_A [(oX, .inr (5, [.ref oS, .ref oR, .ref oN, .ref o2, .ref oF, .ref oT])), (oT, .inr (4, [.ref rc, .int (nI n)])), (rc, .inl (cI, 60, .inl cd))] sz)) 1 6 (va_A [(oX, .inr (5, [.ref oS, .ref oR, .ref oN, .ref o2, .ref oF, .ref oT])), (oT, .inr (4, [.ref rc, .int (nI n)])), (rc, .inl (cI, 60, .inl cd))] sz) := by
  refine kq_startX (cc := cX5_bend) (maxL := 3) (ret := (some .int)) (by decide) rfl (Nat.le_of_ble_eq_true rfl) ?_
  intro p e s m below meth c hx hb hr hml hown hlocks hts hsz hA hP hD hS hK hnm hnt hT ls hl
  subst hsz
  generalize hAe : va_A [(oX, .inr (5, [.ref oS, .ref oR, .ref oN, .ref o2, .ref oF, .ref oT])), (oT, .inr (4, [.ref rc, .int (nI n)])), (rc, .inl (cI, 60, .inl cd))] s.heap.size = A at hA hD hS hT ⊢
  have hown : s.vm.findClass RX5 = some m.cls := hown
  have hl : lv_has ls 3 [(0, .ref oX)] := hl
  refine lv_aload_n hx hb dX5_bend_0 rfl (lv_at hl 0 rfl) ?_
  refine va_get (D := (dC, dI)) (ci := 5) (v := .ref oT) (C := RX5) (T := TX5) (N := 6) hx hb hts (by decide +kernel) hown hK.1 hP 0 rfl rfl 5 (by decide) (hts (.fieldLink RX5 47 "NoteWatermarks" "text" "LNoteWatermarks$WireText;") (by decide +kernel)) (fun _ h9 => h9) rfl dX5_bend_1 ?_
  refine kq_cV (As := []) (rest := []) ⟨hx, hb, hml, hown, hts⟩ (c_X4_isComplete l dC dI cI oT rc n cd (by first | assumption | omega)) (cwV 0 hts gX5_bend_X4_isComplete rfl rfl rfl (by decide +kernel) ⟨Nat.le_of_ble_eq_true rfl, Nat.le_of_ble_eq_true rfl⟩) (hP.sub [1, 2] rfl) hK (ci := 4) (q0 := 0) rfl rfl rfl rfl hl.1 rfl (Nat.le_of_ble_eq_true rfl) dX5_bend_4 ⟨Nat.le_of_ble_eq_true rfl, Nat.le_of_ble_eq_true rfl⟩ ?_
  by_cases b_1 : n_q cd n = 5 ∨ n_q cd n = 7
  · skip
    exact absurd b_1 hbad
  · skip
    refine kq_top (z := 0) (if_neg b_1) ?_
    exact kq_xcall [0, 1, 2] (vx_runS (As := [.int 0]) (rest := []) ⟨hx, hb, hml, hown, hts⟩ (c_X5_needArgument_x l hls dC dI cI s1 s2 s3 s4 s.heap.size  ) (va_cwS 1 hts gX5_bend_X5_needArgument rfl rfl rfl (by decide +kernel) ⟨Nat.le_of_ble_eq_true rfl, Nat.le_of_ble_eq_true rfl⟩) (kq_preX hS hA hK hT) rfl rfl hl.1 rfl (lv_room (Nat.le_of_ble_eq_true rfl)) dX5_bend_7 ⟨Nat.le_of_ble_eq_true rfl, Nat.le_of_ble_eq_true rfl⟩) hP hD hS hA rfl rfl hnt hlocks (fun E hE => by subst hE; rfl)
set_option maxHeartbeats 4000000 in
set_option maxRecDepth 100000 in
theorem c_X5_undo_x (l : Launch) (hls : l.stackTraces = false) (dC : Nat → ClassId) (dI : Nat → Nat → Nat) (cI : ClassId) (s1 s2 s3 s4 sz : Nat) (oX : Nat) (oS : Nat) (oR : Nat) (oN : Nat) (o2 : Nat) (oF : Nat) (oT : Nat) (rv : Nat) (rs : Nat) (kc : Nat) (v : Nat → Int32) (sv : Nat → Int32) (hkc : kc ≤ 6) (hbad : ¬ (¬ kc = 0)) : vx_Met l yX5_undo wsX5_undo ({ frames := 6, cells := 1, slots := 6, locals := 82 }) (kq_X dC dI cI s1 s2 s3 s4 [.ref oX] sz [(oX, .inr (5, [.ref oS, .ref oR, .ref oN, .ref o2, .ref oF, .ref oT])), (oS, .inr (3, [.ref rv, .ref rs, .int (nI kc)])), (rv, .inl (cI, 385, .inl v)), (rs, .inl (cI, 2310, .inl sv))]) kq_no (kq_XC dC dI (fun E => E = "java/lang/IllegalStateException") [(oX, .inr (5, [.ref oS, .ref oR, .ref oN, .ref o2, .ref oF, .ref oT])), (oS, .inr (3, [.ref rv, .ref rs, .int (nI kc)])), (rv, .inl (cI, 385, .inl v)), (rs, .inl (cI, 2310, .inl sv))] (va_A [(oX, .inr (5, [.ref oS, .ref oR, .ref oN, .ref o2, .ref oF, .ref oT])), (oS, .inr (3, [.ref rv, .ref rs, .int (nI kc)])), (rv, .inl (cI, 385, .inl v)), (rs, .inl (cI, 2310, .inl sv))] sz)) 1 6 (va_A [(oX, .inr (5, [.ref oS, .ref oR, .ref oN, .ref o2, .ref oF, .ref oT])), (oS, .inr (3, [.ref rv, .ref rs, .int (nI kc)])), (rv, .inl (cI, 385, .inl v)), (rs, .inl (cI, 2310, .inl sv))] sz) := by
  refine kq_startX (cc := cX5_undo) (maxL := 1) (ret := (some .int)) (by decide) rfl (Nat.le_of_ble_eq_true rfl) ?_
  intro p e s m below meth c hx hb hr hml hown hlocks hts hsz hA hP hD hS hK hnm hnt hT ls hl
  subst hsz
  generalize hAe : va_A [(oX, .inr (5, [.ref oS, .ref oR, .ref oN, .ref o2, .ref oF, .ref oT])), (oS, .inr (3, [.ref rv, .ref rs, .int (nI kc)])), (rv, .inl (cI, 385, .inl v)), (rs, .inl (cI, 2310, .inl sv))] s.heap.size = A at hA hD hS hT ⊢
  have hown : s.vm.findClass RX5 = some m.cls := hown
  have hl : lv_has ls 1 [(0, .ref oX)] := hl
  refine lv_aload_n hx hb dX5_undo_0 rfl (lv_at hl 0 rfl) ?_
  refine va_get (D := (dC, dI)) (ci := 5) (v := .ref oS) (C := RX5) (T := TX5) (N := 6) hx hb hts (by decide +kernel) hown hK.1 hP 0 rfl rfl 0 (by decide) (hts (.fieldLink RX5 12 "NoteWatermarks" "state" "LNoteWatermarks$State;") (by decide +kernel)) (fun _ h9 => h9) rfl dX5_undo_1 ?_
  refine kq_cV (As := []) (rest := []) ⟨hx, hb, hml, hown, hts⟩ (c_X3_savedStates l dC dI cI oS rv rs (nI kc) v ) (cwV 0 hts gX5_undo_X3_savedStates rfl rfl rfl (by decide +kernel) ⟨Nat.le_of_ble_eq_true rfl, Nat.le_of_ble_eq_true rfl⟩) (hP.sub [1] rfl) hK (ci := 3) (q0 := 0) rfl rfl rfl rfl hl.1 rfl (Nat.le_of_ble_eq_true rfl) dX5_undo_4 ⟨Nat.le_of_ble_eq_true rfl, Nat.le_of_ble_eq_true rfl⟩ ?_
  refine lv_if_ne (tgt := 20) hx hb dX5_undo_7 (by decide) (fun c_1 => ?_) (fun c_1 => ?_)
  · skip
    have c_1 := kq_neN (a := kc) (b := 0) c_1 (by omega) (by omega)
    exact absurd c_1 hbad
  · skip
    have c_1 := kq_eqN (a := kc) (b := 0) c_1 (by omega) (by omega)
    exact vx_throwS hx hb hls (own := RX5) (cls := "java/lang/IllegalStateException") (text := _) (names := ["java/lang/RuntimeException", "java/lang/Exception"]) (ik := 122) (is := 151) (ic := 126) (sa := s4) (A := A) hown (by decide +kernel) (by decide +kernel) (hts _ (by decide +kernel)) (hts _ (by decide +kernel)) hT.2.2.2.2.2.1 (vx_hat (B := [.castable "java/lang/IllegalStateException" "java/lang/IllegalStateException", .declares (Bundle.initS "java/lang/RuntimeException"), .declares (Bundle.initS "java/lang/Exception"), .declares (Bundle.initS Bundle.tN)]) (fun w h => hts w (List.mem_cons_of_mem _ (List.mem_append_right _ h))) (by decide +kernel) (vx_c (va_Nw.use rfl hT.2.2.2.2.2.2.2.2.1) (vx_c (va_Nw.use rfl hT.2.2.2.2.2.2.2.2.2.2.2.1) (vx_c (va_Nw.use rfl hT.2.2.2.2.2.2.2.2.2.2.2.2.1) (vx_c (va_Nw.use rfl hT.2.2.2.2.2.2.2.2.2.2.2.2.2) vx_n))))) (by decide +kernel) hT.1 hT.2.1 hS (hl.1.trans hml.symm) dX5_undo_10 dX5_undo_13 dX5_undo_14 dX5_undo_16 dX5_undo_19 (fun x hx9 => (hnt x hx9).elim) (Nat.le_of_ble_eq_true rfl) (Nat.le_of_ble_eq_true rfl) (Nat.le_of_ble_eq_true rfl) (Nat.le_of_ble_eq_true rfl) hlocks (fun t _ h1 h2 => kq_xc [0, 1, 2, 3] hP hD hS hA rfl rfl h1 h2 (by rfl)) hS.2.2 (Nat.le_refl _) (Nat.le_refl _)
set_option maxHeartbeats 4000000 in
set_option maxRecDepth 100000 in
theorem c_X5_roll_x (l : Launch) (hls : l.stackTraces = false) (dC : Nat → ClassId) (dI : Nat → Nat → Nat) (cI : ClassId) (s1 s2 s3 s4 sz : Nat) (oX : Nat) (oS : Nat) (oR : Nat) (oN : Nat) (o2 : Nat) (oF : Nat) (oT : Nat) (rv : Nat) (rs : Nat) (kc : Nat) (v : Nat → Int32) (sv : Nat → Int32) (x1 : Int32) (x2 : Int32) (hbad : ¬ ((0 ≤ x1 ∧ x1 < 3) ∧ (0 ≤ x2 ∧ x2 ≤ 4))) : vx_Met l yX5_roll wsX5_roll ({ frames := 7, cells := 1, slots := 6, locals := 102 }) (kq_X dC dI cI s1 s2 s3 s4 [.ref oX, .int x1, .int x2] sz [(oX, .inr (5, [.ref oS, .ref oR, .ref oN, .ref o2, .ref oF, .ref oT]))]) kq_no (kq_XC dC dI (fun E => (¬ ((0 ≤ x1 ∧ x1 < 3)) → E = "java/lang/IndexOutOfBoundsException") ∧ (((0 ≤ x1 ∧ x1 < 3)) → ¬ ((0 ≤ x2 ∧ x2 ≤ 4)) → E = "java/lang/IllegalArgumentException")) [(oX, .inr (5, [.ref oS, .ref oR, .ref oN, .ref o2, .ref oF, .ref oT]))] (va_A [(oX, .inr (5, [.ref oS, .ref oR, .ref oN, .ref o2, .ref oF, .ref oT]))] sz)) 1 6 (va_A [(oX, .inr (5, [.ref oS, .ref oR, .ref oN, .ref o2, .ref oF, .ref oT]))] sz) := by
  refine kq_startX (cc := cX5_roll) (maxL := 4) (ret := (some .int)) (by decide) rfl (Nat.le_of_ble_eq_true rfl) ?_
  intro p e s m below meth c hx hb hr hml hown hlocks hts hsz hA hP hD hS hK hnm hnt hT ls hl
  subst hsz
  generalize hAe : va_A [(oX, .inr (5, [.ref oS, .ref oR, .ref oN, .ref o2, .ref oF, .ref oT]))] s.heap.size = A at hA hD hS hT ⊢
  have hown : s.vm.findClass RX5 = some m.cls := hown
  have hl : lv_has ls 4 [(0, .ref oX), (1, .int x1), (2, .int x2)] := hl
  refine lv_iload_n hx hb dX5_roll_0 rfl (lv_at hl 1 rfl) ?_
  refine lv_iconst (v := 3) hx hb dX5_roll_1 (by decide) ?_
  refine kq_cS (As := [.int x1, .int 3]) (rest := []) ⟨hx, hb, hml, hown, hts⟩ (c_X5_isIndex l dC dI cI x1 3 ) (va_cwS 2 hts gX5_roll_X5_isIndex rfl rfl rfl (by decide +kernel) ⟨Nat.le_of_ble_eq_true rfl, Nat.le_of_ble_eq_true rfl⟩) (hP.sub [] rfl) hK rfl hl.1 rfl (Nat.le_of_ble_eq_true rfl) dX5_roll_2 ⟨Nat.le_of_ble_eq_true rfl, Nat.le_of_ble_eq_true rfl⟩ ?_
  by_cases b_1 : 0 ≤ x1 ∧ x1 < 3
  · skip
    refine kq_top (z := 1) (if_pos b_1) ?_
    refine kq_callMv (wr := [(oX, .inr (5, [.ref oS, .ref oR, .ref oN, .ref o2, .ref oF, .ref oT]))]) (va_runS (As := [.int 1]) (rest := []) ⟨hx, hb, hml, hown, hts⟩ (c_X5_needPlace l dC dI cI s.heap.size  ) (va_cwS 1 hts gX5_roll_X5_needPlace rfl rfl rfl (by decide +kernel) ⟨Nat.le_of_ble_eq_true rfl, Nat.le_of_ble_eq_true rfl⟩) (kq_preS (hP.sub [] rfl) (hD.sub [] (by decide) rfl) hK) rfl rfl hl.1 rfl (lv_room (Nat.le_of_ble_eq_true rfl)) dX5_roll_5 ⟨Nat.le_of_ble_eq_true rfl, Nat.le_of_ble_eq_true rfl⟩) hP hD hS hA [] [0] rfl rfl (by decide) (by decide) (fun u_3 H locs hw_4 hP hD hS => ?_)
    have hP : va_P (dC, dI) vwCl [(oX, .inr (5, [.ref oS, .ref oR, .ref oN, .ref o2, .ref oF, .ref oT]))] H := hP
    have hD : va_D A [(oX, .inr (5, [.ref oS, .ref oR, .ref oN, .ref o2, .ref oF, .ref oT]))] := hD
    refine lv_iload_n hx hb dX5_roll_8 rfl (lv_at hl 2 rfl) ?_
    refine lv_iconst (v := 0) hx hb dX5_roll_9 (by decide) ?_
    refine lv_iconst (v := 4) hx hb dX5_roll_10 (by decide) ?_
    refine kq_cS (As := [.int x2, .int 0, .int 4]) (rest := []) ⟨hx, hb, hml, hown, hts⟩ (c_X5_isBetween l dC dI cI x2 0 4 ) (va_cwS 3 hts gX5_roll_X5_isBetween rfl rfl rfl (by decide +kernel) ⟨Nat.le_of_ble_eq_true rfl, Nat.le_of_ble_eq_true rfl⟩) (hP.sub [] rfl) hK rfl hl.1 rfl (Nat.le_of_ble_eq_true rfl) dX5_roll_11 ⟨Nat.le_of_ble_eq_true rfl, Nat.le_of_ble_eq_true rfl⟩ ?_
    by_cases b_5 : 0 ≤ x2 ∧ x2 ≤ 4
    · skip
      exact absurd ⟨by assumption, b_5⟩ hbad
    · skip
      refine kq_top (z := 0) (if_neg b_5) ?_
      exact kq_xcall [0] (vx_runS (As := [.int 0]) (rest := []) ⟨hx, hb, hml, hown, hts⟩ (c_X5_needArgument_x l hls dC dI cI s1 s2 s3 s4 H.size  ) (va_cwS 1 hts gX5_roll_X5_needArgument rfl rfl rfl (by decide +kernel) ⟨Nat.le_of_ble_eq_true rfl, Nat.le_of_ble_eq_true rfl⟩) (kq_preX hS hA hK hT) rfl rfl hl.1 rfl (lv_room (Nat.le_of_ble_eq_true rfl)) dX5_roll_14 ⟨Nat.le_of_ble_eq_true rfl, Nat.le_of_ble_eq_true rfl⟩) hP hD hS hA rfl rfl hnt hlocks (fun E hE => by subst hE; first | exact ⟨fun _ => rfl, fun q _ => absurd q (by assumption)⟩ | exact ⟨fun q => absurd (by assumption) q, fun _ _ => rfl⟩)
  · skip
    refine kq_top (z := 0) (if_neg b_1) ?_
    exact kq_xcall [0] (vx_runS (As := [.int 0]) (rest := []) ⟨hx, hb, hml, hown, hts⟩ (c_X5_needPlace_x l hls dC dI cI s1 s2 s3 s4 s.heap.size  ) (va_cwS 1 hts gX5_roll_X5_needPlace rfl rfl rfl (by decide +kernel) ⟨Nat.le_of_ble_eq_true rfl, Nat.le_of_ble_eq_true rfl⟩) (kq_preX hS hA hK hT) rfl rfl hl.1 rfl (lv_room (Nat.le_of_ble_eq_true rfl)) dX5_roll_5 ⟨Nat.le_of_ble_eq_true rfl, Nat.le_of_ble_eq_true rfl⟩) hP hD hS hA rfl rfl hnt hlocks (fun E hE => by subst hE; first | exact ⟨fun _ => rfl, fun q _ => absurd q (by assumption)⟩ | exact ⟨fun q => absurd (by assumption) q, fun _ _ => rfl⟩)
set_option maxHeartbeats 4000000 in
set_option maxRecDepth 100000 in
theorem c_X5_cell_x (l : Launch) (hls : l.stackTraces = false) (dC : Nat → ClassId) (dI : Nat → Nat → Nat) (cI : ClassId) (s1 s2 s3 s4 sz : Nat) (oX : Nat) (oS : Nat) (oR : Nat) (oN : Nat) (o2 : Nat) (oF : Nat) (oT : Nat) (rv : Nat) (rs : Nat) (kc : Nat) (v : Nat → Int32) (sv : Nat → Int32) (x0 : Int32) (x1 : Int32) (x2 : Int32) (x3 : Int32) (hbad : ¬ ((0 ≤ x0 ∧ x0 < 1000) ∧ (0 ≤ x1 ∧ x1 < 6) ∧ (0 ≤ x2 ∧ x2 < 12) ∧ (0 ≤ x3 ∧ x3 ≤ 3))) : vx_Met l yX5_cell wsX5_cell ({ frames := 7, cells := 1, slots := 6, locals := 102 }) (kq_X dC dI cI s1 s2 s3 s4 [.ref oX, .int x0, .int x1, .int x2, .int x3] sz [(oX, .inr (5, [.ref oS, .ref oR, .ref oN, .ref o2, .ref oF, .ref oT]))]) kq_no (kq_XC dC dI (fun E => (¬ ((0 ≤ x0 ∧ x0 < 1000) ∧ (0 ≤ x1 ∧ x1 < 6) ∧ (0 ≤ x2 ∧ x2 < 12)) → E = "java/lang/IndexOutOfBoundsException") ∧ (((0 ≤ x0 ∧ x0 < 1000) ∧ (0 ≤ x1 ∧ x1 < 6) ∧ (0 ≤ x2 ∧ x2 < 12)) → ¬ ((0 ≤ x3 ∧ x3 ≤ 3)) → E = "java/lang/IllegalArgumentException")) [(oX, .inr (5, [.ref oS, .ref oR, .ref oN, .ref o2, .ref oF, .ref oT]))] (va_A [(oX, .inr (5, [.ref oS, .ref oR, .ref oN, .ref o2, .ref oF, .ref oT]))] sz)) 1 6 (va_A [(oX, .inr (5, [.ref oS, .ref oR, .ref oN, .ref o2, .ref oF, .ref oT]))] sz) := by
  refine kq_startX (cc := cX5_cell) (maxL := 5) (ret := (some .int)) (by decide) rfl (Nat.le_of_ble_eq_true rfl) ?_
  intro p e s m below meth c hx hb hr hml hown hlocks hts hsz hA hP hD hS hK hnm hnt hT ls hl
  subst hsz
  generalize hAe : va_A [(oX, .inr (5, [.ref oS, .ref oR, .ref oN, .ref o2, .ref oF, .ref oT]))] s.heap.size = A at hA hD hS hT ⊢
  have hown : s.vm.findClass RX5 = some m.cls := hown
  have hl : lv_has ls 5 [(0, .ref oX), (1, .int x0), (2, .int x1), (3, .int x2), (4, .int x3)] := hl
  refine lv_iload_n hx hb dX5_cell_0 rfl (lv_at hl 1 rfl) ?_
  refine lv_sipush (v := 1000) hx hb dX5_cell_1 (by decide) ?_
  refine kq_cS (As := [.int x0, .int 1000]) (rest := []) ⟨hx, hb, hml, hown, hts⟩ (c_X5_isIndex l dC dI cI x0 1000 ) (va_cwS 2 hts gX5_cell_X5_isIndex rfl rfl rfl (by decide +kernel) ⟨Nat.le_of_ble_eq_true rfl, Nat.le_of_ble_eq_true rfl⟩) (hP.sub [] rfl) hK rfl hl.1 rfl (Nat.le_of_ble_eq_true rfl) dX5_cell_4 ⟨Nat.le_of_ble_eq_true rfl, Nat.le_of_ble_eq_true rfl⟩ ?_
  refine lv_if_eq (tgt := 32) hx hb dX5_cell_7 (by decide) (fun c_1 => ?_) (fun c_1 => ?_)
  · skip
    have c_1 := kq_bf c_1
    refine lv_iconst (v := 0) hx hb dX5_cell_32 (by decide) ?_
    exact kq_xcall [0] (vx_runS (As := [.int 0]) (rest := []) ⟨hx, hb, hml, hown, hts⟩ (c_X5_needPlace_x l hls dC dI cI s1 s2 s3 s4 s.heap.size  ) (va_cwS 1 hts gX5_cell_X5_needPlace rfl rfl rfl (by decide +kernel) ⟨Nat.le_of_ble_eq_true rfl, Nat.le_of_ble_eq_true rfl⟩) (kq_preX hS hA hK hT) rfl rfl hl.1 rfl (lv_room (Nat.le_of_ble_eq_true rfl)) dX5_cell_33 ⟨Nat.le_of_ble_eq_true rfl, Nat.le_of_ble_eq_true rfl⟩) hP hD hS hA rfl rfl hnt hlocks (fun E hE => by subst hE; first | exact ⟨fun _ => rfl, fun q _ => absurd q.1 (by assumption)⟩ | exact ⟨fun _ => rfl, fun q _ => absurd q.2.1 (by assumption)⟩ | exact ⟨fun _ => rfl, fun q _ => absurd q.2.2 (by assumption)⟩ | exact ⟨fun q => absurd ⟨by assumption, by assumption, by assumption⟩ q, fun _ _ => rfl⟩)
  · skip
    have c_1 := kq_bt c_1
    refine lv_iload_n hx hb dX5_cell_10 rfl (lv_at hl 2 rfl) ?_
    refine lv_bipush (v := 6) hx hb dX5_cell_11 (by decide) ?_
    refine kq_cS (As := [.int x1, .int 6]) (rest := []) ⟨hx, hb, hml, hown, hts⟩ (c_X5_isIndex l dC dI cI x1 6 ) (va_cwS 2 hts gX5_cell_X5_isIndex rfl rfl rfl (by decide +kernel) ⟨Nat.le_of_ble_eq_true rfl, Nat.le_of_ble_eq_true rfl⟩) (hP.sub [] rfl) hK rfl hl.1 rfl (Nat.le_of_ble_eq_true rfl) dX5_cell_13 ⟨Nat.le_of_ble_eq_true rfl, Nat.le_of_ble_eq_true rfl⟩ ?_
    refine lv_if_eq (tgt := 32) hx hb dX5_cell_16 (by decide) (fun c_2 => ?_) (fun c_2 => ?_)
    · skip
      have c_2 := kq_bf c_2
      refine lv_iconst (v := 0) hx hb dX5_cell_32 (by decide) ?_
      exact kq_xcall [0] (vx_runS (As := [.int 0]) (rest := []) ⟨hx, hb, hml, hown, hts⟩ (c_X5_needPlace_x l hls dC dI cI s1 s2 s3 s4 s.heap.size  ) (va_cwS 1 hts gX5_cell_X5_needPlace rfl rfl rfl (by decide +kernel) ⟨Nat.le_of_ble_eq_true rfl, Nat.le_of_ble_eq_true rfl⟩) (kq_preX hS hA hK hT) rfl rfl hl.1 rfl (lv_room (Nat.le_of_ble_eq_true rfl)) dX5_cell_33 ⟨Nat.le_of_ble_eq_true rfl, Nat.le_of_ble_eq_true rfl⟩) hP hD hS hA rfl rfl hnt hlocks (fun E hE => by subst hE; first | exact ⟨fun _ => rfl, fun q _ => absurd q.1 (by assumption)⟩ | exact ⟨fun _ => rfl, fun q _ => absurd q.2.1 (by assumption)⟩ | exact ⟨fun _ => rfl, fun q _ => absurd q.2.2 (by assumption)⟩ | exact ⟨fun q => absurd ⟨by assumption, by assumption, by assumption⟩ q, fun _ _ => rfl⟩)
    · skip
      have c_2 := kq_bt c_2
      refine lv_iload_n hx hb dX5_cell_19 rfl (lv_at hl 3 rfl) ?_
      refine lv_bipush (v := 12) hx hb dX5_cell_20 (by decide) ?_
      refine kq_cS (As := [.int x2, .int 12]) (rest := []) ⟨hx, hb, hml, hown, hts⟩ (c_X5_isIndex l dC dI cI x2 12 ) (va_cwS 2 hts gX5_cell_X5_isIndex rfl rfl rfl (by decide +kernel) ⟨Nat.le_of_ble_eq_true rfl, Nat.le_of_ble_eq_true rfl⟩) (hP.sub [] rfl) hK rfl hl.1 rfl (Nat.le_of_ble_eq_true rfl) dX5_cell_22 ⟨Nat.le_of_ble_eq_true rfl, Nat.le_of_ble_eq_true rfl⟩ ?_
      refine lv_if_eq (tgt := 32) hx hb dX5_cell_25 (by decide) (fun c_3 => ?_) (fun c_3 => ?_)
      · skip
        have c_3 := kq_bf c_3
        refine lv_iconst (v := 0) hx hb dX5_cell_32 (by decide) ?_
        exact kq_xcall [0] (vx_runS (As := [.int 0]) (rest := []) ⟨hx, hb, hml, hown, hts⟩ (c_X5_needPlace_x l hls dC dI cI s1 s2 s3 s4 s.heap.size  ) (va_cwS 1 hts gX5_cell_X5_needPlace rfl rfl rfl (by decide +kernel) ⟨Nat.le_of_ble_eq_true rfl, Nat.le_of_ble_eq_true rfl⟩) (kq_preX hS hA hK hT) rfl rfl hl.1 rfl (lv_room (Nat.le_of_ble_eq_true rfl)) dX5_cell_33 ⟨Nat.le_of_ble_eq_true rfl, Nat.le_of_ble_eq_true rfl⟩) hP hD hS hA rfl rfl hnt hlocks (fun E hE => by subst hE; first | exact ⟨fun _ => rfl, fun q _ => absurd q.1 (by assumption)⟩ | exact ⟨fun _ => rfl, fun q _ => absurd q.2.1 (by assumption)⟩ | exact ⟨fun _ => rfl, fun q _ => absurd q.2.2 (by assumption)⟩ | exact ⟨fun q => absurd ⟨by assumption, by assumption, by assumption⟩ q, fun _ _ => rfl⟩)
      · skip
        have c_3 := kq_bt c_3
        refine lv_iconst (v := 1) hx hb dX5_cell_28 (by decide) ?_
        refine lv_goto (tgt := 33) hx hb dX5_cell_29 (by decide) ?_
        refine kq_callMv (wr := [(oX, .inr (5, [.ref oS, .ref oR, .ref oN, .ref o2, .ref oF, .ref oT]))]) (va_runS (As := [.int 1]) (rest := []) ⟨hx, hb, hml, hown, hts⟩ (c_X5_needPlace l dC dI cI s.heap.size  ) (va_cwS 1 hts gX5_cell_X5_needPlace rfl rfl rfl (by decide +kernel) ⟨Nat.le_of_ble_eq_true rfl, Nat.le_of_ble_eq_true rfl⟩) (kq_preS (hP.sub [] rfl) (hD.sub [] (by decide) rfl) hK) rfl rfl hl.1 rfl (lv_room (Nat.le_of_ble_eq_true rfl)) dX5_cell_33 ⟨Nat.le_of_ble_eq_true rfl, Nat.le_of_ble_eq_true rfl⟩) hP hD hS hA [] [0] rfl rfl (by decide) (by decide) (fun u_5 H locs hw_6 hP hD hS => ?_)
        have hP : va_P (dC, dI) vwCl [(oX, .inr (5, [.ref oS, .ref oR, .ref oN, .ref o2, .ref oF, .ref oT]))] H := hP
        have hD : va_D A [(oX, .inr (5, [.ref oS, .ref oR, .ref oN, .ref o2, .ref oF, .ref oT]))] := hD
        refine lv_iload hx hb dX5_cell_36 (lv_at hl 4 rfl) ?_
        refine lv_iconst (v := 0) hx hb dX5_cell_38 (by decide) ?_
        refine lv_iconst (v := 3) hx hb dX5_cell_39 (by decide) ?_
        refine kq_cS (As := [.int x3, .int 0, .int 3]) (rest := []) ⟨hx, hb, hml, hown, hts⟩ (c_X5_isBetween l dC dI cI x3 0 3 ) (va_cwS 3 hts gX5_cell_X5_isBetween rfl rfl rfl (by decide +kernel) ⟨Nat.le_of_ble_eq_true rfl, Nat.le_of_ble_eq_true rfl⟩) (hP.sub [] rfl) hK rfl hl.1 rfl (Nat.le_of_ble_eq_true rfl) dX5_cell_40 ⟨Nat.le_of_ble_eq_true rfl, Nat.le_of_ble_eq_true rfl⟩ ?_
        by_cases b_7 : 0 ≤ x3 ∧ x3 ≤ 3
        · skip
          exact absurd ⟨by assumption, by assumption, by assumption, b_7⟩ hbad
        · skip
          refine kq_top (z := 0) (if_neg b_7) ?_
          exact kq_xcall [0] (vx_runS (As := [.int 0]) (rest := []) ⟨hx, hb, hml, hown, hts⟩ (c_X5_needArgument_x l hls dC dI cI s1 s2 s3 s4 H.size  ) (va_cwS 1 hts gX5_cell_X5_needArgument rfl rfl rfl (by decide +kernel) ⟨Nat.le_of_ble_eq_true rfl, Nat.le_of_ble_eq_true rfl⟩) (kq_preX hS hA hK hT) rfl rfl hl.1 rfl (lv_room (Nat.le_of_ble_eq_true rfl)) dX5_cell_43 ⟨Nat.le_of_ble_eq_true rfl, Nat.le_of_ble_eq_true rfl⟩) hP hD hS hA rfl rfl hnt hlocks (fun E hE => by subst hE; first | exact ⟨fun _ => rfl, fun q _ => absurd q.1 (by assumption)⟩ | exact ⟨fun _ => rfl, fun q _ => absurd q.2.1 (by assumption)⟩ | exact ⟨fun _ => rfl, fun q _ => absurd q.2.2 (by assumption)⟩ | exact ⟨fun q => absurd ⟨by assumption, by assumption, by assumption⟩ q, fun _ _ => rfl⟩)
set_option maxHeartbeats 4000000 in
set_option maxRecDepth 100000 in
theorem c_X5_figureOf_x (l : Launch) (hls : l.stackTraces = false) (dC : Nat → ClassId) (dI : Nat → Nat → Nat) (cI : ClassId) (s1 s2 s3 s4 sz : Nat) (oX : Nat) (oS : Nat) (oR : Nat) (oN : Nat) (o2 : Nat) (oF : Nat) (oT : Nat) (rv : Nat) (rs : Nat) (kc : Nat) (v : Nat → Int32) (sv : Nat → Int32) (x1 : Int32) (x2 : Int32) (hbad : ¬ ((0 ≤ x1 ∧ x1 < 4) ∧ (0 ≤ x2 ∧ x2 ≤ 4))) : vx_Met l yX5_figureOf wsX5_figureOf ({ frames := 7, cells := 1, slots := 6, locals := 121 }) (kq_X dC dI cI s1 s2 s3 s4 [.ref oX, .int x1, .int x2] sz [(oX, .inr (5, [.ref oS, .ref oR, .ref oN, .ref o2, .ref oF, .ref oT]))]) kq_no (kq_XC dC dI (fun E => (¬ ((0 ≤ x1 ∧ x1 < 4)) → E = "java/lang/IndexOutOfBoundsException") ∧ (((0 ≤ x1 ∧ x1 < 4)) → ¬ ((0 ≤ x2 ∧ x2 ≤ 4)) → E = "java/lang/IllegalArgumentException")) [(oX, .inr (5, [.ref oS, .ref oR, .ref oN, .ref o2, .ref oF, .ref oT]))] (va_A [(oX, .inr (5, [.ref oS, .ref oR, .ref oN, .ref o2, .ref oF, .ref oT]))] sz)) 1 6 (va_A [(oX, .inr (5, [.ref oS, .ref oR, .ref oN, .ref o2, .ref oF, .ref oT]))] sz) := by
  refine kq_startX (cc := cX5_figureOf) (maxL := 3) (ret := (some .int)) (by decide) rfl (Nat.le_of_ble_eq_true rfl) ?_
  intro p e s m below meth c hx hb hr hml hown hlocks hts hsz hA hP hD hS hK hnm hnt hT ls hl
  subst hsz
  generalize hAe : va_A [(oX, .inr (5, [.ref oS, .ref oR, .ref oN, .ref o2, .ref oF, .ref oT]))] s.heap.size = A at hA hD hS hT ⊢
  have hown : s.vm.findClass RX5 = some m.cls := hown
  have hl : lv_has ls 3 [(0, .ref oX), (1, .int x1), (2, .int x2)] := hl
  refine lv_iload_n hx hb dX5_figureOf_0 rfl (lv_at hl 1 rfl) ?_
  refine lv_iconst (v := 4) hx hb dX5_figureOf_1 (by decide) ?_
  refine kq_cS (As := [.int x1, .int 4]) (rest := []) ⟨hx, hb, hml, hown, hts⟩ (c_X5_isIndex l dC dI cI x1 4 ) (va_cwS 2 hts gX5_figureOf_X5_isIndex rfl rfl rfl (by decide +kernel) ⟨Nat.le_of_ble_eq_true rfl, Nat.le_of_ble_eq_true rfl⟩) (hP.sub [] rfl) hK rfl hl.1 rfl (Nat.le_of_ble_eq_true rfl) dX5_figureOf_2 ⟨Nat.le_of_ble_eq_true rfl, Nat.le_of_ble_eq_true rfl⟩ ?_
  by_cases b_1 : 0 ≤ x1 ∧ x1 < 4
  · skip
    refine kq_top (z := 1) (if_pos b_1) ?_
    refine kq_callMv (wr := [(oX, .inr (5, [.ref oS, .ref oR, .ref oN, .ref o2, .ref oF, .ref oT]))]) (va_runS (As := [.int 1]) (rest := []) ⟨hx, hb, hml, hown, hts⟩ (c_X5_needPlace l dC dI cI s.heap.size  ) (va_cwS 1 hts gX5_figureOf_X5_needPlace rfl rfl rfl (by decide +kernel) ⟨Nat.le_of_ble_eq_true rfl, Nat.le_of_ble_eq_true rfl⟩) (kq_preS (hP.sub [] rfl) (hD.sub [] (by decide) rfl) hK) rfl rfl hl.1 rfl (lv_room (Nat.le_of_ble_eq_true rfl)) dX5_figureOf_5 ⟨Nat.le_of_ble_eq_true rfl, Nat.le_of_ble_eq_true rfl⟩) hP hD hS hA [] [0] rfl rfl (by decide) (by decide) (fun u_3 H locs hw_4 hP hD hS => ?_)
    have hP : va_P (dC, dI) vwCl [(oX, .inr (5, [.ref oS, .ref oR, .ref oN, .ref o2, .ref oF, .ref oT]))] H := hP
    have hD : va_D A [(oX, .inr (5, [.ref oS, .ref oR, .ref oN, .ref o2, .ref oF, .ref oT]))] := hD
    refine lv_iload_n hx hb dX5_figureOf_8 rfl (lv_at hl 2 rfl) ?_
    refine lv_iconst (v := 0) hx hb dX5_figureOf_9 (by decide) ?_
    refine lv_iconst (v := 4) hx hb dX5_figureOf_10 (by decide) ?_
    refine kq_cS (As := [.int x2, .int 0, .int 4]) (rest := []) ⟨hx, hb, hml, hown, hts⟩ (c_X5_isBetween l dC dI cI x2 0 4 ) (va_cwS 3 hts gX5_figureOf_X5_isBetween rfl rfl rfl (by decide +kernel) ⟨Nat.le_of_ble_eq_true rfl, Nat.le_of_ble_eq_true rfl⟩) (hP.sub [] rfl) hK rfl hl.1 rfl (Nat.le_of_ble_eq_true rfl) dX5_figureOf_11 ⟨Nat.le_of_ble_eq_true rfl, Nat.le_of_ble_eq_true rfl⟩ ?_
    by_cases b_5 : 0 ≤ x2 ∧ x2 ≤ 4
    · skip
      exact absurd ⟨by assumption, b_5⟩ hbad
    · skip
      refine kq_top (z := 0) (if_neg b_5) ?_
      exact kq_xcall [0] (vx_runS (As := [.int 0]) (rest := []) ⟨hx, hb, hml, hown, hts⟩ (c_X5_needArgument_x l hls dC dI cI s1 s2 s3 s4 H.size  ) (va_cwS 1 hts gX5_figureOf_X5_needArgument rfl rfl rfl (by decide +kernel) ⟨Nat.le_of_ble_eq_true rfl, Nat.le_of_ble_eq_true rfl⟩) (kq_preX hS hA hK hT) rfl rfl hl.1 rfl (lv_room (Nat.le_of_ble_eq_true rfl)) dX5_figureOf_14 ⟨Nat.le_of_ble_eq_true rfl, Nat.le_of_ble_eq_true rfl⟩) hP hD hS hA rfl rfl hnt hlocks (fun E hE => by subst hE; first | exact ⟨fun _ => rfl, fun q _ => absurd q (by assumption)⟩ | exact ⟨fun q => absurd (by assumption) q, fun _ _ => rfl⟩)
  · skip
    refine kq_top (z := 0) (if_neg b_1) ?_
    exact kq_xcall [0] (vx_runS (As := [.int 0]) (rest := []) ⟨hx, hb, hml, hown, hts⟩ (c_X5_needPlace_x l hls dC dI cI s1 s2 s3 s4 s.heap.size  ) (va_cwS 1 hts gX5_figureOf_X5_needPlace rfl rfl rfl (by decide +kernel) ⟨Nat.le_of_ble_eq_true rfl, Nat.le_of_ble_eq_true rfl⟩) (kq_preX hS hA hK hT) rfl rfl hl.1 rfl (lv_room (Nat.le_of_ble_eq_true rfl)) dX5_figureOf_5 ⟨Nat.le_of_ble_eq_true rfl, Nat.le_of_ble_eq_true rfl⟩) hP hD hS hA rfl rfl hnt hlocks (fun E hE => by subst hE; first | exact ⟨fun _ => rfl, fun q _ => absurd q (by assumption)⟩ | exact ⟨fun q => absurd (by assumption) q, fun _ _ => rfl⟩)
set_option maxHeartbeats 4000000 in
set_option maxRecDepth 100000 in
theorem c_X5_contrast_x (l : Launch) (hls : l.stackTraces = false) (dC : Nat → ClassId) (dI : Nat → Nat → Nat) (cI : ClassId) (s1 s2 s3 s4 sz : Nat) (oX : Nat) (oS : Nat) (oR : Nat) (oN : Nat) (o2 : Nat) (oF : Nat) (oT : Nat) (rv : Nat) (rs : Nat) (kc : Nat) (v : Nat → Int32) (sv : Nat → Int32) (x1 : Int32) (x2 : Int32) (hbad : ¬ ((0 ≤ x1 ∧ x1 < 4) ∧ (0 ≤ x2 ∧ x2 < 1000))) : vx_Met l yX5_contrast wsX5_contrast ({ frames := 7, cells := 1, slots := 6, locals := 102 }) (kq_X dC dI cI s1 s2 s3 s4 [.ref oX, .int x1, .int x2] sz [(oX, .inr (5, [.ref oS, .ref oR, .ref oN, .ref o2, .ref oF, .ref oT]))]) kq_no (kq_XC dC dI (fun E => E = "java/lang/IndexOutOfBoundsException") [(oX, .inr (5, [.ref oS, .ref oR, .ref oN, .ref o2, .ref oF, .ref oT]))] (va_A [(oX, .inr (5, [.ref oS, .ref oR, .ref oN, .ref o2, .ref oF, .ref oT]))] sz)) 1 6 (va_A [(oX, .inr (5, [.ref oS, .ref oR, .ref oN, .ref o2, .ref oF, .ref oT]))] sz) := by
  refine kq_startX (cc := cX5_contrast) (maxL := 3) (ret := (some .int)) (by decide) rfl (Nat.le_of_ble_eq_true rfl) ?_
  intro p e s m below meth c hx hb hr hml hown hlocks hts hsz hA hP hD hS hK hnm hnt hT ls hl
  subst hsz
  generalize hAe : va_A [(oX, .inr (5, [.ref oS, .ref oR, .ref oN, .ref o2, .ref oF, .ref oT]))] s.heap.size = A at hA hD hS hT ⊢
  have hown : s.vm.findClass RX5 = some m.cls := hown
  have hl : lv_has ls 3 [(0, .ref oX), (1, .int x1), (2, .int x2)] := hl
  refine lv_iload_n hx hb dX5_contrast_0 rfl (lv_at hl 1 rfl) ?_
  refine lv_iconst (v := 4) hx hb dX5_contrast_1 (by decide) ?_
  refine kq_cS (As := [.int x1, .int 4]) (rest := []) ⟨hx, hb, hml, hown, hts⟩ (c_X5_isIndex l dC dI cI x1 4 ) (va_cwS 2 hts gX5_contrast_X5_isIndex rfl rfl rfl (by decide +kernel) ⟨Nat.le_of_ble_eq_true rfl, Nat.le_of_ble_eq_true rfl⟩) (hP.sub [] rfl) hK rfl hl.1 rfl (Nat.le_of_ble_eq_true rfl) dX5_contrast_2 ⟨Nat.le_of_ble_eq_true rfl, Nat.le_of_ble_eq_true rfl⟩ ?_
  refine lv_if_eq (tgt := 22) hx hb dX5_contrast_5 (by decide) (fun c_1 => ?_) (fun c_1 => ?_)
  · skip
    have c_1 := kq_bf c_1
    refine lv_iconst (v := 0) hx hb dX5_contrast_22 (by decide) ?_
    exact kq_xcall [0] (vx_runS (As := [.int 0]) (rest := []) ⟨hx, hb, hml, hown, hts⟩ (c_X5_needPlace_x l hls dC dI cI s1 s2 s3 s4 s.heap.size  ) (va_cwS 1 hts gX5_contrast_X5_needPlace rfl rfl rfl (by decide +kernel) ⟨Nat.le_of_ble_eq_true rfl, Nat.le_of_ble_eq_true rfl⟩) (kq_preX hS hA hK hT) rfl rfl hl.1 rfl (lv_room (Nat.le_of_ble_eq_true rfl)) dX5_contrast_23 ⟨Nat.le_of_ble_eq_true rfl, Nat.le_of_ble_eq_true rfl⟩) hP hD hS hA rfl rfl hnt hlocks (fun E hE => by subst hE; rfl)
  · skip
    have c_1 := kq_bt c_1
    refine lv_iload_n hx hb dX5_contrast_8 rfl (lv_at hl 2 rfl) ?_
    refine lv_sipush (v := 1000) hx hb dX5_contrast_9 (by decide) ?_
    refine kq_cS (As := [.int x2, .int 1000]) (rest := []) ⟨hx, hb, hml, hown, hts⟩ (c_X5_isIndex l dC dI cI x2 1000 ) (va_cwS 2 hts gX5_contrast_X5_isIndex rfl rfl rfl (by decide +kernel) ⟨Nat.le_of_ble_eq_true rfl, Nat.le_of_ble_eq_true rfl⟩) (hP.sub [] rfl) hK rfl hl.1 rfl (Nat.le_of_ble_eq_true rfl) dX5_contrast_12 ⟨Nat.le_of_ble_eq_true rfl, Nat.le_of_ble_eq_true rfl⟩ ?_
    refine lv_if_eq (tgt := 22) hx hb dX5_contrast_15 (by decide) (fun c_2 => ?_) (fun c_2 => ?_)
    · skip
      have c_2 := kq_bf c_2
      refine lv_iconst (v := 0) hx hb dX5_contrast_22 (by decide) ?_
      exact kq_xcall [0] (vx_runS (As := [.int 0]) (rest := []) ⟨hx, hb, hml, hown, hts⟩ (c_X5_needPlace_x l hls dC dI cI s1 s2 s3 s4 s.heap.size  ) (va_cwS 1 hts gX5_contrast_X5_needPlace rfl rfl rfl (by decide +kernel) ⟨Nat.le_of_ble_eq_true rfl, Nat.le_of_ble_eq_true rfl⟩) (kq_preX hS hA hK hT) rfl rfl hl.1 rfl (lv_room (Nat.le_of_ble_eq_true rfl)) dX5_contrast_23 ⟨Nat.le_of_ble_eq_true rfl, Nat.le_of_ble_eq_true rfl⟩) hP hD hS hA rfl rfl hnt hlocks (fun E hE => by subst hE; rfl)
    · skip
      have c_2 := kq_bt c_2
      exact absurd ⟨by assumption, c_2⟩ hbad
set_option maxHeartbeats 4000000 in
set_option maxRecDepth 100000 in
theorem c_X5_count_x (l : Launch) (hls : l.stackTraces = false) (dC : Nat → ClassId) (dI : Nat → Nat → Nat) (cI : ClassId) (s1 s2 s3 s4 sz : Nat) (oX : Nat) (oS : Nat) (oR : Nat) (oN : Nat) (o2 : Nat) (oF : Nat) (oT : Nat) (rv : Nat) (rs : Nat) (kc : Nat) (v : Nat → Int32) (sv : Nat → Int32) (x1 : Int32) (hbad : ¬ ((0 ≤ x1 ∧ x1 ≤ 8))) : vx_Met l yX5_count wsX5_count ({ frames := 7, cells := 1, slots := 6, locals := 121 }) (kq_X dC dI cI s1 s2 s3 s4 [.ref oX, .int x1] sz [(oX, .inr (5, [.ref oS, .ref oR, .ref oN, .ref o2, .ref oF, .ref oT]))]) kq_no (kq_XC dC dI (fun E => E = "java/lang/IllegalArgumentException") [(oX, .inr (5, [.ref oS, .ref oR, .ref oN, .ref o2, .ref oF, .ref oT]))] (va_A [(oX, .inr (5, [.ref oS, .ref oR, .ref oN, .ref o2, .ref oF, .ref oT]))] sz)) 1 6 (va_A [(oX, .inr (5, [.ref oS, .ref oR, .ref oN, .ref o2, .ref oF, .ref oT]))] sz) := by
  refine kq_startX (cc := cX5_count) (maxL := 2) (ret := (some .int)) (by decide) rfl (Nat.le_of_ble_eq_true rfl) ?_
  intro p e s m below meth c hx hb hr hml hown hlocks hts hsz hA hP hD hS hK hnm hnt hT ls hl
  subst hsz
  generalize hAe : va_A [(oX, .inr (5, [.ref oS, .ref oR, .ref oN, .ref o2, .ref oF, .ref oT]))] s.heap.size = A at hA hD hS hT ⊢
  have hown : s.vm.findClass RX5 = some m.cls := hown
  have hl : lv_has ls 2 [(0, .ref oX), (1, .int x1)] := hl
  refine lv_iload_n hx hb dX5_count_0 rfl (lv_at hl 1 rfl) ?_
  refine lv_iconst (v := 0) hx hb dX5_count_1 (by decide) ?_
  refine lv_bipush (v := 8) hx hb dX5_count_2 (by decide) ?_
  refine kq_cS (As := [.int x1, .int 0, .int 8]) (rest := []) ⟨hx, hb, hml, hown, hts⟩ (c_X5_isBetween l dC dI cI x1 0 8 ) (va_cwS 3 hts gX5_count_X5_isBetween rfl rfl rfl (by decide +kernel) ⟨Nat.le_of_ble_eq_true rfl, Nat.le_of_ble_eq_true rfl⟩) (hP.sub [] rfl) hK rfl hl.1 rfl (Nat.le_of_ble_eq_true rfl) dX5_count_4 ⟨Nat.le_of_ble_eq_true rfl, Nat.le_of_ble_eq_true rfl⟩ ?_
  by_cases b_1 : 0 ≤ x1 ∧ x1 ≤ 8
  · skip
    exact absurd b_1 hbad
  · skip
    refine kq_top (z := 0) (if_neg b_1) ?_
    exact kq_xcall [0] (vx_runS (As := [.int 0]) (rest := []) ⟨hx, hb, hml, hown, hts⟩ (c_X5_needArgument_x l hls dC dI cI s1 s2 s3 s4 s.heap.size  ) (va_cwS 1 hts gX5_count_X5_needArgument rfl rfl rfl (by decide +kernel) ⟨Nat.le_of_ble_eq_true rfl, Nat.le_of_ble_eq_true rfl⟩) (kq_preX hS hA hK hT) rfl rfl hl.1 rfl (lv_room (Nat.le_of_ble_eq_true rfl)) dX5_count_7 ⟨Nat.le_of_ble_eq_true rfl, Nat.le_of_ble_eq_true rfl⟩) hP hD hS hA rfl rfl hnt hlocks (fun E hE => by subst hE; rfl)
set_option maxHeartbeats 4000000 in
set_option maxRecDepth 100000 in
theorem c_X5_setting_x (l : Launch) (hls : l.stackTraces = false) (dC : Nat → ClassId) (dI : Nat → Nat → Nat) (cI : ClassId) (s1 s2 s3 s4 sz : Nat) (oX : Nat) (oS : Nat) (oR : Nat) (oN : Nat) (o2 : Nat) (oF : Nat) (oT : Nat) (rv : Nat) (rs : Nat) (kc : Nat) (v : Nat → Int32) (sv : Nat → Int32) (x1 : Int32) (hbad : ¬ ((0 ≤ x1 ∧ x1 < 3))) : vx_Met l yX5_setting wsX5_setting ({ frames := 7, cells := 1, slots := 6, locals := 102 }) (kq_X dC dI cI s1 s2 s3 s4 [.ref oX, .int x1] sz [(oX, .inr (5, [.ref oS, .ref oR, .ref oN, .ref o2, .ref oF, .ref oT]))]) kq_no (kq_XC dC dI (fun E => E = "java/lang/IndexOutOfBoundsException") [(oX, .inr (5, [.ref oS, .ref oR, .ref oN, .ref o2, .ref oF, .ref oT]))] (va_A [(oX, .inr (5, [.ref oS, .ref oR, .ref oN, .ref o2, .ref oF, .ref oT]))] sz)) 1 6 (va_A [(oX, .inr (5, [.ref oS, .ref oR, .ref oN, .ref o2, .ref oF, .ref oT]))] sz) := by
  refine kq_startX (cc := cX5_setting) (maxL := 2) (ret := (some .int)) (by decide) rfl (Nat.le_of_ble_eq_true rfl) ?_
  intro p e s m below meth c hx hb hr hml hown hlocks hts hsz hA hP hD hS hK hnm hnt hT ls hl
  subst hsz
  generalize hAe : va_A [(oX, .inr (5, [.ref oS, .ref oR, .ref oN, .ref o2, .ref oF, .ref oT]))] s.heap.size = A at hA hD hS hT ⊢
  have hown : s.vm.findClass RX5 = some m.cls := hown
  have hl : lv_has ls 2 [(0, .ref oX), (1, .int x1)] := hl
  refine lv_iload_n hx hb dX5_setting_0 rfl (lv_at hl 1 rfl) ?_
  refine lv_iconst (v := 3) hx hb dX5_setting_1 (by decide) ?_
  refine kq_cS (As := [.int x1, .int 3]) (rest := []) ⟨hx, hb, hml, hown, hts⟩ (c_X5_isIndex l dC dI cI x1 3 ) (va_cwS 2 hts gX5_setting_X5_isIndex rfl rfl rfl (by decide +kernel) ⟨Nat.le_of_ble_eq_true rfl, Nat.le_of_ble_eq_true rfl⟩) (hP.sub [] rfl) hK rfl hl.1 rfl (Nat.le_of_ble_eq_true rfl) dX5_setting_2 ⟨Nat.le_of_ble_eq_true rfl, Nat.le_of_ble_eq_true rfl⟩ ?_
  by_cases b_1 : 0 ≤ x1 ∧ x1 < 3
  · skip
    exact absurd b_1 hbad
  · skip
    refine kq_top (z := 0) (if_neg b_1) ?_
    exact kq_xcall [0] (vx_runS (As := [.int 0]) (rest := []) ⟨hx, hb, hml, hown, hts⟩ (c_X5_needPlace_x l hls dC dI cI s1 s2 s3 s4 s.heap.size  ) (va_cwS 1 hts gX5_setting_X5_needPlace rfl rfl rfl (by decide +kernel) ⟨Nat.le_of_ble_eq_true rfl, Nat.le_of_ble_eq_true rfl⟩) (kq_preX hS hA hK hT) rfl rfl hl.1 rfl (lv_room (Nat.le_of_ble_eq_true rfl)) dX5_setting_5 ⟨Nat.le_of_ble_eq_true rfl, Nat.le_of_ble_eq_true rfl⟩) hP hD hS hA rfl rfl hnt hlocks (fun E hE => by subst hE; rfl)
set_option maxHeartbeats 4000000 in
set_option maxRecDepth 100000 in
theorem c_X5_bestPhase_x (l : Launch) (hls : l.stackTraces = false) (dC : Nat → ClassId) (dI : Nat → Nat → Nat) (cI : ClassId) (s1 s2 s3 s4 sz : Nat) (oX : Nat) (oS : Nat) (oR : Nat) (oN : Nat) (o2 : Nat) (oF : Nat) (oT : Nat) (rv : Nat) (rs : Nat) (kc : Nat) (v : Nat → Int32) (sv : Nat → Int32) (x1 : Int32) (x2 : Int32) (hbad : ¬ ((0 ≤ x1 ∧ x1 < 3) ∧ (0 ≤ x2 ∧ x2 < 4))) : vx_Met l yX5_bestPhase wsX5_bestPhase ({ frames := 7, cells := 1, slots := 6, locals := 102 }) (kq_X dC dI cI s1 s2 s3 s4 [.ref oX, .int x1, .int x2] sz [(oX, .inr (5, [.ref oS, .ref oR, .ref oN, .ref o2, .ref oF, .ref oT]))]) kq_no (kq_XC dC dI (fun E => E = "java/lang/IndexOutOfBoundsException") [(oX, .inr (5, [.ref oS, .ref oR, .ref oN, .ref o2, .ref oF, .ref oT]))] (va_A [(oX, .inr (5, [.ref oS, .ref oR, .ref oN, .ref o2, .ref oF, .ref oT]))] sz)) 1 6 (va_A [(oX, .inr (5, [.ref oS, .ref oR, .ref oN, .ref o2, .ref oF, .ref oT]))] sz) := by
  refine kq_startX (cc := cX5_bestPhase) (maxL := 10) (ret := (some .int)) (by decide) rfl (Nat.le_of_ble_eq_true rfl) ?_
  intro p e s m below meth c hx hb hr hml hown hlocks hts hsz hA hP hD hS hK hnm hnt hT ls hl
  subst hsz
  generalize hAe : va_A [(oX, .inr (5, [.ref oS, .ref oR, .ref oN, .ref o2, .ref oF, .ref oT]))] s.heap.size = A at hA hD hS hT ⊢
  have hown : s.vm.findClass RX5 = some m.cls := hown
  have hl : lv_has ls 10 [(0, .ref oX), (1, .int x1), (2, .int x2)] := hl
  refine lv_iload_n hx hb dX5_bestPhase_0 rfl (lv_at hl 1 rfl) ?_
  refine lv_iconst (v := 3) hx hb dX5_bestPhase_1 (by decide) ?_
  refine kq_cS (As := [.int x1, .int 3]) (rest := []) ⟨hx, hb, hml, hown, hts⟩ (c_X5_isIndex l dC dI cI x1 3 ) (va_cwS 2 hts gX5_bestPhase_X5_isIndex rfl rfl rfl (by decide +kernel) ⟨Nat.le_of_ble_eq_true rfl, Nat.le_of_ble_eq_true rfl⟩) (hP.sub [] rfl) hK rfl hl.1 rfl (Nat.le_of_ble_eq_true rfl) dX5_bestPhase_2 ⟨Nat.le_of_ble_eq_true rfl, Nat.le_of_ble_eq_true rfl⟩ ?_
  refine lv_if_eq (tgt := 20) hx hb dX5_bestPhase_5 (by decide) (fun c_1 => ?_) (fun c_1 => ?_)
  · skip
    have c_1 := kq_bf c_1
    refine lv_iconst (v := 0) hx hb dX5_bestPhase_20 (by decide) ?_
    exact kq_xcall [0] (vx_runS (As := [.int 0]) (rest := []) ⟨hx, hb, hml, hown, hts⟩ (c_X5_needPlace_x l hls dC dI cI s1 s2 s3 s4 s.heap.size  ) (va_cwS 1 hts gX5_bestPhase_X5_needPlace rfl rfl rfl (by decide +kernel) ⟨Nat.le_of_ble_eq_true rfl, Nat.le_of_ble_eq_true rfl⟩) (kq_preX hS hA hK hT) rfl rfl hl.1 rfl (lv_room (Nat.le_of_ble_eq_true rfl)) dX5_bestPhase_21 ⟨Nat.le_of_ble_eq_true rfl, Nat.le_of_ble_eq_true rfl⟩) hP hD hS hA rfl rfl hnt hlocks (fun E hE => by subst hE; rfl)
  · skip
    have c_1 := kq_bt c_1
    refine lv_iload_n hx hb dX5_bestPhase_8 rfl (lv_at hl 2 rfl) ?_
    refine lv_iconst (v := 4) hx hb dX5_bestPhase_9 (by decide) ?_
    refine kq_cS (As := [.int x2, .int 4]) (rest := []) ⟨hx, hb, hml, hown, hts⟩ (c_X5_isIndex l dC dI cI x2 4 ) (va_cwS 2 hts gX5_bestPhase_X5_isIndex rfl rfl rfl (by decide +kernel) ⟨Nat.le_of_ble_eq_true rfl, Nat.le_of_ble_eq_true rfl⟩) (hP.sub [] rfl) hK rfl hl.1 rfl (Nat.le_of_ble_eq_true rfl) dX5_bestPhase_10 ⟨Nat.le_of_ble_eq_true rfl, Nat.le_of_ble_eq_true rfl⟩ ?_
    refine lv_if_eq (tgt := 20) hx hb dX5_bestPhase_13 (by decide) (fun c_2 => ?_) (fun c_2 => ?_)
    · skip
      have c_2 := kq_bf c_2
      refine lv_iconst (v := 0) hx hb dX5_bestPhase_20 (by decide) ?_
      exact kq_xcall [0] (vx_runS (As := [.int 0]) (rest := []) ⟨hx, hb, hml, hown, hts⟩ (c_X5_needPlace_x l hls dC dI cI s1 s2 s3 s4 s.heap.size  ) (va_cwS 1 hts gX5_bestPhase_X5_needPlace rfl rfl rfl (by decide +kernel) ⟨Nat.le_of_ble_eq_true rfl, Nat.le_of_ble_eq_true rfl⟩) (kq_preX hS hA hK hT) rfl rfl hl.1 rfl (lv_room (Nat.le_of_ble_eq_true rfl)) dX5_bestPhase_21 ⟨Nat.le_of_ble_eq_true rfl, Nat.le_of_ble_eq_true rfl⟩) hP hD hS hA rfl rfl hnt hlocks (fun E hE => by subst hE; rfl)
    · skip
      have c_2 := kq_bt c_2
      exact absurd ⟨by assumption, c_2⟩ hbad
set_option maxHeartbeats 4000000 in
set_option maxRecDepth 100000 in
theorem c_X5_standsOut_x (l : Launch) (hls : l.stackTraces = false) (dC : Nat → ClassId) (dI : Nat → Nat → Nat) (cI : ClassId) (s1 s2 s3 s4 sz : Nat) (oX : Nat) (oS : Nat) (oR : Nat) (oN : Nat) (o2 : Nat) (oF : Nat) (oT : Nat) (rv : Nat) (rs : Nat) (kc : Nat) (v : Nat → Int32) (sv : Nat → Int32) (x1 : Int32) (x2 : Int32) (x3 : Int32) (hbad : ¬ ((1 ≤ x1 ∧ x1 ≤ 6) ∧ (1 ≤ x2 ∧ x2 ≤ 12) ∧ (0 ≤ x3 ∧ x3 ≤ 2))) : vx_Met l yX5_standsOut wsX5_standsOut ({ frames := 7, cells := 1, slots := 6, locals := 102 }) (kq_X dC dI cI s1 s2 s3 s4 [.ref oX, .int x1, .int x2, .int x3] sz [(oX, .inr (5, [.ref oS, .ref oR, .ref oN, .ref o2, .ref oF, .ref oT]))]) kq_no (kq_XC dC dI (fun E => E = "java/lang/IllegalArgumentException") [(oX, .inr (5, [.ref oS, .ref oR, .ref oN, .ref o2, .ref oF, .ref oT]))] (va_A [(oX, .inr (5, [.ref oS, .ref oR, .ref oN, .ref o2, .ref oF, .ref oT]))] sz)) 1 6 (va_A [(oX, .inr (5, [.ref oS, .ref oR, .ref oN, .ref o2, .ref oF, .ref oT]))] sz) := by
  refine kq_startX (cc := cX5_standsOut) (maxL := 10) (ret := (some .int)) (by decide) rfl (Nat.le_of_ble_eq_true rfl) ?_
  intro p e s m below meth c hx hb hr hml hown hlocks hts hsz hA hP hD hS hK hnm hnt hT ls hl
  subst hsz
  generalize hAe : va_A [(oX, .inr (5, [.ref oS, .ref oR, .ref oN, .ref o2, .ref oF, .ref oT]))] s.heap.size = A at hA hD hS hT ⊢
  have hown : s.vm.findClass RX5 = some m.cls := hown
  have hl : lv_has ls 10 [(0, .ref oX), (1, .int x1), (2, .int x2), (3, .int x3)] := hl
  refine lv_iload_n hx hb dX5_standsOut_0 rfl (lv_at hl 1 rfl) ?_
  refine lv_iconst (v := 1) hx hb dX5_standsOut_1 (by decide) ?_
  refine lv_bipush (v := 6) hx hb dX5_standsOut_2 (by decide) ?_
  refine kq_cS (As := [.int x1, .int 1, .int 6]) (rest := []) ⟨hx, hb, hml, hown, hts⟩ (c_X5_isBetween l dC dI cI x1 1 6 ) (va_cwS 3 hts gX5_standsOut_X5_isBetween rfl rfl rfl (by decide +kernel) ⟨Nat.le_of_ble_eq_true rfl, Nat.le_of_ble_eq_true rfl⟩) (hP.sub [] rfl) hK rfl hl.1 rfl (Nat.le_of_ble_eq_true rfl) dX5_standsOut_4 ⟨Nat.le_of_ble_eq_true rfl, Nat.le_of_ble_eq_true rfl⟩ ?_
  refine lv_if_eq (tgt := 33) hx hb dX5_standsOut_7 (by decide) (fun c_1 => ?_) (fun c_1 => ?_)
  · skip
    have c_1 := kq_bf c_1
    refine lv_iconst (v := 0) hx hb dX5_standsOut_33 (by decide) ?_
    exact kq_xcall [0] (vx_runS (As := [.int 0]) (rest := []) ⟨hx, hb, hml, hown, hts⟩ (c_X5_needArgument_x l hls dC dI cI s1 s2 s3 s4 s.heap.size  ) (va_cwS 1 hts gX5_standsOut_X5_needArgument rfl rfl rfl (by decide +kernel) ⟨Nat.le_of_ble_eq_true rfl, Nat.le_of_ble_eq_true rfl⟩) (kq_preX hS hA hK hT) rfl rfl hl.1 rfl (lv_room (Nat.le_of_ble_eq_true rfl)) dX5_standsOut_34 ⟨Nat.le_of_ble_eq_true rfl, Nat.le_of_ble_eq_true rfl⟩) hP hD hS hA rfl rfl hnt hlocks (fun E hE => by subst hE; rfl)
  · skip
    have c_1 := kq_bt c_1
    refine lv_iload_n hx hb dX5_standsOut_10 rfl (lv_at hl 2 rfl) ?_
    refine lv_iconst (v := 1) hx hb dX5_standsOut_11 (by decide) ?_
    refine lv_bipush (v := 12) hx hb dX5_standsOut_12 (by decide) ?_
    refine kq_cS (As := [.int x2, .int 1, .int 12]) (rest := []) ⟨hx, hb, hml, hown, hts⟩ (c_X5_isBetween l dC dI cI x2 1 12 ) (va_cwS 3 hts gX5_standsOut_X5_isBetween rfl rfl rfl (by decide +kernel) ⟨Nat.le_of_ble_eq_true rfl, Nat.le_of_ble_eq_true rfl⟩) (hP.sub [] rfl) hK rfl hl.1 rfl (Nat.le_of_ble_eq_true rfl) dX5_standsOut_14 ⟨Nat.le_of_ble_eq_true rfl, Nat.le_of_ble_eq_true rfl⟩ ?_
    refine lv_if_eq (tgt := 33) hx hb dX5_standsOut_17 (by decide) (fun c_2 => ?_) (fun c_2 => ?_)
    · skip
      have c_2 := kq_bf c_2
      refine lv_iconst (v := 0) hx hb dX5_standsOut_33 (by decide) ?_
      exact kq_xcall [0] (vx_runS (As := [.int 0]) (rest := []) ⟨hx, hb, hml, hown, hts⟩ (c_X5_needArgument_x l hls dC dI cI s1 s2 s3 s4 s.heap.size  ) (va_cwS 1 hts gX5_standsOut_X5_needArgument rfl rfl rfl (by decide +kernel) ⟨Nat.le_of_ble_eq_true rfl, Nat.le_of_ble_eq_true rfl⟩) (kq_preX hS hA hK hT) rfl rfl hl.1 rfl (lv_room (Nat.le_of_ble_eq_true rfl)) dX5_standsOut_34 ⟨Nat.le_of_ble_eq_true rfl, Nat.le_of_ble_eq_true rfl⟩) hP hD hS hA rfl rfl hnt hlocks (fun E hE => by subst hE; rfl)
    · skip
      have c_2 := kq_bt c_2
      refine lv_iload_n hx hb dX5_standsOut_20 rfl (lv_at hl 3 rfl) ?_
      refine lv_iconst (v := 0) hx hb dX5_standsOut_21 (by decide) ?_
      refine lv_iconst (v := 2) hx hb dX5_standsOut_22 (by decide) ?_
      refine kq_cS (As := [.int x3, .int 0, .int 2]) (rest := []) ⟨hx, hb, hml, hown, hts⟩ (c_X5_isBetween l dC dI cI x3 0 2 ) (va_cwS 3 hts gX5_standsOut_X5_isBetween rfl rfl rfl (by decide +kernel) ⟨Nat.le_of_ble_eq_true rfl, Nat.le_of_ble_eq_true rfl⟩) (hP.sub [] rfl) hK rfl hl.1 rfl (Nat.le_of_ble_eq_true rfl) dX5_standsOut_23 ⟨Nat.le_of_ble_eq_true rfl, Nat.le_of_ble_eq_true rfl⟩ ?_
      refine lv_if_eq (tgt := 33) hx hb dX5_standsOut_26 (by decide) (fun c_3 => ?_) (fun c_3 => ?_)
      · skip
        have c_3 := kq_bf c_3
        refine lv_iconst (v := 0) hx hb dX5_standsOut_33 (by decide) ?_
        exact kq_xcall [0] (vx_runS (As := [.int 0]) (rest := []) ⟨hx, hb, hml, hown, hts⟩ (c_X5_needArgument_x l hls dC dI cI s1 s2 s3 s4 s.heap.size  ) (va_cwS 1 hts gX5_standsOut_X5_needArgument rfl rfl rfl (by decide +kernel) ⟨Nat.le_of_ble_eq_true rfl, Nat.le_of_ble_eq_true rfl⟩) (kq_preX hS hA hK hT) rfl rfl hl.1 rfl (lv_room (Nat.le_of_ble_eq_true rfl)) dX5_standsOut_34 ⟨Nat.le_of_ble_eq_true rfl, Nat.le_of_ble_eq_true rfl⟩) hP hD hS hA rfl rfl hnt hlocks (fun E hE => by subst hE; rfl)
      · skip
        have c_3 := kq_bt c_3
        exact absurd ⟨by assumption, by assumption, c_3⟩ hbad
