set_option maxHeartbeats 4000000 in
set_option maxRecDepth 100000 in
theorem c_X5_wire_x (l : Launch) (hls : l.stackTraces = false) (dC : Nat → ClassId) (dI : Nat → Nat → Nat) (cI : ClassId) (s1 s2 s3 s4 sz : Nat) (oX : Nat) (oS : Nat) (oR : Nat) (oN : Nat) (o2 : Nat) (oF : Nat) (oT : Nat) (rv : Nat) (rs : Nat) (kc : Nat) (v : Nat → Int32) (sv : Nat → Int32) (x1 : Int32) (x2 : Int32) (x3 : Int32) (x4 : Int32) (hbad : ¬ ((0 ≤ x1 ∧ x1 < 3) ∧ (0 ≤ x2 ∧ x2 < 6) ∧ (0 ≤ x3 ∧ x3 < 16) ∧ (-3 ≤ x4 ∧ x4 ≤ 3))) : vx_Met l yX5_wire wsX5_wire ({ frames := 7, cells := 1, slots := 6, locals := 102 }) (kq_X dC dI cI s1 s2 s3 s4 [.ref oX, .int x1, .int x2, .int x3, .int x4] sz [(oX, .inr (5, [.ref oS, .ref oR, .ref oN, .ref o2, .ref oF, .ref oT])), (oS, .inr (3, [.ref rv, .ref rs, .int (nI kc)])), (rv, .inl (cI, 385, .inl v)), (rs, .inl (cI, 2310, .inl sv))]) kq_no (kq_XC dC dI (fun E => (¬ ((0 ≤ x1 ∧ x1 < 3) ∧ (0 ≤ x2 ∧ x2 < 6) ∧ (0 ≤ x3 ∧ x3 < 16)) → E = "java/lang/IndexOutOfBoundsException") ∧ (((0 ≤ x1 ∧ x1 < 3) ∧ (0 ≤ x2 ∧ x2 < 6) ∧ (0 ≤ x3 ∧ x3 < 16)) → ¬ ((-3 ≤ x4 ∧ x4 ≤ 3)) → E = "java/lang/IllegalArgumentException")) [(oX, .inr (5, [.ref oS, .ref oR, .ref oN, .ref o2, .ref oF, .ref oT])), (oS, .inr (3, [.ref rv, .ref rs, .int (nI kc)])), (rv, .inl (cI, 385, .inl v)), (rs, .inl (cI, 2310, .inl sv))] (va_A [(oX, .inr (5, [.ref oS, .ref oR, .ref oN, .ref o2, .ref oF, .ref oT])), (oS, .inr (3, [.ref rv, .ref rs, .int (nI kc)])), (rv, .inl (cI, 385, .inl v)), (rs, .inl (cI, 2310, .inl sv))] sz)) 1 6 (va_A [(oX, .inr (5, [.ref oS, .ref oR, .ref oN, .ref o2, .ref oF, .ref oT])), (oS, .inr (3, [.ref rv, .ref rs, .int (nI kc)])), (rv, .inl (cI, 385, .inl v)), (rs, .inl (cI, 2310, .inl sv))] sz) := by
  refine kq_startX (cc := cX5_wire) (maxL := 6) (ret := (some .int)) (by decide) rfl (Nat.le_of_ble_eq_true rfl) ?_
  intro p e s m below meth c hx hb hr hml hown hlocks hts hsz hA hP hD hS hK hnm hnt hT ls hl
  subst hsz
  generalize hAe : va_A [(oX, .inr (5, [.ref oS, .ref oR, .ref oN, .ref o2, .ref oF, .ref oT])), (oS, .inr (3, [.ref rv, .ref rs, .int (nI kc)])), (rv, .inl (cI, 385, .inl v)), (rs, .inl (cI, 2310, .inl sv))] s.heap.size = A at hA hD hS hT ⊢
  have hown : s.vm.findClass RX5 = some m.cls := hown
  have hl : lv_has ls 6 [(0, .ref oX), (1, .int x1), (2, .int x2), (3, .int x3), (4, .int x4)] := hl
  refine lv_iload_n hx hb dX5_wire_0 rfl (lv_at hl 1 rfl) ?_
  refine lv_iconst (v := 3) hx hb dX5_wire_1 (by decide) ?_
  refine kq_cS (As := [.int x1, .int 3]) (rest := []) ⟨hx, hb, hml, hown, hts⟩ (c_X5_isIndex l dC dI cI x1 3 ) (va_cwS 2 hts gX5_wire_X5_isIndex rfl rfl rfl (by decide +kernel) ⟨Nat.le_of_ble_eq_true rfl, Nat.le_of_ble_eq_true rfl⟩) (hP.sub [] rfl) hK rfl hl.1 rfl (Nat.le_of_ble_eq_true rfl) dX5_wire_2 ⟨Nat.le_of_ble_eq_true rfl, Nat.le_of_ble_eq_true rfl⟩ ?_
  refine lv_if_eq (tgt := 30) hx hb dX5_wire_5 (by decide) (fun c_1 => ?_) (fun c_1 => ?_)
  · skip
    have c_1 := kq_bf c_1
    refine lv_iconst (v := 0) hx hb dX5_wire_30 (by decide) ?_
    exact kq_xcall [0, 1, 2, 3] (vx_runS (As := [.int 0]) (rest := []) ⟨hx, hb, hml, hown, hts⟩ (c_X5_needPlace_x l hls dC dI cI s1 s2 s3 s4 s.heap.size  ) (va_cwS 1 hts gX5_wire_X5_needPlace rfl rfl rfl (by decide +kernel) ⟨Nat.le_of_ble_eq_true rfl, Nat.le_of_ble_eq_true rfl⟩) (kq_preX hS hA hK hT) rfl rfl hl.1 rfl (lv_room (Nat.le_of_ble_eq_true rfl)) dX5_wire_31 ⟨Nat.le_of_ble_eq_true rfl, Nat.le_of_ble_eq_true rfl⟩) hP hD hS hA rfl rfl hnt hlocks (fun E hE => by subst hE; first | exact ⟨fun _ => rfl, fun q _ => absurd q.1 (by assumption)⟩ | exact ⟨fun _ => rfl, fun q _ => absurd q.2.1 (by assumption)⟩ | exact ⟨fun _ => rfl, fun q _ => absurd q.2.2 (by assumption)⟩ | exact ⟨fun q => absurd ⟨by assumption, by assumption, by assumption⟩ q, fun _ _ => rfl⟩)
  · skip
    have c_1 := kq_bt c_1
    refine lv_iload_n hx hb dX5_wire_8 rfl (lv_at hl 2 rfl) ?_
    refine lv_bipush (v := 6) hx hb dX5_wire_9 (by decide) ?_
    refine kq_cS (As := [.int x2, .int 6]) (rest := []) ⟨hx, hb, hml, hown, hts⟩ (c_X5_isIndex l dC dI cI x2 6 ) (va_cwS 2 hts gX5_wire_X5_isIndex rfl rfl rfl (by decide +kernel) ⟨Nat.le_of_ble_eq_true rfl, Nat.le_of_ble_eq_true rfl⟩) (hP.sub [] rfl) hK rfl hl.1 rfl (Nat.le_of_ble_eq_true rfl) dX5_wire_11 ⟨Nat.le_of_ble_eq_true rfl, Nat.le_of_ble_eq_true rfl⟩ ?_
    refine lv_if_eq (tgt := 30) hx hb dX5_wire_14 (by decide) (fun c_2 => ?_) (fun c_2 => ?_)
    · skip
      have c_2 := kq_bf c_2
      refine lv_iconst (v := 0) hx hb dX5_wire_30 (by decide) ?_
      exact kq_xcall [0, 1, 2, 3] (vx_runS (As := [.int 0]) (rest := []) ⟨hx, hb, hml, hown, hts⟩ (c_X5_needPlace_x l hls dC dI cI s1 s2 s3 s4 s.heap.size  ) (va_cwS 1 hts gX5_wire_X5_needPlace rfl rfl rfl (by decide +kernel) ⟨Nat.le_of_ble_eq_true rfl, Nat.le_of_ble_eq_true rfl⟩) (kq_preX hS hA hK hT) rfl rfl hl.1 rfl (lv_room (Nat.le_of_ble_eq_true rfl)) dX5_wire_31 ⟨Nat.le_of_ble_eq_true rfl, Nat.le_of_ble_eq_true rfl⟩) hP hD hS hA rfl rfl hnt hlocks (fun E hE => by subst hE; first | exact ⟨fun _ => rfl, fun q _ => absurd q.1 (by assumption)⟩ | exact ⟨fun _ => rfl, fun q _ => absurd q.2.1 (by assumption)⟩ | exact ⟨fun _ => rfl, fun q _ => absurd q.2.2 (by assumption)⟩ | exact ⟨fun q => absurd ⟨by assumption, by assumption, by assumption⟩ q, fun _ _ => rfl⟩)
    · skip
      have c_2 := kq_bt c_2
      refine lv_iload_n hx hb dX5_wire_17 rfl (lv_at hl 3 rfl) ?_
      refine lv_bipush (v := 16) hx hb dX5_wire_18 (by decide) ?_
      refine kq_cS (As := [.int x3, .int 16]) (rest := []) ⟨hx, hb, hml, hown, hts⟩ (c_X5_isIndex l dC dI cI x3 16 ) (va_cwS 2 hts gX5_wire_X5_isIndex rfl rfl rfl (by decide +kernel) ⟨Nat.le_of_ble_eq_true rfl, Nat.le_of_ble_eq_true rfl⟩) (hP.sub [] rfl) hK rfl hl.1 rfl (Nat.le_of_ble_eq_true rfl) dX5_wire_20 ⟨Nat.le_of_ble_eq_true rfl, Nat.le_of_ble_eq_true rfl⟩ ?_
      refine lv_if_eq (tgt := 30) hx hb dX5_wire_23 (by decide) (fun c_3 => ?_) (fun c_3 => ?_)
      · skip
        have c_3 := kq_bf c_3
        refine lv_iconst (v := 0) hx hb dX5_wire_30 (by decide) ?_
        exact kq_xcall [0, 1, 2, 3] (vx_runS (As := [.int 0]) (rest := []) ⟨hx, hb, hml, hown, hts⟩ (c_X5_needPlace_x l hls dC dI cI s1 s2 s3 s4 s.heap.size  ) (va_cwS 1 hts gX5_wire_X5_needPlace rfl rfl rfl (by decide +kernel) ⟨Nat.le_of_ble_eq_true rfl, Nat.le_of_ble_eq_true rfl⟩) (kq_preX hS hA hK hT) rfl rfl hl.1 rfl (lv_room (Nat.le_of_ble_eq_true rfl)) dX5_wire_31 ⟨Nat.le_of_ble_eq_true rfl, Nat.le_of_ble_eq_true rfl⟩) hP hD hS hA rfl rfl hnt hlocks (fun E hE => by subst hE; first | exact ⟨fun _ => rfl, fun q _ => absurd q.1 (by assumption)⟩ | exact ⟨fun _ => rfl, fun q _ => absurd q.2.1 (by assumption)⟩ | exact ⟨fun _ => rfl, fun q _ => absurd q.2.2 (by assumption)⟩ | exact ⟨fun q => absurd ⟨by assumption, by assumption, by assumption⟩ q, fun _ _ => rfl⟩)
      · skip
        have c_3 := kq_bt c_3
        refine lv_iconst (v := 1) hx hb dX5_wire_26 (by decide) ?_
        refine lv_goto (tgt := 31) hx hb dX5_wire_27 (by decide) ?_
        refine kq_callMv (wr := [(oX, .inr (5, [.ref oS, .ref oR, .ref oN, .ref o2, .ref oF, .ref oT])), (oS, .inr (3, [.ref rv, .ref rs, .int (nI kc)])), (rv, .inl (cI, 385, .inl v)), (rs, .inl (cI, 2310, .inl sv))]) (va_runS (As := [.int 1]) (rest := []) ⟨hx, hb, hml, hown, hts⟩ (c_X5_needPlace l dC dI cI s.heap.size  ) (va_cwS 1 hts gX5_wire_X5_needPlace rfl rfl rfl (by decide +kernel) ⟨Nat.le_of_ble_eq_true rfl, Nat.le_of_ble_eq_true rfl⟩) (kq_preS (hP.sub [] rfl) (hD.sub [] (by decide) rfl) hK) rfl rfl hl.1 rfl (lv_room (Nat.le_of_ble_eq_true rfl)) dX5_wire_31 ⟨Nat.le_of_ble_eq_true rfl, Nat.le_of_ble_eq_true rfl⟩) hP hD hS hA [] [0, 1, 2, 3] rfl rfl (by decide) (by decide) (fun u_5 H locs hw_6 hP hD hS => ?_)
        have hP : va_P (dC, dI) vwCl [(oX, .inr (5, [.ref oS, .ref oR, .ref oN, .ref o2, .ref oF, .ref oT])), (oS, .inr (3, [.ref rv, .ref rs, .int (nI kc)])), (rv, .inl (cI, 385, .inl v)), (rs, .inl (cI, 2310, .inl sv))] H := hP
        have hD : va_D A [(oX, .inr (5, [.ref oS, .ref oR, .ref oN, .ref o2, .ref oF, .ref oT])), (oS, .inr (3, [.ref rv, .ref rs, .int (nI kc)])), (rv, .inl (cI, 385, .inl v)), (rs, .inl (cI, 2310, .inl sv))] := hD
        refine lv_iload hx hb dX5_wire_34 (lv_at hl 4 rfl) ?_
        refine lv_bipush (v := (-3)) hx hb dX5_wire_36 (by decide) ?_
        refine lv_iconst (v := 3) hx hb dX5_wire_38 (by decide) ?_
        refine kq_cS (As := [.int x4, .int (-3), .int 3]) (rest := []) ⟨hx, hb, hml, hown, hts⟩ (c_X5_isBetween l dC dI cI x4 (-3) 3 ) (va_cwS 3 hts gX5_wire_X5_isBetween rfl rfl rfl (by decide +kernel) ⟨Nat.le_of_ble_eq_true rfl, Nat.le_of_ble_eq_true rfl⟩) (hP.sub [] rfl) hK rfl hl.1 rfl (Nat.le_of_ble_eq_true rfl) dX5_wire_39 ⟨Nat.le_of_ble_eq_true rfl, Nat.le_of_ble_eq_true rfl⟩ ?_
        by_cases b_7 : (-3) ≤ x4 ∧ x4 ≤ 3
        · skip
          exact absurd ⟨by assumption, by assumption, by assumption, b_7⟩ hbad
        · skip
          refine kq_top (z := 0) (if_neg b_7) ?_
          exact kq_xcall [0, 1, 2, 3] (vx_runS (As := [.int 0]) (rest := []) ⟨hx, hb, hml, hown, hts⟩ (c_X5_needArgument_x l hls dC dI cI s1 s2 s3 s4 H.size  ) (va_cwS 1 hts gX5_wire_X5_needArgument rfl rfl rfl (by decide +kernel) ⟨Nat.le_of_ble_eq_true rfl, Nat.le_of_ble_eq_true rfl⟩) (kq_preX hS hA hK hT) rfl rfl hl.1 rfl (lv_room (Nat.le_of_ble_eq_true rfl)) dX5_wire_42 ⟨Nat.le_of_ble_eq_true rfl, Nat.le_of_ble_eq_true rfl⟩) hP hD hS hA rfl rfl hnt hlocks (fun E hE => by subst hE; first | exact ⟨fun _ => rfl, fun q _ => absurd q.1 (by assumption)⟩ | exact ⟨fun _ => rfl, fun q _ => absurd q.2.1 (by assumption)⟩ | exact ⟨fun _ => rfl, fun q _ => absurd q.2.2 (by assumption)⟩ | exact ⟨fun q => absurd ⟨by assumption, by assumption, by assumption⟩ q, fun _ _ => rfl⟩)
set_option maxHeartbeats 4000000 in
set_option maxRecDepth 100000 in
theorem c_X5_size_x (l : Launch) (hls : l.stackTraces = false) (dC : Nat → ClassId) (dI : Nat → Nat → Nat) (cI : ClassId) (s1 s2 s3 s4 sz : Nat) (oX : Nat) (oS : Nat) (oR : Nat) (oN : Nat) (o2 : Nat) (oF : Nat) (oT : Nat) (rv : Nat) (rs : Nat) (kc : Nat) (v : Nat → Int32) (sv : Nat → Int32) (x1 : Int32) (x2 : Int32) (hbad : ¬ ((0 ≤ x1 ∧ x1 < 3) ∧ (4 ≤ x2 ∧ x2 ≤ 16))) : vx_Met l yX5_size wsX5_size ({ frames := 7, cells := 1, slots := 6, locals := 102 }) (kq_X dC dI cI s1 s2 s3 s4 [.ref oX, .int x1, .int x2] sz [(oX, .inr (5, [.ref oS, .ref oR, .ref oN, .ref o2, .ref oF, .ref oT])), (oS, .inr (3, [.ref rv, .ref rs, .int (nI kc)])), (rv, .inl (cI, 385, .inl v)), (rs, .inl (cI, 2310, .inl sv))]) kq_no (kq_XC dC dI (fun E => (¬ ((0 ≤ x1 ∧ x1 < 3)) → E = "java/lang/IndexOutOfBoundsException") ∧ (((0 ≤ x1 ∧ x1 < 3)) → ¬ ((4 ≤ x2 ∧ x2 ≤ 16)) → E = "java/lang/IllegalArgumentException")) [(oX, .inr (5, [.ref oS, .ref oR, .ref oN, .ref o2, .ref oF, .ref oT])), (oS, .inr (3, [.ref rv, .ref rs, .int (nI kc)])), (rv, .inl (cI, 385, .inl v)), (rs, .inl (cI, 2310, .inl sv))] (va_A [(oX, .inr (5, [.ref oS, .ref oR, .ref oN, .ref o2, .ref oF, .ref oT])), (oS, .inr (3, [.ref rv, .ref rs, .int (nI kc)])), (rv, .inl (cI, 385, .inl v)), (rs, .inl (cI, 2310, .inl sv))] sz)) 1 6 (va_A [(oX, .inr (5, [.ref oS, .ref oR, .ref oN, .ref o2, .ref oF, .ref oT])), (oS, .inr (3, [.ref rv, .ref rs, .int (nI kc)])), (rv, .inl (cI, 385, .inl v)), (rs, .inl (cI, 2310, .inl sv))] sz) := by
  refine kq_startX (cc := cX5_size) (maxL := 4) (ret := (some .int)) (by decide) rfl (Nat.le_of_ble_eq_true rfl) ?_
  intro p e s m below meth c hx hb hr hml hown hlocks hts hsz hA hP hD hS hK hnm hnt hT ls hl
  subst hsz
  generalize hAe : va_A [(oX, .inr (5, [.ref oS, .ref oR, .ref oN, .ref o2, .ref oF, .ref oT])), (oS, .inr (3, [.ref rv, .ref rs, .int (nI kc)])), (rv, .inl (cI, 385, .inl v)), (rs, .inl (cI, 2310, .inl sv))] s.heap.size = A at hA hD hS hT ⊢
  have hown : s.vm.findClass RX5 = some m.cls := hown
  have hl : lv_has ls 4 [(0, .ref oX), (1, .int x1), (2, .int x2)] := hl
  refine lv_iload_n hx hb dX5_size_0 rfl (lv_at hl 1 rfl) ?_
  refine lv_iconst (v := 3) hx hb dX5_size_1 (by decide) ?_
  refine kq_cS (As := [.int x1, .int 3]) (rest := []) ⟨hx, hb, hml, hown, hts⟩ (c_X5_isIndex l dC dI cI x1 3 ) (va_cwS 2 hts gX5_size_X5_isIndex rfl rfl rfl (by decide +kernel) ⟨Nat.le_of_ble_eq_true rfl, Nat.le_of_ble_eq_true rfl⟩) (hP.sub [] rfl) hK rfl hl.1 rfl (Nat.le_of_ble_eq_true rfl) dX5_size_2 ⟨Nat.le_of_ble_eq_true rfl, Nat.le_of_ble_eq_true rfl⟩ ?_
  by_cases b_1 : 0 ≤ x1 ∧ x1 < 3
  · skip
    refine kq_top (z := 1) (if_pos b_1) ?_
    refine kq_callMv (wr := [(oX, .inr (5, [.ref oS, .ref oR, .ref oN, .ref o2, .ref oF, .ref oT])), (oS, .inr (3, [.ref rv, .ref rs, .int (nI kc)])), (rv, .inl (cI, 385, .inl v)), (rs, .inl (cI, 2310, .inl sv))]) (va_runS (As := [.int 1]) (rest := []) ⟨hx, hb, hml, hown, hts⟩ (c_X5_needPlace l dC dI cI s.heap.size  ) (va_cwS 1 hts gX5_size_X5_needPlace rfl rfl rfl (by decide +kernel) ⟨Nat.le_of_ble_eq_true rfl, Nat.le_of_ble_eq_true rfl⟩) (kq_preS (hP.sub [] rfl) (hD.sub [] (by decide) rfl) hK) rfl rfl hl.1 rfl (lv_room (Nat.le_of_ble_eq_true rfl)) dX5_size_5 ⟨Nat.le_of_ble_eq_true rfl, Nat.le_of_ble_eq_true rfl⟩) hP hD hS hA [] [0, 1, 2, 3] rfl rfl (by decide) (by decide) (fun u_3 H locs hw_4 hP hD hS => ?_)
    have hP : va_P (dC, dI) vwCl [(oX, .inr (5, [.ref oS, .ref oR, .ref oN, .ref o2, .ref oF, .ref oT])), (oS, .inr (3, [.ref rv, .ref rs, .int (nI kc)])), (rv, .inl (cI, 385, .inl v)), (rs, .inl (cI, 2310, .inl sv))] H := hP
    have hD : va_D A [(oX, .inr (5, [.ref oS, .ref oR, .ref oN, .ref o2, .ref oF, .ref oT])), (oS, .inr (3, [.ref rv, .ref rs, .int (nI kc)])), (rv, .inl (cI, 385, .inl v)), (rs, .inl (cI, 2310, .inl sv))] := hD
    refine lv_iload_n hx hb dX5_size_8 rfl (lv_at hl 2 rfl) ?_
    refine lv_iconst (v := 4) hx hb dX5_size_9 (by decide) ?_
    refine lv_bipush (v := 16) hx hb dX5_size_10 (by decide) ?_
    refine kq_cS (As := [.int x2, .int 4, .int 16]) (rest := []) ⟨hx, hb, hml, hown, hts⟩ (c_X5_isBetween l dC dI cI x2 4 16 ) (va_cwS 3 hts gX5_size_X5_isBetween rfl rfl rfl (by decide +kernel) ⟨Nat.le_of_ble_eq_true rfl, Nat.le_of_ble_eq_true rfl⟩) (hP.sub [] rfl) hK rfl hl.1 rfl (Nat.le_of_ble_eq_true rfl) dX5_size_12 ⟨Nat.le_of_ble_eq_true rfl, Nat.le_of_ble_eq_true rfl⟩ ?_
    by_cases b_5 : 4 ≤ x2 ∧ x2 ≤ 16
    · skip
      exact absurd ⟨by assumption, b_5⟩ hbad
    · skip
      refine kq_top (z := 0) (if_neg b_5) ?_
      exact kq_xcall [0, 1, 2, 3] (vx_runS (As := [.int 0]) (rest := []) ⟨hx, hb, hml, hown, hts⟩ (c_X5_needArgument_x l hls dC dI cI s1 s2 s3 s4 H.size  ) (va_cwS 1 hts gX5_size_X5_needArgument rfl rfl rfl (by decide +kernel) ⟨Nat.le_of_ble_eq_true rfl, Nat.le_of_ble_eq_true rfl⟩) (kq_preX hS hA hK hT) rfl rfl hl.1 rfl (lv_room (Nat.le_of_ble_eq_true rfl)) dX5_size_15 ⟨Nat.le_of_ble_eq_true rfl, Nat.le_of_ble_eq_true rfl⟩) hP hD hS hA rfl rfl hnt hlocks (fun E hE => by subst hE; first | exact ⟨fun _ => rfl, fun q _ => absurd q (by assumption)⟩ | exact ⟨fun q => absurd (by assumption) q, fun _ _ => rfl⟩)
  · skip
    refine kq_top (z := 0) (if_neg b_1) ?_
    exact kq_xcall [0, 1, 2, 3] (vx_runS (As := [.int 0]) (rest := []) ⟨hx, hb, hml, hown, hts⟩ (c_X5_needPlace_x l hls dC dI cI s1 s2 s3 s4 s.heap.size  ) (va_cwS 1 hts gX5_size_X5_needPlace rfl rfl rfl (by decide +kernel) ⟨Nat.le_of_ble_eq_true rfl, Nat.le_of_ble_eq_true rfl⟩) (kq_preX hS hA hK hT) rfl rfl hl.1 rfl (lv_room (Nat.le_of_ble_eq_true rfl)) dX5_size_5 ⟨Nat.le_of_ble_eq_true rfl, Nat.le_of_ble_eq_true rfl⟩) hP hD hS hA rfl rfl hnt hlocks (fun E hE => by subst hE; first | exact ⟨fun _ => rfl, fun q _ => absurd q (by assumption)⟩ | exact ⟨fun q => absurd (by assumption) q, fun _ _ => rfl⟩)
set_option maxHeartbeats 4000000 in
set_option maxRecDepth 100000 in
theorem c_X5_turn_x (l : Launch) (hls : l.stackTraces = false) (dC : Nat → ClassId) (dI : Nat → Nat → Nat) (cI : ClassId) (s1 s2 s3 s4 sz : Nat) (oX : Nat) (oS : Nat) (oR : Nat) (oN : Nat) (o2 : Nat) (oF : Nat) (oT : Nat) (rv : Nat) (rs : Nat) (kc : Nat) (v : Nat → Int32) (sv : Nat → Int32) (x1 : Int32) (x2 : Int32) (hbad : ¬ ((0 ≤ x1 ∧ x1 < 3) ∧ (-99 ≤ x2 ∧ x2 ≤ 99))) : vx_Met l yX5_turn wsX5_turn ({ frames := 7, cells := 1, slots := 6, locals := 102 }) (kq_X dC dI cI s1 s2 s3 s4 [.ref oX, .int x1, .int x2] sz [(oX, .inr (5, [.ref oS, .ref oR, .ref oN, .ref o2, .ref oF, .ref oT])), (oS, .inr (3, [.ref rv, .ref rs, .int (nI kc)])), (rv, .inl (cI, 385, .inl v)), (rs, .inl (cI, 2310, .inl sv))]) kq_no (kq_XC dC dI (fun E => (¬ ((0 ≤ x1 ∧ x1 < 3)) → E = "java/lang/IndexOutOfBoundsException") ∧ (((0 ≤ x1 ∧ x1 < 3)) → ¬ ((-99 ≤ x2 ∧ x2 ≤ 99)) → E = "java/lang/IllegalArgumentException")) [(oX, .inr (5, [.ref oS, .ref oR, .ref oN, .ref o2, .ref oF, .ref oT])), (oS, .inr (3, [.ref rv, .ref rs, .int (nI kc)])), (rv, .inl (cI, 385, .inl v)), (rs, .inl (cI, 2310, .inl sv))] (va_A [(oX, .inr (5, [.ref oS, .ref oR, .ref oN, .ref o2, .ref oF, .ref oT])), (oS, .inr (3, [.ref rv, .ref rs, .int (nI kc)])), (rv, .inl (cI, 385, .inl v)), (rs, .inl (cI, 2310, .inl sv))] sz)) 1 6 (va_A [(oX, .inr (5, [.ref oS, .ref oR, .ref oN, .ref o2, .ref oF, .ref oT])), (oS, .inr (3, [.ref rv, .ref rs, .int (nI kc)])), (rv, .inl (cI, 385, .inl v)), (rs, .inl (cI, 2310, .inl sv))] sz) := by
  refine kq_startX (cc := cX5_turn) (maxL := 3) (ret := (some .int)) (by decide) rfl (Nat.le_of_ble_eq_true rfl) ?_
  intro p e s m below meth c hx hb hr hml hown hlocks hts hsz hA hP hD hS hK hnm hnt hT ls hl
  subst hsz
  generalize hAe : va_A [(oX, .inr (5, [.ref oS, .ref oR, .ref oN, .ref o2, .ref oF, .ref oT])), (oS, .inr (3, [.ref rv, .ref rs, .int (nI kc)])), (rv, .inl (cI, 385, .inl v)), (rs, .inl (cI, 2310, .inl sv))] s.heap.size = A at hA hD hS hT ⊢
  have hown : s.vm.findClass RX5 = some m.cls := hown
  have hl : lv_has ls 3 [(0, .ref oX), (1, .int x1), (2, .int x2)] := hl
  refine lv_iload_n hx hb dX5_turn_0 rfl (lv_at hl 1 rfl) ?_
  refine lv_iconst (v := 3) hx hb dX5_turn_1 (by decide) ?_
  refine kq_cS (As := [.int x1, .int 3]) (rest := []) ⟨hx, hb, hml, hown, hts⟩ (c_X5_isIndex l dC dI cI x1 3 ) (va_cwS 2 hts gX5_turn_X5_isIndex rfl rfl rfl (by decide +kernel) ⟨Nat.le_of_ble_eq_true rfl, Nat.le_of_ble_eq_true rfl⟩) (hP.sub [] rfl) hK rfl hl.1 rfl (Nat.le_of_ble_eq_true rfl) dX5_turn_2 ⟨Nat.le_of_ble_eq_true rfl, Nat.le_of_ble_eq_true rfl⟩ ?_
  by_cases b_1 : 0 ≤ x1 ∧ x1 < 3
  · skip
    refine kq_top (z := 1) (if_pos b_1) ?_
    refine kq_callMv (wr := [(oX, .inr (5, [.ref oS, .ref oR, .ref oN, .ref o2, .ref oF, .ref oT])), (oS, .inr (3, [.ref rv, .ref rs, .int (nI kc)])), (rv, .inl (cI, 385, .inl v)), (rs, .inl (cI, 2310, .inl sv))]) (va_runS (As := [.int 1]) (rest := []) ⟨hx, hb, hml, hown, hts⟩ (c_X5_needPlace l dC dI cI s.heap.size  ) (va_cwS 1 hts gX5_turn_X5_needPlace rfl rfl rfl (by decide +kernel) ⟨Nat.le_of_ble_eq_true rfl, Nat.le_of_ble_eq_true rfl⟩) (kq_preS (hP.sub [] rfl) (hD.sub [] (by decide) rfl) hK) rfl rfl hl.1 rfl (lv_room (Nat.le_of_ble_eq_true rfl)) dX5_turn_5 ⟨Nat.le_of_ble_eq_true rfl, Nat.le_of_ble_eq_true rfl⟩) hP hD hS hA [] [0, 1, 2, 3] rfl rfl (by decide) (by decide) (fun u_3 H locs hw_4 hP hD hS => ?_)
    have hP : va_P (dC, dI) vwCl [(oX, .inr (5, [.ref oS, .ref oR, .ref oN, .ref o2, .ref oF, .ref oT])), (oS, .inr (3, [.ref rv, .ref rs, .int (nI kc)])), (rv, .inl (cI, 385, .inl v)), (rs, .inl (cI, 2310, .inl sv))] H := hP
    have hD : va_D A [(oX, .inr (5, [.ref oS, .ref oR, .ref oN, .ref o2, .ref oF, .ref oT])), (oS, .inr (3, [.ref rv, .ref rs, .int (nI kc)])), (rv, .inl (cI, 385, .inl v)), (rs, .inl (cI, 2310, .inl sv))] := hD
    refine lv_iload_n hx hb dX5_turn_8 rfl (lv_at hl 2 rfl) ?_
    refine lv_bipush (v := (-99)) hx hb dX5_turn_9 (by decide) ?_
    refine lv_bipush (v := 99) hx hb dX5_turn_11 (by decide) ?_
    refine kq_cS (As := [.int x2, .int (-99), .int 99]) (rest := []) ⟨hx, hb, hml, hown, hts⟩ (c_X5_isBetween l dC dI cI x2 (-99) 99 ) (va_cwS 3 hts gX5_turn_X5_isBetween rfl rfl rfl (by decide +kernel) ⟨Nat.le_of_ble_eq_true rfl, Nat.le_of_ble_eq_true rfl⟩) (hP.sub [] rfl) hK rfl hl.1 rfl (Nat.le_of_ble_eq_true rfl) dX5_turn_13 ⟨Nat.le_of_ble_eq_true rfl, Nat.le_of_ble_eq_true rfl⟩ ?_
    by_cases b_5 : (-99) ≤ x2 ∧ x2 ≤ 99
    · skip
      exact absurd ⟨by assumption, b_5⟩ hbad
    · skip
      refine kq_top (z := 0) (if_neg b_5) ?_
      exact kq_xcall [0, 1, 2, 3] (vx_runS (As := [.int 0]) (rest := []) ⟨hx, hb, hml, hown, hts⟩ (c_X5_needArgument_x l hls dC dI cI s1 s2 s3 s4 H.size  ) (va_cwS 1 hts gX5_turn_X5_needArgument rfl rfl rfl (by decide +kernel) ⟨Nat.le_of_ble_eq_true rfl, Nat.le_of_ble_eq_true rfl⟩) (kq_preX hS hA hK hT) rfl rfl hl.1 rfl (lv_room (Nat.le_of_ble_eq_true rfl)) dX5_turn_16 ⟨Nat.le_of_ble_eq_true rfl, Nat.le_of_ble_eq_true rfl⟩) hP hD hS hA rfl rfl hnt hlocks (fun E hE => by subst hE; first | exact ⟨fun _ => rfl, fun q _ => absurd q (by assumption)⟩ | exact ⟨fun q => absurd (by assumption) q, fun _ _ => rfl⟩)
  · skip
    refine kq_top (z := 0) (if_neg b_1) ?_
    exact kq_xcall [0, 1, 2, 3] (vx_runS (As := [.int 0]) (rest := []) ⟨hx, hb, hml, hown, hts⟩ (c_X5_needPlace_x l hls dC dI cI s1 s2 s3 s4 s.heap.size  ) (va_cwS 1 hts gX5_turn_X5_needPlace rfl rfl rfl (by decide +kernel) ⟨Nat.le_of_ble_eq_true rfl, Nat.le_of_ble_eq_true rfl⟩) (kq_preX hS hA hK hT) rfl rfl hl.1 rfl (lv_room (Nat.le_of_ble_eq_true rfl)) dX5_turn_5 ⟨Nat.le_of_ble_eq_true rfl, Nat.le_of_ble_eq_true rfl⟩) hP hD hS hA rfl rfl hnt hlocks (fun E hE => by subst hE; first | exact ⟨fun _ => rfl, fun q _ => absurd q (by assumption)⟩ | exact ⟨fun q => absurd (by assumption) q, fun _ _ => rfl⟩)
set_option maxHeartbeats 4000000 in
set_option maxRecDepth 100000 in
theorem c_X5_clear_x (l : Launch) (hls : l.stackTraces = false) (dC : Nat → ClassId) (dI : Nat → Nat → Nat) (cI : ClassId) (s1 s2 s3 s4 sz : Nat) (oX : Nat) (oS : Nat) (oR : Nat) (oN : Nat) (o2 : Nat) (oF : Nat) (oT : Nat) (rv : Nat) (rs : Nat) (kc : Nat) (v : Nat → Int32) (sv : Nat → Int32) (x1 : Int32) (hbad : ¬ ((0 ≤ x1 ∧ x1 < 3))) : vx_Met l yX5_clear wsX5_clear ({ frames := 7, cells := 1, slots := 6, locals := 102 }) (kq_X dC dI cI s1 s2 s3 s4 [.ref oX, .int x1] sz [(oX, .inr (5, [.ref oS, .ref oR, .ref oN, .ref o2, .ref oF, .ref oT])), (oS, .inr (3, [.ref rv, .ref rs, .int (nI kc)])), (rv, .inl (cI, 385, .inl v)), (rs, .inl (cI, 2310, .inl sv))]) kq_no (kq_XC dC dI (fun E => E = "java/lang/IndexOutOfBoundsException") [(oX, .inr (5, [.ref oS, .ref oR, .ref oN, .ref o2, .ref oF, .ref oT])), (oS, .inr (3, [.ref rv, .ref rs, .int (nI kc)])), (rv, .inl (cI, 385, .inl v)), (rs, .inl (cI, 2310, .inl sv))] (va_A [(oX, .inr (5, [.ref oS, .ref oR, .ref oN, .ref o2, .ref oF, .ref oT])), (oS, .inr (3, [.ref rv, .ref rs, .int (nI kc)])), (rv, .inl (cI, 385, .inl v)), (rs, .inl (cI, 2310, .inl sv))] sz)) 1 6 (va_A [(oX, .inr (5, [.ref oS, .ref oR, .ref oN, .ref o2, .ref oF, .ref oT])), (oS, .inr (3, [.ref rv, .ref rs, .int (nI kc)])), (rv, .inl (cI, 385, .inl v)), (rs, .inl (cI, 2310, .inl sv))] sz) := by
  refine kq_startX (cc := cX5_clear) (maxL := 3) (ret := (some .int)) (by decide) rfl (Nat.le_of_ble_eq_true rfl) ?_
  intro p e s m below meth c hx hb hr hml hown hlocks hts hsz hA hP hD hS hK hnm hnt hT ls hl
  subst hsz
  generalize hAe : va_A [(oX, .inr (5, [.ref oS, .ref oR, .ref oN, .ref o2, .ref oF, .ref oT])), (oS, .inr (3, [.ref rv, .ref rs, .int (nI kc)])), (rv, .inl (cI, 385, .inl v)), (rs, .inl (cI, 2310, .inl sv))] s.heap.size = A at hA hD hS hT ⊢
  have hown : s.vm.findClass RX5 = some m.cls := hown
  have hl : lv_has ls 3 [(0, .ref oX), (1, .int x1)] := hl
  refine lv_iload_n hx hb dX5_clear_0 rfl (lv_at hl 1 rfl) ?_
  refine lv_iconst (v := 3) hx hb dX5_clear_1 (by decide) ?_
  refine kq_cS (As := [.int x1, .int 3]) (rest := []) ⟨hx, hb, hml, hown, hts⟩ (c_X5_isIndex l dC dI cI x1 3 ) (va_cwS 2 hts gX5_clear_X5_isIndex rfl rfl rfl (by decide +kernel) ⟨Nat.le_of_ble_eq_true rfl, Nat.le_of_ble_eq_true rfl⟩) (hP.sub [] rfl) hK rfl hl.1 rfl (Nat.le_of_ble_eq_true rfl) dX5_clear_2 ⟨Nat.le_of_ble_eq_true rfl, Nat.le_of_ble_eq_true rfl⟩ ?_
  by_cases b_1 : 0 ≤ x1 ∧ x1 < 3
  · skip
    exact absurd b_1 hbad
  · skip
    refine kq_top (z := 0) (if_neg b_1) ?_
    exact kq_xcall [0, 1, 2, 3] (vx_runS (As := [.int 0]) (rest := []) ⟨hx, hb, hml, hown, hts⟩ (c_X5_needPlace_x l hls dC dI cI s1 s2 s3 s4 s.heap.size  ) (va_cwS 1 hts gX5_clear_X5_needPlace rfl rfl rfl (by decide +kernel) ⟨Nat.le_of_ble_eq_true rfl, Nat.le_of_ble_eq_true rfl⟩) (kq_preX hS hA hK hT) rfl rfl hl.1 rfl (lv_room (Nat.le_of_ble_eq_true rfl)) dX5_clear_5 ⟨Nat.le_of_ble_eq_true rfl, Nat.le_of_ble_eq_true rfl⟩) hP hD hS hA rfl rfl hnt hlocks (fun E hE => by subst hE; rfl)
