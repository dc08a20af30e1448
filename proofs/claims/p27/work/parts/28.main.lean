set_option maxHeartbeats 4000000 in
set_option maxRecDepth 100000 in
theorem c_X5_figure (l : Launch) (dC : Nat → ClassId) (dI : Nat → Nat → Nat) (cI : ClassId) (sz : Nat) (oX : Nat) (oS : Nat) (oR : Nat) (oN : Nat) (o2 : Nat) (oF : Nat) (oT : Nat) (rv : Nat) (rs : Nat) (kc : Nat) (v : Nat → Int32) (sv : Nat → Int32) (f : Nat) (b : Nat) (d : Nat) (h : Nat) (w : Nat) (hkc : kc ≤ 6) (hf : f < 4) (hb8 : b < 6) (hd : d < 12) (hh : 1 ≤ h ∧ h ≤ 6 - b) (hw9 : 1 ≤ w ∧ w ≤ 12 - d) (hI : n_I v) : Met l yX5_figure wsX5_figure ({ frames := 3, cells := 0, slots := 0, locals := 67 }) (kq_M dC dI cI [.ref oX, .int (nI f), .int (nI b), .int (nI d), .int (nI h), .int (nI w)] sz [(oX, .inr (5, [.ref oS, .ref oR, .ref oN, .ref o2, .ref oF, .ref oT])), (oS, .inr (3, [.ref rv, .ref rs, .int (nI kc)])), (rv, .inl (cI, 385, .inl v)), (rs, .inl (cI, 2310, .inl sv)), (oF, .inr (0, [.ref oS, .ref oN]))]) (va_Qi (fun (r : Int32) (u : Unit) => r = nI (n_fr b d h w)) (kq_B dC dI (va_A [(oX, .inr (5, [.ref oS, .ref oR, .ref oN, .ref o2, .ref oF, .ref oT])), (oS, .inr (3, [.ref rv, .ref rs, .int (nI kc)])), (rv, .inl (cI, 385, .inl v)), (rs, .inl (cI, 2310, .inl sv)), (oF, .inr (0, [.ref oS, .ref oN]))] sz) (fun u : Unit => [(oX, .inr (5, [.ref oS, .ref oR, .ref oN, .ref o2, .ref oF, .ref oT])), (oS, .inr (3, [.ref rv, .ref rs, .int (nI (min (kc + 1) 6))])), (rv, .inl (cI, 385, .inl (n_fig v f b d h w))), (rs, .inl (cI, 2310, .inl (n_push v sv))), (oF, .inr (0, [.ref oS, .ref oN]))])) (va_A [(oX, .inr (5, [.ref oS, .ref oR, .ref oN, .ref o2, .ref oF, .ref oT])), (oS, .inr (3, [.ref rv, .ref rs, .int (nI kc)])), (rv, .inl (cI, 385, .inl v)), (rs, .inl (cI, 2310, .inl sv)), (oF, .inr (0, [.ref oS, .ref oN]))] sz)) 0 0 (va_A [(oX, .inr (5, [.ref oS, .ref oR, .ref oN, .ref o2, .ref oF, .ref oT])), (oS, .inr (3, [.ref rv, .ref rs, .int (nI kc)])), (rv, .inl (cI, 385, .inl v)), (rs, .inl (cI, 2310, .inl sv)), (oF, .inr (0, [.ref oS, .ref oN]))] sz) := by
  refine kq_startM (cc := cX5_figure) (maxL := 6) (ret := (some .int)) (by decide) rfl (Nat.le_of_ble_eq_true rfl) ?_
  intro p e s m below meth c hx hb hr hml hown hlocks hts hsz hA hP hD hS hK hnm ls hl
  subst hsz
  generalize hAe : va_A [(oX, .inr (5, [.ref oS, .ref oR, .ref oN, .ref o2, .ref oF, .ref oT])), (oS, .inr (3, [.ref rv, .ref rs, .int (nI kc)])), (rv, .inl (cI, 385, .inl v)), (rs, .inl (cI, 2310, .inl sv)), (oF, .inr (0, [.ref oS, .ref oN]))] s.heap.size = A at hA hD hS ⊢
  have hown : s.vm.findClass RX5 = some m.cls := hown
  have hl : lv_has ls 6 [(0, .ref oX), (1, .int (nI f)), (2, .int (nI b)), (3, .int (nI d)), (4, .int (nI h)), (5, .int (nI w))] := hl
  refine lv_iload_n hx hb dX5_figure_0 rfl (lv_at hl 1 rfl) ?_
  refine lv_iconst (v := 4) hx hb dX5_figure_1 (by decide) ?_
  refine kq_cS (As := [.int (nI f), .int 4]) (rest := []) ⟨hx, hb, hml, hown, hts⟩ (c_X5_isIndex_n l dC dI cI f 4 (by first | assumption | omega) (by first | assumption | omega)) (va_cwS 2 hts gX5_figure_X5_isIndex rfl rfl rfl (by decide +kernel) ⟨Nat.le_of_ble_eq_true rfl, Nat.le_of_ble_eq_true rfl⟩) (hP.sub [] rfl) hK rfl hl.1 rfl (Nat.le_of_ble_eq_true rfl) dX5_figure_2 ⟨Nat.le_of_ble_eq_true rfl, Nat.le_of_ble_eq_true rfl⟩ ?_
  refine lv_if_eq (tgt := 30) hx hb dX5_figure_5 (by decide) (fun c_1 => ?_) (fun c_1 => ?_)
  · skip
    have c_1 := kq_bf c_1
    exact absurd hf c_1
  · skip
    have c_1 := kq_bt c_1
    refine lv_iload_n hx hb dX5_figure_8 rfl (lv_at hl 2 rfl) ?_
    refine lv_bipush (v := 6) hx hb dX5_figure_9 (by decide) ?_
    refine kq_cS (As := [.int (nI b), .int 6]) (rest := []) ⟨hx, hb, hml, hown, hts⟩ (c_X5_isIndex_n l dC dI cI b 6 (by first | assumption | omega) (by first | assumption | omega)) (va_cwS 2 hts gX5_figure_X5_isIndex rfl rfl rfl (by decide +kernel) ⟨Nat.le_of_ble_eq_true rfl, Nat.le_of_ble_eq_true rfl⟩) (hP.sub [] rfl) hK rfl hl.1 rfl (Nat.le_of_ble_eq_true rfl) dX5_figure_11 ⟨Nat.le_of_ble_eq_true rfl, Nat.le_of_ble_eq_true rfl⟩ ?_
    refine lv_if_eq (tgt := 30) hx hb dX5_figure_14 (by decide) (fun c_2 => ?_) (fun c_2 => ?_)
    · skip
      have c_2 := kq_bf c_2
      exact absurd hb8 c_2
    · skip
      have c_2 := kq_bt c_2
      refine lv_iload_n hx hb dX5_figure_17 rfl (lv_at hl 3 rfl) ?_
      refine lv_bipush (v := 12) hx hb dX5_figure_18 (by decide) ?_
      refine kq_cS (As := [.int (nI d), .int 12]) (rest := []) ⟨hx, hb, hml, hown, hts⟩ (c_X5_isIndex_n l dC dI cI d 12 (by first | assumption | omega) (by first | assumption | omega)) (va_cwS 2 hts gX5_figure_X5_isIndex rfl rfl rfl (by decide +kernel) ⟨Nat.le_of_ble_eq_true rfl, Nat.le_of_ble_eq_true rfl⟩) (hP.sub [] rfl) hK rfl hl.1 rfl (Nat.le_of_ble_eq_true rfl) dX5_figure_20 ⟨Nat.le_of_ble_eq_true rfl, Nat.le_of_ble_eq_true rfl⟩ ?_
      refine lv_if_eq (tgt := 30) hx hb dX5_figure_23 (by decide) (fun c_3 => ?_) (fun c_3 => ?_)
      · skip
        have c_3 := kq_bf c_3
        exact absurd hd c_3
      · skip
        have c_3 := kq_bt c_3
        refine lv_iconst (v := 1) hx hb dX5_figure_26 (by decide) ?_
        refine lv_goto (tgt := 31) hx hb dX5_figure_27 (by decide) ?_
        refine kq_callMv (wr := [(oX, .inr (5, [.ref oS, .ref oR, .ref oN, .ref o2, .ref oF, .ref oT])), (oS, .inr (3, [.ref rv, .ref rs, .int (nI kc)])), (rv, .inl (cI, 385, .inl v)), (rs, .inl (cI, 2310, .inl sv)), (oF, .inr (0, [.ref oS, .ref oN]))]) (va_runS (As := [.int 1]) (rest := []) ⟨hx, hb, hml, hown, hts⟩ (c_X5_needPlace l dC dI cI s.heap.size  ) (va_cwS 1 hts gX5_figure_X5_needPlace rfl rfl rfl (by decide +kernel) ⟨Nat.le_of_ble_eq_true rfl, Nat.le_of_ble_eq_true rfl⟩) (kq_preS (hP.sub [] rfl) (hD.sub [] (by decide) rfl) hK) rfl rfl hl.1 rfl (lv_room (Nat.le_of_ble_eq_true rfl)) dX5_figure_31 ⟨Nat.le_of_ble_eq_true rfl, Nat.le_of_ble_eq_true rfl⟩) hP hD hS hA [] [0, 1, 2, 3, 4] rfl rfl (by decide) (by decide) (fun u_5 H locs hw_6 hP hD hS => ?_)
        have hP : va_P (dC, dI) vwCl [(oX, .inr (5, [.ref oS, .ref oR, .ref oN, .ref o2, .ref oF, .ref oT])), (oS, .inr (3, [.ref rv, .ref rs, .int (nI kc)])), (rv, .inl (cI, 385, .inl v)), (rs, .inl (cI, 2310, .inl sv)), (oF, .inr (0, [.ref oS, .ref oN]))] H := hP
        have hD : va_D A [(oX, .inr (5, [.ref oS, .ref oR, .ref oN, .ref o2, .ref oF, .ref oT])), (oS, .inr (3, [.ref rv, .ref rs, .int (nI kc)])), (rv, .inl (cI, 385, .inl v)), (rs, .inl (cI, 2310, .inl sv)), (oF, .inr (0, [.ref oS, .ref oN]))] := hD
        refine lv_iload hx hb dX5_figure_34 (lv_at hl 4 rfl) ?_
        refine lv_iconst (v := 1) hx hb dX5_figure_36 (by decide) ?_
        refine lv_bipush (v := 6) hx hb dX5_figure_37 (by decide) ?_
        refine lv_iload_n hx hb dX5_figure_39 rfl (lv_at hl 2 rfl) ?_
        refine lv_isub hx hb dX5_figure_40 ?_
        refine kq_top (z := nI (6 - b)) (pk_sub (a := 6) (b := b) (by omega)) ?_
        refine kq_cS (As := [.int (nI h), .int 1, .int (nI (6 - b))]) (rest := []) ⟨hx, hb, hml, hown, hts⟩ (c_X5_isBetween_n l dC dI cI h 1 (6 - b) (by first | assumption | omega) (by first | assumption | omega) (by first | assumption | omega)) (va_cwS 3 hts gX5_figure_X5_isBetween rfl rfl rfl (by decide +kernel) ⟨Nat.le_of_ble_eq_true rfl, Nat.le_of_ble_eq_true rfl⟩) (hP.sub [] rfl) hK rfl hl.1 rfl (Nat.le_of_ble_eq_true rfl) dX5_figure_41 ⟨Nat.le_of_ble_eq_true rfl, Nat.le_of_ble_eq_true rfl⟩ ?_
        refine lv_if_eq (tgt := 64) hx hb dX5_figure_44 (by decide) (fun c_7 => ?_) (fun c_7 => ?_)
        · skip
          have c_7 := kq_bf c_7
          exact absurd hh c_7
        · skip
          have c_7 := kq_bt c_7
          refine lv_iload hx hb dX5_figure_47 (lv_at hl 5 rfl) ?_
          refine lv_iconst (v := 1) hx hb dX5_figure_49 (by decide) ?_
          refine lv_bipush (v := 12) hx hb dX5_figure_50 (by decide) ?_
          refine lv_iload_n hx hb dX5_figure_52 rfl (lv_at hl 3 rfl) ?_
          refine lv_isub hx hb dX5_figure_53 ?_
          refine kq_top (z := nI (12 - d)) (pk_sub (a := 12) (b := d) (by omega)) ?_
          refine kq_cS (As := [.int (nI w), .int 1, .int (nI (12 - d))]) (rest := []) ⟨hx, hb, hml, hown, hts⟩ (c_X5_isBetween_n l dC dI cI w 1 (12 - d) (by first | assumption | omega) (by first | assumption | omega) (by first | assumption | omega)) (va_cwS 3 hts gX5_figure_X5_isBetween rfl rfl rfl (by decide +kernel) ⟨Nat.le_of_ble_eq_true rfl, Nat.le_of_ble_eq_true rfl⟩) (hP.sub [] rfl) hK rfl hl.1 rfl (Nat.le_of_ble_eq_true rfl) dX5_figure_54 ⟨Nat.le_of_ble_eq_true rfl, Nat.le_of_ble_eq_true rfl⟩ ?_
          refine lv_if_eq (tgt := 64) hx hb dX5_figure_57 (by decide) (fun c_8 => ?_) (fun c_8 => ?_)
          · skip
            have c_8 := kq_bf c_8
            exact absurd hw9 c_8
          · skip
            have c_8 := kq_bt c_8
            refine lv_iconst (v := 1) hx hb dX5_figure_60 (by decide) ?_
            refine lv_goto (tgt := 65) hx hb dX5_figure_61 (by decide) ?_
            refine kq_callMv (wr := [(oX, .inr (5, [.ref oS, .ref oR, .ref oN, .ref o2, .ref oF, .ref oT])), (oS, .inr (3, [.ref rv, .ref rs, .int (nI kc)])), (rv, .inl (cI, 385, .inl v)), (rs, .inl (cI, 2310, .inl sv)), (oF, .inr (0, [.ref oS, .ref oN]))]) (va_runS (As := [.int 1]) (rest := []) ⟨hx, hb, hml, hown, hts⟩ (c_X5_needArgument l dC dI cI H.size  ) (va_cwS 1 hts gX5_figure_X5_needArgument rfl rfl rfl (by decide +kernel) ⟨Nat.le_of_ble_eq_true rfl, Nat.le_of_ble_eq_true rfl⟩) (kq_preS (hP.sub [] rfl) (hD.sub [] (by decide) rfl) hK) rfl rfl hl.1 rfl (lv_room (Nat.le_of_ble_eq_true rfl)) dX5_figure_65 ⟨Nat.le_of_ble_eq_true rfl, Nat.le_of_ble_eq_true rfl⟩) hP hD hS hA [] [0, 1, 2, 3, 4] rfl rfl (by decide) (by decide) (fun u_10 H locs hw_11 hP hD hS => ?_)
            have hP : va_P (dC, dI) vwCl [(oX, .inr (5, [.ref oS, .ref oR, .ref oN, .ref o2, .ref oF, .ref oT])), (oS, .inr (3, [.ref rv, .ref rs, .int (nI kc)])), (rv, .inl (cI, 385, .inl v)), (rs, .inl (cI, 2310, .inl sv)), (oF, .inr (0, [.ref oS, .ref oN]))] H := hP
            have hD : va_D A [(oX, .inr (5, [.ref oS, .ref oR, .ref oN, .ref o2, .ref oF, .ref oT])), (oS, .inr (3, [.ref rv, .ref rs, .int (nI kc)])), (rv, .inl (cI, 385, .inl v)), (rs, .inl (cI, 2310, .inl sv)), (oF, .inr (0, [.ref oS, .ref oN]))] := hD
            refine lv_aload_n hx hb dX5_figure_68 rfl (lv_at hl 0 rfl) ?_
            refine va_get (D := (dC, dI)) (ci := 5) (v := .ref oS) (C := RX5) (T := TX5) (N := 6) hx hb hts (by decide +kernel) hown hK.1 hP 0 rfl rfl 0 (by decide) (hts (.fieldLink RX5 12 "NoteWatermarks" "state" "LNoteWatermarks$State;") (by decide +kernel)) (fun _ h9 => h9) rfl dX5_figure_69 ?_
            refine kq_callMv (wr := [(oX, .inr (5, [.ref oS, .ref oR, .ref oN, .ref o2, .ref oF, .ref oT])), (oF, .inr (0, [.ref oS, .ref oN]))]) (va_runV (As := []) (rest := []) ⟨hx, hb, hml, hown, hts⟩ (c_X3_save l dC dI cI H.size oS rv rs kc v sv (by first | assumption | omega)) (cwV 0 hts gX5_figure_X3_save rfl rfl rfl (by decide +kernel) ⟨Nat.le_of_ble_eq_true rfl, Nat.le_of_ble_eq_true rfl⟩) (kq_preV (ci := 3) (q0 := 0) (hP.sub [1, 2, 3] rfl) (hD.sub [1, 2, 3] (by decide) rfl) hK rfl rfl) rfl rfl hl.1 rfl (lv_room (Nat.le_of_ble_eq_true rfl)) dX5_figure_72 ⟨Nat.le_of_ble_eq_true rfl, Nat.le_of_ble_eq_true rfl⟩) hP hD hS hA [1, 2, 3] [0, 4] rfl rfl (by decide) (by decide) (fun u_13 H locs hw_14 hP hD hS => ?_)
            have hP : va_P (dC, dI) vwCl [(oX, .inr (5, [.ref oS, .ref oR, .ref oN, .ref o2, .ref oF, .ref oT])), (oF, .inr (0, [.ref oS, .ref oN])), (oS, .inr (3, [.ref rv, .ref rs, .int (nI (min (kc + 1) 6))])), (rv, .inl (cI, 385, .inl v)), (rs, .inl (cI, 2310, .inl (n_push v sv)))] H := hP
            have hD : va_D A [(oX, .inr (5, [.ref oS, .ref oR, .ref oN, .ref o2, .ref oF, .ref oT])), (oF, .inr (0, [.ref oS, .ref oN])), (oS, .inr (3, [.ref rv, .ref rs, .int (nI (min (kc + 1) 6))])), (rv, .inl (cI, 385, .inl v)), (rs, .inl (cI, 2310, .inl (n_push v sv)))] := hD
            refine lv_aload_n hx hb dX5_figure_75 rfl (lv_at hl 0 rfl) ?_
            refine va_get (D := (dC, dI)) (ci := 5) (v := .ref oF) (C := RX5) (T := TX5) (N := 6) hx hb hts (by decide +kernel) hown hK.1 hP 0 rfl rfl 4 (by decide) (hts (.fieldLink RX5 40 "NoteWatermarks" "figures" "LNoteWatermarks$Figures;") (by decide +kernel)) (fun _ h9 => h9) rfl dX5_figure_76 ?_
            refine lv_iload_n hx hb dX5_figure_79 rfl (lv_at hl 1 rfl) ?_
            refine lv_iload_n hx hb dX5_figure_80 rfl (lv_at hl 2 rfl) ?_
            refine lv_iload_n hx hb dX5_figure_81 rfl (lv_at hl 3 rfl) ?_
            refine lv_iload hx hb dX5_figure_82 (lv_at hl 4 rfl) ?_
            refine lv_iload hx hb dX5_figure_84 (lv_at hl 5 rfl) ?_
            refine kq_callMv (wr := [(oX, .inr (5, [.ref oS, .ref oR, .ref oN, .ref o2, .ref oF, .ref oT])), (rs, .inl (cI, 2310, .inl (n_push v sv)))]) (va_runV (As := [.int (nI f), .int (nI b), .int (nI d), .int (nI h), .int (nI w)]) (rest := []) ⟨hx, hb, hml, hown, hts⟩ (c_X0_place l dC dI cI H.size oF oN oS rv rs (nI (min (kc + 1) 6)) v f b d h w (by first | assumption | omega)) (cwV 5 hts gX5_figure_X0_place rfl rfl rfl (by decide +kernel) ⟨Nat.le_of_ble_eq_true rfl, Nat.le_of_ble_eq_true rfl⟩) (kq_preV (ci := 0) (q0 := 0) (hP.sub [1, 2, 3] rfl) (hD.sub [1, 2, 3] (by decide) rfl) hK rfl rfl) rfl rfl hl.1 rfl (lv_room (Nat.le_of_ble_eq_true rfl)) dX5_figure_86 ⟨Nat.le_of_ble_eq_true rfl, Nat.le_of_ble_eq_true rfl⟩) hP hD hS hA [1, 2, 3] [0, 4] rfl rfl (by decide) (by decide) (fun u_16 H locs hw_17 hP hD hS => ?_)
            have hP : va_P (dC, dI) vwCl [(oX, .inr (5, [.ref oS, .ref oR, .ref oN, .ref o2, .ref oF, .ref oT])), (rs, .inl (cI, 2310, .inl (n_push v sv))), (oF, .inr (0, [.ref oS, .ref oN])), (oS, .inr (3, [.ref rv, .ref rs, .int (nI (min (kc + 1) 6))])), (rv, .inl (cI, 385, .inl (upd (upd (upd (upd v (366 + f * 4 + 0) (nI b)) (366 + f * 4 + 1) (nI d)) (366 + f * 4 + 2) (nI h)) (366 + f * 4 + 3) (nI w))))] H := hP
            have hD : va_D A [(oX, .inr (5, [.ref oS, .ref oR, .ref oN, .ref o2, .ref oF, .ref oT])), (rs, .inl (cI, 2310, .inl (n_push v sv))), (oF, .inr (0, [.ref oS, .ref oN])), (oS, .inr (3, [.ref rv, .ref rs, .int (nI (min (kc + 1) 6))])), (rv, .inl (cI, 385, .inl (upd (upd (upd (upd v (366 + f * 4 + 0) (nI b)) (366 + f * 4 + 1) (nI d)) (366 + f * 4 + 2) (nI h)) (366 + f * 4 + 3) (nI w))))] := hD
            have hP : va_P (dC, dI) vwCl [(oX, .inr (5, [.ref oS, .ref oR, .ref oN, .ref o2, .ref oF, .ref oT])), (rs, .inl (cI, 2310, .inl (n_push v sv))), (oF, .inr (0, [.ref oS, .ref oN])), (oS, .inr (3, [.ref rv, .ref rs, .int (nI (min (kc + 1) 6))])), (rv, .inl (cI, 385, .inl (n_fig v f b d h w)))] H := hP
            have hD : va_D A [(oX, .inr (5, [.ref oS, .ref oR, .ref oN, .ref o2, .ref oF, .ref oT])), (rs, .inl (cI, 2310, .inl (n_push v sv))), (oF, .inr (0, [.ref oS, .ref oN])), (oS, .inr (3, [.ref rv, .ref rs, .int (nI (min (kc + 1) 6))])), (rv, .inl (cI, 385, .inl (n_fig v f b d h w)))] := hD
            obtain ⟨e0, e1, e2, e3⟩ := n_fig_f (v := v) (f := f) (show b + h ≤ 6 by omega) (show d + w ≤ 12 by omega)
            refine lv_aload_n hx hb dX5_figure_89 rfl (lv_at hl 0 rfl) ?_
            refine va_get (D := (dC, dI)) (ci := 5) (v := .ref oF) (C := RX5) (T := TX5) (N := 6) hx hb hts (by decide +kernel) hown hK.1 hP 0 rfl rfl 4 (by decide) (hts (.fieldLink RX5 40 "NoteWatermarks" "figures" "LNoteWatermarks$Figures;") (by decide +kernel)) (fun _ h9 => h9) rfl dX5_figure_90 ?_
            refine lv_iload_n hx hb dX5_figure_93 rfl (lv_at hl 1 rfl) ?_
            refine kq_cV (As := [.int (nI f)]) (rest := []) ⟨hx, hb, hml, hown, hts⟩ (c_X0_frameCells l dC dI cI oF oN oS rv rs (nI (min (kc + 1) 6)) (n_fig v f b d h w) f (n_I_fig hI hf (by omega) (by omega) (by omega) (by omega)) (by first | assumption | omega) (by rw [e2]; omega)) (cwV 1 hts gX5_figure_X0_frameCells rfl rfl rfl (by decide +kernel) ⟨Nat.le_of_ble_eq_true rfl, Nat.le_of_ble_eq_true rfl⟩) (hP.sub [2, 3, 4] rfl) hK (ci := 0) (q0 := 0) rfl rfl rfl rfl hl.1 rfl (Nat.le_of_ble_eq_true rfl) dX5_figure_94 ⟨Nat.le_of_ble_eq_true rfl, Nat.le_of_ble_eq_true rfl⟩ ?_
            refine kq_top (z := nI (n_fr b d h w)) (by rw [e0, e1, e2, e3]) ?_
            exact kq_retMi () hx hb hr hlocks (hP.sub [0, 3, 4, 1, 2] rfl) (hD.sub [0, 3, 4, 1, 2] (by decide) rfl) hS dX5_figure_97 (by rfl)
set_option maxHeartbeats 4000000 in
set_option maxRecDepth 100000 in
theorem c_X5_isSettingValue (l : Launch) (dC : Nat → ClassId) (dI : Nat → Nat → Nat) (cI : ClassId) (k : Nat) (x : Int32) (hk : k < 3) : Met l yX5_isSettingValue wsX5_isSettingValue ({ frames := 1, cells := 0, slots := 0, locals := 22 }) (kq_R dC dI cI [.int (nI k), .int x] []) (QcRead (if n_lo k ≤ x ∧ x ≤ n_hi k then (1:Int32) else 0)) 0 0 (fun _ => False) := by
  refine kq_start (cc := cX5_isSettingValue) (maxL := 2) (ret := (some .boolean)) (plainFor_of_name (by decide)) rfl (Nat.le_of_ble_eq_true rfl) ?_
  intro p e s m below meth c hx hb hr hml hown hlocks hts hP hK ls hl
  have hown : s.vm.findClass RX5 = some m.cls := hown
  have hl : lv_has ls 2 [(0, .int (nI k)), (1, .int x)] := hl
  refine lv_iload_n hx hb dX5_isSettingValue_0 rfl (lv_at hl 0 rfl) ?_
  rcases (show k = 0 ∨ k = 1 ∨ k = 2 from by omega) with rfl | rfl | rfl
  · skip
    refine lv_lookup (off := 27) (tgt := 28) hx hb dX5_isSettingValue_1 (by decide) (by decide) (by decide) ?_
    refine lv_iload_n hx hb dX5_isSettingValue_28 rfl (lv_at hl 1 rfl) ?_
    refine lv_iconst (v := 0) hx hb dX5_isSettingValue_29 (by decide) ?_
    refine lv_bipush (v := 99) hx hb dX5_isSettingValue_30 (by decide) ?_
    refine kq_cS (As := [.int x, .int 0, .int 99]) (rest := []) ⟨hx, hb, hml, hown, hts⟩ (c_X5_isBetween l dC dI cI x 0 99 ) (va_cwS 3 hts gX5_isSettingValue_X5_isBetween rfl rfl rfl (by decide +kernel) ⟨Nat.le_of_ble_eq_true rfl, Nat.le_of_ble_eq_true rfl⟩) (hP.sub [] rfl) hK rfl hl.1 rfl (Nat.le_of_ble_eq_true rfl) dX5_isSettingValue_32 ⟨Nat.le_of_ble_eq_true rfl, Nat.le_of_ble_eq_true rfl⟩ ?_
    exact kq_retz hx hb hr hlocks dX5_isSettingValue_35 (by first | exact Or.inl rfl | exact Or.inr rfl | (split <;> simp)) (by rfl)
  · skip
    refine lv_lookup (off := 35) (tgt := 36) hx hb dX5_isSettingValue_1 (by decide) (by decide) (by decide) ?_
    refine lv_iload_n hx hb dX5_isSettingValue_36 rfl (lv_at hl 1 rfl) ?_
    refine lv_bipush (v := 12) hx hb dX5_isSettingValue_37 (by decide) ?_
    refine lv_bipush (v := 30) hx hb dX5_isSettingValue_39 (by decide) ?_
    refine kq_cS (As := [.int x, .int 12, .int 30]) (rest := []) ⟨hx, hb, hml, hown, hts⟩ (c_X5_isBetween l dC dI cI x 12 30 ) (va_cwS 3 hts gX5_isSettingValue_X5_isBetween rfl rfl rfl (by decide +kernel) ⟨Nat.le_of_ble_eq_true rfl, Nat.le_of_ble_eq_true rfl⟩) (hP.sub [] rfl) hK rfl hl.1 rfl (Nat.le_of_ble_eq_true rfl) dX5_isSettingValue_41 ⟨Nat.le_of_ble_eq_true rfl, Nat.le_of_ble_eq_true rfl⟩ ?_
    exact kq_retz hx hb hr hlocks dX5_isSettingValue_44 (by first | exact Or.inl rfl | exact Or.inr rfl | (split <;> simp)) (by rfl)
  · skip
    refine lv_lookup (off := 44) (tgt := 45) hx hb dX5_isSettingValue_1 (by decide) (by decide) (by decide) ?_
    refine lv_iload_n hx hb dX5_isSettingValue_45 rfl (lv_at hl 1 rfl) ?_
    refine lv_iconst (v := 1) hx hb dX5_isSettingValue_46 (by decide) ?_
    refine lv_bipush (v := 9) hx hb dX5_isSettingValue_47 (by decide) ?_
    refine kq_cS (As := [.int x, .int 1, .int 9]) (rest := []) ⟨hx, hb, hml, hown, hts⟩ (c_X5_isBetween l dC dI cI x 1 9 ) (va_cwS 3 hts gX5_isSettingValue_X5_isBetween rfl rfl rfl (by decide +kernel) ⟨Nat.le_of_ble_eq_true rfl, Nat.le_of_ble_eq_true rfl⟩) (hP.sub [] rfl) hK rfl hl.1 rfl (Nat.le_of_ble_eq_true rfl) dX5_isSettingValue_49 ⟨Nat.le_of_ble_eq_true rfl, Nat.le_of_ble_eq_true rfl⟩ ?_
    exact kq_retz hx hb hr hlocks dX5_isSettingValue_52 (by first | exact Or.inl rfl | exact Or.inr rfl | (split <;> simp)) (by rfl)
set_option maxHeartbeats 4000000 in
set_option maxRecDepth 100000 in
theorem c_X5_set (l : Launch) (dC : Nat → ClassId) (dI : Nat → Nat → Nat) (cI : ClassId) (sz : Nat) (oX : Nat) (oS : Nat) (oR : Nat) (oN : Nat) (o2 : Nat) (oF : Nat) (oT : Nat) (rv : Nat) (rs : Nat) (kc : Nat) (v : Nat → Int32) (sv : Nat → Int32) (k : Nat) (x : Int32) (hkc : kc ≤ 6) (hk : k < 3) (hx9 : n_lo k ≤ x ∧ x ≤ n_hi k) : Met l yX5_set wsX5_set ({ frames := 2, cells := 0, slots := 0, locals := 60 }) (kq_M dC dI cI [.ref oX, .int (nI k), .int x] sz [(oX, .inr (5, [.ref oS, .ref oR, .ref oN, .ref o2, .ref oF, .ref oT])), (oS, .inr (3, [.ref rv, .ref rs, .int (nI kc)])), (rv, .inl (cI, 385, .inl v)), (rs, .inl (cI, 2310, .inl sv))]) (va_Qi (fun (r : Int32) (u : Unit) => r = v (382 + k)) (kq_B dC dI (va_A [(oX, .inr (5, [.ref oS, .ref oR, .ref oN, .ref o2, .ref oF, .ref oT])), (oS, .inr (3, [.ref rv, .ref rs, .int (nI kc)])), (rv, .inl (cI, 385, .inl v)), (rs, .inl (cI, 2310, .inl sv))] sz) (fun u : Unit => [(oX, .inr (5, [.ref oS, .ref oR, .ref oN, .ref o2, .ref oF, .ref oT])), (oS, .inr (3, [.ref rv, .ref rs, .int (nI (min (kc + 1) 6))])), (rv, .inl (cI, 385, .inl (upd v (382 + k) x))), (rs, .inl (cI, 2310, .inl (n_push v sv)))])) (va_A [(oX, .inr (5, [.ref oS, .ref oR, .ref oN, .ref o2, .ref oF, .ref oT])), (oS, .inr (3, [.ref rv, .ref rs, .int (nI kc)])), (rv, .inl (cI, 385, .inl v)), (rs, .inl (cI, 2310, .inl sv))] sz)) 0 0 (va_A [(oX, .inr (5, [.ref oS, .ref oR, .ref oN, .ref o2, .ref oF, .ref oT])), (oS, .inr (3, [.ref rv, .ref rs, .int (nI kc)])), (rv, .inl (cI, 385, .inl v)), (rs, .inl (cI, 2310, .inl sv))] sz) := by
  refine kq_startM (cc := cX5_set) (maxL := 4) (ret := (some .int)) (by decide) rfl (Nat.le_of_ble_eq_true rfl) ?_
  intro p e s m below meth c hx hb hr hml hown hlocks hts hsz hA hP hD hS hK hnm ls hl
  subst hsz
  generalize hAe : va_A [(oX, .inr (5, [.ref oS, .ref oR, .ref oN, .ref o2, .ref oF, .ref oT])), (oS, .inr (3, [.ref rv, .ref rs, .int (nI kc)])), (rv, .inl (cI, 385, .inl v)), (rs, .inl (cI, 2310, .inl sv))] s.heap.size = A at hA hD hS ⊢
  have hown : s.vm.findClass RX5 = some m.cls := hown
  have hl : lv_has ls 4 [(0, .ref oX), (1, .int (nI k)), (2, .int x)] := hl
  refine lv_iload_n hx hb dX5_set_0 rfl (lv_at hl 1 rfl) ?_
  refine lv_iconst (v := 3) hx hb dX5_set_1 (by decide) ?_
  refine kq_cS (As := [.int (nI k), .int 3]) (rest := []) ⟨hx, hb, hml, hown, hts⟩ (c_X5_isIndex_n l dC dI cI k 3 (by first | assumption | omega) (by first | assumption | omega)) (va_cwS 2 hts gX5_set_X5_isIndex rfl rfl rfl (by decide +kernel) ⟨Nat.le_of_ble_eq_true rfl, Nat.le_of_ble_eq_true rfl⟩) (hP.sub [] rfl) hK rfl hl.1 rfl (Nat.le_of_ble_eq_true rfl) dX5_set_2 ⟨Nat.le_of_ble_eq_true rfl, Nat.le_of_ble_eq_true rfl⟩ ?_
  refine kq_top (z := 1) (if_pos (hk)) ?_
  refine kq_callMv (wr := [(oX, .inr (5, [.ref oS, .ref oR, .ref oN, .ref o2, .ref oF, .ref oT])), (oS, .inr (3, [.ref rv, .ref rs, .int (nI kc)])), (rv, .inl (cI, 385, .inl v)), (rs, .inl (cI, 2310, .inl sv))]) (va_runS (As := [.int 1]) (rest := []) ⟨hx, hb, hml, hown, hts⟩ (c_X5_needPlace l dC dI cI s.heap.size  ) (va_cwS 1 hts gX5_set_X5_needPlace rfl rfl rfl (by decide +kernel) ⟨Nat.le_of_ble_eq_true rfl, Nat.le_of_ble_eq_true rfl⟩) (kq_preS (hP.sub [] rfl) (hD.sub [] (by decide) rfl) hK) rfl rfl hl.1 rfl (lv_room (Nat.le_of_ble_eq_true rfl)) dX5_set_5 ⟨Nat.le_of_ble_eq_true rfl, Nat.le_of_ble_eq_true rfl⟩) hP hD hS hA [] [0, 1, 2, 3] rfl rfl (by decide) (by decide) (fun u_2 H locs hw_3 hP hD hS => ?_)
  have hP : va_P (dC, dI) vwCl [(oX, .inr (5, [.ref oS, .ref oR, .ref oN, .ref o2, .ref oF, .ref oT])), (oS, .inr (3, [.ref rv, .ref rs, .int (nI kc)])), (rv, .inl (cI, 385, .inl v)), (rs, .inl (cI, 2310, .inl sv))] H := hP
  have hD : va_D A [(oX, .inr (5, [.ref oS, .ref oR, .ref oN, .ref o2, .ref oF, .ref oT])), (oS, .inr (3, [.ref rv, .ref rs, .int (nI kc)])), (rv, .inl (cI, 385, .inl v)), (rs, .inl (cI, 2310, .inl sv))] := hD
  refine lv_iload_n hx hb dX5_set_8 rfl (lv_at hl 1 rfl) ?_
  refine lv_iload_n hx hb dX5_set_9 rfl (lv_at hl 2 rfl) ?_
  refine kq_cS (As := [.int (nI k), .int x]) (rest := []) ⟨hx, hb, hml, hown, hts⟩ (c_X5_isSettingValue l dC dI cI k x (by first | assumption | omega)) (va_cwS 2 hts gX5_set_X5_isSettingValue rfl rfl rfl (by decide +kernel) ⟨Nat.le_of_ble_eq_true rfl, Nat.le_of_ble_eq_true rfl⟩) (hP.sub [] rfl) hK rfl hl.1 rfl (Nat.le_of_ble_eq_true rfl) dX5_set_10 ⟨Nat.le_of_ble_eq_true rfl, Nat.le_of_ble_eq_true rfl⟩ ?_
  refine kq_top (z := 1) (if_pos (hx9)) ?_
  refine kq_callMv (wr := [(oX, .inr (5, [.ref oS, .ref oR, .ref oN, .ref o2, .ref oF, .ref oT])), (oS, .inr (3, [.ref rv, .ref rs, .int (nI kc)])), (rv, .inl (cI, 385, .inl v)), (rs, .inl (cI, 2310, .inl sv))]) (va_runS (As := [.int 1]) (rest := []) ⟨hx, hb, hml, hown, hts⟩ (c_X5_needArgument l dC dI cI H.size  ) (va_cwS 1 hts gX5_set_X5_needArgument rfl rfl rfl (by decide +kernel) ⟨Nat.le_of_ble_eq_true rfl, Nat.le_of_ble_eq_true rfl⟩) (kq_preS (hP.sub [] rfl) (hD.sub [] (by decide) rfl) hK) rfl rfl hl.1 rfl (lv_room (Nat.le_of_ble_eq_true rfl)) dX5_set_13 ⟨Nat.le_of_ble_eq_true rfl, Nat.le_of_ble_eq_true rfl⟩) hP hD hS hA [] [0, 1, 2, 3] rfl rfl (by decide) (by decide) (fun u_5 H locs hw_6 hP hD hS => ?_)
  have hP : va_P (dC, dI) vwCl [(oX, .inr (5, [.ref oS, .ref oR, .ref oN, .ref o2, .ref oF, .ref oT])), (oS, .inr (3, [.ref rv, .ref rs, .int (nI kc)])), (rv, .inl (cI, 385, .inl v)), (rs, .inl (cI, 2310, .inl sv))] H := hP
  have hD : va_D A [(oX, .inr (5, [.ref oS, .ref oR, .ref oN, .ref o2, .ref oF, .ref oT])), (oS, .inr (3, [.ref rv, .ref rs, .int (nI kc)])), (rv, .inl (cI, 385, .inl v)), (rs, .inl (cI, 2310, .inl sv))] := hD
  refine lv_aload_n hx hb dX5_set_16 rfl (lv_at hl 0 rfl) ?_
  refine va_get (D := (dC, dI)) (ci := 5) (v := .ref oS) (C := RX5) (T := TX5) (N := 6) hx hb hts (by decide +kernel) hown hK.1 hP 0 rfl rfl 0 (by decide) (hts (.fieldLink RX5 12 "NoteWatermarks" "state" "LNoteWatermarks$State;") (by decide +kernel)) (fun _ h9 => h9) rfl dX5_set_17 ?_
  refine kq_callMv (wr := [(oX, .inr (5, [.ref oS, .ref oR, .ref oN, .ref o2, .ref oF, .ref oT]))]) (va_runV (As := []) (rest := []) ⟨hx, hb, hml, hown, hts⟩ (c_X3_save l dC dI cI H.size oS rv rs kc v sv (by first | assumption | omega)) (cwV 0 hts gX5_set_X3_save rfl rfl rfl (by decide +kernel) ⟨Nat.le_of_ble_eq_true rfl, Nat.le_of_ble_eq_true rfl⟩) (kq_preV (ci := 3) (q0 := 0) (hP.sub [1, 2, 3] rfl) (hD.sub [1, 2, 3] (by decide) rfl) hK rfl rfl) rfl rfl hl.1 rfl (lv_room (Nat.le_of_ble_eq_true rfl)) dX5_set_20 ⟨Nat.le_of_ble_eq_true rfl, Nat.le_of_ble_eq_true rfl⟩) hP hD hS hA [1, 2, 3] [0] rfl rfl (by decide) (by decide) (fun u_8 H locs hw_9 hP hD hS => ?_)
  have hP : va_P (dC, dI) vwCl [(oX, .inr (5, [.ref oS, .ref oR, .ref oN, .ref o2, .ref oF, .ref oT])), (oS, .inr (3, [.ref rv, .ref rs, .int (nI (min (kc + 1) 6))])), (rv, .inl (cI, 385, .inl v)), (rs, .inl (cI, 2310, .inl (n_push v sv)))] H := hP
  have hD : va_D A [(oX, .inr (5, [.ref oS, .ref oR, .ref oN, .ref o2, .ref oF, .ref oT])), (oS, .inr (3, [.ref rv, .ref rs, .int (nI (min (kc + 1) 6))])), (rv, .inl (cI, 385, .inl v)), (rs, .inl (cI, 2310, .inl (n_push v sv)))] := hD
  refine lv_aload_n hx hb dX5_set_23 rfl (lv_at hl 0 rfl) ?_
  refine va_get (D := (dC, dI)) (ci := 5) (v := .ref oS) (C := RX5) (T := TX5) (N := 6) hx hb hts (by decide +kernel) hown hK.1 hP 0 rfl rfl 0 (by decide) (hts (.fieldLink RX5 12 "NoteWatermarks" "state" "LNoteWatermarks$State;") (by decide +kernel)) (fun _ h9 => h9) rfl dX5_set_24 ?_
  refine lv_iload_n hx hb dX5_set_27 rfl (lv_at hl 1 rfl) ?_
  refine kq_cS (As := [.int (nI k)]) (rest := [.ref oS]) ⟨hx, hb, hml, hown, hts⟩ (c_X3_settingPlace l dC dI cI k ) (va_cwS 1 hts gX5_set_X3_settingPlace rfl rfl rfl (by decide +kernel) ⟨Nat.le_of_ble_eq_true rfl, Nat.le_of_ble_eq_true rfl⟩) (hP.sub [] rfl) hK rfl hl.1 rfl (Nat.le_of_ble_eq_true rfl) dX5_set_28 ⟨Nat.le_of_ble_eq_true rfl, Nat.le_of_ble_eq_true rfl⟩ ?_
  refine kq_cV (As := [.int (nI (382 + k))]) (rest := []) ⟨hx, hb, hml, hown, hts⟩ (c_X3_at l dC dI cI oS rv rs (nI (min (kc + 1) 6)) v (382 + k) (by first | assumption | omega)) (cwV 1 hts gX5_set_X3_at rfl rfl rfl (by decide +kernel) ⟨Nat.le_of_ble_eq_true rfl, Nat.le_of_ble_eq_true rfl⟩) (hP.sub [1, 2] rfl) hK (ci := 3) (q0 := 0) rfl rfl rfl rfl hl.1 rfl (Nat.le_of_ble_eq_true rfl) dX5_set_31 ⟨Nat.le_of_ble_eq_true rfl, Nat.le_of_ble_eq_true rfl⟩ ?_
  refine lv_istore_n (lv' := [(3, .int (v (382 + k))), (0, .ref oX), (1, .int (nI k)), (2, .int x)]) hx hb dX5_set_34 rfl hl (by decide) rfl (fun ls hl => ?_)
  refine lv_aload_n hx hb dX5_set_35 rfl (lv_at hl 1 rfl) ?_
  refine va_get (D := (dC, dI)) (ci := 5) (v := .ref oS) (C := RX5) (T := TX5) (N := 6) hx hb hts (by decide +kernel) hown hK.1 hP 0 rfl rfl 0 (by decide) (hts (.fieldLink RX5 12 "NoteWatermarks" "state" "LNoteWatermarks$State;") (by decide +kernel)) (fun _ h9 => h9) rfl dX5_set_36 ?_
  refine lv_iload_n hx hb dX5_set_39 rfl (lv_at hl 2 rfl) ?_
  refine kq_cS (As := [.int (nI k)]) (rest := [.ref oS]) ⟨hx, hb, hml, hown, hts⟩ (c_X3_settingPlace l dC dI cI k ) (va_cwS 1 hts gX5_set_X3_settingPlace rfl rfl rfl (by decide +kernel) ⟨Nat.le_of_ble_eq_true rfl, Nat.le_of_ble_eq_true rfl⟩) (hP.sub [] rfl) hK rfl hl.1 rfl (Nat.le_of_ble_eq_true rfl) dX5_set_40 ⟨Nat.le_of_ble_eq_true rfl, Nat.le_of_ble_eq_true rfl⟩ ?_
  refine lv_iload_n hx hb dX5_set_43 rfl (lv_at hl 3 rfl) ?_
  refine kq_callMv (wr := [(oX, .inr (5, [.ref oS, .ref oR, .ref oN, .ref o2, .ref oF, .ref oT])), (rs, .inl (cI, 2310, .inl (n_push v sv)))]) (va_runV (As := [.int (nI (382 + k)), .int x]) (rest := []) ⟨hx, hb, hml, hown, hts⟩ (c_X3_put l dC dI cI H.size oS rv rs (nI (min (kc + 1) 6)) v (382 + k) x (by first | assumption | omega)) (cwV 2 hts gX5_set_X3_put rfl rfl rfl (by decide +kernel) ⟨Nat.le_of_ble_eq_true rfl, Nat.le_of_ble_eq_true rfl⟩) (kq_preV (ci := 3) (q0 := 0) (hP.sub [1, 2] rfl) (hD.sub [1, 2] (by decide) rfl) hK rfl rfl) rfl rfl hl.1 rfl (lv_room (Nat.le_of_ble_eq_true rfl)) dX5_set_44 ⟨Nat.le_of_ble_eq_true rfl, Nat.le_of_ble_eq_true rfl⟩) hP hD hS hA [1, 2] [0, 3] rfl rfl (by decide) (by decide) (fun u_11 H locs hw_12 hP hD hS => ?_)
  have hP : va_P (dC, dI) vwCl [(oX, .inr (5, [.ref oS, .ref oR, .ref oN, .ref o2, .ref oF, .ref oT])), (rs, .inl (cI, 2310, .inl (n_push v sv))), (oS, .inr (3, [.ref rv, .ref rs, .int (nI (min (kc + 1) 6))])), (rv, .inl (cI, 385, .inl (upd v (382 + k) x)))] H := hP
  have hD : va_D A [(oX, .inr (5, [.ref oS, .ref oR, .ref oN, .ref o2, .ref oF, .ref oT])), (rs, .inl (cI, 2310, .inl (n_push v sv))), (oS, .inr (3, [.ref rv, .ref rs, .int (nI (min (kc + 1) 6))])), (rv, .inl (cI, 385, .inl (upd v (382 + k) x)))] := hD
  refine lv_iload_n hx hb dX5_set_47 rfl (lv_at hl 0 rfl) ?_
  exact kq_retMi () hx hb hr hlocks (hP.sub [0, 2, 3, 1] rfl) (hD.sub [0, 2, 3, 1] (by decide) rfl) hS dX5_set_48 (by rfl)
set_option maxHeartbeats 4000000 in
set_option maxRecDepth 100000 in
theorem c_X5_roll (l : Launch) (dC : Nat → ClassId) (dI : Nat → Nat → Nat) (cI : ClassId) (sz : Nat) (oX : Nat) (oS : Nat) (oR : Nat) (oN : Nat) (o2 : Nat) (oF : Nat) (oT : Nat) (rv : Nat) (rs : Nat) (kc : Nat) (v : Nat → Int32) (a : Nat) (q : Nat) (hI : n_I v) (ha : a < 3) (hq : q < 5) : Met l yX5_roll wsX5_roll ({ frames := 3, cells := 0, slots := 0, locals := 66 }) (kq_M dC dI cI [.ref oX, .int (nI a), .int (nI q)] sz [(oX, .inr (5, [.ref oS, .ref oR, .ref oN, .ref o2, .ref oF, .ref oT])), (oS, .inr (3, [.ref rv, .ref rs, .int (nI kc)])), (rv, .inl (cI, 385, .inl v)), (oR, .inr (2, [.ref oS]))]) (va_Qi (fun (r : Int32) (u : Unit) => r = n_roll v a q) (kq_B dC dI (va_A [(oX, .inr (5, [.ref oS, .ref oR, .ref oN, .ref o2, .ref oF, .ref oT])), (oS, .inr (3, [.ref rv, .ref rs, .int (nI kc)])), (rv, .inl (cI, 385, .inl v)), (oR, .inr (2, [.ref oS]))] sz) (fun u : Unit => [(oX, .inr (5, [.ref oS, .ref oR, .ref oN, .ref o2, .ref oF, .ref oT])), (oS, .inr (3, [.ref rv, .ref rs, .int (nI kc)])), (rv, .inl (cI, 385, .inl v)), (oR, .inr (2, [.ref oS]))])) (va_A [(oX, .inr (5, [.ref oS, .ref oR, .ref oN, .ref o2, .ref oF, .ref oT])), (oS, .inr (3, [.ref rv, .ref rs, .int (nI kc)])), (rv, .inl (cI, 385, .inl v)), (oR, .inr (2, [.ref oS]))] sz)) 0 0 (va_A [(oX, .inr (5, [.ref oS, .ref oR, .ref oN, .ref o2, .ref oF, .ref oT])), (oS, .inr (3, [.ref rv, .ref rs, .int (nI kc)])), (rv, .inl (cI, 385, .inl v)), (oR, .inr (2, [.ref oS]))] sz) := by
  refine kq_startM (cc := cX5_roll) (maxL := 4) (ret := (some .int)) (by decide) rfl (Nat.le_of_ble_eq_true rfl) ?_
  intro p e s m below meth c hx hb hr hml hown hlocks hts hsz hA hP hD hS hK hnm ls hl
  subst hsz
  generalize hAe : va_A [(oX, .inr (5, [.ref oS, .ref oR, .ref oN, .ref o2, .ref oF, .ref oT])), (oS, .inr (3, [.ref rv, .ref rs, .int (nI kc)])), (rv, .inl (cI, 385, .inl v)), (oR, .inr (2, [.ref oS]))] s.heap.size = A at hA hD hS ⊢
  have hown : s.vm.findClass RX5 = some m.cls := hown
  have hl : lv_has ls 4 [(0, .ref oX), (1, .int (nI a)), (2, .int (nI q))] := hl
  have h16 := n_I_c16 hI ha
  have h4 := n_I_c4 hI ha
  have hs1 := (n_I_s hI).2.2.2.2.1
  refine lv_iload_n hx hb dX5_roll_0 rfl (lv_at hl 1 rfl) ?_
  refine lv_iconst (v := 3) hx hb dX5_roll_1 (by decide) ?_
  refine kq_cS (As := [.int (nI a), .int 3]) (rest := []) ⟨hx, hb, hml, hown, hts⟩ (c_X5_isIndex_n l dC dI cI a 3 (by first | assumption | omega) (by first | assumption | omega)) (va_cwS 2 hts gX5_roll_X5_isIndex rfl rfl rfl (by decide +kernel) ⟨Nat.le_of_ble_eq_true rfl, Nat.le_of_ble_eq_true rfl⟩) (hP.sub [] rfl) hK rfl hl.1 rfl (Nat.le_of_ble_eq_true rfl) dX5_roll_2 ⟨Nat.le_of_ble_eq_true rfl, Nat.le_of_ble_eq_true rfl⟩ ?_
  refine kq_top (z := 1) (if_pos (ha)) ?_
  refine kq_callMv (wr := [(oX, .inr (5, [.ref oS, .ref oR, .ref oN, .ref o2, .ref oF, .ref oT])), (oS, .inr (3, [.ref rv, .ref rs, .int (nI kc)])), (rv, .inl (cI, 385, .inl v)), (oR, .inr (2, [.ref oS]))]) (va_runS (As := [.int 1]) (rest := []) ⟨hx, hb, hml, hown, hts⟩ (c_X5_needPlace l dC dI cI s.heap.size  ) (va_cwS 1 hts gX5_roll_X5_needPlace rfl rfl rfl (by decide +kernel) ⟨Nat.le_of_ble_eq_true rfl, Nat.le_of_ble_eq_true rfl⟩) (kq_preS (hP.sub [] rfl) (hD.sub [] (by decide) rfl) hK) rfl rfl hl.1 rfl (lv_room (Nat.le_of_ble_eq_true rfl)) dX5_roll_5 ⟨Nat.le_of_ble_eq_true rfl, Nat.le_of_ble_eq_true rfl⟩) hP hD hS hA [] [0, 1, 2, 3] rfl rfl (by decide) (by decide) (fun u_2 H locs hw_3 hP hD hS => ?_)
  have hP : va_P (dC, dI) vwCl [(oX, .inr (5, [.ref oS, .ref oR, .ref oN, .ref o2, .ref oF, .ref oT])), (oS, .inr (3, [.ref rv, .ref rs, .int (nI kc)])), (rv, .inl (cI, 385, .inl v)), (oR, .inr (2, [.ref oS]))] H := hP
  have hD : va_D A [(oX, .inr (5, [.ref oS, .ref oR, .ref oN, .ref o2, .ref oF, .ref oT])), (oS, .inr (3, [.ref rv, .ref rs, .int (nI kc)])), (rv, .inl (cI, 385, .inl v)), (oR, .inr (2, [.ref oS]))] := hD
  refine lv_iload_n hx hb dX5_roll_8 rfl (lv_at hl 2 rfl) ?_
  refine lv_iconst (v := 0) hx hb dX5_roll_9 (by decide) ?_
  refine lv_iconst (v := 4) hx hb dX5_roll_10 (by decide) ?_
  refine kq_cS (As := [.int (nI q), .int 0, .int 4]) (rest := []) ⟨hx, hb, hml, hown, hts⟩ (c_X5_isBetween_n l dC dI cI q 0 4 (by first | assumption | omega) (by first | assumption | omega) (by first | assumption | omega)) (va_cwS 3 hts gX5_roll_X5_isBetween rfl rfl rfl (by decide +kernel) ⟨Nat.le_of_ble_eq_true rfl, Nat.le_of_ble_eq_true rfl⟩) (hP.sub [] rfl) hK rfl hl.1 rfl (Nat.le_of_ble_eq_true rfl) dX5_roll_11 ⟨Nat.le_of_ble_eq_true rfl, Nat.le_of_ble_eq_true rfl⟩ ?_
  refine kq_top (z := 1) (if_pos (by omega)) ?_
  refine kq_callMv (wr := [(oX, .inr (5, [.ref oS, .ref oR, .ref oN, .ref o2, .ref oF, .ref oT])), (oS, .inr (3, [.ref rv, .ref rs, .int (nI kc)])), (rv, .inl (cI, 385, .inl v)), (oR, .inr (2, [.ref oS]))]) (va_runS (As := [.int 1]) (rest := []) ⟨hx, hb, hml, hown, hts⟩ (c_X5_needArgument l dC dI cI H.size  ) (va_cwS 1 hts gX5_roll_X5_needArgument rfl rfl rfl (by decide +kernel) ⟨Nat.le_of_ble_eq_true rfl, Nat.le_of_ble_eq_true rfl⟩) (kq_preS (hP.sub [] rfl) (hD.sub [] (by decide) rfl) hK) rfl rfl hl.1 rfl (lv_room (Nat.le_of_ble_eq_true rfl)) dX5_roll_14 ⟨Nat.le_of_ble_eq_true rfl, Nat.le_of_ble_eq_true rfl⟩) hP hD hS hA [] [0, 1, 2, 3] rfl rfl (by decide) (by decide) (fun u_5 H locs hw_6 hP hD hS => ?_)
  have hP : va_P (dC, dI) vwCl [(oX, .inr (5, [.ref oS, .ref oR, .ref oN, .ref o2, .ref oF, .ref oT])), (oS, .inr (3, [.ref rv, .ref rs, .int (nI kc)])), (rv, .inl (cI, 385, .inl v)), (oR, .inr (2, [.ref oS]))] H := hP
  have hD : va_D A [(oX, .inr (5, [.ref oS, .ref oR, .ref oN, .ref o2, .ref oF, .ref oT])), (oS, .inr (3, [.ref rv, .ref rs, .int (nI kc)])), (rv, .inl (cI, 385, .inl v)), (oR, .inr (2, [.ref oS]))] := hD
  refine lv_aload_n hx hb dX5_roll_17 rfl (lv_at hl 0 rfl) ?_
  refine va_get (D := (dC, dI)) (ci := 5) (v := .ref oS) (C := RX5) (T := TX5) (N := 6) hx hb hts (by decide +kernel) hown hK.1 hP 0 rfl rfl 0 (by decide) (hts (.fieldLink RX5 12 "NoteWatermarks" "state" "LNoteWatermarks$State;") (by decide +kernel)) (fun _ h9 => h9) rfl dX5_roll_18 ?_
  refine lv_iload_n hx hb dX5_roll_21 rfl (lv_at hl 1 rfl) ?_
  refine kq_cS (As := [.int (nI a)]) (rest := [.ref oS]) ⟨hx, hb, hml, hown, hts⟩ (c_X3_circumferencePlace l dC dI cI a ) (va_cwS 1 hts gX5_roll_X3_circumferencePlace rfl rfl rfl (by decide +kernel) ⟨Nat.le_of_ble_eq_true rfl, Nat.le_of_ble_eq_true rfl⟩) (hP.sub [] rfl) hK rfl hl.1 rfl (Nat.le_of_ble_eq_true rfl) dX5_roll_22 ⟨Nat.le_of_ble_eq_true rfl, Nat.le_of_ble_eq_true rfl⟩ ?_
  refine kq_cV (As := [.int (nI (288 + a))]) (rest := []) ⟨hx, hb, hml, hown, hts⟩ (c_X3_at l dC dI cI oS rv rs (nI kc) v (288 + a) (by first | assumption | omega)) (cwV 1 hts gX5_roll_X3_at rfl rfl rfl (by decide +kernel) ⟨Nat.le_of_ble_eq_true rfl, Nat.le_of_ble_eq_true rfl⟩) (hP.sub [1, 2] rfl) hK (ci := 3) (q0 := 0) rfl rfl rfl rfl hl.1 rfl (Nat.le_of_ble_eq_true rfl) dX5_roll_25 ⟨Nat.le_of_ble_eq_true rfl, Nat.le_of_ble_eq_true rfl⟩ ?_
  refine kq_top (z := nI (n_c v a)) (n_I_c hI ha) ?_
  refine lv_istore_n (lv' := [(3, .int (nI (n_c v a))), (0, .ref oX), (1, .int (nI a)), (2, .int (nI q))]) hx hb dX5_roll_28 rfl hl (by decide) rfl (fun ls hl => ?_)
  refine lv_iload_n hx hb dX5_roll_29 rfl (lv_at hl 3 rfl) ?_
  rcases (show q = 0 ∨ q = 1 ∨ q = 2 ∨ q = 3 ∨ q = 4 from by omega) with rfl | rfl | rfl | rfl | rfl
  · skip
    refine lv_tableIn (off := 30) (tgt := 60) hx hb dX5_roll_30 (by decide) (by decide) (by decide) (by decide) ?_
    refine lv_iload_n hx hb dX5_roll_60 rfl (lv_at hl 0 rfl) ?_
    exact kq_retMi () hx hb hr hlocks hP hD hS dX5_roll_61 (by exact (n_I_c hI ha).symm)
  · skip
    refine lv_tableIn (off := 32) (tgt := 62) hx hb dX5_roll_30 (by decide) (by decide) (by decide) (by decide) ?_
    refine lv_aload_n hx hb dX5_roll_62 rfl (lv_at hl 1 rfl) ?_
    refine va_get (D := (dC, dI)) (ci := 5) (v := .ref oS) (C := RX5) (T := TX5) (N := 6) hx hb hts (by decide +kernel) hown hK.1 hP 0 rfl rfl 0 (by decide) (hts (.fieldLink RX5 12 "NoteWatermarks" "state" "LNoteWatermarks$State;") (by decide +kernel)) (fun _ h9 => h9) rfl dX5_roll_63 ?_
    refine lv_iload_n hx hb dX5_roll_66 rfl (lv_at hl 2 rfl) ?_
    refine kq_cS (As := [.int (nI a)]) (rest := [.ref oS]) ⟨hx, hb, hml, hown, hts⟩ (c_X3_phasePlace l dC dI cI a ) (va_cwS 1 hts gX5_roll_X3_phasePlace rfl rfl rfl (by decide +kernel) ⟨Nat.le_of_ble_eq_true rfl, Nat.le_of_ble_eq_true rfl⟩) (hP.sub [] rfl) hK rfl hl.1 rfl (Nat.le_of_ble_eq_true rfl) dX5_roll_67 ⟨Nat.le_of_ble_eq_true rfl, Nat.le_of_ble_eq_true rfl⟩ ?_
    refine kq_cV (As := [.int (nI (291 + a))]) (rest := []) ⟨hx, hb, hml, hown, hts⟩ (c_X3_at l dC dI cI oS rv rs (nI kc) v (291 + a) (by first | assumption | omega)) (cwV 1 hts gX5_roll_X3_at rfl rfl rfl (by decide +kernel) ⟨Nat.le_of_ble_eq_true rfl, Nat.le_of_ble_eq_true rfl⟩) (hP.sub [1, 2] rfl) hK (ci := 3) (q0 := 0) rfl rfl rfl rfl hl.1 rfl (Nat.le_of_ble_eq_true rfl) dX5_roll_70 ⟨Nat.le_of_ble_eq_true rfl, Nat.le_of_ble_eq_true rfl⟩ ?_
    exact kq_retMi () hx hb hr hlocks hP hD hS dX5_roll_73 (by rfl)
  · skip
    refine lv_tableIn (off := 44) (tgt := 74) hx hb dX5_roll_30 (by decide) (by decide) (by decide) (by decide) ?_
    refine lv_aload_n hx hb dX5_roll_74 rfl (lv_at hl 1 rfl) ?_
    refine va_get (D := (dC, dI)) (ci := 5) (v := .ref oR) (C := RX5) (T := TX5) (N := 6) hx hb hts (by decide +kernel) hown hK.1 hP 0 rfl rfl 1 (by decide) (hts (.fieldLink RX5 21 "NoteWatermarks" "rolls" "LNoteWatermarks$Rolls;") (by decide +kernel)) (fun _ h9 => h9) rfl dX5_roll_75 ?_
    refine lv_iload_n hx hb dX5_roll_78 rfl (lv_at hl 2 rfl) ?_
    refine lv_iload_n hx hb dX5_roll_79 rfl (lv_at hl 0 rfl) ?_
    refine kq_cV (As := [.int (nI a), .int (nI (n_c v a))]) (rest := []) ⟨hx, hb, hml, hown, hts⟩ (c_X2_wiresUpTo l dC dI cI oR oS rv rs (nI kc) v a (n_c v a) (by first | assumption | omega) (by first | assumption | omega)) (cwV 2 hts gX5_roll_X2_wiresUpTo rfl rfl rfl (by decide +kernel) ⟨Nat.le_of_ble_eq_true rfl, Nat.le_of_ble_eq_true rfl⟩) (hP.sub [3, 1, 2] rfl) hK (ci := 2) (q0 := 0) rfl rfl rfl rfl hl.1 rfl (Nat.le_of_ble_eq_true rfl) dX5_roll_80 ⟨Nat.le_of_ble_eq_true rfl, Nat.le_of_ble_eq_true rfl⟩ ?_
    exact kq_retMi () hx hb hr hlocks hP hD hS dX5_roll_83 (by rfl)
  · skip
    refine lv_tableIn (off := 54) (tgt := 84) hx hb dX5_roll_30 (by decide) (by decide) (by decide) (by decide) ?_
    refine lv_aload_n hx hb dX5_roll_84 rfl (lv_at hl 1 rfl) ?_
    refine va_get (D := (dC, dI)) (ci := 5) (v := .ref oR) (C := RX5) (T := TX5) (N := 6) hx hb hts (by decide +kernel) hown hK.1 hP 0 rfl rfl 1 (by decide) (hts (.fieldLink RX5 21 "NoteWatermarks" "rolls" "LNoteWatermarks$Rolls;") (by decide +kernel)) (fun _ h9 => h9) rfl dX5_roll_85 ?_
    refine lv_iload_n hx hb dX5_roll_88 rfl (lv_at hl 2 rfl) ?_
    refine lv_iload_n hx hb dX5_roll_89 rfl (lv_at hl 0 rfl) ?_
    refine kq_cV (As := [.int (nI a), .int (nI (n_c v a))]) (rest := []) ⟨hx, hb, hml, hown, hts⟩ (c_X2_heightsUpTo l dC dI cI oR oS rv rs (nI kc) v a (n_c v a) (by first | assumption | omega) (by first | assumption | omega)) (cwV 2 hts gX5_roll_X2_heightsUpTo rfl rfl rfl (by decide +kernel) ⟨Nat.le_of_ble_eq_true rfl, Nat.le_of_ble_eq_true rfl⟩) (hP.sub [3, 1, 2] rfl) hK (ci := 2) (q0 := 0) rfl rfl rfl rfl hl.1 rfl (Nat.le_of_ble_eq_true rfl) dX5_roll_90 ⟨Nat.le_of_ble_eq_true rfl, Nat.le_of_ble_eq_true rfl⟩ ?_
    refine lv_sipush (v := 1000) hx hb dX5_roll_93 (by decide) ?_
    refine lv_iadd hx hb dX5_roll_96 ?_
    exact kq_retMi () hx hb hr hlocks hP hD hS dX5_roll_97 (by rfl)
  · skip
    refine lv_tableOut (tgt := 98) hx hb dX5_roll_30 (by decide) (by decide) ?_
    refine lv_aload_n hx hb dX5_roll_98 rfl (lv_at hl 1 rfl) ?_
    refine va_get (D := (dC, dI)) (ci := 5) (v := .ref oR) (C := RX5) (T := TX5) (N := 6) hx hb hts (by decide +kernel) hown hK.1 hP 0 rfl rfl 1 (by decide) (hts (.fieldLink RX5 21 "NoteWatermarks" "rolls" "LNoteWatermarks$Rolls;") (by decide +kernel)) (fun _ h9 => h9) rfl dX5_roll_99 ?_
    refine lv_iload_n hx hb dX5_roll_102 rfl (lv_at hl 2 rfl) ?_
    refine lv_aload_n hx hb dX5_roll_103 rfl (lv_at hl 1 rfl) ?_
    refine va_get (D := (dC, dI)) (ci := 5) (v := .ref oS) (C := RX5) (T := TX5) (N := 6) hx hb hts (by decide +kernel) hown hK.1 hP 0 rfl rfl 0 (by decide) (hts (.fieldLink RX5 12 "NoteWatermarks" "state" "LNoteWatermarks$State;") (by decide +kernel)) (fun _ h9 => h9) rfl dX5_roll_104 ?_
    refine lv_iconst (v := 1) hx hb dX5_roll_107 (by decide) ?_
    refine kq_cS (As := [.int 1]) (rest := [.ref oS, .int (nI a), .ref oR]) ⟨hx, hb, hml, hown, hts⟩ (c_X3_settingPlace l dC dI cI 1 ) (va_cwS 1 hts gX5_roll_X3_settingPlace rfl rfl rfl (by decide +kernel) ⟨Nat.le_of_ble_eq_true rfl, Nat.le_of_ble_eq_true rfl⟩) (hP.sub [] rfl) hK rfl hl.1 rfl (Nat.le_of_ble_eq_true rfl) dX5_roll_108 ⟨Nat.le_of_ble_eq_true rfl, Nat.le_of_ble_eq_true rfl⟩ ?_
    refine kq_cV (As := [.int (nI (382 + 1))]) (rest := [.int (nI a), .ref oR]) ⟨hx, hb, hml, hown, hts⟩ (c_X3_at l dC dI cI oS rv rs (nI kc) v (382 + 1) (by first | assumption | omega)) (cwV 1 hts gX5_roll_X3_at rfl rfl rfl (by decide +kernel) ⟨Nat.le_of_ble_eq_true rfl, Nat.le_of_ble_eq_true rfl⟩) (hP.sub [1, 2] rfl) hK (ci := 3) (q0 := 0) rfl rfl rfl rfl hl.1 rfl (Nat.le_of_ble_eq_true rfl) dX5_roll_111 ⟨Nat.le_of_ble_eq_true rfl, Nat.le_of_ble_eq_true rfl⟩ ?_
    refine kq_top (z := nI (n_s v 1)) ((n_I_s hI).2.2.1) ?_
    refine kq_cV (As := [.int (nI a), .int (nI (n_s v 1))]) (rest := []) ⟨hx, hb, hml, hown, hts⟩ (c_X2_notesAround l dC dI cI oR oS rv rs (nI kc) v a (n_s v 1) (by first | assumption | omega) (by first | assumption | omega) (by first | assumption | omega)) (cwV 2 hts gX5_roll_X2_notesAround rfl rfl rfl (by decide +kernel) ⟨Nat.le_of_ble_eq_true rfl, Nat.le_of_ble_eq_true rfl⟩) (hP.sub [3, 1, 2] rfl) hK (ci := 2) (q0 := 0) rfl rfl rfl rfl hl.1 rfl (Nat.le_of_ble_eq_true rfl) dX5_roll_114 ⟨Nat.le_of_ble_eq_true rfl, Nat.le_of_ble_eq_true rfl⟩ ?_
    exact kq_retMi () hx hb hr hlocks hP hD hS dX5_roll_117 (by rfl)
set_option maxHeartbeats 4000000 in
set_option maxRecDepth 100000 in
theorem c_X5_cell (l : Launch) (dC : Nat → ClassId) (dI : Nat → Nat → Nat) (cI : ClassId) (sz : Nat) (oX : Nat) (oS : Nat) (oR : Nat) (oN : Nat) (o2 : Nat) (oF : Nat) (oT : Nat) (rv : Nat) (rs : Nat) (kc : Nat) (rp : Nat) (rt : Nat) (rl : Nat) (v : Nat → Int32) (fp : Nat → Int32) (ft : Nat → Int32) (fl : Nat → Int32) (n : Nat) (a : Nat) (b : Nat) (q : Nat) (hI : n_I v) (hn : n < 1000) (ha : a < 6) (hb9 : b < 12) (hq : q < 4) : Met l yX5_cell wsX5_cell ({ frames := 3, cells := 0, slots := 0, locals := 72 }) (kq_M dC dI cI [.ref oX, .int (nI n), .int (nI a), .int (nI b), .int (nI q)] sz [(oX, .inr (5, [.ref oS, .ref oR, .ref oN, .ref o2, .ref oF, .ref oT])), (oS, .inr (3, [.ref rv, .ref rs, .int (nI kc)])), (rv, .inl (cI, 385, .inl v)), (oN, .inr (1, [.ref oS, .ref rp, .ref rt, .ref rl])), (rp, .inl (cI, 72, .inl fp)), (rt, .inl (cI, 72, .inl ft)), (rl, .inl (cI, 72, .inl fl))]) (va_Qi (fun (r : Int32) (u : (Nat → Int32) × (Nat → Int32) × (Nat → Int32)) => r = n_cell v n a b q) (kq_B dC dI (va_A [(oX, .inr (5, [.ref oS, .ref oR, .ref oN, .ref o2, .ref oF, .ref oT])), (oS, .inr (3, [.ref rv, .ref rs, .int (nI kc)])), (rv, .inl (cI, 385, .inl v)), (oN, .inr (1, [.ref oS, .ref rp, .ref rt, .ref rl])), (rp, .inl (cI, 72, .inl fp)), (rt, .inl (cI, 72, .inl ft)), (rl, .inl (cI, 72, .inl fl))] sz) (fun u : (Nat → Int32) × (Nat → Int32) × (Nat → Int32) => [(oX, .inr (5, [.ref oS, .ref oR, .ref oN, .ref o2, .ref oF, .ref oT])), (oS, .inr (3, [.ref rv, .ref rs, .int (nI kc)])), (rv, .inl (cI, 385, .inl v)), (oN, .inr (1, [.ref oS, .ref rp, .ref rt, .ref rl])), (rp, .inl (cI, 72, .inl u.1)), (rt, .inl (cI, 72, .inl u.2.1)), (rl, .inl (cI, 72, .inl u.2.2))])) (va_A [(oX, .inr (5, [.ref oS, .ref oR, .ref oN, .ref o2, .ref oF, .ref oT])), (oS, .inr (3, [.ref rv, .ref rs, .int (nI kc)])), (rv, .inl (cI, 385, .inl v)), (oN, .inr (1, [.ref oS, .ref rp, .ref rt, .ref rl])), (rp, .inl (cI, 72, .inl fp)), (rt, .inl (cI, 72, .inl ft)), (rl, .inl (cI, 72, .inl fl))] sz)) 0 0 (va_A [(oX, .inr (5, [.ref oS, .ref oR, .ref oN, .ref o2, .ref oF, .ref oT])), (oS, .inr (3, [.ref rv, .ref rs, .int (nI kc)])), (rv, .inl (cI, 385, .inl v)), (oN, .inr (1, [.ref oS, .ref rp, .ref rt, .ref rl])), (rp, .inl (cI, 72, .inl fp)), (rt, .inl (cI, 72, .inl ft)), (rl, .inl (cI, 72, .inl fl))] sz) := by
  refine kq_startM (cc := cX5_cell) (maxL := 5) (ret := (some .int)) (by decide) rfl (Nat.le_of_ble_eq_true rfl) ?_
  intro p e s m below meth c hx hb hr hml hown hlocks hts hsz hA hP hD hS hK hnm ls hl
  subst hsz
  generalize hAe : va_A [(oX, .inr (5, [.ref oS, .ref oR, .ref oN, .ref o2, .ref oF, .ref oT])), (oS, .inr (3, [.ref rv, .ref rs, .int (nI kc)])), (rv, .inl (cI, 385, .inl v)), (oN, .inr (1, [.ref oS, .ref rp, .ref rt, .ref rl])), (rp, .inl (cI, 72, .inl fp)), (rt, .inl (cI, 72, .inl ft)), (rl, .inl (cI, 72, .inl fl))] s.heap.size = A at hA hD hS ⊢
  have hown : s.vm.findClass RX5 = some m.cls := hown
  have hl : lv_has ls 5 [(0, .ref oX), (1, .int (nI n)), (2, .int (nI a)), (3, .int (nI b)), (4, .int (nI q))] := hl
  refine lv_iload_n hx hb dX5_cell_0 rfl (lv_at hl 1 rfl) ?_
  refine lv_sipush (v := 1000) hx hb dX5_cell_1 (by decide) ?_
  refine kq_cS (As := [.int (nI n), .int 1000]) (rest := []) ⟨hx, hb, hml, hown, hts⟩ (c_X5_isIndex_n l dC dI cI n 1000 (by first | assumption | omega) (by first | assumption | omega)) (va_cwS 2 hts gX5_cell_X5_isIndex rfl rfl rfl (by decide +kernel) ⟨Nat.le_of_ble_eq_true rfl, Nat.le_of_ble_eq_true rfl⟩) (hP.sub [] rfl) hK rfl hl.1 rfl (Nat.le_of_ble_eq_true rfl) dX5_cell_4 ⟨Nat.le_of_ble_eq_true rfl, Nat.le_of_ble_eq_true rfl⟩ ?_
  refine lv_if_eq (tgt := 32) hx hb dX5_cell_7 (by decide) (fun c_1 => ?_) (fun c_1 => ?_)
  · skip
    have c_1 := kq_bf c_1
    exact absurd hn c_1
  · skip
    have c_1 := kq_bt c_1
    refine lv_iload_n hx hb dX5_cell_10 rfl (lv_at hl 2 rfl) ?_
    refine lv_bipush (v := 6) hx hb dX5_cell_11 (by decide) ?_
    refine kq_cS (As := [.int (nI a), .int 6]) (rest := []) ⟨hx, hb, hml, hown, hts⟩ (c_X5_isIndex_n l dC dI cI a 6 (by first | assumption | omega) (by first | assumption | omega)) (va_cwS 2 hts gX5_cell_X5_isIndex rfl rfl rfl (by decide +kernel) ⟨Nat.le_of_ble_eq_true rfl, Nat.le_of_ble_eq_true rfl⟩) (hP.sub [] rfl) hK rfl hl.1 rfl (Nat.le_of_ble_eq_true rfl) dX5_cell_13 ⟨Nat.le_of_ble_eq_true rfl, Nat.le_of_ble_eq_true rfl⟩ ?_
    refine lv_if_eq (tgt := 32) hx hb dX5_cell_16 (by decide) (fun c_2 => ?_) (fun c_2 => ?_)
    · skip
      have c_2 := kq_bf c_2
      exact absurd ha c_2
    · skip
      have c_2 := kq_bt c_2
      refine lv_iload_n hx hb dX5_cell_19 rfl (lv_at hl 3 rfl) ?_
      refine lv_bipush (v := 12) hx hb dX5_cell_20 (by decide) ?_
      refine kq_cS (As := [.int (nI b), .int 12]) (rest := []) ⟨hx, hb, hml, hown, hts⟩ (c_X5_isIndex_n l dC dI cI b 12 (by first | assumption | omega) (by first | assumption | omega)) (va_cwS 2 hts gX5_cell_X5_isIndex rfl rfl rfl (by decide +kernel) ⟨Nat.le_of_ble_eq_true rfl, Nat.le_of_ble_eq_true rfl⟩) (hP.sub [] rfl) hK rfl hl.1 rfl (Nat.le_of_ble_eq_true rfl) dX5_cell_22 ⟨Nat.le_of_ble_eq_true rfl, Nat.le_of_ble_eq_true rfl⟩ ?_
      refine lv_if_eq (tgt := 32) hx hb dX5_cell_25 (by decide) (fun c_3 => ?_) (fun c_3 => ?_)
      · skip
        have c_3 := kq_bf c_3
        exact absurd hb9 c_3
      · skip
        have c_3 := kq_bt c_3
        refine lv_iconst (v := 1) hx hb dX5_cell_28 (by decide) ?_
        refine lv_goto (tgt := 33) hx hb dX5_cell_29 (by decide) ?_
        refine kq_callMv (wr := [(oX, .inr (5, [.ref oS, .ref oR, .ref oN, .ref o2, .ref oF, .ref oT])), (oS, .inr (3, [.ref rv, .ref rs, .int (nI kc)])), (rv, .inl (cI, 385, .inl v)), (oN, .inr (1, [.ref oS, .ref rp, .ref rt, .ref rl])), (rp, .inl (cI, 72, .inl fp)), (rt, .inl (cI, 72, .inl ft)), (rl, .inl (cI, 72, .inl fl))]) (va_runS (As := [.int 1]) (rest := []) ⟨hx, hb, hml, hown, hts⟩ (c_X5_needPlace l dC dI cI s.heap.size  ) (va_cwS 1 hts gX5_cell_X5_needPlace rfl rfl rfl (by decide +kernel) ⟨Nat.le_of_ble_eq_true rfl, Nat.le_of_ble_eq_true rfl⟩) (kq_preS (hP.sub [] rfl) (hD.sub [] (by decide) rfl) hK) rfl rfl hl.1 rfl (lv_room (Nat.le_of_ble_eq_true rfl)) dX5_cell_33 ⟨Nat.le_of_ble_eq_true rfl, Nat.le_of_ble_eq_true rfl⟩) hP hD hS hA [] [0, 1, 2, 3, 4, 5, 6] rfl rfl (by decide) (by decide) (fun u_5 H locs hw_6 hP hD hS => ?_)
        have hP : va_P (dC, dI) vwCl [(oX, .inr (5, [.ref oS, .ref oR, .ref oN, .ref o2, .ref oF, .ref oT])), (oS, .inr (3, [.ref rv, .ref rs, .int (nI kc)])), (rv, .inl (cI, 385, .inl v)), (oN, .inr (1, [.ref oS, .ref rp, .ref rt, .ref rl])), (rp, .inl (cI, 72, .inl fp)), (rt, .inl (cI, 72, .inl ft)), (rl, .inl (cI, 72, .inl fl))] H := hP
        have hD : va_D A [(oX, .inr (5, [.ref oS, .ref oR, .ref oN, .ref o2, .ref oF, .ref oT])), (oS, .inr (3, [.ref rv, .ref rs, .int (nI kc)])), (rv, .inl (cI, 385, .inl v)), (oN, .inr (1, [.ref oS, .ref rp, .ref rt, .ref rl])), (rp, .inl (cI, 72, .inl fp)), (rt, .inl (cI, 72, .inl ft)), (rl, .inl (cI, 72, .inl fl))] := hD
        refine lv_iload hx hb dX5_cell_36 (lv_at hl 4 rfl) ?_
        refine lv_iconst (v := 0) hx hb dX5_cell_38 (by decide) ?_
        refine lv_iconst (v := 3) hx hb dX5_cell_39 (by decide) ?_
        refine kq_cS (As := [.int (nI q), .int 0, .int 3]) (rest := []) ⟨hx, hb, hml, hown, hts⟩ (c_X5_isBetween_n l dC dI cI q 0 3 (by first | assumption | omega) (by first | assumption | omega) (by first | assumption | omega)) (va_cwS 3 hts gX5_cell_X5_isBetween rfl rfl rfl (by decide +kernel) ⟨Nat.le_of_ble_eq_true rfl, Nat.le_of_ble_eq_true rfl⟩) (hP.sub [] rfl) hK rfl hl.1 rfl (Nat.le_of_ble_eq_true rfl) dX5_cell_40 ⟨Nat.le_of_ble_eq_true rfl, Nat.le_of_ble_eq_true rfl⟩ ?_
        refine kq_top (z := 1) (if_pos (by omega)) ?_
        refine kq_callMv (wr := [(oX, .inr (5, [.ref oS, .ref oR, .ref oN, .ref o2, .ref oF, .ref oT])), (oS, .inr (3, [.ref rv, .ref rs, .int (nI kc)])), (rv, .inl (cI, 385, .inl v)), (oN, .inr (1, [.ref oS, .ref rp, .ref rt, .ref rl])), (rp, .inl (cI, 72, .inl fp)), (rt, .inl (cI, 72, .inl ft)), (rl, .inl (cI, 72, .inl fl))]) (va_runS (As := [.int 1]) (rest := []) ⟨hx, hb, hml, hown, hts⟩ (c_X5_needArgument l dC dI cI H.size  ) (va_cwS 1 hts gX5_cell_X5_needArgument rfl rfl rfl (by decide +kernel) ⟨Nat.le_of_ble_eq_true rfl, Nat.le_of_ble_eq_true rfl⟩) (kq_preS (hP.sub [] rfl) (hD.sub [] (by decide) rfl) hK) rfl rfl hl.1 rfl (lv_room (Nat.le_of_ble_eq_true rfl)) dX5_cell_43 ⟨Nat.le_of_ble_eq_true rfl, Nat.le_of_ble_eq_true rfl⟩) hP hD hS hA [] [0, 1, 2, 3, 4, 5, 6] rfl rfl (by decide) (by decide) (fun u_8 H locs hw_9 hP hD hS => ?_)
        have hP : va_P (dC, dI) vwCl [(oX, .inr (5, [.ref oS, .ref oR, .ref oN, .ref o2, .ref oF, .ref oT])), (oS, .inr (3, [.ref rv, .ref rs, .int (nI kc)])), (rv, .inl (cI, 385, .inl v)), (oN, .inr (1, [.ref oS, .ref rp, .ref rt, .ref rl])), (rp, .inl (cI, 72, .inl fp)), (rt, .inl (cI, 72, .inl ft)), (rl, .inl (cI, 72, .inl fl))] H := hP
        have hD : va_D A [(oX, .inr (5, [.ref oS, .ref oR, .ref oN, .ref o2, .ref oF, .ref oT])), (oS, .inr (3, [.ref rv, .ref rs, .int (nI kc)])), (rv, .inl (cI, 385, .inl v)), (oN, .inr (1, [.ref oS, .ref rp, .ref rt, .ref rl])), (rp, .inl (cI, 72, .inl fp)), (rt, .inl (cI, 72, .inl ft)), (rl, .inl (cI, 72, .inl fl))] := hD
        refine lv_aload_n hx hb dX5_cell_46 rfl (lv_at hl 0 rfl) ?_
        refine va_get (D := (dC, dI)) (ci := 5) (v := .ref oN) (C := RX5) (T := TX5) (N := 6) hx hb hts (by decide +kernel) hown hK.1 hP 0 rfl rfl 2 (by decide) (hts (.fieldLink RX5 28 "NoteWatermarks" "view" "LNoteWatermarks$Note;") (by decide +kernel)) (fun _ h9 => h9) rfl dX5_cell_47 ?_
        refine lv_iload_n hx hb dX5_cell_50 rfl (lv_at hl 1 rfl) ?_
        refine kq_callMv (wr := [(oX, .inr (5, [.ref oS, .ref oR, .ref oN, .ref o2, .ref oF, .ref oT]))]) (va_runV (As := [.int (nI n)]) (rest := []) ⟨hx, hb, hml, hown, hts⟩ (c_X1_look l dC dI cI H.size oN oS rv rs rp rt rl (nI kc) v fp ft fl n (by first | assumption | omega) (by first | assumption | omega)) (cwV 1 hts gX5_cell_X1_look rfl rfl rfl (by decide +kernel) ⟨Nat.le_of_ble_eq_true rfl, Nat.le_of_ble_eq_true rfl⟩) (kq_preV (ci := 1) (q0 := 0) (hP.sub [3, 1, 2, 4, 5, 6] rfl) (hD.sub [3, 1, 2, 4, 5, 6] (by decide) rfl) hK rfl rfl) rfl rfl hl.1 rfl (lv_room (Nat.le_of_ble_eq_true rfl)) dX5_cell_51 ⟨Nat.le_of_ble_eq_true rfl, Nat.le_of_ble_eq_true rfl⟩) hP hD hS hA [3, 1, 2, 4, 5, 6] [0] rfl rfl (by decide) (by decide) (fun u_11 H locs hw_12 hP hD hS => ?_)
        obtain ⟨gp_13, gt_14, gl_15⟩ := u_11
        have hP : va_P (dC, dI) vwCl [(oX, .inr (5, [.ref oS, .ref oR, .ref oN, .ref o2, .ref oF, .ref oT])), (oN, .inr (1, [.ref oS, .ref rp, .ref rt, .ref rl])), (oS, .inr (3, [.ref rv, .ref rs, .int (nI kc)])), (rv, .inl (cI, 385, .inl v)), (rp, .inl (cI, 72, .inl gp_13)), (rt, .inl (cI, 72, .inl gt_14)), (rl, .inl (cI, 72, .inl gl_15))] H := hP
        have hD : va_D A [(oX, .inr (5, [.ref oS, .ref oR, .ref oN, .ref o2, .ref oF, .ref oT])), (oN, .inr (1, [.ref oS, .ref rp, .ref rt, .ref rl])), (oS, .inr (3, [.ref rv, .ref rs, .int (nI kc)])), (rv, .inl (cI, 385, .inl v)), (rp, .inl (cI, 72, .inl gp_13)), (rt, .inl (cI, 72, .inl gt_14)), (rl, .inl (cI, 72, .inl gl_15))] := hD
        try dsimp only at hw_12
        have hlk := hw_12
        refine lv_iload hx hb dX5_cell_54 (lv_at hl 4 rfl) ?_
        rcases (show q = 0 ∨ q = 1 ∨ q = 2 ∨ q = 3 from by omega) with rfl | rfl | rfl | rfl
        · skip
          refine lv_tableIn (off := 28) (tgt := 84) hx hb dX5_cell_56 (by decide) (by decide) (by decide) (by decide) ?_
          refine lv_aload_n hx hb dX5_cell_84 rfl (lv_at hl 0 rfl) ?_
          refine va_get (D := (dC, dI)) (ci := 5) (v := .ref oN) (C := RX5) (T := TX5) (N := 6) hx hb hts (by decide +kernel) hown hK.1 hP 0 rfl rfl 2 (by decide) (hts (.fieldLink RX5 28 "NoteWatermarks" "view" "LNoteWatermarks$Note;") (by decide +kernel)) (fun _ h9 => h9) rfl dX5_cell_85 ?_
          refine lv_iload_n hx hb dX5_cell_88 rfl (lv_at hl 2 rfl) ?_
          refine lv_iload_n hx hb dX5_cell_89 rfl (lv_at hl 3 rfl) ?_
          refine kq_cV (As := [.int (nI a), .int (nI b)]) (rest := []) ⟨hx, hb, hml, hown, hts⟩ (c_X1_toneAt l dC dI cI oN oS rp rt rl gt_14 a b (by first | assumption | omega) (by first | assumption | omega)) (cwV 2 hts gX5_cell_X1_toneAt rfl rfl rfl (by decide +kernel) ⟨Nat.le_of_ble_eq_true rfl, Nat.le_of_ble_eq_true rfl⟩) (hP.sub [1, 5] rfl) hK (ci := 1) (q0 := 0) rfl rfl rfl rfl hl.1 rfl (Nat.le_of_ble_eq_true rfl) dX5_cell_90 ⟨Nat.le_of_ble_eq_true rfl, Nat.le_of_ble_eq_true rfl⟩ ?_
          exact kq_retMi (gp_13, gt_14, gl_15) hx hb hr hlocks (hP.sub [0, 2, 3, 1, 4, 5, 6] rfl) (hD.sub [0, 2, 3, 1, 4, 5, 6] (by decide) rfl) hS dX5_cell_93 (by rw [(hlk (a * 12 + b) (by omega)).2.1, show (a * 12 + b) / 12 = a by omega, show (a * 12 + b) % 12 = b by omega]; rfl)
        · skip
          refine lv_tableIn (off := 38) (tgt := 94) hx hb dX5_cell_56 (by decide) (by decide) (by decide) (by decide) ?_
          refine lv_aload_n hx hb dX5_cell_94 rfl (lv_at hl 0 rfl) ?_
          refine va_get (D := (dC, dI)) (ci := 5) (v := .ref oS) (C := RX5) (T := TX5) (N := 6) hx hb hts (by decide +kernel) hown hK.1 hP 0 rfl rfl 0 (by decide) (hts (.fieldLink RX5 12 "NoteWatermarks" "state" "LNoteWatermarks$State;") (by decide +kernel)) (fun _ h9 => h9) rfl dX5_cell_95 ?_
          refine lv_iload_n hx hb dX5_cell_98 rfl (lv_at hl 2 rfl) ?_
          refine lv_iload_n hx hb dX5_cell_99 rfl (lv_at hl 3 rfl) ?_
          refine kq_cS (As := [.int (nI a), .int (nI b)]) (rest := [.ref oS]) ⟨hx, hb, hml, hown, hts⟩ (c_X3_inkPlace l dC dI cI a b ) (va_cwS 2 hts gX5_cell_X3_inkPlace rfl rfl rfl (by decide +kernel) ⟨Nat.le_of_ble_eq_true rfl, Nat.le_of_ble_eq_true rfl⟩) (hP.sub [] rfl) hK rfl hl.1 rfl (Nat.le_of_ble_eq_true rfl) dX5_cell_100 ⟨Nat.le_of_ble_eq_true rfl, Nat.le_of_ble_eq_true rfl⟩ ?_
          refine kq_cV (As := [.int (nI (294 + a * 12 + b))]) (rest := []) ⟨hx, hb, hml, hown, hts⟩ (c_X3_at l dC dI cI oS rv rs (nI kc) v (294 + a * 12 + b) (by first | assumption | omega)) (cwV 1 hts gX5_cell_X3_at rfl rfl rfl (by decide +kernel) ⟨Nat.le_of_ble_eq_true rfl, Nat.le_of_ble_eq_true rfl⟩) (hP.sub [2, 3] rfl) hK (ci := 3) (q0 := 0) rfl rfl rfl rfl hl.1 rfl (Nat.le_of_ble_eq_true rfl) dX5_cell_103 ⟨Nat.le_of_ble_eq_true rfl, Nat.le_of_ble_eq_true rfl⟩ ?_
          exact kq_retMi (gp_13, gt_14, gl_15) hx hb hr hlocks (hP.sub [0, 2, 3, 1, 4, 5, 6] rfl) (hD.sub [0, 2, 3, 1, 4, 5, 6] (by decide) rfl) hS dX5_cell_106 (by rfl)
        · skip
          refine lv_tableIn (off := 51) (tgt := 107) hx hb dX5_cell_56 (by decide) (by decide) (by decide) (by decide) ?_
          refine lv_aload_n hx hb dX5_cell_107 rfl (lv_at hl 0 rfl) ?_
          refine va_get (D := (dC, dI)) (ci := 5) (v := .ref oN) (C := RX5) (T := TX5) (N := 6) hx hb hts (by decide +kernel) hown hK.1 hP 0 rfl rfl 2 (by decide) (hts (.fieldLink RX5 28 "NoteWatermarks" "view" "LNoteWatermarks$Note;") (by decide +kernel)) (fun _ h9 => h9) rfl dX5_cell_108 ?_
          refine lv_iload_n hx hb dX5_cell_111 rfl (lv_at hl 2 rfl) ?_
          refine lv_iload_n hx hb dX5_cell_112 rfl (lv_at hl 3 rfl) ?_
          refine kq_cV (As := [.int (nI a), .int (nI b)]) (rest := []) ⟨hx, hb, hml, hown, hts⟩ (c_X1_lightAt l dC dI cI oN oS rp rt rl gl_15 a b (by first | assumption | omega) (by first | assumption | omega)) (cwV 2 hts gX5_cell_X1_lightAt rfl rfl rfl (by decide +kernel) ⟨Nat.le_of_ble_eq_true rfl, Nat.le_of_ble_eq_true rfl⟩) (hP.sub [1, 6] rfl) hK (ci := 1) (q0 := 0) rfl rfl rfl rfl hl.1 rfl (Nat.le_of_ble_eq_true rfl) dX5_cell_113 ⟨Nat.le_of_ble_eq_true rfl, Nat.le_of_ble_eq_true rfl⟩ ?_
          refine lv_bipush (v := 100) hx hb dX5_cell_116 (by decide) ?_
          refine lv_iadd hx hb dX5_cell_118 ?_
          exact kq_retMi (gp_13, gt_14, gl_15) hx hb hr hlocks (hP.sub [0, 2, 3, 1, 4, 5, 6] rfl) (hD.sub [0, 2, 3, 1, 4, 5, 6] (by decide) rfl) hS dX5_cell_119 (by rw [(hlk (a * 12 + b) (by omega)).2.2, show (a * 12 + b) / 12 = a by omega, show (a * 12 + b) % 12 = b by omega]; rfl)
        · skip
          refine lv_tableOut (tgt := 120) hx hb dX5_cell_56 (by decide) (by decide) ?_
          refine lv_aload_n hx hb dX5_cell_120 rfl (lv_at hl 0 rfl) ?_
          refine va_get (D := (dC, dI)) (ci := 5) (v := .ref oN) (C := RX5) (T := TX5) (N := 6) hx hb hts (by decide +kernel) hown hK.1 hP 0 rfl rfl 2 (by decide) (hts (.fieldLink RX5 28 "NoteWatermarks" "view" "LNoteWatermarks$Note;") (by decide +kernel)) (fun _ h9 => h9) rfl dX5_cell_121 ?_
          refine lv_iload_n hx hb dX5_cell_124 rfl (lv_at hl 2 rfl) ?_
          refine lv_iload_n hx hb dX5_cell_125 rfl (lv_at hl 3 rfl) ?_
          refine kq_cV (As := [.int (nI a), .int (nI b)]) (rest := []) ⟨hx, hb, hml, hown, hts⟩ (c_X1_pressureAt l dC dI cI oN oS rp rt rl gp_13 a b (by first | assumption | omega) (by first | assumption | omega)) (cwV 2 hts gX5_cell_X1_pressureAt rfl rfl rfl (by decide +kernel) ⟨Nat.le_of_ble_eq_true rfl, Nat.le_of_ble_eq_true rfl⟩) (hP.sub [1, 4] rfl) hK (ci := 1) (q0 := 0) rfl rfl rfl rfl hl.1 rfl (Nat.le_of_ble_eq_true rfl) dX5_cell_126 ⟨Nat.le_of_ble_eq_true rfl, Nat.le_of_ble_eq_true rfl⟩ ?_
          refine lv_bipush (v := 100) hx hb dX5_cell_129 (by decide) ?_
          refine lv_iadd hx hb dX5_cell_131 ?_
          exact kq_retMi (gp_13, gt_14, gl_15) hx hb hr hlocks (hP.sub [0, 2, 3, 1, 4, 5, 6] rfl) (hD.sub [0, 2, 3, 1, 4, 5, 6] (by decide) rfl) hS dX5_cell_132 (by rw [(hlk (a * 12 + b) (by omega)).1, show (a * 12 + b) / 12 = a by omega, show (a * 12 + b) % 12 = b by omega]; rfl)
set_option maxHeartbeats 4000000 in
set_option maxRecDepth 100000 in
theorem c_X5_figureOf (l : Launch) (dC : Nat → ClassId) (dI : Nat → Nat → Nat) (cI : ClassId) (sz : Nat) (oX : Nat) (oS : Nat) (oR : Nat) (oN : Nat) (o2 : Nat) (oF : Nat) (oT : Nat) (rv : Nat) (rs : Nat) (kc : Nat) (rp : Nat) (rt : Nat) (rl : Nat) (v : Nat → Int32) (fp : Nat → Int32) (ft : Nat → Int32) (fl : Nat → Int32) (f : Nat) (q : Nat) (hI : n_I v) (hf : f < 4) (hq : q < 5) : Met l yX5_figureOf wsX5_figureOf ({ frames := 5, cells := 0, slots := 0, locals := 121 }) (kq_M dC dI cI [.ref oX, .int (nI f), .int (nI q)] sz [(oX, .inr (5, [.ref oS, .ref oR, .ref oN, .ref o2, .ref oF, .ref oT])), (oS, .inr (3, [.ref rv, .ref rs, .int (nI kc)])), (rv, .inl (cI, 385, .inl v)), (oF, .inr (0, [.ref oS, .ref oN])), (oN, .inr (1, [.ref oS, .ref rp, .ref rt, .ref rl])), (rp, .inl (cI, 72, .inl fp)), (rt, .inl (cI, 72, .inl ft)), (rl, .inl (cI, 72, .inl fl))]) (va_Qi (fun (r : Int32) (u : (Nat → Int32) × (Nat → Int32) × (Nat → Int32)) => r = n_fo v f q) (kq_B dC dI (va_A [(oX, .inr (5, [.ref oS, .ref oR, .ref oN, .ref o2, .ref oF, .ref oT])), (oS, .inr (3, [.ref rv, .ref rs, .int (nI kc)])), (rv, .inl (cI, 385, .inl v)), (oF, .inr (0, [.ref oS, .ref oN])), (oN, .inr (1, [.ref oS, .ref rp, .ref rt, .ref rl])), (rp, .inl (cI, 72, .inl fp)), (rt, .inl (cI, 72, .inl ft)), (rl, .inl (cI, 72, .inl fl))] sz) (fun u : (Nat → Int32) × (Nat → Int32) × (Nat → Int32) => [(oX, .inr (5, [.ref oS, .ref oR, .ref oN, .ref o2, .ref oF, .ref oT])), (oS, .inr (3, [.ref rv, .ref rs, .int (nI kc)])), (rv, .inl (cI, 385, .inl v)), (oF, .inr (0, [.ref oS, .ref oN])), (oN, .inr (1, [.ref oS, .ref rp, .ref rt, .ref rl])), (rp, .inl (cI, 72, .inl u.1)), (rt, .inl (cI, 72, .inl u.2.1)), (rl, .inl (cI, 72, .inl u.2.2))])) (va_A [(oX, .inr (5, [.ref oS, .ref oR, .ref oN, .ref o2, .ref oF, .ref oT])), (oS, .inr (3, [.ref rv, .ref rs, .int (nI kc)])), (rv, .inl (cI, 385, .inl v)), (oF, .inr (0, [.ref oS, .ref oN])), (oN, .inr (1, [.ref oS, .ref rp, .ref rt, .ref rl])), (rp, .inl (cI, 72, .inl fp)), (rt, .inl (cI, 72, .inl ft)), (rl, .inl (cI, 72, .inl fl))] sz)) 0 0 (va_A [(oX, .inr (5, [.ref oS, .ref oR, .ref oN, .ref o2, .ref oF, .ref oT])), (oS, .inr (3, [.ref rv, .ref rs, .int (nI kc)])), (rv, .inl (cI, 385, .inl v)), (oF, .inr (0, [.ref oS, .ref oN])), (oN, .inr (1, [.ref oS, .ref rp, .ref rt, .ref rl])), (rp, .inl (cI, 72, .inl fp)), (rt, .inl (cI, 72, .inl ft)), (rl, .inl (cI, 72, .inl fl))] sz) := by
  refine kq_startM (cc := cX5_figureOf) (maxL := 3) (ret := (some .int)) (by decide) rfl (Nat.le_of_ble_eq_true rfl) ?_
  intro p e s m below meth c hx hb hr hml hown hlocks hts hsz hA hP hD hS hK hnm ls hl
  subst hsz
  generalize hAe : va_A [(oX, .inr (5, [.ref oS, .ref oR, .ref oN, .ref o2, .ref oF, .ref oT])), (oS, .inr (3, [.ref rv, .ref rs, .int (nI kc)])), (rv, .inl (cI, 385, .inl v)), (oF, .inr (0, [.ref oS, .ref oN])), (oN, .inr (1, [.ref oS, .ref rp, .ref rt, .ref rl])), (rp, .inl (cI, 72, .inl fp)), (rt, .inl (cI, 72, .inl ft)), (rl, .inl (cI, 72, .inl fl))] s.heap.size = A at hA hD hS ⊢
  have hown : s.vm.findClass RX5 = some m.cls := hown
  have hl : lv_has ls 3 [(0, .ref oX), (1, .int (nI f)), (2, .int (nI q))] := hl
  refine lv_iload_n hx hb dX5_figureOf_0 rfl (lv_at hl 1 rfl) ?_
  refine lv_iconst (v := 4) hx hb dX5_figureOf_1 (by decide) ?_
  refine kq_cS (As := [.int (nI f), .int 4]) (rest := []) ⟨hx, hb, hml, hown, hts⟩ (c_X5_isIndex_n l dC dI cI f 4 (by first | assumption | omega) (by first | assumption | omega)) (va_cwS 2 hts gX5_figureOf_X5_isIndex rfl rfl rfl (by decide +kernel) ⟨Nat.le_of_ble_eq_true rfl, Nat.le_of_ble_eq_true rfl⟩) (hP.sub [] rfl) hK rfl hl.1 rfl (Nat.le_of_ble_eq_true rfl) dX5_figureOf_2 ⟨Nat.le_of_ble_eq_true rfl, Nat.le_of_ble_eq_true rfl⟩ ?_
  refine kq_top (z := 1) (if_pos (hf)) ?_
  refine kq_callMv (wr := [(oX, .inr (5, [.ref oS, .ref oR, .ref oN, .ref o2, .ref oF, .ref oT])), (oS, .inr (3, [.ref rv, .ref rs, .int (nI kc)])), (rv, .inl (cI, 385, .inl v)), (oF, .inr (0, [.ref oS, .ref oN])), (oN, .inr (1, [.ref oS, .ref rp, .ref rt, .ref rl])), (rp, .inl (cI, 72, .inl fp)), (rt, .inl (cI, 72, .inl ft)), (rl, .inl (cI, 72, .inl fl))]) (va_runS (As := [.int 1]) (rest := []) ⟨hx, hb, hml, hown, hts⟩ (c_X5_needPlace l dC dI cI s.heap.size  ) (va_cwS 1 hts gX5_figureOf_X5_needPlace rfl rfl rfl (by decide +kernel) ⟨Nat.le_of_ble_eq_true rfl, Nat.le_of_ble_eq_true rfl⟩) (kq_preS (hP.sub [] rfl) (hD.sub [] (by decide) rfl) hK) rfl rfl hl.1 rfl (lv_room (Nat.le_of_ble_eq_true rfl)) dX5_figureOf_5 ⟨Nat.le_of_ble_eq_true rfl, Nat.le_of_ble_eq_true rfl⟩) hP hD hS hA [] [0, 1, 2, 3, 4, 5, 6, 7] rfl rfl (by decide) (by decide) (fun u_2 H locs hw_3 hP hD hS => ?_)
  have hP : va_P (dC, dI) vwCl [(oX, .inr (5, [.ref oS, .ref oR, .ref oN, .ref o2, .ref oF, .ref oT])), (oS, .inr (3, [.ref rv, .ref rs, .int (nI kc)])), (rv, .inl (cI, 385, .inl v)), (oF, .inr (0, [.ref oS, .ref oN])), (oN, .inr (1, [.ref oS, .ref rp, .ref rt, .ref rl])), (rp, .inl (cI, 72, .inl fp)), (rt, .inl (cI, 72, .inl ft)), (rl, .inl (cI, 72, .inl fl))] H := hP
  have hD : va_D A [(oX, .inr (5, [.ref oS, .ref oR, .ref oN, .ref o2, .ref oF, .ref oT])), (oS, .inr (3, [.ref rv, .ref rs, .int (nI kc)])), (rv, .inl (cI, 385, .inl v)), (oF, .inr (0, [.ref oS, .ref oN])), (oN, .inr (1, [.ref oS, .ref rp, .ref rt, .ref rl])), (rp, .inl (cI, 72, .inl fp)), (rt, .inl (cI, 72, .inl ft)), (rl, .inl (cI, 72, .inl fl))] := hD
  refine lv_iload_n hx hb dX5_figureOf_8 rfl (lv_at hl 2 rfl) ?_
  refine lv_iconst (v := 0) hx hb dX5_figureOf_9 (by decide) ?_
  refine lv_iconst (v := 4) hx hb dX5_figureOf_10 (by decide) ?_
  refine kq_cS (As := [.int (nI q), .int 0, .int 4]) (rest := []) ⟨hx, hb, hml, hown, hts⟩ (c_X5_isBetween_n l dC dI cI q 0 4 (by first | assumption | omega) (by first | assumption | omega) (by first | assumption | omega)) (va_cwS 3 hts gX5_figureOf_X5_isBetween rfl rfl rfl (by decide +kernel) ⟨Nat.le_of_ble_eq_true rfl, Nat.le_of_ble_eq_true rfl⟩) (hP.sub [] rfl) hK rfl hl.1 rfl (Nat.le_of_ble_eq_true rfl) dX5_figureOf_11 ⟨Nat.le_of_ble_eq_true rfl, Nat.le_of_ble_eq_true rfl⟩ ?_
  refine kq_top (z := 1) (if_pos (by omega)) ?_
  refine kq_callMv (wr := [(oX, .inr (5, [.ref oS, .ref oR, .ref oN, .ref o2, .ref oF, .ref oT])), (oS, .inr (3, [.ref rv, .ref rs, .int (nI kc)])), (rv, .inl (cI, 385, .inl v)), (oF, .inr (0, [.ref oS, .ref oN])), (oN, .inr (1, [.ref oS, .ref rp, .ref rt, .ref rl])), (rp, .inl (cI, 72, .inl fp)), (rt, .inl (cI, 72, .inl ft)), (rl, .inl (cI, 72, .inl fl))]) (va_runS (As := [.int 1]) (rest := []) ⟨hx, hb, hml, hown, hts⟩ (c_X5_needArgument l dC dI cI H.size  ) (va_cwS 1 hts gX5_figureOf_X5_needArgument rfl rfl rfl (by decide +kernel) ⟨Nat.le_of_ble_eq_true rfl, Nat.le_of_ble_eq_true rfl⟩) (kq_preS (hP.sub [] rfl) (hD.sub [] (by decide) rfl) hK) rfl rfl hl.1 rfl (lv_room (Nat.le_of_ble_eq_true rfl)) dX5_figureOf_14 ⟨Nat.le_of_ble_eq_true rfl, Nat.le_of_ble_eq_true rfl⟩) hP hD hS hA [] [0, 1, 2, 3, 4, 5, 6, 7] rfl rfl (by decide) (by decide) (fun u_5 H locs hw_6 hP hD hS => ?_)
  have hP : va_P (dC, dI) vwCl [(oX, .inr (5, [.ref oS, .ref oR, .ref oN, .ref o2, .ref oF, .ref oT])), (oS, .inr (3, [.ref rv, .ref rs, .int (nI kc)])), (rv, .inl (cI, 385, .inl v)), (oF, .inr (0, [.ref oS, .ref oN])), (oN, .inr (1, [.ref oS, .ref rp, .ref rt, .ref rl])), (rp, .inl (cI, 72, .inl fp)), (rt, .inl (cI, 72, .inl ft)), (rl, .inl (cI, 72, .inl fl))] H := hP
  have hD : va_D A [(oX, .inr (5, [.ref oS, .ref oR, .ref oN, .ref o2, .ref oF, .ref oT])), (oS, .inr (3, [.ref rv, .ref rs, .int (nI kc)])), (rv, .inl (cI, 385, .inl v)), (oF, .inr (0, [.ref oS, .ref oN])), (oN, .inr (1, [.ref oS, .ref rp, .ref rt, .ref rl])), (rp, .inl (cI, 72, .inl fp)), (rt, .inl (cI, 72, .inl ft)), (rl, .inl (cI, 72, .inl fl))] := hD
  refine lv_aload_n hx hb dX5_figureOf_17 rfl (lv_at hl 0 rfl) ?_
  refine va_get (D := (dC, dI)) (ci := 5) (v := .ref oF) (C := RX5) (T := TX5) (N := 6) hx hb hts (by decide +kernel) hown hK.1 hP 0 rfl rfl 4 (by decide) (hts (.fieldLink RX5 40 "NoteWatermarks" "figures" "LNoteWatermarks$Figures;") (by decide +kernel)) (fun _ h9 => h9) rfl dX5_figureOf_18 ?_
  refine lv_iload_n hx hb dX5_figureOf_21 rfl (lv_at hl 1 rfl) ?_
  refine kq_cV (As := [.int (nI f)]) (rest := []) ⟨hx, hb, hml, hown, hts⟩ (c_X0_isThere l dC dI cI oF oN oS rv rs (nI kc) v f (by first | assumption | omega) (by first | assumption | omega)) (cwV 1 hts gX5_figureOf_X0_isThere rfl rfl rfl (by decide +kernel) ⟨Nat.le_of_ble_eq_true rfl, Nat.le_of_ble_eq_true rfl⟩) (hP.sub [3, 1, 2] rfl) hK (ci := 0) (q0 := 0) rfl rfl rfl rfl hl.1 rfl (Nat.le_of_ble_eq_true rfl) dX5_figureOf_22 ⟨Nat.le_of_ble_eq_true rfl, Nat.le_of_ble_eq_true rfl⟩ ?_
  refine lv_if_ne (tgt := 30) hx hb dX5_figureOf_25 (by decide) (fun c_7 => ?_) (fun c_7 => ?_)
  · skip
    have c_7 := kq_bt c_7
    have ht : 0 < n_f v f 2 := c_7
    refine lv_iload_n hx hb dX5_figureOf_30 rfl (lv_at hl 2 rfl) ?_
    rcases (show q = 0 ∨ q = 1 ∨ q = 2 ∨ q = 3 ∨ q = 4 from by omega) with rfl | rfl | rfl | rfl | rfl
    · skip
      refine lv_tableIn (off := 29) (tgt := 60) hx hb dX5_figureOf_31 (by decide) (by decide) (by decide) (by decide) ?_
      refine lv_aload_n hx hb dX5_figureOf_60 rfl (lv_at hl 0 rfl) ?_
      refine va_get (D := (dC, dI)) (ci := 5) (v := .ref oF) (C := RX5) (T := TX5) (N := 6) hx hb hts (by decide +kernel) hown hK.1 hP 0 rfl rfl 4 (by decide) (hts (.fieldLink RX5 40 "NoteWatermarks" "figures" "LNoteWatermarks$Figures;") (by decide +kernel)) (fun _ h9 => h9) rfl dX5_figureOf_61 ?_
      refine lv_iload_n hx hb dX5_figureOf_64 rfl (lv_at hl 1 rfl) ?_
      refine kq_cV (As := [.int (nI f)]) (rest := []) ⟨hx, hb, hml, hown, hts⟩ (c_X0_cells l dC dI cI oF oN oS rv rs (nI kc) v f (by first | assumption | omega) (by first | assumption | omega)) (cwV 1 hts gX5_figureOf_X0_cells rfl rfl rfl (by decide +kernel) ⟨Nat.le_of_ble_eq_true rfl, Nat.le_of_ble_eq_true rfl⟩) (hP.sub [3, 1, 2] rfl) hK (ci := 0) (q0 := 0) rfl rfl rfl rfl hl.1 rfl (Nat.le_of_ble_eq_true rfl) dX5_figureOf_65 ⟨Nat.le_of_ble_eq_true rfl, Nat.le_of_ble_eq_true rfl⟩ ?_
      exact kq_retMi (fp, ft, fl) hx hb hr hlocks hP hD hS dX5_figureOf_68 (by rw [n_fo, if_pos ht]; rfl)
    · skip
      refine lv_tableIn (off := 38) (tgt := 69) hx hb dX5_figureOf_31 (by decide) (by decide) (by decide) (by decide) ?_
      refine lv_aload_n hx hb dX5_figureOf_69 rfl (lv_at hl 0 rfl) ?_
      refine va_get (D := (dC, dI)) (ci := 5) (v := .ref oF) (C := RX5) (T := TX5) (N := 6) hx hb hts (by decide +kernel) hown hK.1 hP 0 rfl rfl 4 (by decide) (hts (.fieldLink RX5 40 "NoteWatermarks" "figures" "LNoteWatermarks$Figures;") (by decide +kernel)) (fun _ h9 => h9) rfl dX5_figureOf_70 ?_
      refine lv_iload_n hx hb dX5_figureOf_73 rfl (lv_at hl 1 rfl) ?_
      refine kq_cV (As := [.int (nI f)]) (rest := []) ⟨hx, hb, hml, hown, hts⟩ (c_X0_frameCells l dC dI cI oF oN oS rv rs (nI kc) v f (by first | assumption | omega) (by first | assumption | omega) (by first | assumption | omega)) (cwV 1 hts gX5_figureOf_X0_frameCells rfl rfl rfl (by decide +kernel) ⟨Nat.le_of_ble_eq_true rfl, Nat.le_of_ble_eq_true rfl⟩) (hP.sub [3, 1, 2] rfl) hK (ci := 0) (q0 := 0) rfl rfl rfl rfl hl.1 rfl (Nat.le_of_ble_eq_true rfl) dX5_figureOf_74 ⟨Nat.le_of_ble_eq_true rfl, Nat.le_of_ble_eq_true rfl⟩ ?_
      exact kq_retMi (fp, ft, fl) hx hb hr hlocks hP hD hS dX5_figureOf_77 (by rw [n_fo, if_pos ht]; rfl)
    · skip
      refine lv_tableIn (off := 47) (tgt := 78) hx hb dX5_figureOf_31 (by decide) (by decide) (by decide) (by decide) ?_
      refine lv_aload_n hx hb dX5_figureOf_78 rfl (lv_at hl 0 rfl) ?_
      refine va_get (D := (dC, dI)) (ci := 5) (v := .ref oF) (C := RX5) (T := TX5) (N := 6) hx hb hts (by decide +kernel) hown hK.1 hP 0 rfl rfl 4 (by decide) (hts (.fieldLink RX5 40 "NoteWatermarks" "figures" "LNoteWatermarks$Figures;") (by decide +kernel)) (fun _ h9 => h9) rfl dX5_figureOf_79 ?_
      refine lv_iload_n hx hb dX5_figureOf_82 rfl (lv_at hl 1 rfl) ?_
      refine kq_cV (As := [.int (nI f)]) (rest := []) ⟨hx, hb, hml, hown, hts⟩ (c_X0_isHidden l dC dI cI oF oN oS rv rs (nI kc) v f (by first | assumption | omega) (by first | assumption | omega) (by first | assumption | omega)) (cwV 1 hts gX5_figureOf_X0_isHidden rfl rfl rfl (by decide +kernel) ⟨Nat.le_of_ble_eq_true rfl, Nat.le_of_ble_eq_true rfl⟩) (hP.sub [3, 1, 2] rfl) hK (ci := 0) (q0 := 0) rfl rfl rfl rfl hl.1 rfl (Nat.le_of_ble_eq_true rfl) dX5_figureOf_83 ⟨Nat.le_of_ble_eq_true rfl, Nat.le_of_ble_eq_true rfl⟩ ?_
      refine lv_if_eq (tgt := 93) hx hb dX5_figureOf_86 (by decide) (fun c_8 => ?_) (fun c_8 => ?_)
      · skip
        have c_8 := kq_bf c_8
        refine lv_iconst (v := 0) hx hb dX5_figureOf_93 (by decide) ?_
        exact kq_retMi (fp, ft, fl) hx hb hr hlocks hP hD hS dX5_figureOf_94 (by rw [n_fo, if_pos ht, n_fo1]; first | rw [if_pos (by assumption)] | rw [if_neg (by assumption)])
      · skip
        have c_8 := kq_bt c_8
        refine lv_iconst (v := 1) hx hb dX5_figureOf_89 (by decide) ?_
        refine lv_goto (tgt := 94) hx hb dX5_figureOf_90 (by decide) ?_
        exact kq_retMi (fp, ft, fl) hx hb hr hlocks hP hD hS dX5_figureOf_94 (by rw [n_fo, if_pos ht, n_fo1]; first | rw [if_pos (by assumption)] | rw [if_neg (by assumption)])
    · skip
      refine lv_tableIn (off := 64) (tgt := 95) hx hb dX5_figureOf_31 (by decide) (by decide) (by decide) (by decide) ?_
      refine lv_aload_n hx hb dX5_figureOf_95 rfl (lv_at hl 0 rfl) ?_
      refine va_get (D := (dC, dI)) (ci := 5) (v := .ref oF) (C := RX5) (T := TX5) (N := 6) hx hb hts (by decide +kernel) hown hK.1 hP 0 rfl rfl 4 (by decide) (hts (.fieldLink RX5 40 "NoteWatermarks" "figures" "LNoteWatermarks$Figures;") (by decide +kernel)) (fun _ h9 => h9) rfl dX5_figureOf_96 ?_
      refine lv_iload_n hx hb dX5_figureOf_99 rfl (lv_at hl 1 rfl) ?_
      refine kq_callMi (wr := [(oX, .inr (5, [.ref oS, .ref oR, .ref oN, .ref o2, .ref oF, .ref oT]))]) (va_runV (As := [.int (nI f)]) (rest := []) ⟨hx, hb, hml, hown, hts⟩ (c_X0_firstNoteSeen l dC dI cI H.size oF oN oS rv rs rp rt rl (nI kc) v fp ft fl f (by first | assumption | omega) (by first | assumption | omega) (by first | assumption | omega)) (cwV 1 hts gX5_figureOf_X0_firstNoteSeen rfl rfl rfl (by decide +kernel) ⟨Nat.le_of_ble_eq_true rfl, Nat.le_of_ble_eq_true rfl⟩) (kq_preV (ci := 0) (q0 := 0) (hP.sub [3, 4, 1, 2, 5, 6, 7] rfl) (hD.sub [3, 4, 1, 2, 5, 6, 7] (by decide) rfl) hK rfl rfl) rfl rfl hl.1 rfl (lv_room (Nat.le_of_ble_eq_true rfl)) dX5_figureOf_100 ⟨Nat.le_of_ble_eq_true rfl, Nat.le_of_ble_eq_true rfl⟩) hP hD hS hA [3, 4, 1, 2, 5, 6, 7] [0] rfl rfl (by decide) (by decide) (fun r_9 u_10 H locs hw_11 hP hD hS => ?_)
      obtain ⟨gp_12, gt_13, gl_14⟩ := u_10
      have hP : va_P (dC, dI) vwCl [(oX, .inr (5, [.ref oS, .ref oR, .ref oN, .ref o2, .ref oF, .ref oT])), (oF, .inr (0, [.ref oS, .ref oN])), (oN, .inr (1, [.ref oS, .ref rp, .ref rt, .ref rl])), (oS, .inr (3, [.ref rv, .ref rs, .int (nI kc)])), (rv, .inl (cI, 385, .inl v)), (rp, .inl (cI, 72, .inl gp_12)), (rt, .inl (cI, 72, .inl gt_13)), (rl, .inl (cI, 72, .inl gl_14))] H := hP
      have hD : va_D A [(oX, .inr (5, [.ref oS, .ref oR, .ref oN, .ref o2, .ref oF, .ref oT])), (oF, .inr (0, [.ref oS, .ref oN])), (oN, .inr (1, [.ref oS, .ref rp, .ref rt, .ref rl])), (oS, .inr (3, [.ref rv, .ref rs, .int (nI kc)])), (rv, .inl (cI, 385, .inl v)), (rp, .inl (cI, 72, .inl gp_12)), (rt, .inl (cI, 72, .inl gt_13)), (rl, .inl (cI, 72, .inl gl_14))] := hD
      obtain rfl := hw_11
      exact kq_retMi (gp_12, gt_13, gl_14) hx hb hr hlocks (hP.sub [0, 3, 4, 1, 2, 5, 6, 7] rfl) (hD.sub [0, 3, 4, 1, 2, 5, 6, 7] (by decide) rfl) hS dX5_figureOf_103 (by rw [n_fo, if_pos ht]; rfl)
    · skip
      refine lv_tableOut (tgt := 104) hx hb dX5_figureOf_31 (by decide) (by decide) ?_
      refine lv_aload_n hx hb dX5_figureOf_104 rfl (lv_at hl 0 rfl) ?_
      refine va_get (D := (dC, dI)) (ci := 5) (v := .ref oF) (C := RX5) (T := TX5) (N := 6) hx hb hts (by decide +kernel) hown hK.1 hP 0 rfl rfl 4 (by decide) (hts (.fieldLink RX5 40 "NoteWatermarks" "figures" "LNoteWatermarks$Figures;") (by decide +kernel)) (fun _ h9 => h9) rfl dX5_figureOf_105 ?_
      refine lv_iload_n hx hb dX5_figureOf_108 rfl (lv_at hl 1 rfl) ?_
      refine kq_callMi (wr := [(oX, .inr (5, [.ref oS, .ref oR, .ref oN, .ref o2, .ref oF, .ref oT]))]) (va_runV (As := [.int (nI f)]) (rest := []) ⟨hx, hb, hml, hown, hts⟩ (c_X0_notesGood l dC dI cI H.size oF oN oS rv rs rp rt rl (nI kc) v fp ft fl f (by first | assumption | omega) (by first | assumption | omega) (by first | assumption | omega)) (cwV 1 hts gX5_figureOf_X0_notesGood rfl rfl rfl (by decide +kernel) ⟨Nat.le_of_ble_eq_true rfl, Nat.le_of_ble_eq_true rfl⟩) (kq_preV (ci := 0) (q0 := 0) (hP.sub [3, 4, 1, 2, 5, 6, 7] rfl) (hD.sub [3, 4, 1, 2, 5, 6, 7] (by decide) rfl) hK rfl rfl) rfl rfl hl.1 rfl (lv_room (Nat.le_of_ble_eq_true rfl)) dX5_figureOf_109 ⟨Nat.le_of_ble_eq_true rfl, Nat.le_of_ble_eq_true rfl⟩) hP hD hS hA [3, 4, 1, 2, 5, 6, 7] [0] rfl rfl (by decide) (by decide) (fun r_15 u_16 H locs hw_17 hP hD hS => ?_)
      obtain ⟨gp_18, gt_19, gl_20⟩ := u_16
      have hP : va_P (dC, dI) vwCl [(oX, .inr (5, [.ref oS, .ref oR, .ref oN, .ref o2, .ref oF, .ref oT])), (oF, .inr (0, [.ref oS, .ref oN])), (oN, .inr (1, [.ref oS, .ref rp, .ref rt, .ref rl])), (oS, .inr (3, [.ref rv, .ref rs, .int (nI kc)])), (rv, .inl (cI, 385, .inl v)), (rp, .inl (cI, 72, .inl gp_18)), (rt, .inl (cI, 72, .inl gt_19)), (rl, .inl (cI, 72, .inl gl_20))] H := hP
      have hD : va_D A [(oX, .inr (5, [.ref oS, .ref oR, .ref oN, .ref o2, .ref oF, .ref oT])), (oF, .inr (0, [.ref oS, .ref oN])), (oN, .inr (1, [.ref oS, .ref rp, .ref rt, .ref rl])), (oS, .inr (3, [.ref rv, .ref rs, .int (nI kc)])), (rv, .inl (cI, 385, .inl v)), (rp, .inl (cI, 72, .inl gp_18)), (rt, .inl (cI, 72, .inl gt_19)), (rl, .inl (cI, 72, .inl gl_20))] := hD
      obtain rfl := hw_17
      exact kq_retMi (gp_18, gt_19, gl_20) hx hb hr hlocks (hP.sub [0, 3, 4, 1, 2, 5, 6, 7] rfl) (hD.sub [0, 3, 4, 1, 2, 5, 6, 7] (by decide) rfl) hS dX5_figureOf_112 (by rw [n_fo, if_pos ht]; rfl)
  · skip
    have c_7 := kq_bf c_7
    refine lv_iconst (v := (-1)) hx hb dX5_figureOf_28 (by decide) ?_
    exact kq_retMi (fp, ft, fl) hx hb hr hlocks hP hD hS dX5_figureOf_29 (by rw [n_fo, if_neg (by assumption)])
set_option maxHeartbeats 4000000 in
set_option maxRecDepth 100000 in
theorem c_X5_contrast (l : Launch) (dC : Nat → ClassId) (dI : Nat → Nat → Nat) (cI : ClassId) (sz : Nat) (oX : Nat) (oS : Nat) (oR : Nat) (oN : Nat) (o2 : Nat) (oF : Nat) (oT : Nat) (rv : Nat) (rs : Nat) (kc : Nat) (rp : Nat) (rt : Nat) (rl : Nat) (v : Nat → Int32) (fp : Nat → Int32) (ft : Nat → Int32) (fl : Nat → Int32) (f : Nat) (n : Nat) (hI : n_I v) (hf : f < 4) (hn : n < 1000) : Met l yX5_contrast wsX5_contrast ({ frames := 4, cells := 0, slots := 0, locals := 98 }) (kq_M dC dI cI [.ref oX, .int (nI f), .int (nI n)] sz [(oX, .inr (5, [.ref oS, .ref oR, .ref oN, .ref o2, .ref oF, .ref oT])), (oS, .inr (3, [.ref rv, .ref rs, .int (nI kc)])), (rv, .inl (cI, 385, .inl v)), (oF, .inr (0, [.ref oS, .ref oN])), (oN, .inr (1, [.ref oS, .ref rp, .ref rt, .ref rl])), (rp, .inl (cI, 72, .inl fp)), (rt, .inl (cI, 72, .inl ft)), (rl, .inl (cI, 72, .inl fl))]) (va_Qi (fun (r : Int32) (u : (Nat → Int32) × (Nat → Int32) × (Nat → Int32)) => r = n_cn v f n) (kq_B dC dI (va_A [(oX, .inr (5, [.ref oS, .ref oR, .ref oN, .ref o2, .ref oF, .ref oT])), (oS, .inr (3, [.ref rv, .ref rs, .int (nI kc)])), (rv, .inl (cI, 385, .inl v)), (oF, .inr (0, [.ref oS, .ref oN])), (oN, .inr (1, [.ref oS, .ref rp, .ref rt, .ref rl])), (rp, .inl (cI, 72, .inl fp)), (rt, .inl (cI, 72, .inl ft)), (rl, .inl (cI, 72, .inl fl))] sz) (fun u : (Nat → Int32) × (Nat → Int32) × (Nat → Int32) => [(oX, .inr (5, [.ref oS, .ref oR, .ref oN, .ref o2, .ref oF, .ref oT])), (oS, .inr (3, [.ref rv, .ref rs, .int (nI kc)])), (rv, .inl (cI, 385, .inl v)), (oF, .inr (0, [.ref oS, .ref oN])), (oN, .inr (1, [.ref oS, .ref rp, .ref rt, .ref rl])), (rp, .inl (cI, 72, .inl u.1)), (rt, .inl (cI, 72, .inl u.2.1)), (rl, .inl (cI, 72, .inl u.2.2))])) (va_A [(oX, .inr (5, [.ref oS, .ref oR, .ref oN, .ref o2, .ref oF, .ref oT])), (oS, .inr (3, [.ref rv, .ref rs, .int (nI kc)])), (rv, .inl (cI, 385, .inl v)), (oF, .inr (0, [.ref oS, .ref oN])), (oN, .inr (1, [.ref oS, .ref rp, .ref rt, .ref rl])), (rp, .inl (cI, 72, .inl fp)), (rt, .inl (cI, 72, .inl ft)), (rl, .inl (cI, 72, .inl fl))] sz)) 0 0 (va_A [(oX, .inr (5, [.ref oS, .ref oR, .ref oN, .ref o2, .ref oF, .ref oT])), (oS, .inr (3, [.ref rv, .ref rs, .int (nI kc)])), (rv, .inl (cI, 385, .inl v)), (oF, .inr (0, [.ref oS, .ref oN])), (oN, .inr (1, [.ref oS, .ref rp, .ref rt, .ref rl])), (rp, .inl (cI, 72, .inl fp)), (rt, .inl (cI, 72, .inl ft)), (rl, .inl (cI, 72, .inl fl))] sz) := by
  refine kq_startM (cc := cX5_contrast) (maxL := 3) (ret := (some .int)) (by decide) rfl (Nat.le_of_ble_eq_true rfl) ?_
  intro p e s m below meth c hx hb hr hml hown hlocks hts hsz hA hP hD hS hK hnm ls hl
  subst hsz
  generalize hAe : va_A [(oX, .inr (5, [.ref oS, .ref oR, .ref oN, .ref o2, .ref oF, .ref oT])), (oS, .inr (3, [.ref rv, .ref rs, .int (nI kc)])), (rv, .inl (cI, 385, .inl v)), (oF, .inr (0, [.ref oS, .ref oN])), (oN, .inr (1, [.ref oS, .ref rp, .ref rt, .ref rl])), (rp, .inl (cI, 72, .inl fp)), (rt, .inl (cI, 72, .inl ft)), (rl, .inl (cI, 72, .inl fl))] s.heap.size = A at hA hD hS ⊢
  have hown : s.vm.findClass RX5 = some m.cls := hown
  have hl : lv_has ls 3 [(0, .ref oX), (1, .int (nI f)), (2, .int (nI n))] := hl
  refine lv_iload_n hx hb dX5_contrast_0 rfl (lv_at hl 1 rfl) ?_
  refine lv_iconst (v := 4) hx hb dX5_contrast_1 (by decide) ?_
  refine kq_cS (As := [.int (nI f), .int 4]) (rest := []) ⟨hx, hb, hml, hown, hts⟩ (c_X5_isIndex_n l dC dI cI f 4 (by first | assumption | omega) (by first | assumption | omega)) (va_cwS 2 hts gX5_contrast_X5_isIndex rfl rfl rfl (by decide +kernel) ⟨Nat.le_of_ble_eq_true rfl, Nat.le_of_ble_eq_true rfl⟩) (hP.sub [] rfl) hK rfl hl.1 rfl (Nat.le_of_ble_eq_true rfl) dX5_contrast_2 ⟨Nat.le_of_ble_eq_true rfl, Nat.le_of_ble_eq_true rfl⟩ ?_
  refine lv_if_eq (tgt := 22) hx hb dX5_contrast_5 (by decide) (fun c_1 => ?_) (fun c_1 => ?_)
  · skip
    have c_1 := kq_bf c_1
    exact absurd hf c_1
  · skip
    have c_1 := kq_bt c_1
    refine lv_iload_n hx hb dX5_contrast_8 rfl (lv_at hl 2 rfl) ?_
    refine lv_sipush (v := 1000) hx hb dX5_contrast_9 (by decide) ?_
    refine kq_cS (As := [.int (nI n), .int 1000]) (rest := []) ⟨hx, hb, hml, hown, hts⟩ (c_X5_isIndex_n l dC dI cI n 1000 (by first | assumption | omega) (by first | assumption | omega)) (va_cwS 2 hts gX5_contrast_X5_isIndex rfl rfl rfl (by decide +kernel) ⟨Nat.le_of_ble_eq_true rfl, Nat.le_of_ble_eq_true rfl⟩) (hP.sub [] rfl) hK rfl hl.1 rfl (Nat.le_of_ble_eq_true rfl) dX5_contrast_12 ⟨Nat.le_of_ble_eq_true rfl, Nat.le_of_ble_eq_true rfl⟩ ?_
    refine lv_if_eq (tgt := 22) hx hb dX5_contrast_15 (by decide) (fun c_2 => ?_) (fun c_2 => ?_)
    · skip
      have c_2 := kq_bf c_2
      exact absurd hn c_2
    · skip
      have c_2 := kq_bt c_2
      refine lv_iconst (v := 1) hx hb dX5_contrast_18 (by decide) ?_
      refine lv_goto (tgt := 23) hx hb dX5_contrast_19 (by decide) ?_
      refine kq_callMv (wr := [(oX, .inr (5, [.ref oS, .ref oR, .ref oN, .ref o2, .ref oF, .ref oT])), (oS, .inr (3, [.ref rv, .ref rs, .int (nI kc)])), (rv, .inl (cI, 385, .inl v)), (oF, .inr (0, [.ref oS, .ref oN])), (oN, .inr (1, [.ref oS, .ref rp, .ref rt, .ref rl])), (rp, .inl (cI, 72, .inl fp)), (rt, .inl (cI, 72, .inl ft)), (rl, .inl (cI, 72, .inl fl))]) (va_runS (As := [.int 1]) (rest := []) ⟨hx, hb, hml, hown, hts⟩ (c_X5_needPlace l dC dI cI s.heap.size  ) (va_cwS 1 hts gX5_contrast_X5_needPlace rfl rfl rfl (by decide +kernel) ⟨Nat.le_of_ble_eq_true rfl, Nat.le_of_ble_eq_true rfl⟩) (kq_preS (hP.sub [] rfl) (hD.sub [] (by decide) rfl) hK) rfl rfl hl.1 rfl (lv_room (Nat.le_of_ble_eq_true rfl)) dX5_contrast_23 ⟨Nat.le_of_ble_eq_true rfl, Nat.le_of_ble_eq_true rfl⟩) hP hD hS hA [] [0, 1, 2, 3, 4, 5, 6, 7] rfl rfl (by decide) (by decide) (fun u_4 H locs hw_5 hP hD hS => ?_)
      have hP : va_P (dC, dI) vwCl [(oX, .inr (5, [.ref oS, .ref oR, .ref oN, .ref o2, .ref oF, .ref oT])), (oS, .inr (3, [.ref rv, .ref rs, .int (nI kc)])), (rv, .inl (cI, 385, .inl v)), (oF, .inr (0, [.ref oS, .ref oN])), (oN, .inr (1, [.ref oS, .ref rp, .ref rt, .ref rl])), (rp, .inl (cI, 72, .inl fp)), (rt, .inl (cI, 72, .inl ft)), (rl, .inl (cI, 72, .inl fl))] H := hP
      have hD : va_D A [(oX, .inr (5, [.ref oS, .ref oR, .ref oN, .ref o2, .ref oF, .ref oT])), (oS, .inr (3, [.ref rv, .ref rs, .int (nI kc)])), (rv, .inl (cI, 385, .inl v)), (oF, .inr (0, [.ref oS, .ref oN])), (oN, .inr (1, [.ref oS, .ref rp, .ref rt, .ref rl])), (rp, .inl (cI, 72, .inl fp)), (rt, .inl (cI, 72, .inl ft)), (rl, .inl (cI, 72, .inl fl))] := hD
      refine lv_aload_n hx hb dX5_contrast_26 rfl (lv_at hl 0 rfl) ?_
      refine va_get (D := (dC, dI)) (ci := 5) (v := .ref oF) (C := RX5) (T := TX5) (N := 6) hx hb hts (by decide +kernel) hown hK.1 hP 0 rfl rfl 4 (by decide) (hts (.fieldLink RX5 40 "NoteWatermarks" "figures" "LNoteWatermarks$Figures;") (by decide +kernel)) (fun _ h9 => h9) rfl dX5_contrast_27 ?_
      refine lv_iload_n hx hb dX5_contrast_30 rfl (lv_at hl 1 rfl) ?_
      refine kq_cV (As := [.int (nI f)]) (rest := []) ⟨hx, hb, hml, hown, hts⟩ (c_X0_isThere l dC dI cI oF oN oS rv rs (nI kc) v f (by first | assumption | omega) (by first | assumption | omega)) (cwV 1 hts gX5_contrast_X0_isThere rfl rfl rfl (by decide +kernel) ⟨Nat.le_of_ble_eq_true rfl, Nat.le_of_ble_eq_true rfl⟩) (hP.sub [3, 1, 2] rfl) hK (ci := 0) (q0 := 0) rfl rfl rfl rfl hl.1 rfl (Nat.le_of_ble_eq_true rfl) dX5_contrast_31 ⟨Nat.le_of_ble_eq_true rfl, Nat.le_of_ble_eq_true rfl⟩ ?_
      refine lv_if_eq (tgt := 53) hx hb dX5_contrast_34 (by decide) (fun c_6 => ?_) (fun c_6 => ?_)
      · skip
        have c_6 := kq_bf c_6
        refine lv_iconst (v := (-1)) hx hb dX5_contrast_53 (by decide) ?_
        exact kq_retMi (fp, ft, fl) hx hb hr hlocks hP hD hS dX5_contrast_54 (by first | rw [n_cn, if_pos (by assumption)] | rw [n_cn, if_neg (by assumption)])
      · skip
        have c_6 := kq_bt c_6
        refine lv_aload_n hx hb dX5_contrast_37 rfl (lv_at hl 0 rfl) ?_
        refine va_get (D := (dC, dI)) (ci := 5) (v := .ref oF) (C := RX5) (T := TX5) (N := 6) hx hb hts (by decide +kernel) hown hK.1 hP 0 rfl rfl 4 (by decide) (hts (.fieldLink RX5 40 "NoteWatermarks" "figures" "LNoteWatermarks$Figures;") (by decide +kernel)) (fun _ h9 => h9) rfl dX5_contrast_38 ?_
        refine lv_iload_n hx hb dX5_contrast_41 rfl (lv_at hl 1 rfl) ?_
        refine lv_iload_n hx hb dX5_contrast_42 rfl (lv_at hl 2 rfl) ?_
        refine kq_callMi (wr := [(oX, .inr (5, [.ref oS, .ref oR, .ref oN, .ref o2, .ref oF, .ref oT]))]) (va_runV (As := [.int (nI f), .int (nI n)]) (rest := []) ⟨hx, hb, hml, hown, hts⟩ (c_X0_contrastOn l dC dI cI H.size oF oN oS rv rs rp rt rl (nI kc) v fp ft fl f n (by first | assumption | omega) (by first | assumption | omega) (by first | assumption | omega) (by first | assumption | omega)) (cwV 2 hts gX5_contrast_X0_contrastOn rfl rfl rfl (by decide +kernel) ⟨Nat.le_of_ble_eq_true rfl, Nat.le_of_ble_eq_true rfl⟩) (kq_preV (ci := 0) (q0 := 0) (hP.sub [3, 4, 1, 2, 5, 6, 7] rfl) (hD.sub [3, 4, 1, 2, 5, 6, 7] (by decide) rfl) hK rfl rfl) rfl rfl hl.1 rfl (lv_room (Nat.le_of_ble_eq_true rfl)) dX5_contrast_43 ⟨Nat.le_of_ble_eq_true rfl, Nat.le_of_ble_eq_true rfl⟩) hP hD hS hA [3, 4, 1, 2, 5, 6, 7] [0] rfl rfl (by decide) (by decide) (fun r_7 u_8 H locs hw_9 hP hD hS => ?_)
        obtain ⟨gp_10, gt_11, gl_12⟩ := u_8
        have hP : va_P (dC, dI) vwCl [(oX, .inr (5, [.ref oS, .ref oR, .ref oN, .ref o2, .ref oF, .ref oT])), (oF, .inr (0, [.ref oS, .ref oN])), (oN, .inr (1, [.ref oS, .ref rp, .ref rt, .ref rl])), (oS, .inr (3, [.ref rv, .ref rs, .int (nI kc)])), (rv, .inl (cI, 385, .inl v)), (rp, .inl (cI, 72, .inl gp_10)), (rt, .inl (cI, 72, .inl gt_11)), (rl, .inl (cI, 72, .inl gl_12))] H := hP
        have hD : va_D A [(oX, .inr (5, [.ref oS, .ref oR, .ref oN, .ref o2, .ref oF, .ref oT])), (oF, .inr (0, [.ref oS, .ref oN])), (oN, .inr (1, [.ref oS, .ref rp, .ref rt, .ref rl])), (oS, .inr (3, [.ref rv, .ref rs, .int (nI kc)])), (rv, .inl (cI, 385, .inl v)), (rp, .inl (cI, 72, .inl gp_10)), (rt, .inl (cI, 72, .inl gt_11)), (rl, .inl (cI, 72, .inl gl_12))] := hD
        obtain rfl := hw_9
        refine lv_sipush (v := 1000) hx hb dX5_contrast_46 (by decide) ?_
        refine lv_iadd hx hb dX5_contrast_49 ?_
        refine lv_goto (tgt := 54) hx hb dX5_contrast_50 (by decide) ?_
        exact kq_retMi (gp_10, gt_11, gl_12) hx hb hr hlocks (hP.sub [0, 3, 4, 1, 2, 5, 6, 7] rfl) (hD.sub [0, 3, 4, 1, 2, 5, 6, 7] (by decide) rfl) hS dX5_contrast_54 (by first | rw [n_cn, if_pos (by assumption)] | rw [n_cn, if_neg (by assumption)])
set_option maxHeartbeats 4000000 in
set_option maxRecDepth 100000 in
theorem c_X5_setting (l : Launch) (dC : Nat → ClassId) (dI : Nat → Nat → Nat) (cI : ClassId) (sz : Nat) (oX : Nat) (oS : Nat) (oR : Nat) (oN : Nat) (o2 : Nat) (oF : Nat) (oT : Nat) (rv : Nat) (rs : Nat) (kc : Nat) (v : Nat → Int32) (k : Nat) (hk : k < 3) : Met l yX5_setting wsX5_setting ({ frames := 1, cells := 0, slots := 0, locals := 21 }) (kq_M dC dI cI [.ref oX, .int (nI k)] sz [(oX, .inr (5, [.ref oS, .ref oR, .ref oN, .ref o2, .ref oF, .ref oT])), (oS, .inr (3, [.ref rv, .ref rs, .int (nI kc)])), (rv, .inl (cI, 385, .inl v))]) (va_Qi (fun (r : Int32) (u : Unit) => r = v (382 + k)) (kq_B dC dI (va_A [(oX, .inr (5, [.ref oS, .ref oR, .ref oN, .ref o2, .ref oF, .ref oT])), (oS, .inr (3, [.ref rv, .ref rs, .int (nI kc)])), (rv, .inl (cI, 385, .inl v))] sz) (fun u : Unit => [(oX, .inr (5, [.ref oS, .ref oR, .ref oN, .ref o2, .ref oF, .ref oT])), (oS, .inr (3, [.ref rv, .ref rs, .int (nI kc)])), (rv, .inl (cI, 385, .inl v))])) (va_A [(oX, .inr (5, [.ref oS, .ref oR, .ref oN, .ref o2, .ref oF, .ref oT])), (oS, .inr (3, [.ref rv, .ref rs, .int (nI kc)])), (rv, .inl (cI, 385, .inl v))] sz)) 0 0 (va_A [(oX, .inr (5, [.ref oS, .ref oR, .ref oN, .ref o2, .ref oF, .ref oT])), (oS, .inr (3, [.ref rv, .ref rs, .int (nI kc)])), (rv, .inl (cI, 385, .inl v))] sz) := by
  refine kq_startM (cc := cX5_setting) (maxL := 2) (ret := (some .int)) (by decide) rfl (Nat.le_of_ble_eq_true rfl) ?_
  intro p e s m below meth c hx hb hr hml hown hlocks hts hsz hA hP hD hS hK hnm ls hl
  subst hsz
  generalize hAe : va_A [(oX, .inr (5, [.ref oS, .ref oR, .ref oN, .ref o2, .ref oF, .ref oT])), (oS, .inr (3, [.ref rv, .ref rs, .int (nI kc)])), (rv, .inl (cI, 385, .inl v))] s.heap.size = A at hA hD hS ⊢
  have hown : s.vm.findClass RX5 = some m.cls := hown
  have hl : lv_has ls 2 [(0, .ref oX), (1, .int (nI k))] := hl
  refine lv_iload_n hx hb dX5_setting_0 rfl (lv_at hl 1 rfl) ?_
  refine lv_iconst (v := 3) hx hb dX5_setting_1 (by decide) ?_
  refine kq_cS (As := [.int (nI k), .int 3]) (rest := []) ⟨hx, hb, hml, hown, hts⟩ (c_X5_isIndex_n l dC dI cI k 3 (by first | assumption | omega) (by first | assumption | omega)) (va_cwS 2 hts gX5_setting_X5_isIndex rfl rfl rfl (by decide +kernel) ⟨Nat.le_of_ble_eq_true rfl, Nat.le_of_ble_eq_true rfl⟩) (hP.sub [] rfl) hK rfl hl.1 rfl (Nat.le_of_ble_eq_true rfl) dX5_setting_2 ⟨Nat.le_of_ble_eq_true rfl, Nat.le_of_ble_eq_true rfl⟩ ?_
  refine kq_top (z := 1) (if_pos (hk)) ?_
  refine kq_callMv (wr := [(oX, .inr (5, [.ref oS, .ref oR, .ref oN, .ref o2, .ref oF, .ref oT])), (oS, .inr (3, [.ref rv, .ref rs, .int (nI kc)])), (rv, .inl (cI, 385, .inl v))]) (va_runS (As := [.int 1]) (rest := []) ⟨hx, hb, hml, hown, hts⟩ (c_X5_needPlace l dC dI cI s.heap.size  ) (va_cwS 1 hts gX5_setting_X5_needPlace rfl rfl rfl (by decide +kernel) ⟨Nat.le_of_ble_eq_true rfl, Nat.le_of_ble_eq_true rfl⟩) (kq_preS (hP.sub [] rfl) (hD.sub [] (by decide) rfl) hK) rfl rfl hl.1 rfl (lv_room (Nat.le_of_ble_eq_true rfl)) dX5_setting_5 ⟨Nat.le_of_ble_eq_true rfl, Nat.le_of_ble_eq_true rfl⟩) hP hD hS hA [] [0, 1, 2] rfl rfl (by decide) (by decide) (fun u_2 H locs hw_3 hP hD hS => ?_)
  have hP : va_P (dC, dI) vwCl [(oX, .inr (5, [.ref oS, .ref oR, .ref oN, .ref o2, .ref oF, .ref oT])), (oS, .inr (3, [.ref rv, .ref rs, .int (nI kc)])), (rv, .inl (cI, 385, .inl v))] H := hP
  have hD : va_D A [(oX, .inr (5, [.ref oS, .ref oR, .ref oN, .ref o2, .ref oF, .ref oT])), (oS, .inr (3, [.ref rv, .ref rs, .int (nI kc)])), (rv, .inl (cI, 385, .inl v))] := hD
  refine lv_aload_n hx hb dX5_setting_8 rfl (lv_at hl 0 rfl) ?_
  refine va_get (D := (dC, dI)) (ci := 5) (v := .ref oS) (C := RX5) (T := TX5) (N := 6) hx hb hts (by decide +kernel) hown hK.1 hP 0 rfl rfl 0 (by decide) (hts (.fieldLink RX5 12 "NoteWatermarks" "state" "LNoteWatermarks$State;") (by decide +kernel)) (fun _ h9 => h9) rfl dX5_setting_9 ?_
  refine lv_iload_n hx hb dX5_setting_12 rfl (lv_at hl 1 rfl) ?_
  refine kq_cS (As := [.int (nI k)]) (rest := [.ref oS]) ⟨hx, hb, hml, hown, hts⟩ (c_X3_settingPlace l dC dI cI k ) (va_cwS 1 hts gX5_setting_X3_settingPlace rfl rfl rfl (by decide +kernel) ⟨Nat.le_of_ble_eq_true rfl, Nat.le_of_ble_eq_true rfl⟩) (hP.sub [] rfl) hK rfl hl.1 rfl (Nat.le_of_ble_eq_true rfl) dX5_setting_13 ⟨Nat.le_of_ble_eq_true rfl, Nat.le_of_ble_eq_true rfl⟩ ?_
  refine kq_cV (As := [.int (nI (382 + k))]) (rest := []) ⟨hx, hb, hml, hown, hts⟩ (c_X3_at l dC dI cI oS rv rs (nI kc) v (382 + k) (by first | assumption | omega)) (cwV 1 hts gX5_setting_X3_at rfl rfl rfl (by decide +kernel) ⟨Nat.le_of_ble_eq_true rfl, Nat.le_of_ble_eq_true rfl⟩) (hP.sub [1, 2] rfl) hK (ci := 3) (q0 := 0) rfl rfl rfl rfl hl.1 rfl (Nat.le_of_ble_eq_true rfl) dX5_setting_16 ⟨Nat.le_of_ble_eq_true rfl, Nat.le_of_ble_eq_true rfl⟩ ?_
  exact kq_retMi () hx hb hr hlocks hP hD hS dX5_setting_19 (by rfl)
set_option maxHeartbeats 4000000 in
set_option maxRecDepth 100000 in
theorem c_X5_notesLikeFirst (l : Launch) (dC : Nat → ClassId) (dI : Nat → Nat → Nat) (cI : ClassId) (sz : Nat) (oX : Nat) (oS : Nat) (oR : Nat) (oN : Nat) (o2 : Nat) (oF : Nat) (oT : Nat) (rv : Nat) (rs : Nat) (kc : Nat) (rp : Nat) (rt : Nat) (rl : Nat) (q1 : Nat) (q2 : Nat) (q3 : Nat) (v : Nat → Int32) (fp : Nat → Int32) (ft : Nat → Int32) (fl : Nat → Int32) (z1 : Nat → Int32) (z2 : Nat → Int32) (z3 : Nat → Int32) (hI : n_I v) : Met l yX5_notesLikeFirst wsX5_notesLikeFirst ({ frames := 3, cells := 0, slots := 0, locals := 72 }) (kq_M dC dI cI [.ref oX] sz [(oX, .inr (5, [.ref oS, .ref oR, .ref oN, .ref o2, .ref oF, .ref oT])), (oS, .inr (3, [.ref rv, .ref rs, .int (nI kc)])), (rv, .inl (cI, 385, .inl v)), (oN, .inr (1, [.ref oS, .ref rp, .ref rt, .ref rl])), (rp, .inl (cI, 72, .inl fp)), (rt, .inl (cI, 72, .inl ft)), (rl, .inl (cI, 72, .inl fl)), (o2, .inr (1, [.ref oS, .ref q1, .ref q2, .ref q3])), (q1, .inl (cI, 72, .inl z1)), (q2, .inl (cI, 72, .inl z2)), (q3, .inl (cI, 72, .inl z3))]) (va_Qi (fun (r : Int32) (u : (Nat → Int32) × (Nat → Int32) × (Nat → Int32) × (Nat → Int32) × (Nat → Int32) × (Nat → Int32)) => r = n_lk v) (kq_B dC dI (va_A [(oX, .inr (5, [.ref oS, .ref oR, .ref oN, .ref o2, .ref oF, .ref oT])), (oS, .inr (3, [.ref rv, .ref rs, .int (nI kc)])), (rv, .inl (cI, 385, .inl v)), (oN, .inr (1, [.ref oS, .ref rp, .ref rt, .ref rl])), (rp, .inl (cI, 72, .inl fp)), (rt, .inl (cI, 72, .inl ft)), (rl, .inl (cI, 72, .inl fl)), (o2, .inr (1, [.ref oS, .ref q1, .ref q2, .ref q3])), (q1, .inl (cI, 72, .inl z1)), (q2, .inl (cI, 72, .inl z2)), (q3, .inl (cI, 72, .inl z3))] sz) (fun u : (Nat → Int32) × (Nat → Int32) × (Nat → Int32) × (Nat → Int32) × (Nat → Int32) × (Nat → Int32) => [(oX, .inr (5, [.ref oS, .ref oR, .ref oN, .ref o2, .ref oF, .ref oT])), (oS, .inr (3, [.ref rv, .ref rs, .int (nI kc)])), (rv, .inl (cI, 385, .inl v)), (oN, .inr (1, [.ref oS, .ref rp, .ref rt, .ref rl])), (rp, .inl (cI, 72, .inl u.1)), (rt, .inl (cI, 72, .inl u.2.1)), (rl, .inl (cI, 72, .inl u.2.2.1)), (o2, .inr (1, [.ref oS, .ref q1, .ref q2, .ref q3])), (q1, .inl (cI, 72, .inl u.2.2.2.1)), (q2, .inl (cI, 72, .inl u.2.2.2.2.1)), (q3, .inl (cI, 72, .inl u.2.2.2.2.2))])) (va_A [(oX, .inr (5, [.ref oS, .ref oR, .ref oN, .ref o2, .ref oF, .ref oT])), (oS, .inr (3, [.ref rv, .ref rs, .int (nI kc)])), (rv, .inl (cI, 385, .inl v)), (oN, .inr (1, [.ref oS, .ref rp, .ref rt, .ref rl])), (rp, .inl (cI, 72, .inl fp)), (rt, .inl (cI, 72, .inl ft)), (rl, .inl (cI, 72, .inl fl)), (o2, .inr (1, [.ref oS, .ref q1, .ref q2, .ref q3])), (q1, .inl (cI, 72, .inl z1)), (q2, .inl (cI, 72, .inl z2)), (q3, .inl (cI, 72, .inl z3))] sz)) 0 0 (va_A [(oX, .inr (5, [.ref oS, .ref oR, .ref oN, .ref o2, .ref oF, .ref oT])), (oS, .inr (3, [.ref rv, .ref rs, .int (nI kc)])), (rv, .inl (cI, 385, .inl v)), (oN, .inr (1, [.ref oS, .ref rp, .ref rt, .ref rl])), (rp, .inl (cI, 72, .inl fp)), (rt, .inl (cI, 72, .inl ft)), (rl, .inl (cI, 72, .inl fl)), (o2, .inr (1, [.ref oS, .ref q1, .ref q2, .ref q3])), (q1, .inl (cI, 72, .inl z1)), (q2, .inl (cI, 72, .inl z2)), (q3, .inl (cI, 72, .inl z3))] sz) := by
  refine kq_startM (cc := cX5_notesLikeFirst) (maxL := 3) (ret := (some .int)) (by decide) rfl (Nat.le_of_ble_eq_true rfl) ?_
  intro p e s m below meth c hx hb hr hml hown hlocks hts hsz hA hP hD hS hK hnm ls hl
  subst hsz
  generalize hAe : va_A [(oX, .inr (5, [.ref oS, .ref oR, .ref oN, .ref o2, .ref oF, .ref oT])), (oS, .inr (3, [.ref rv, .ref rs, .int (nI kc)])), (rv, .inl (cI, 385, .inl v)), (oN, .inr (1, [.ref oS, .ref rp, .ref rt, .ref rl])), (rp, .inl (cI, 72, .inl fp)), (rt, .inl (cI, 72, .inl ft)), (rl, .inl (cI, 72, .inl fl)), (o2, .inr (1, [.ref oS, .ref q1, .ref q2, .ref q3])), (q1, .inl (cI, 72, .inl z1)), (q2, .inl (cI, 72, .inl z2)), (q3, .inl (cI, 72, .inl z3))] s.heap.size = A at hA hD hS ⊢
  have hown : s.vm.findClass RX5 = some m.cls := hown
  have hl : lv_has ls 3 [(0, .ref oX)] := hl
  refine lv_iconst (v := 0) hx hb dX5_notesLikeFirst_0 (by decide) ?_
  refine lv_istore_n (lv' := [(1, .int 0), (0, .ref oX)]) hx hb dX5_notesLikeFirst_1 rfl hl (by decide) rfl (fun ls hl => ?_)
  refine lv_aload_n hx hb dX5_notesLikeFirst_2 rfl (lv_at hl 1 rfl) ?_
  refine va_get (D := (dC, dI)) (ci := 5) (v := .ref oN) (C := RX5) (T := TX5) (N := 6) hx hb hts (by decide +kernel) hown hK.1 hP 0 rfl rfl 2 (by decide) (hts (.fieldLink RX5 28 "NoteWatermarks" "view" "LNoteWatermarks$Note;") (by decide +kernel)) (fun _ h9 => h9) rfl dX5_notesLikeFirst_3 ?_
  refine lv_iconst (v := 0) hx hb dX5_notesLikeFirst_6 (by decide) ?_
  refine kq_callMv (wr := [(oX, .inr (5, [.ref oS, .ref oR, .ref oN, .ref o2, .ref oF, .ref oT])), (o2, .inr (1, [.ref oS, .ref q1, .ref q2, .ref q3])), (q1, .inl (cI, 72, .inl z1)), (q2, .inl (cI, 72, .inl z2)), (q3, .inl (cI, 72, .inl z3))]) (va_runV (As := [.int 0]) (rest := []) ⟨hx, hb, hml, hown, hts⟩ (c_X1_look l dC dI cI s.heap.size oN oS rv rs rp rt rl (nI kc) v fp ft fl 0 (by first | assumption | omega) (by first | assumption | omega)) (cwV 1 hts gX5_notesLikeFirst_X1_look rfl rfl rfl (by decide +kernel) ⟨Nat.le_of_ble_eq_true rfl, Nat.le_of_ble_eq_true rfl⟩) (kq_preV (ci := 1) (q0 := 0) (hP.sub [3, 1, 2, 4, 5, 6] rfl) (hD.sub [3, 1, 2, 4, 5, 6] (by decide) rfl) hK rfl rfl) rfl rfl hl.1 rfl (lv_room (Nat.le_of_ble_eq_true rfl)) dX5_notesLikeFirst_7 ⟨Nat.le_of_ble_eq_true rfl, Nat.le_of_ble_eq_true rfl⟩) hP hD hS hA [3, 1, 2, 4, 5, 6] [0, 7, 8, 9, 10] rfl rfl (by decide) (by decide) (fun u_2 H locs hw_3 hP hD hS => ?_)
  obtain ⟨gp_4, gt_5, gl_6⟩ := u_2
  have hP : va_P (dC, dI) vwCl [(oX, .inr (5, [.ref oS, .ref oR, .ref oN, .ref o2, .ref oF, .ref oT])), (o2, .inr (1, [.ref oS, .ref q1, .ref q2, .ref q3])), (q1, .inl (cI, 72, .inl z1)), (q2, .inl (cI, 72, .inl z2)), (q3, .inl (cI, 72, .inl z3)), (oN, .inr (1, [.ref oS, .ref rp, .ref rt, .ref rl])), (oS, .inr (3, [.ref rv, .ref rs, .int (nI kc)])), (rv, .inl (cI, 385, .inl v)), (rp, .inl (cI, 72, .inl gp_4)), (rt, .inl (cI, 72, .inl gt_5)), (rl, .inl (cI, 72, .inl gl_6))] H := hP
  have hD : va_D A [(oX, .inr (5, [.ref oS, .ref oR, .ref oN, .ref o2, .ref oF, .ref oT])), (o2, .inr (1, [.ref oS, .ref q1, .ref q2, .ref q3])), (q1, .inl (cI, 72, .inl z1)), (q2, .inl (cI, 72, .inl z2)), (q3, .inl (cI, 72, .inl z3)), (oN, .inr (1, [.ref oS, .ref rp, .ref rt, .ref rl])), (oS, .inr (3, [.ref rv, .ref rs, .int (nI kc)])), (rv, .inl (cI, 385, .inl v)), (rp, .inl (cI, 72, .inl gp_4)), (rt, .inl (cI, 72, .inl gt_5)), (rl, .inl (cI, 72, .inl gl_6))] := hD
  try dsimp only at hw_3
  have hlk := hw_3
  refine lv_iconst (v := 1) hx hb dX5_notesLikeFirst_10 (by decide) ?_
  refine lv_istore_n (lv' := [(2, .int 1), (1, .int 0), (0, .ref oX)]) hx hb dX5_notesLikeFirst_11 rfl hl (by decide) rfl (fun ls hl => ?_)
  refine kq_loopM5 (A1 := Nat) (A2 := Int32) (A3 := Nat → Int32) (A4 := Nat → Int32) (A5 := Nat → Int32) (fun (n : Nat) (x : Int32) (z1 : Nat → Int32) (z2 : Nat → Int32) (z3 : Nat → Int32) => 100 - n) (fun (n : Nat) (x : Int32) (z1 : Nat → Int32) (z2 : Nat → Int32) (z3 : Nat → Int32) => (1 ≤ n ∧ n ≤ 100) ∧ (x = n_iv (fun n => if n_lkb v n then 1 else 0) 1 n)) (fun (n : Nat) (x : Int32) (z1 : Nat → Int32) (z2 : Nat → Int32) (z3 : Nat → Int32) => [(0, .ref oX), (1, .int x), (2, .int (nI n))]) (fun (n : Nat) (x : Int32) (z1 : Nat → Int32) (z2 : Nat → Int32) (z3 : Nat → Int32) => [(oX, .inr (5, [.ref oS, .ref oR, .ref oN, .ref o2, .ref oF, .ref oT])), (o2, .inr (1, [.ref oS, .ref q1, .ref q2, .ref q3])), (q1, .inl (cI, 72, .inl z1)), (q2, .inl (cI, 72, .inl z2)), (q3, .inl (cI, 72, .inl z3)), (oN, .inr (1, [.ref oS, .ref rp, .ref rt, .ref rl])), (oS, .inr (3, [.ref rv, .ref rs, .int (nI kc)])), (rv, .inl (cI, 385, .inl v)), (rp, .inl (cI, 72, .inl gp_4)), (rt, .inl (cI, 72, .inl gt_5)), (rl, .inl (cI, 72, .inl gl_6))]) (nL := 3) hK ?_ 1 0 z1 z2 z3 ⟨(by omega), (by exact n_iv_0.symm)⟩ hP hD hS _ (lv_sub hl [2, 1, 0] rfl)
  intro n x z1 z2 z3 hi_8 ih_7 H locs hP hD hS ls hl
  obtain ⟨in_, ix⟩ := hi_8
  have hl : lv_has ls 3 [(0, .ref oX), (1, .int x), (2, .int (nI n))] := hl
  have hP : va_P (dC, dI) vwCl [(oX, .inr (5, [.ref oS, .ref oR, .ref oN, .ref o2, .ref oF, .ref oT])), (o2, .inr (1, [.ref oS, .ref q1, .ref q2, .ref q3])), (q1, .inl (cI, 72, .inl z1)), (q2, .inl (cI, 72, .inl z2)), (q3, .inl (cI, 72, .inl z3)), (oN, .inr (1, [.ref oS, .ref rp, .ref rt, .ref rl])), (oS, .inr (3, [.ref rv, .ref rs, .int (nI kc)])), (rv, .inl (cI, 385, .inl v)), (rp, .inl (cI, 72, .inl gp_4)), (rt, .inl (cI, 72, .inl gt_5)), (rl, .inl (cI, 72, .inl gl_6))] H := hP
  have hD : va_D A [(oX, .inr (5, [.ref oS, .ref oR, .ref oN, .ref o2, .ref oF, .ref oT])), (o2, .inr (1, [.ref oS, .ref q1, .ref q2, .ref q3])), (q1, .inl (cI, 72, .inl z1)), (q2, .inl (cI, 72, .inl z2)), (q3, .inl (cI, 72, .inl z3)), (oN, .inr (1, [.ref oS, .ref rp, .ref rt, .ref rl])), (oS, .inr (3, [.ref rv, .ref rs, .int (nI kc)])), (rv, .inl (cI, 385, .inl v)), (rp, .inl (cI, 72, .inl gp_4)), (rt, .inl (cI, 72, .inl gt_5)), (rl, .inl (cI, 72, .inl gl_6))] := hD
  refine lv_iload_n hx hb dX5_notesLikeFirst_12 rfl (lv_at hl 2 rfl) ?_
  refine lv_bipush (v := 100) hx hb dX5_notesLikeFirst_13 (by decide) ?_
  refine lv_icmp_ge (tgt := 49) hx hb dX5_notesLikeFirst_15 (by decide) (fun c_9 => ?_) (fun c_9 => ?_)
  · skip
    have c_9 := kq_leN (a := 100) (b := n) c_9 (by omega) (by omega)
    refine lv_iload_n hx hb dX5_notesLikeFirst_49 rfl (lv_at hl 1 rfl) ?_
    exact kq_retMi (gp_4, gt_5, gl_6, z1, z2, z3) hx hb hr hlocks (hP.sub [0, 6, 7, 5, 8, 9, 10, 1, 2, 3, 4] rfl) (hD.sub [0, 6, 7, 5, 8, 9, 10, 1, 2, 3, 4] (by decide) rfl) hS dX5_notesLikeFirst_50 (by rw [ix, n_lk, show n = 100 by omega])
  · skip
    have c_9 := kq_nleN (a := 100) (b := n) c_9 (by omega) (by omega)
    refine lv_aload_n hx hb dX5_notesLikeFirst_18 rfl (lv_at hl 0 rfl) ?_
    refine va_get (D := (dC, dI)) (ci := 5) (v := .ref o2) (C := RX5) (T := TX5) (N := 6) hx hb hts (by decide +kernel) hown hK.1 hP 0 rfl rfl 3 (by decide) (hts (.fieldLink RX5 32 "NoteWatermarks" "otherView" "LNoteWatermarks$Note;") (by decide +kernel)) (fun _ h9 => h9) rfl dX5_notesLikeFirst_19 ?_
    refine lv_iload_n hx hb dX5_notesLikeFirst_22 rfl (lv_at hl 2 rfl) ?_
    refine kq_callMv (wr := [(oX, .inr (5, [.ref oS, .ref oR, .ref oN, .ref o2, .ref oF, .ref oT])), (oN, .inr (1, [.ref oS, .ref rp, .ref rt, .ref rl])), (rp, .inl (cI, 72, .inl gp_4)), (rt, .inl (cI, 72, .inl gt_5)), (rl, .inl (cI, 72, .inl gl_6))]) (va_runV (As := [.int (nI n)]) (rest := []) ⟨hx, hb, hml, hown, hts⟩ (c_X1_look l dC dI cI H.size o2 oS rv rs q1 q2 q3 (nI kc) v z1 z2 z3 n (by first | assumption | omega) (by first | assumption | omega)) (cwV 1 hts gX5_notesLikeFirst_X1_look rfl rfl rfl (by decide +kernel) ⟨Nat.le_of_ble_eq_true rfl, Nat.le_of_ble_eq_true rfl⟩) (kq_preV (ci := 1) (q0 := 0) (hP.sub [1, 6, 7, 2, 3, 4] rfl) (hD.sub [1, 6, 7, 2, 3, 4] (by decide) rfl) hK rfl rfl) rfl rfl hl.1 rfl (lv_room (Nat.le_of_ble_eq_true rfl)) dX5_notesLikeFirst_23 ⟨Nat.le_of_ble_eq_true rfl, Nat.le_of_ble_eq_true rfl⟩) hP hD hS hA [1, 6, 7, 2, 3, 4] [0, 5, 8, 9, 10] rfl rfl (by decide) (by decide) (fun u_11 H locs hw_12 hP hD hS => ?_)
    obtain ⟨gp_13, gt_14, gl_15⟩ := u_11
    have hP : va_P (dC, dI) vwCl [(oX, .inr (5, [.ref oS, .ref oR, .ref oN, .ref o2, .ref oF, .ref oT])), (oN, .inr (1, [.ref oS, .ref rp, .ref rt, .ref rl])), (rp, .inl (cI, 72, .inl gp_4)), (rt, .inl (cI, 72, .inl gt_5)), (rl, .inl (cI, 72, .inl gl_6)), (o2, .inr (1, [.ref oS, .ref q1, .ref q2, .ref q3])), (oS, .inr (3, [.ref rv, .ref rs, .int (nI kc)])), (rv, .inl (cI, 385, .inl v)), (q1, .inl (cI, 72, .inl gp_13)), (q2, .inl (cI, 72, .inl gt_14)), (q3, .inl (cI, 72, .inl gl_15))] H := hP
    have hD : va_D A [(oX, .inr (5, [.ref oS, .ref oR, .ref oN, .ref o2, .ref oF, .ref oT])), (oN, .inr (1, [.ref oS, .ref rp, .ref rt, .ref rl])), (rp, .inl (cI, 72, .inl gp_4)), (rt, .inl (cI, 72, .inl gt_5)), (rl, .inl (cI, 72, .inl gl_6)), (o2, .inr (1, [.ref oS, .ref q1, .ref q2, .ref q3])), (oS, .inr (3, [.ref rv, .ref rs, .int (nI kc)])), (rv, .inl (cI, 385, .inl v)), (q1, .inl (cI, 72, .inl gp_13)), (q2, .inl (cI, 72, .inl gt_14)), (q3, .inl (cI, 72, .inl gl_15))] := hD
    try dsimp only at hw_12
    have hlk2 := hw_12
    refine lv_aload_n hx hb dX5_notesLikeFirst_26 rfl (lv_at hl 0 rfl) ?_
    refine va_get (D := (dC, dI)) (ci := 5) (v := .ref oN) (C := RX5) (T := TX5) (N := 6) hx hb hts (by decide +kernel) hown hK.1 hP 0 rfl rfl 2 (by decide) (hts (.fieldLink RX5 28 "NoteWatermarks" "view" "LNoteWatermarks$Note;") (by decide +kernel)) (fun _ h9 => h9) rfl dX5_notesLikeFirst_27 ?_
    refine lv_aload_n hx hb dX5_notesLikeFirst_30 rfl (lv_at hl 0 rfl) ?_
    refine va_get (D := (dC, dI)) (ci := 5) (v := .ref o2) (C := RX5) (T := TX5) (N := 6) hx hb hts (by decide +kernel) hown hK.1 hP 0 rfl rfl 3 (by decide) (hts (.fieldLink RX5 32 "NoteWatermarks" "otherView" "LNoteWatermarks$Note;") (by decide +kernel)) (fun _ h9 => h9) rfl dX5_notesLikeFirst_31 ?_
    refine kq_cV (As := [.ref o2]) (rest := []) ⟨hx, hb, hml, hown, hts⟩ (c_X1_isLike l dC dI cI oN oS rp rt rl o2 q1 q2 q3 gt_5 gt_14 (n_lkb v n = true) inferInstance (n_lkb_iff.trans ⟨fun h k hk => by rw [(hlk k hk).2.1, (hlk2 k hk).2.1]; exact h k hk, fun h k hk => by rw [← (hlk k hk).2.1, ← (hlk2 k hk).2.1]; exact h k hk⟩)) (cwV 1 hts gX5_notesLikeFirst_X1_isLike rfl rfl rfl (by decide +kernel) ⟨Nat.le_of_ble_eq_true rfl, Nat.le_of_ble_eq_true rfl⟩) (hP.sub [1, 3, 5, 9] rfl) hK (ci := 1) (q0 := 0) rfl rfl rfl rfl hl.1 rfl (Nat.le_of_ble_eq_true rfl) dX5_notesLikeFirst_34 ⟨Nat.le_of_ble_eq_true rfl, Nat.le_of_ble_eq_true rfl⟩ ?_
    refine lv_if_eq (tgt := 43) hx hb dX5_notesLikeFirst_37 (by decide) (fun c_16 => ?_) (fun c_16 => ?_)
    · skip
      have c_16 := kq_bf c_16
      refine lv_iinc (v := nI (n + 1)) (lv' := [(2, .int (nI (n + 1))), (0, .ref oX), (1, .int x)]) hx hb dX5_notesLikeFirst_43 hl (k := 2) rfl (nI_1 n) (by decide) rfl (fun ls hl => ?_)
      refine lv_goto (tgt := 12) hx hb dX5_notesLikeFirst_46 (by decide) ?_
      exact ih_7 (n + 1) x gp_13 gt_14 gl_15 ⟨(by omega), (by rw [n_iv_s (show 1 ≤ n by omega), ← ix]; first | rw [if_pos (by assumption)] | rw [if_neg (by assumption), Int32.add_zero])⟩ (by show 100 - (n + 1) < 100 - n; omega) _ _ (hP.sub [0, 5, 8, 9, 10, 1, 6, 7, 2, 3, 4] rfl) (hD.sub [0, 5, 8, 9, 10, 1, 6, 7, 2, 3, 4] (by decide) rfl) hS _ (lv_sub hl [1, 2, 0] rfl)
    · skip
      have c_16 := kq_bt c_16
      refine lv_iinc (v := x + 1) (lv' := [(1, .int (x + 1)), (0, .ref oX), (2, .int (nI n))]) hx hb dX5_notesLikeFirst_40 hl (k := 1) rfl (rfl) (by decide) rfl (fun ls hl => ?_)
      refine lv_iinc (v := nI (n + 1)) (lv' := [(2, .int (nI (n + 1))), (1, .int (x + 1)), (0, .ref oX)]) hx hb dX5_notesLikeFirst_43 hl (k := 2) rfl (nI_1 n) (by decide) rfl (fun ls hl => ?_)
      refine lv_goto (tgt := 12) hx hb dX5_notesLikeFirst_46 (by decide) ?_
      exact ih_7 (n + 1) (x + 1) gp_13 gt_14 gl_15 ⟨(by omega), (by rw [n_iv_s (show 1 ≤ n by omega), ← ix]; first | rw [if_pos (by assumption)] | rw [if_neg (by assumption), Int32.add_zero])⟩ (by show 100 - (n + 1) < 100 - n; omega) _ _ (hP.sub [0, 5, 8, 9, 10, 1, 6, 7, 2, 3, 4] rfl) (hD.sub [0, 5, 8, 9, 10, 1, 6, 7, 2, 3, 4] (by decide) rfl) hS _ (lv_sub hl [2, 1, 0] rfl)
set_option maxHeartbeats 4000000 in
set_option maxRecDepth 100000 in
theorem c_X5_inkedCells (l : Launch) (dC : Nat → ClassId) (dI : Nat → Nat → Nat) (cI : ClassId) (oX : Nat) (oS : Nat) (oR : Nat) (oN : Nat) (o2 : Nat) (oF : Nat) (oT : Nat) (rv : Nat) (rs : Nat) (kc : Nat) (v : Nat → Int32)  : Met l yX5_inkedCells wsX5_inkedCells ({ frames := 1, cells := 0, slots := 0, locals := 21 }) (kq_R dC dI cI [.ref oX] [(oX, .inr (5, [.ref oS, .ref oR, .ref oN, .ref o2, .ref oF, .ref oT])), (oS, .inr (3, [.ref rv, .ref rs, .int (nI kc)])), (rv, .inl (cI, 385, .inl v))]) (QcRead (n_ik v)) 0 0 (fun _ => False) := by
  refine kq_start (cc := cX5_inkedCells) (maxL := 4) (ret := (some .int)) (plainFor_of_name (by decide)) rfl (Nat.le_of_ble_eq_true rfl) ?_
  intro p e s m below meth c hx hb hr hml hown hlocks hts hP hK ls hl
  have hown : s.vm.findClass RX5 = some m.cls := hown
  have hl : lv_has ls 4 [(0, .ref oX)] := hl
  refine lv_iconst (v := 0) hx hb dX5_inkedCells_0 (by decide) ?_
  refine lv_istore_n (lv' := [(1, .int 0), (0, .ref oX)]) hx hb dX5_inkedCells_1 rfl hl (by decide) rfl (fun ls hl => ?_)
  refine lv_iconst (v := 0) hx hb dX5_inkedCells_2 (by decide) ?_
  refine lv_istore_n (lv' := [(2, .int 0), (1, .int 0), (0, .ref oX)]) hx hb dX5_inkedCells_3 rfl hl (by decide) rfl (fun ls hl => ?_)
  refine kq_loop2 (A1 := Nat) (A2 := Int32) (fun (y : Nat) (x : Int32) => 6 - y) (fun (y : Nat) (x : Int32) => (y ≤ 6) ∧ (x = n_iv (fun y => n_iv (fun z => if v (294 + (y * 12 + z)) = 0 then 0 else 1) 0 12) 0 y)) (fun (y : Nat) (x : Int32) => [(0, .ref oX), (1, .int x), (2, .int (nI y))]) (nL := 4) ?_ 0 0 ⟨(by omega), (by exact n_iv_0.symm)⟩ _ (lv_sub hl [2, 1, 0] rfl)
  intro y x hi_2 ih_1 ls hl
  obtain ⟨iy, ix⟩ := hi_2
  have hl : lv_has ls 4 [(0, .ref oX), (1, .int x), (2, .int (nI y))] := hl
  refine lv_iload_n hx hb dX5_inkedCells_4 rfl (lv_at hl 2 rfl) ?_
  refine lv_bipush (v := 6) hx hb dX5_inkedCells_5 (by decide) ?_
  refine lv_icmp_ge (tgt := 48) hx hb dX5_inkedCells_7 (by decide) (fun c_3 => ?_) (fun c_3 => ?_)
  · skip
    have c_3 := kq_leN (a := 6) (b := y) c_3 (by omega) (by omega)
    refine lv_iload_n hx hb dX5_inkedCells_48 rfl (lv_at hl 1 rfl) ?_
    exact kq_ret hx hb hr hlocks dX5_inkedCells_49 (by rw [ix, n_ik, show y = 6 by omega])
  · skip
    have c_3 := kq_nleN (a := 6) (b := y) c_3 (by omega) (by omega)
    refine lv_iconst (v := 0) hx hb dX5_inkedCells_10 (by decide) ?_
    refine lv_istore_n (lv' := [(3, .int 0), (0, .ref oX), (1, .int x), (2, .int (nI y))]) hx hb dX5_inkedCells_11 rfl hl (by decide) rfl (fun ls hl => ?_)
    refine kq_loop2 (A1 := Nat) (A2 := Int32) (fun (z : Nat) (x : Int32) => 12 - z) (fun (z : Nat) (x : Int32) => (z ≤ 12) ∧ (x = n_iv (fun y => n_iv (fun z => if v (294 + (y * 12 + z)) = 0 then 0 else 1) 0 12) 0 y + n_iv (fun z => if v (294 + (y * 12 + z)) = 0 then 0 else 1) 0 z)) (fun (z : Nat) (x : Int32) => [(0, .ref oX), (1, .int x), (2, .int (nI y)), (3, .int (nI z))]) (nL := 4) ?_ 0 x ⟨(by omega), (by rw [n_iv_0, Int32.add_zero]; exact ix)⟩ _ (lv_sub hl [1, 2, 3, 0] rfl)
    intro z x hi_5 ih_4 ls hl
    obtain ⟨iz, ix⟩ := hi_5
    have hl : lv_has ls 4 [(0, .ref oX), (1, .int x), (2, .int (nI y)), (3, .int (nI z))] := hl
    refine lv_iload_n hx hb dX5_inkedCells_12 rfl (lv_at hl 3 rfl) ?_
    refine lv_bipush (v := 12) hx hb dX5_inkedCells_13 (by decide) ?_
    refine lv_icmp_ge (tgt := 42) hx hb dX5_inkedCells_15 (by decide) (fun c_6 => ?_) (fun c_6 => ?_)
    · skip
      have c_6 := kq_leN (a := 12) (b := z) c_6 (by omega) (by omega)
      refine lv_iinc (v := nI (y + 1)) (lv' := [(2, .int (nI (y + 1))), (0, .ref oX), (1, .int x), (3, .int (nI z))]) hx hb dX5_inkedCells_42 hl (k := 2) rfl (nI_1 y) (by decide) rfl (fun ls hl => ?_)
      refine lv_goto (tgt := 4) hx hb dX5_inkedCells_45 (by decide) ?_
      exact ih_1 (y + 1) x ⟨(by omega), (by rw [n_iv_s (Nat.zero_le _), ix, show z = 12 by omega])⟩ (by show 6 - (y + 1) < 6 - y; omega) _ (lv_sub hl [1, 2, 0] rfl)
    · skip
      have c_6 := kq_nleN (a := 12) (b := z) c_6 (by omega) (by omega)
      refine lv_aload_n hx hb dX5_inkedCells_18 rfl (lv_at hl 0 rfl) ?_
      refine va_get (D := (dC, dI)) (ci := 5) (v := .ref oS) (C := RX5) (T := TX5) (N := 6) hx hb hts (by decide +kernel) hown hK.1 hP 0 rfl rfl 0 (by decide) (hts (.fieldLink RX5 12 "NoteWatermarks" "state" "LNoteWatermarks$State;") (by decide +kernel)) (fun _ h9 => h9) rfl dX5_inkedCells_19 ?_
      refine lv_iload_n hx hb dX5_inkedCells_22 rfl (lv_at hl 2 rfl) ?_
      refine lv_iload_n hx hb dX5_inkedCells_23 rfl (lv_at hl 3 rfl) ?_
      refine kq_cS (As := [.int (nI y), .int (nI z)]) (rest := [.ref oS]) ⟨hx, hb, hml, hown, hts⟩ (c_X3_inkPlace l dC dI cI y z ) (va_cwS 2 hts gX5_inkedCells_X3_inkPlace rfl rfl rfl (by decide +kernel) ⟨Nat.le_of_ble_eq_true rfl, Nat.le_of_ble_eq_true rfl⟩) (hP.sub [] rfl) hK rfl hl.1 rfl (Nat.le_of_ble_eq_true rfl) dX5_inkedCells_24 ⟨Nat.le_of_ble_eq_true rfl, Nat.le_of_ble_eq_true rfl⟩ ?_
      refine kq_cV (As := [.int (nI (294 + y * 12 + z))]) (rest := []) ⟨hx, hb, hml, hown, hts⟩ (c_X3_at l dC dI cI oS rv rs (nI kc) v (294 + y * 12 + z) (by first | assumption | omega)) (cwV 1 hts gX5_inkedCells_X3_at rfl rfl rfl (by decide +kernel) ⟨Nat.le_of_ble_eq_true rfl, Nat.le_of_ble_eq_true rfl⟩) (hP.sub [1, 2] rfl) hK (ci := 3) (q0 := 0) rfl rfl rfl rfl hl.1 rfl (Nat.le_of_ble_eq_true rfl) dX5_inkedCells_27 ⟨Nat.le_of_ble_eq_true rfl, Nat.le_of_ble_eq_true rfl⟩ ?_
      refine kq_top (z := v (294 + (y * 12 + z))) (congrArg v (by omega)) ?_
      refine lv_if_eq (tgt := 36) hx hb dX5_inkedCells_30 (by decide) (fun c_7 => ?_) (fun c_7 => ?_)
      · skip
        refine lv_iinc (v := nI (z + 1)) (lv' := [(3, .int (nI (z + 1))), (0, .ref oX), (1, .int x), (2, .int (nI y))]) hx hb dX5_inkedCells_36 hl (k := 3) rfl (nI_1 z) (by decide) rfl (fun ls hl => ?_)
        refine lv_goto (tgt := 12) hx hb dX5_inkedCells_39 (by decide) ?_
        exact ih_4 (z + 1) x ⟨(by omega), (by rw [ix, n_iv_s (Nat.zero_le _)]; first | rw [if_pos (by assumption), Int32.add_zero] | rw [if_neg (by assumption), Int32.add_assoc])⟩ (by show 12 - (z + 1) < 12 - z; omega) _ (lv_sub hl [1, 2, 3, 0] rfl)
      · skip
        refine lv_iinc (v := x + 1) (lv' := [(1, .int (x + 1)), (0, .ref oX), (2, .int (nI y)), (3, .int (nI z))]) hx hb dX5_inkedCells_33 hl (k := 1) rfl (rfl) (by decide) rfl (fun ls hl => ?_)
        refine lv_iinc (v := nI (z + 1)) (lv' := [(3, .int (nI (z + 1))), (1, .int (x + 1)), (0, .ref oX), (2, .int (nI y))]) hx hb dX5_inkedCells_36 hl (k := 3) rfl (nI_1 z) (by decide) rfl (fun ls hl => ?_)
        refine lv_goto (tgt := 12) hx hb dX5_inkedCells_39 (by decide) ?_
        exact ih_4 (z + 1) (x + 1) ⟨(by omega), (by rw [ix, n_iv_s (Nat.zero_le _)]; first | rw [if_pos (by assumption), Int32.add_zero] | rw [if_neg (by assumption), Int32.add_assoc])⟩ (by show 12 - (z + 1) < 12 - z; omega) _ (lv_sub hl [2, 1, 3, 0] rfl)
set_option maxHeartbeats 4000000 in
set_option maxRecDepth 100000 in
theorem c_X5_count (l : Launch) (dC : Nat → ClassId) (dI : Nat → Nat → Nat) (cI : ClassId) (sz : Nat) (oX : Nat) (oS : Nat) (oR : Nat) (oN : Nat) (o2 : Nat) (oF : Nat) (oT : Nat) (rv : Nat) (rs : Nat) (kc : Nat) (rp : Nat) (rt : Nat) (rl : Nat) (q1 : Nat) (q2 : Nat) (q3 : Nat) (v : Nat → Int32) (fp : Nat → Int32) (ft : Nat → Int32) (fl : Nat → Int32) (z1 : Nat → Int32) (z2 : Nat → Int32) (z3 : Nat → Int32) (q : Nat) (hI : n_I v) (hq : q < 9) : Met l yX5_count wsX5_count ({ frames := 5, cells := 0, slots := 0, locals := 121 }) (kq_M dC dI cI [.ref oX, .int (nI q)] sz [(oX, .inr (5, [.ref oS, .ref oR, .ref oN, .ref o2, .ref oF, .ref oT])), (oS, .inr (3, [.ref rv, .ref rs, .int (nI kc)])), (rv, .inl (cI, 385, .inl v)), (oR, .inr (2, [.ref oS])), (oF, .inr (0, [.ref oS, .ref oN])), (oN, .inr (1, [.ref oS, .ref rp, .ref rt, .ref rl])), (rp, .inl (cI, 72, .inl fp)), (rt, .inl (cI, 72, .inl ft)), (rl, .inl (cI, 72, .inl fl)), (o2, .inr (1, [.ref oS, .ref q1, .ref q2, .ref q3])), (q1, .inl (cI, 72, .inl z1)), (q2, .inl (cI, 72, .inl z2)), (q3, .inl (cI, 72, .inl z3))]) (va_Qi (fun (r : Int32) (u : (Nat → Int32) × (Nat → Int32) × (Nat → Int32) × (Nat → Int32) × (Nat → Int32) × (Nat → Int32)) => r = n_cnt v kc q) (kq_B dC dI (va_A [(oX, .inr (5, [.ref oS, .ref oR, .ref oN, .ref o2, .ref oF, .ref oT])), (oS, .inr (3, [.ref rv, .ref rs, .int (nI kc)])), (rv, .inl (cI, 385, .inl v)), (oR, .inr (2, [.ref oS])), (oF, .inr (0, [.ref oS, .ref oN])), (oN, .inr (1, [.ref oS, .ref rp, .ref rt, .ref rl])), (rp, .inl (cI, 72, .inl fp)), (rt, .inl (cI, 72, .inl ft)), (rl, .inl (cI, 72, .inl fl)), (o2, .inr (1, [.ref oS, .ref q1, .ref q2, .ref q3])), (q1, .inl (cI, 72, .inl z1)), (q2, .inl (cI, 72, .inl z2)), (q3, .inl (cI, 72, .inl z3))] sz) (fun u : (Nat → Int32) × (Nat → Int32) × (Nat → Int32) × (Nat → Int32) × (Nat → Int32) × (Nat → Int32) => [(oX, .inr (5, [.ref oS, .ref oR, .ref oN, .ref o2, .ref oF, .ref oT])), (oS, .inr (3, [.ref rv, .ref rs, .int (nI kc)])), (rv, .inl (cI, 385, .inl v)), (oR, .inr (2, [.ref oS])), (oF, .inr (0, [.ref oS, .ref oN])), (oN, .inr (1, [.ref oS, .ref rp, .ref rt, .ref rl])), (rp, .inl (cI, 72, .inl u.1)), (rt, .inl (cI, 72, .inl u.2.1)), (rl, .inl (cI, 72, .inl u.2.2.1)), (o2, .inr (1, [.ref oS, .ref q1, .ref q2, .ref q3])), (q1, .inl (cI, 72, .inl u.2.2.2.1)), (q2, .inl (cI, 72, .inl u.2.2.2.2.1)), (q3, .inl (cI, 72, .inl u.2.2.2.2.2))])) (va_A [(oX, .inr (5, [.ref oS, .ref oR, .ref oN, .ref o2, .ref oF, .ref oT])), (oS, .inr (3, [.ref rv, .ref rs, .int (nI kc)])), (rv, .inl (cI, 385, .inl v)), (oR, .inr (2, [.ref oS])), (oF, .inr (0, [.ref oS, .ref oN])), (oN, .inr (1, [.ref oS, .ref rp, .ref rt, .ref rl])), (rp, .inl (cI, 72, .inl fp)), (rt, .inl (cI, 72, .inl ft)), (rl, .inl (cI, 72, .inl fl)), (o2, .inr (1, [.ref oS, .ref q1, .ref q2, .ref q3])), (q1, .inl (cI, 72, .inl z1)), (q2, .inl (cI, 72, .inl z2)), (q3, .inl (cI, 72, .inl z3))] sz)) 0 0 (va_A [(oX, .inr (5, [.ref oS, .ref oR, .ref oN, .ref o2, .ref oF, .ref oT])), (oS, .inr (3, [.ref rv, .ref rs, .int (nI kc)])), (rv, .inl (cI, 385, .inl v)), (oR, .inr (2, [.ref oS])), (oF, .inr (0, [.ref oS, .ref oN])), (oN, .inr (1, [.ref oS, .ref rp, .ref rt, .ref rl])), (rp, .inl (cI, 72, .inl fp)), (rt, .inl (cI, 72, .inl ft)), (rl, .inl (cI, 72, .inl fl)), (o2, .inr (1, [.ref oS, .ref q1, .ref q2, .ref q3])), (q1, .inl (cI, 72, .inl z1)), (q2, .inl (cI, 72, .inl z2)), (q3, .inl (cI, 72, .inl z3))] sz) := by
  refine kq_startM (cc := cX5_count) (maxL := 2) (ret := (some .int)) (by decide) rfl (Nat.le_of_ble_eq_true rfl) ?_
  intro p e s m below meth c hx hb hr hml hown hlocks hts hsz hA hP hD hS hK hnm ls hl
  subst hsz
  generalize hAe : va_A [(oX, .inr (5, [.ref oS, .ref oR, .ref oN, .ref o2, .ref oF, .ref oT])), (oS, .inr (3, [.ref rv, .ref rs, .int (nI kc)])), (rv, .inl (cI, 385, .inl v)), (oR, .inr (2, [.ref oS])), (oF, .inr (0, [.ref oS, .ref oN])), (oN, .inr (1, [.ref oS, .ref rp, .ref rt, .ref rl])), (rp, .inl (cI, 72, .inl fp)), (rt, .inl (cI, 72, .inl ft)), (rl, .inl (cI, 72, .inl fl)), (o2, .inr (1, [.ref oS, .ref q1, .ref q2, .ref q3])), (q1, .inl (cI, 72, .inl z1)), (q2, .inl (cI, 72, .inl z2)), (q3, .inl (cI, 72, .inl z3))] s.heap.size = A at hA hD hS ⊢
  have hown : s.vm.findClass RX5 = some m.cls := hown
  have hl : lv_has ls 2 [(0, .ref oX), (1, .int (nI q))] := hl
  have hs1 := (n_I_s hI).2.2.2.2.1
  refine lv_iload_n hx hb dX5_count_0 rfl (lv_at hl 1 rfl) ?_
  refine lv_iconst (v := 0) hx hb dX5_count_1 (by decide) ?_
  refine lv_bipush (v := 8) hx hb dX5_count_2 (by decide) ?_
  refine kq_cS (As := [.int (nI q), .int 0, .int 8]) (rest := []) ⟨hx, hb, hml, hown, hts⟩ (c_X5_isBetween_n l dC dI cI q 0 8 (by first | assumption | omega) (by first | assumption | omega) (by first | assumption | omega)) (va_cwS 3 hts gX5_count_X5_isBetween rfl rfl rfl (by decide +kernel) ⟨Nat.le_of_ble_eq_true rfl, Nat.le_of_ble_eq_true rfl⟩) (hP.sub [] rfl) hK rfl hl.1 rfl (Nat.le_of_ble_eq_true rfl) dX5_count_4 ⟨Nat.le_of_ble_eq_true rfl, Nat.le_of_ble_eq_true rfl⟩ ?_
  refine kq_top (z := 1) (if_pos (by omega)) ?_
  refine kq_callMv (wr := [(oX, .inr (5, [.ref oS, .ref oR, .ref oN, .ref o2, .ref oF, .ref oT])), (oS, .inr (3, [.ref rv, .ref rs, .int (nI kc)])), (rv, .inl (cI, 385, .inl v)), (oR, .inr (2, [.ref oS])), (oF, .inr (0, [.ref oS, .ref oN])), (oN, .inr (1, [.ref oS, .ref rp, .ref rt, .ref rl])), (rp, .inl (cI, 72, .inl fp)), (rt, .inl (cI, 72, .inl ft)), (rl, .inl (cI, 72, .inl fl)), (o2, .inr (1, [.ref oS, .ref q1, .ref q2, .ref q3])), (q1, .inl (cI, 72, .inl z1)), (q2, .inl (cI, 72, .inl z2)), (q3, .inl (cI, 72, .inl z3))]) (va_runS (As := [.int 1]) (rest := []) ⟨hx, hb, hml, hown, hts⟩ (c_X5_needArgument l dC dI cI s.heap.size  ) (va_cwS 1 hts gX5_count_X5_needArgument rfl rfl rfl (by decide +kernel) ⟨Nat.le_of_ble_eq_true rfl, Nat.le_of_ble_eq_true rfl⟩) (kq_preS (hP.sub [] rfl) (hD.sub [] (by decide) rfl) hK) rfl rfl hl.1 rfl (lv_room (Nat.le_of_ble_eq_true rfl)) dX5_count_7 ⟨Nat.le_of_ble_eq_true rfl, Nat.le_of_ble_eq_true rfl⟩) hP hD hS hA [] [0, 1, 2, 3, 4, 5, 6, 7, 8, 9, 10, 11, 12] rfl rfl (by decide) (by decide) (fun u_2 H locs hw_3 hP hD hS => ?_)
  have hP : va_P (dC, dI) vwCl [(oX, .inr (5, [.ref oS, .ref oR, .ref oN, .ref o2, .ref oF, .ref oT])), (oS, .inr (3, [.ref rv, .ref rs, .int (nI kc)])), (rv, .inl (cI, 385, .inl v)), (oR, .inr (2, [.ref oS])), (oF, .inr (0, [.ref oS, .ref oN])), (oN, .inr (1, [.ref oS, .ref rp, .ref rt, .ref rl])), (rp, .inl (cI, 72, .inl fp)), (rt, .inl (cI, 72, .inl ft)), (rl, .inl (cI, 72, .inl fl)), (o2, .inr (1, [.ref oS, .ref q1, .ref q2, .ref q3])), (q1, .inl (cI, 72, .inl z1)), (q2, .inl (cI, 72, .inl z2)), (q3, .inl (cI, 72, .inl z3))] H := hP
  have hD : va_D A [(oX, .inr (5, [.ref oS, .ref oR, .ref oN, .ref o2, .ref oF, .ref oT])), (oS, .inr (3, [.ref rv, .ref rs, .int (nI kc)])), (rv, .inl (cI, 385, .inl v)), (oR, .inr (2, [.ref oS])), (oF, .inr (0, [.ref oS, .ref oN])), (oN, .inr (1, [.ref oS, .ref rp, .ref rt, .ref rl])), (rp, .inl (cI, 72, .inl fp)), (rt, .inl (cI, 72, .inl ft)), (rl, .inl (cI, 72, .inl fl)), (o2, .inr (1, [.ref oS, .ref q1, .ref q2, .ref q3])), (q1, .inl (cI, 72, .inl z1)), (q2, .inl (cI, 72, .inl z2)), (q3, .inl (cI, 72, .inl z3))] := hD
  refine lv_iload_n hx hb dX5_count_10 rfl (lv_at hl 1 rfl) ?_
  rcases (show q = 0 ∨ q = 1 ∨ q = 2 ∨ q = 3 ∨ q = 4 ∨ q = 5 ∨ q = 6 ∨ q = 7 ∨ q = 8 from by omega) with rfl | rfl | rfl | rfl | rfl | rfl | rfl | rfl | rfl
  · skip
    refine lv_tableIn (off := 45) (tgt := 56) hx hb dX5_count_11 (by decide) (by decide) (by decide) (by decide) ?_
    refine lv_aload_n hx hb dX5_count_56 rfl (lv_at hl 0 rfl) ?_
    refine va_get (D := (dC, dI)) (ci := 5) (v := .ref oF) (C := RX5) (T := TX5) (N := 6) hx hb hts (by decide +kernel) hown hK.1 hP 0 rfl rfl 4 (by decide) (hts (.fieldLink RX5 40 "NoteWatermarks" "figures" "LNoteWatermarks$Figures;") (by decide +kernel)) (fun _ h9 => h9) rfl dX5_count_57 ?_
    refine kq_cV (As := []) (rest := []) ⟨hx, hb, hml, hown, hts⟩ (c_X0_howMany l dC dI cI oF oN oS rv rs (nI kc) v (by first | assumption | omega)) (cwV 0 hts gX5_count_X0_howMany rfl rfl rfl (by decide +kernel) ⟨Nat.le_of_ble_eq_true rfl, Nat.le_of_ble_eq_true rfl⟩) (hP.sub [4, 1, 2] rfl) hK (ci := 0) (q0 := 0) rfl rfl rfl rfl hl.1 rfl (Nat.le_of_ble_eq_true rfl) dX5_count_60 ⟨Nat.le_of_ble_eq_true rfl, Nat.le_of_ble_eq_true rfl⟩ ?_
    exact kq_retMi (fp, ft, fl, z1, z2, z3) hx hb hr hlocks hP hD hS dX5_count_63 (by rfl)
  · skip
    refine lv_tableIn (off := 53) (tgt := 64) hx hb dX5_count_11 (by decide) (by decide) (by decide) (by decide) ?_
    refine lv_aload_n hx hb dX5_count_64 rfl (lv_at hl 0 rfl) ?_
    refine va_get (D := (dC, dI)) (ci := 5) (v := .ref oF) (C := RX5) (T := TX5) (N := 6) hx hb hts (by decide +kernel) hown hK.1 hP 0 rfl rfl 4 (by decide) (hts (.fieldLink RX5 40 "NoteWatermarks" "figures" "LNoteWatermarks$Figures;") (by decide +kernel)) (fun _ h9 => h9) rfl dX5_count_65 ?_
    refine kq_cV (As := []) (rest := []) ⟨hx, hb, hml, hown, hts⟩ (c_X0_howManyHidden l dC dI cI oF oN oS rv rs (nI kc) v (by first | assumption | omega)) (cwV 0 hts gX5_count_X0_howManyHidden rfl rfl rfl (by decide +kernel) ⟨Nat.le_of_ble_eq_true rfl, Nat.le_of_ble_eq_true rfl⟩) (hP.sub [4, 1, 2] rfl) hK (ci := 0) (q0 := 0) rfl rfl rfl rfl hl.1 rfl (Nat.le_of_ble_eq_true rfl) dX5_count_68 ⟨Nat.le_of_ble_eq_true rfl, Nat.le_of_ble_eq_true rfl⟩ ?_
    exact kq_retMi (fp, ft, fl, z1, z2, z3) hx hb hr hlocks hP hD hS dX5_count_71 (by rfl)
  · skip
    refine lv_tableIn (off := 61) (tgt := 72) hx hb dX5_count_11 (by decide) (by decide) (by decide) (by decide) ?_
    refine lv_aload_n hx hb dX5_count_72 rfl (lv_at hl 0 rfl) ?_
    refine va_get (D := (dC, dI)) (ci := 5) (v := .ref oF) (C := RX5) (T := TX5) (N := 6) hx hb hts (by decide +kernel) hown hK.1 hP 0 rfl rfl 4 (by decide) (hts (.fieldLink RX5 40 "NoteWatermarks" "figures" "LNoteWatermarks$Figures;") (by decide +kernel)) (fun _ h9 => h9) rfl dX5_count_73 ?_
    refine lv_iconst (v := 0) hx hb dX5_count_76 (by decide) ?_
    refine kq_callMi (wr := [(oX, .inr (5, [.ref oS, .ref oR, .ref oN, .ref o2, .ref oF, .ref oT])), (oR, .inr (2, [.ref oS])), (o2, .inr (1, [.ref oS, .ref q1, .ref q2, .ref q3])), (q1, .inl (cI, 72, .inl z1)), (q2, .inl (cI, 72, .inl z2)), (q3, .inl (cI, 72, .inl z3))]) (va_runV (As := [.int 0]) (rest := []) ⟨hx, hb, hml, hown, hts⟩ (c_X0_howManyGood l dC dI cI H.size oF oN oS rv rs rp rt rl (nI kc) v fp ft fl 0 (by first | assumption | omega) (by first | assumption | omega)) (cwV 1 hts gX5_count_X0_howManyGood rfl rfl rfl (by decide +kernel) ⟨Nat.le_of_ble_eq_true rfl, Nat.le_of_ble_eq_true rfl⟩) (kq_preV (ci := 0) (q0 := 0) (hP.sub [4, 5, 1, 2, 6, 7, 8] rfl) (hD.sub [4, 5, 1, 2, 6, 7, 8] (by decide) rfl) hK rfl rfl) rfl rfl hl.1 rfl (lv_room (Nat.le_of_ble_eq_true rfl)) dX5_count_77 ⟨Nat.le_of_ble_eq_true rfl, Nat.le_of_ble_eq_true rfl⟩) hP hD hS hA [4, 5, 1, 2, 6, 7, 8] [0, 3, 9, 10, 11, 12] rfl rfl (by decide) (by decide) (fun r_4 u_5 H locs hw_6 hP hD hS => ?_)
    obtain ⟨gp_7, gt_8, gl_9⟩ := u_5
    have hP : va_P (dC, dI) vwCl [(oX, .inr (5, [.ref oS, .ref oR, .ref oN, .ref o2, .ref oF, .ref oT])), (oR, .inr (2, [.ref oS])), (o2, .inr (1, [.ref oS, .ref q1, .ref q2, .ref q3])), (q1, .inl (cI, 72, .inl z1)), (q2, .inl (cI, 72, .inl z2)), (q3, .inl (cI, 72, .inl z3)), (oF, .inr (0, [.ref oS, .ref oN])), (oN, .inr (1, [.ref oS, .ref rp, .ref rt, .ref rl])), (oS, .inr (3, [.ref rv, .ref rs, .int (nI kc)])), (rv, .inl (cI, 385, .inl v)), (rp, .inl (cI, 72, .inl gp_7)), (rt, .inl (cI, 72, .inl gt_8)), (rl, .inl (cI, 72, .inl gl_9))] H := hP
    have hD : va_D A [(oX, .inr (5, [.ref oS, .ref oR, .ref oN, .ref o2, .ref oF, .ref oT])), (oR, .inr (2, [.ref oS])), (o2, .inr (1, [.ref oS, .ref q1, .ref q2, .ref q3])), (q1, .inl (cI, 72, .inl z1)), (q2, .inl (cI, 72, .inl z2)), (q3, .inl (cI, 72, .inl z3)), (oF, .inr (0, [.ref oS, .ref oN])), (oN, .inr (1, [.ref oS, .ref rp, .ref rt, .ref rl])), (oS, .inr (3, [.ref rv, .ref rs, .int (nI kc)])), (rv, .inl (cI, 385, .inl v)), (rp, .inl (cI, 72, .inl gp_7)), (rt, .inl (cI, 72, .inl gt_8)), (rl, .inl (cI, 72, .inl gl_9))] := hD
    obtain rfl := hw_6
    exact kq_retMi (gp_7, gt_8, gl_9, z1, z2, z3) hx hb hr hlocks (hP.sub [0, 8, 9, 1, 6, 7, 10, 11, 12, 2, 3, 4, 5] rfl) (hD.sub [0, 8, 9, 1, 6, 7, 10, 11, 12, 2, 3, 4, 5] (by decide) rfl) hS dX5_count_80 (by rfl)
  · skip
    refine lv_tableIn (off := 70) (tgt := 81) hx hb dX5_count_11 (by decide) (by decide) (by decide) (by decide) ?_
    refine lv_aload_n hx hb dX5_count_81 rfl (lv_at hl 0 rfl) ?_
    refine va_get (D := (dC, dI)) (ci := 5) (v := .ref oR) (C := RX5) (T := TX5) (N := 6) hx hb hts (by decide +kernel) hown hK.1 hP 0 rfl rfl 1 (by decide) (hts (.fieldLink RX5 21 "NoteWatermarks" "rolls" "LNoteWatermarks$Rolls;") (by decide +kernel)) (fun _ h9 => h9) rfl dX5_count_82 ?_
    refine lv_aload_n hx hb dX5_count_85 rfl (lv_at hl 0 rfl) ?_
    refine va_get (D := (dC, dI)) (ci := 5) (v := .ref oS) (C := RX5) (T := TX5) (N := 6) hx hb hts (by decide +kernel) hown hK.1 hP 0 rfl rfl 0 (by decide) (hts (.fieldLink RX5 12 "NoteWatermarks" "state" "LNoteWatermarks$State;") (by decide +kernel)) (fun _ h9 => h9) rfl dX5_count_86 ?_
    refine lv_iconst (v := 1) hx hb dX5_count_89 (by decide) ?_
    refine kq_cS (As := [.int 1]) (rest := [.ref oS, .ref oR]) ⟨hx, hb, hml, hown, hts⟩ (c_X3_settingPlace l dC dI cI 1 ) (va_cwS 1 hts gX5_count_X3_settingPlace rfl rfl rfl (by decide +kernel) ⟨Nat.le_of_ble_eq_true rfl, Nat.le_of_ble_eq_true rfl⟩) (hP.sub [] rfl) hK rfl hl.1 rfl (Nat.le_of_ble_eq_true rfl) dX5_count_90 ⟨Nat.le_of_ble_eq_true rfl, Nat.le_of_ble_eq_true rfl⟩ ?_
    refine kq_cV (As := [.int (nI (382 + 1))]) (rest := [.ref oR]) ⟨hx, hb, hml, hown, hts⟩ (c_X3_at l dC dI cI oS rv rs (nI kc) v (382 + 1) (by first | assumption | omega)) (cwV 1 hts gX5_count_X3_at rfl rfl rfl (by decide +kernel) ⟨Nat.le_of_ble_eq_true rfl, Nat.le_of_ble_eq_true rfl⟩) (hP.sub [1, 2] rfl) hK (ci := 3) (q0 := 0) rfl rfl rfl rfl hl.1 rfl (Nat.le_of_ble_eq_true rfl) dX5_count_93 ⟨Nat.le_of_ble_eq_true rfl, Nat.le_of_ble_eq_true rfl⟩ ?_
    refine kq_top (z := nI (n_s v 1)) ((n_I_s hI).2.2.1) ?_
    refine kq_cV (As := [.int (nI (n_s v 1))]) (rest := []) ⟨hx, hb, hml, hown, hts⟩ (c_X2_notesAllAround l dC dI cI oR oS rv rs (nI kc) v (n_s v 1) (by first | assumption | omega) (by first | assumption | omega)) (cwV 1 hts gX5_count_X2_notesAllAround rfl rfl rfl (by decide +kernel) ⟨Nat.le_of_ble_eq_true rfl, Nat.le_of_ble_eq_true rfl⟩) (hP.sub [3, 1, 2] rfl) hK (ci := 2) (q0 := 0) rfl rfl rfl rfl hl.1 rfl (Nat.le_of_ble_eq_true rfl) dX5_count_96 ⟨Nat.le_of_ble_eq_true rfl, Nat.le_of_ble_eq_true rfl⟩ ?_
    exact kq_retMi (fp, ft, fl, z1, z2, z3) hx hb hr hlocks hP hD hS dX5_count_99 (by rfl)
  · skip
    refine lv_tableIn (off := 89) (tgt := 100) hx hb dX5_count_11 (by decide) (by decide) (by decide) (by decide) ?_
    refine lv_aload_n hx hb dX5_count_100 rfl (lv_at hl 0 rfl) ?_
    refine kq_callMi (wr := [(oR, .inr (2, [.ref oS])), (oF, .inr (0, [.ref oS, .ref oN]))]) (va_runV (As := []) (rest := []) ⟨hx, hb, hml, hown, hts⟩ (c_X5_notesLikeFirst l dC dI cI H.size oX oS oR oN o2 oF oT rv rs kc rp rt rl q1 q2 q3 v fp ft fl z1 z2 z3 (by first | assumption | omega)) (cwV 0 hts gX5_count_X5_notesLikeFirst rfl rfl rfl (by decide +kernel) ⟨Nat.le_of_ble_eq_true rfl, Nat.le_of_ble_eq_true rfl⟩) (kq_preV (ci := 5) (q0 := 0) (hP.sub [0, 1, 2, 5, 6, 7, 8, 9, 10, 11, 12] rfl) (hD.sub [0, 1, 2, 5, 6, 7, 8, 9, 10, 11, 12] (by decide) rfl) hK rfl rfl) rfl rfl hl.1 rfl (lv_room (Nat.le_of_ble_eq_true rfl)) dX5_count_101 ⟨Nat.le_of_ble_eq_true rfl, Nat.le_of_ble_eq_true rfl⟩) hP hD hS hA [0, 1, 2, 5, 6, 7, 8, 9, 10, 11, 12] [3, 4] rfl rfl (by decide) (by decide) (fun r_10 u_11 H locs hw_12 hP hD hS => ?_)
    obtain ⟨gp_13, gt_14, gl_15, y1_16, y2_17, y3_18⟩ := u_11
    have hP : va_P (dC, dI) vwCl [(oR, .inr (2, [.ref oS])), (oF, .inr (0, [.ref oS, .ref oN])), (oX, .inr (5, [.ref oS, .ref oR, .ref oN, .ref o2, .ref oF, .ref oT])), (oS, .inr (3, [.ref rv, .ref rs, .int (nI kc)])), (rv, .inl (cI, 385, .inl v)), (oN, .inr (1, [.ref oS, .ref rp, .ref rt, .ref rl])), (rp, .inl (cI, 72, .inl gp_13)), (rt, .inl (cI, 72, .inl gt_14)), (rl, .inl (cI, 72, .inl gl_15)), (o2, .inr (1, [.ref oS, .ref q1, .ref q2, .ref q3])), (q1, .inl (cI, 72, .inl y1_16)), (q2, .inl (cI, 72, .inl y2_17)), (q3, .inl (cI, 72, .inl y3_18))] H := hP
    have hD : va_D A [(oR, .inr (2, [.ref oS])), (oF, .inr (0, [.ref oS, .ref oN])), (oX, .inr (5, [.ref oS, .ref oR, .ref oN, .ref o2, .ref oF, .ref oT])), (oS, .inr (3, [.ref rv, .ref rs, .int (nI kc)])), (rv, .inl (cI, 385, .inl v)), (oN, .inr (1, [.ref oS, .ref rp, .ref rt, .ref rl])), (rp, .inl (cI, 72, .inl gp_13)), (rt, .inl (cI, 72, .inl gt_14)), (rl, .inl (cI, 72, .inl gl_15)), (o2, .inr (1, [.ref oS, .ref q1, .ref q2, .ref q3])), (q1, .inl (cI, 72, .inl y1_16)), (q2, .inl (cI, 72, .inl y2_17)), (q3, .inl (cI, 72, .inl y3_18))] := hD
    obtain rfl := hw_12
    exact kq_retMi (gp_13, gt_14, gl_15, y1_16, y2_17, y3_18) hx hb hr hlocks (hP.sub [2, 3, 4, 0, 1, 5, 6, 7, 8, 9, 10, 11, 12] rfl) (hD.sub [2, 3, 4, 0, 1, 5, 6, 7, 8, 9, 10, 11, 12] (by decide) rfl) hS dX5_count_104 (by rfl)
  · skip
    refine lv_tableIn (off := 94) (tgt := 105) hx hb dX5_count_11 (by decide) (by decide) (by decide) (by decide) ?_
    refine lv_aload_n hx hb dX5_count_105 rfl (lv_at hl 0 rfl) ?_
    refine kq_cV (As := []) (rest := []) ⟨hx, hb, hml, hown, hts⟩ (c_X5_inkedCells l dC dI cI oX oS oR oN o2 oF oT rv rs kc v ) (cwV 0 hts gX5_count_X5_inkedCells rfl rfl rfl (by decide +kernel) ⟨Nat.le_of_ble_eq_true rfl, Nat.le_of_ble_eq_true rfl⟩) (hP.sub [0, 1, 2] rfl) hK (ci := 5) (q0 := 0) rfl rfl rfl rfl hl.1 rfl (Nat.le_of_ble_eq_true rfl) dX5_count_106 ⟨Nat.le_of_ble_eq_true rfl, Nat.le_of_ble_eq_true rfl⟩ ?_
    exact kq_retMi (fp, ft, fl, z1, z2, z3) hx hb hr hlocks hP hD hS dX5_count_109 (by rfl)
  · skip
    refine lv_tableIn (off := 99) (tgt := 110) hx hb dX5_count_11 (by decide) (by decide) (by decide) (by decide) ?_
    refine lv_aload_n hx hb dX5_count_110 rfl (lv_at hl 0 rfl) ?_
    refine va_get (D := (dC, dI)) (ci := 5) (v := .ref oN) (C := RX5) (T := TX5) (N := 6) hx hb hts (by decide +kernel) hown hK.1 hP 0 rfl rfl 2 (by decide) (hts (.fieldLink RX5 28 "NoteWatermarks" "view" "LNoteWatermarks$Note;") (by decide +kernel)) (fun _ h9 => h9) rfl dX5_count_111 ?_
    refine lv_iconst (v := 0) hx hb dX5_count_114 (by decide) ?_
    refine kq_callMv (wr := [(oX, .inr (5, [.ref oS, .ref oR, .ref oN, .ref o2, .ref oF, .ref oT])), (oR, .inr (2, [.ref oS])), (oF, .inr (0, [.ref oS, .ref oN])), (o2, .inr (1, [.ref oS, .ref q1, .ref q2, .ref q3])), (q1, .inl (cI, 72, .inl z1)), (q2, .inl (cI, 72, .inl z2)), (q3, .inl (cI, 72, .inl z3))]) (va_runV (As := [.int 0]) (rest := []) ⟨hx, hb, hml, hown, hts⟩ (c_X1_look l dC dI cI H.size oN oS rv rs rp rt rl (nI kc) v fp ft fl 0 (by first | assumption | omega) (by first | assumption | omega)) (cwV 1 hts gX5_count_X1_look rfl rfl rfl (by decide +kernel) ⟨Nat.le_of_ble_eq_true rfl, Nat.le_of_ble_eq_true rfl⟩) (kq_preV (ci := 1) (q0 := 0) (hP.sub [5, 1, 2, 6, 7, 8] rfl) (hD.sub [5, 1, 2, 6, 7, 8] (by decide) rfl) hK rfl rfl) rfl rfl hl.1 rfl (lv_room (Nat.le_of_ble_eq_true rfl)) dX5_count_115 ⟨Nat.le_of_ble_eq_true rfl, Nat.le_of_ble_eq_true rfl⟩) hP hD hS hA [5, 1, 2, 6, 7, 8] [0, 3, 4, 9, 10, 11, 12] rfl rfl (by decide) (by decide) (fun u_20 H locs hw_21 hP hD hS => ?_)
    obtain ⟨gp_22, gt_23, gl_24⟩ := u_20
    have hP : va_P (dC, dI) vwCl [(oX, .inr (5, [.ref oS, .ref oR, .ref oN, .ref o2, .ref oF, .ref oT])), (oR, .inr (2, [.ref oS])), (oF, .inr (0, [.ref oS, .ref oN])), (o2, .inr (1, [.ref oS, .ref q1, .ref q2, .ref q3])), (q1, .inl (cI, 72, .inl z1)), (q2, .inl (cI, 72, .inl z2)), (q3, .inl (cI, 72, .inl z3)), (oN, .inr (1, [.ref oS, .ref rp, .ref rt, .ref rl])), (oS, .inr (3, [.ref rv, .ref rs, .int (nI kc)])), (rv, .inl (cI, 385, .inl v)), (rp, .inl (cI, 72, .inl gp_22)), (rt, .inl (cI, 72, .inl gt_23)), (rl, .inl (cI, 72, .inl gl_24))] H := hP
    have hD : va_D A [(oX, .inr (5, [.ref oS, .ref oR, .ref oN, .ref o2, .ref oF, .ref oT])), (oR, .inr (2, [.ref oS])), (oF, .inr (0, [.ref oS, .ref oN])), (o2, .inr (1, [.ref oS, .ref q1, .ref q2, .ref q3])), (q1, .inl (cI, 72, .inl z1)), (q2, .inl (cI, 72, .inl z2)), (q3, .inl (cI, 72, .inl z3)), (oN, .inr (1, [.ref oS, .ref rp, .ref rt, .ref rl])), (oS, .inr (3, [.ref rv, .ref rs, .int (nI kc)])), (rv, .inl (cI, 385, .inl v)), (rp, .inl (cI, 72, .inl gp_22)), (rt, .inl (cI, 72, .inl gt_23)), (rl, .inl (cI, 72, .inl gl_24))] := hD
    try dsimp only at hw_21
    have hlk := hw_21
    refine lv_aload_n hx hb dX5_count_118 rfl (lv_at hl 0 rfl) ?_
    refine va_get (D := (dC, dI)) (ci := 5) (v := .ref oN) (C := RX5) (T := TX5) (N := 6) hx hb hts (by decide +kernel) hown hK.1 hP 0 rfl rfl 2 (by decide) (hts (.fieldLink RX5 28 "NoteWatermarks" "view" "LNoteWatermarks$Note;") (by decide +kernel)) (fun _ h9 => h9) rfl dX5_count_119 ?_
    refine kq_cV (As := []) (rest := []) ⟨hx, hb, hml, hown, hts⟩ (c_X1_leastTone l dC dI cI oN oS rp rt rl gt_23 ) (cwV 0 hts gX5_count_X1_leastTone rfl rfl rfl (by decide +kernel) ⟨Nat.le_of_ble_eq_true rfl, Nat.le_of_ble_eq_true rfl⟩) (hP.sub [7, 11] rfl) hK (ci := 1) (q0 := 0) rfl rfl rfl rfl hl.1 rfl (Nat.le_of_ble_eq_true rfl) dX5_count_122 ⟨Nat.le_of_ble_eq_true rfl, Nat.le_of_ble_eq_true rfl⟩ ?_
    exact kq_retMi (gp_22, gt_23, gl_24, z1, z2, z3) hx hb hr hlocks (hP.sub [0, 8, 9, 1, 2, 7, 10, 11, 12, 3, 4, 5, 6] rfl) (hD.sub [0, 8, 9, 1, 2, 7, 10, 11, 12, 3, 4, 5, 6] (by decide) rfl) hS dX5_count_125 (by rw [n_cnt]; exact n_min_c (fun k hk => (hlk k hk).2.1))
  · skip
    refine lv_tableIn (off := 115) (tgt := 126) hx hb dX5_count_11 (by decide) (by decide) (by decide) (by decide) ?_
    refine lv_aload_n hx hb dX5_count_126 rfl (lv_at hl 0 rfl) ?_
    refine va_get (D := (dC, dI)) (ci := 5) (v := .ref oN) (C := RX5) (T := TX5) (N := 6) hx hb hts (by decide +kernel) hown hK.1 hP 0 rfl rfl 2 (by decide) (hts (.fieldLink RX5 28 "NoteWatermarks" "view" "LNoteWatermarks$Note;") (by decide +kernel)) (fun _ h9 => h9) rfl dX5_count_127 ?_
    refine lv_iconst (v := 0) hx hb dX5_count_130 (by decide) ?_
    refine kq_callMv (wr := [(oX, .inr (5, [.ref oS, .ref oR, .ref oN, .ref o2, .ref oF, .ref oT])), (oR, .inr (2, [.ref oS])), (oF, .inr (0, [.ref oS, .ref oN])), (o2, .inr (1, [.ref oS, .ref q1, .ref q2, .ref q3])), (q1, .inl (cI, 72, .inl z1)), (q2, .inl (cI, 72, .inl z2)), (q3, .inl (cI, 72, .inl z3))]) (va_runV (As := [.int 0]) (rest := []) ⟨hx, hb, hml, hown, hts⟩ (c_X1_look l dC dI cI H.size oN oS rv rs rp rt rl (nI kc) v fp ft fl 0 (by first | assumption | omega) (by first | assumption | omega)) (cwV 1 hts gX5_count_X1_look rfl rfl rfl (by decide +kernel) ⟨Nat.le_of_ble_eq_true rfl, Nat.le_of_ble_eq_true rfl⟩) (kq_preV (ci := 1) (q0 := 0) (hP.sub [5, 1, 2, 6, 7, 8] rfl) (hD.sub [5, 1, 2, 6, 7, 8] (by decide) rfl) hK rfl rfl) rfl rfl hl.1 rfl (lv_room (Nat.le_of_ble_eq_true rfl)) dX5_count_131 ⟨Nat.le_of_ble_eq_true rfl, Nat.le_of_ble_eq_true rfl⟩) hP hD hS hA [5, 1, 2, 6, 7, 8] [0, 3, 4, 9, 10, 11, 12] rfl rfl (by decide) (by decide) (fun u_26 H locs hw_27 hP hD hS => ?_)
    obtain ⟨gp_28, gt_29, gl_30⟩ := u_26
    have hP : va_P (dC, dI) vwCl [(oX, .inr (5, [.ref oS, .ref oR, .ref oN, .ref o2, .ref oF, .ref oT])), (oR, .inr (2, [.ref oS])), (oF, .inr (0, [.ref oS, .ref oN])), (o2, .inr (1, [.ref oS, .ref q1, .ref q2, .ref q3])), (q1, .inl (cI, 72, .inl z1)), (q2, .inl (cI, 72, .inl z2)), (q3, .inl (cI, 72, .inl z3)), (oN, .inr (1, [.ref oS, .ref rp, .ref rt, .ref rl])), (oS, .inr (3, [.ref rv, .ref rs, .int (nI kc)])), (rv, .inl (cI, 385, .inl v)), (rp, .inl (cI, 72, .inl gp_28)), (rt, .inl (cI, 72, .inl gt_29)), (rl, .inl (cI, 72, .inl gl_30))] H := hP
    have hD : va_D A [(oX, .inr (5, [.ref oS, .ref oR, .ref oN, .ref o2, .ref oF, .ref oT])), (oR, .inr (2, [.ref oS])), (oF, .inr (0, [.ref oS, .ref oN])), (o2, .inr (1, [.ref oS, .ref q1, .ref q2, .ref q3])), (q1, .inl (cI, 72, .inl z1)), (q2, .inl (cI, 72, .inl z2)), (q3, .inl (cI, 72, .inl z3)), (oN, .inr (1, [.ref oS, .ref rp, .ref rt, .ref rl])), (oS, .inr (3, [.ref rv, .ref rs, .int (nI kc)])), (rv, .inl (cI, 385, .inl v)), (rp, .inl (cI, 72, .inl gp_28)), (rt, .inl (cI, 72, .inl gt_29)), (rl, .inl (cI, 72, .inl gl_30))] := hD
    try dsimp only at hw_27
    have hlk := hw_27
    refine lv_aload_n hx hb dX5_count_134 rfl (lv_at hl 0 rfl) ?_
    refine va_get (D := (dC, dI)) (ci := 5) (v := .ref oN) (C := RX5) (T := TX5) (N := 6) hx hb hts (by decide +kernel) hown hK.1 hP 0 rfl rfl 2 (by decide) (hts (.fieldLink RX5 28 "NoteWatermarks" "view" "LNoteWatermarks$Note;") (by decide +kernel)) (fun _ h9 => h9) rfl dX5_count_135 ?_
    refine kq_cV (As := []) (rest := []) ⟨hx, hb, hml, hown, hts⟩ (c_X1_greatestTone l dC dI cI oN oS rp rt rl gt_29 ) (cwV 0 hts gX5_count_X1_greatestTone rfl rfl rfl (by decide +kernel) ⟨Nat.le_of_ble_eq_true rfl, Nat.le_of_ble_eq_true rfl⟩) (hP.sub [7, 11] rfl) hK (ci := 1) (q0 := 0) rfl rfl rfl rfl hl.1 rfl (Nat.le_of_ble_eq_true rfl) dX5_count_138 ⟨Nat.le_of_ble_eq_true rfl, Nat.le_of_ble_eq_true rfl⟩ ?_
    exact kq_retMi (gp_28, gt_29, gl_30, z1, z2, z3) hx hb hr hlocks (hP.sub [0, 8, 9, 1, 2, 7, 10, 11, 12, 3, 4, 5, 6] rfl) (hD.sub [0, 8, 9, 1, 2, 7, 10, 11, 12, 3, 4, 5, 6] (by decide) rfl) hS dX5_count_141 (by rw [n_cnt]; exact n_max_c (fun k hk => (hlk k hk).2.1))
  · skip
    refine lv_tableOut (tgt := 142) hx hb dX5_count_11 (by decide) (by decide) ?_
    refine lv_aload_n hx hb dX5_count_142 rfl (lv_at hl 0 rfl) ?_
    refine va_get (D := (dC, dI)) (ci := 5) (v := .ref oS) (C := RX5) (T := TX5) (N := 6) hx hb hts (by decide +kernel) hown hK.1 hP 0 rfl rfl 0 (by decide) (hts (.fieldLink RX5 12 "NoteWatermarks" "state" "LNoteWatermarks$State;") (by decide +kernel)) (fun _ h9 => h9) rfl dX5_count_143 ?_
    refine kq_cV (As := []) (rest := []) ⟨hx, hb, hml, hown, hts⟩ (c_X3_savedStates l dC dI cI oS rv rs (nI kc) v ) (cwV 0 hts gX5_count_X3_savedStates rfl rfl rfl (by decide +kernel) ⟨Nat.le_of_ble_eq_true rfl, Nat.le_of_ble_eq_true rfl⟩) (hP.sub [1] rfl) hK (ci := 3) (q0 := 0) rfl rfl rfl rfl hl.1 rfl (Nat.le_of_ble_eq_true rfl) dX5_count_146 ⟨Nat.le_of_ble_eq_true rfl, Nat.le_of_ble_eq_true rfl⟩ ?_
    exact kq_retMi (fp, ft, fl, z1, z2, z3) hx hb hr hlocks hP hD hS dX5_count_149 (by rfl)
