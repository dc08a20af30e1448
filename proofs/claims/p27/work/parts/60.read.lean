set_option maxHeartbeats 4000000 in
set_option maxRecDepth 100000 in
theorem c_L_cell (l : Launch) (dC : Nat → ClassId) (dI : Nat → Nat → Nat) (cI : ClassId) (sb sL : Nat) (xs : Nat → Int32) (k : Nat) (hk : k < 1000) (hL : sL ≤ 260) : Met l yL_cell wsL_cell ({ frames := 0, cells := 0, slots := 0, locals := 0 }) (kq_RX dC dI cI sb sL xs [.ref sb, .int (nI k)] []) (QcRead (n_ce sL xs k)) 0 0 (fun _ => False) := by
  refine kq_startRX (cc := cL_cell) (maxL := 2) (ret := (some .int)) (plainFor_of_name (by decide)) rfl (Nat.le_of_ble_eq_true rfl) ?_
  intro p e s m below meth c hx hb hr hml hown hlocks hts hP hK hX hbl ls hl
  have hown : s.vm.findClass RL = some m.cls := hown
  have hl : lv_has ls 2 [(0, .ref sb), (1, .int (nI k))] := hl
  refine lv_iload_n hx hb dL_cell_0 rfl (lv_at hl 1 rfl) ?_
  refine lv_aload_n hx hb dL_cell_1 rfl (lv_at hl 0 rfl) ?_
  refine va_slen (A := fun _ => False) hx hb hX hbl (fun q => q) va_S.rf dL_cell_2 ?_
  refine kq_top (z := nI sL) (rfl) ?_
  refine lv_icmp_ge (tgt := 12) hx hb dL_cell_3 (by decide) (fun c_1 => ?_) (fun c_1 => ?_)
  · skip
    have c_1 := kq_leN (a := sL) (b := k) c_1 (by omega) (by omega)
    refine lv_ldc (v := 32452867) hx hb hown (hts (.constant RL 7 (32452867)) (by decide +kernel)) dL_cell_12 ?_
    refine lv_iload_n hx hb dL_cell_14 rfl (lv_at hl 1 rfl) ?_
    refine lv_imul hx hb dL_cell_15 ?_
    refine kq_top (z := nI (32452867 * k)) (pk_mul 32452867 k) ?_
    refine lv_ldc (v := 15485863) hx hb hown (hts (.constant RL 8 (15485863)) (by decide +kernel)) dL_cell_16 ?_
    refine lv_iadd hx hb dL_cell_18 ?_
    refine kq_top (z := nI ((32452867 * k) + 15485863)) (nI_add (32452867 * k) 15485863) ?_
    exact kq_ret hx hb hr hlocks dL_cell_19 (by first | rw [n_ce, if_pos (by omega)] | rw [n_ce, if_neg (by omega)])
  · skip
    have c_1 := kq_nleN (a := sL) (b := k) c_1 (by omega) (by omega)
    refine lv_aload_n hx hb dL_cell_6 rfl (lv_at hl 0 rfl) ?_
    refine lv_iload_n hx hb dL_cell_7 rfl (lv_at hl 1 rfl) ?_
    refine va_sld (A := fun _ => False) hx hb hX hbl (fun q => q) va_S.rf (vp_in_nI (show k < sL from by omega) (by omega)) dL_cell_8 ?_
    refine kq_top (z := xs k) (congrArg xs (nI_clamp (Nat.lt_trans (show k < sL from by omega) (by omega)))) ?_
    refine lv_goto (tgt := 19) hx hb dL_cell_9 (by decide) ?_
    exact kq_ret hx hb hr hlocks dL_cell_19 (by first | rw [n_ce, if_pos (by omega)] | rw [n_ce, if_neg (by omega)])
set_option maxHeartbeats 4000000 in
set_option maxRecDepth 100000 in
theorem c_L_low (l : Launch) (dC : Nat → ClassId) (dI : Nat → Nat → Nat) (cI : ClassId) (x : Int32) (n : Nat) (h0 : 0 < n) (h9 : n < 2 ^ 31) : Met l yL_low wsL_low ({ frames := 0, cells := 0, slots := 0, locals := 0 }) (kq_R dC dI cI [.int x, .int (nI n)] []) (QcRead (nI (n_lw x n))) 0 0 (fun _ => False) := by
  refine kq_start (cc := cL_low) (maxL := 2) (ret := (some .int)) (plainFor_of_name (by decide)) rfl (Nat.le_of_ble_eq_true rfl) ?_
  intro p e s m below meth c hx hb hr hml hown hlocks hts hP hK ls hl
  have hown : s.vm.findClass RL = some m.cls := hown
  have hl : lv_has ls 2 [(0, .int x), (1, .int (nI n))] := hl
  refine lv_iload_n hx hb dL_low_0 rfl (lv_at hl 0 rfl) ?_
  refine lv_ldc (v := 2147483647) hx hb hown (hts (.constant RL 9 (2147483647)) (by decide +kernel)) dL_low_1 ?_
  refine lv_iand hx hb dL_low_3 ?_
  refine kq_top (z := nI (x.toBitVec.toNat % 2 ^ 31)) (pk_and x 31 (by decide)) ?_
  refine lv_iload_n hx hb dL_low_4 rfl (lv_at hl 1 rfl) ?_
  refine lv_irem hx hb dL_low_5 (nI_ne0 (n := n) (by omega) (by omega)) ?_
  refine kq_top (z := nI ((x.toBitVec.toNat % 2 ^ 31) % n)) (pk_rem (a := (x.toBitVec.toNat % 2 ^ 31)) (d := n) (by omega) (by omega) (by omega)) ?_
  exact kq_ret hx hb hr hlocks dL_low_6 (by rfl)
set_option maxHeartbeats 4000000 in
set_option maxRecDepth 100000 in
theorem c_L_height (l : Launch) (dC : Nat → ClassId) (dI : Nat → Nat → Nat) (cI : ClassId) (sb sL : Nat) (xs : Nat → Int32) (r : Nat) (i : Nat) (j : Nat) (hr9 : r < 3) (hi9 : i < 6) (hj9 : j < 16) (hL : sL ≤ 260) : Met l yL_height wsL_height ({ frames := 1, cells := 0, slots := 0, locals := 21 }) (kq_RX dC dI cI sb sL xs [.ref sb, .int (nI r), .int (nI i), .int (nI j)] []) (QcRead (n_w sL xs ((r * 6 + i) * 16 + j))) 0 0 (fun _ => False) := by
  refine kq_startRX (cc := cL_height) (maxL := 7) (ret := (some .int)) (plainFor_of_name (by decide)) rfl (Nat.le_of_ble_eq_true rfl) ?_
  intro p e s m below meth c hx hb hr hml hown hlocks hts hP hK hX hbl ls hl
  have hown : s.vm.findClass RL = some m.cls := hown
  have hl : lv_has ls 7 [(0, .ref sb), (1, .int (nI r)), (2, .int (nI i)), (3, .int (nI j))] := hl
  have hkk : 96 * r + 16 * i + j = (r * 6 + i) * 16 + j := by omega
  have hk9 : ((r * 6 + i) * 16 + j) / 96 = r := by omega
  have hb1 : n_lw (n_ce sL xs (60 + ((r * 6 + i) * 16 + j) / 96)) 3 < 3 := n_lw_lt (by decide)
  have hb2 : n_lw (n_hs sL xs ((r * 6 + i) * 16 + j)) 8 < 8 := n_lw_lt (by decide)
  have hb3 : n_lw (n_hs sL xs ((r * 6 + i) * 16 + j)) 3 < 3 := n_lw_lt (by decide)
  refine lv_bipush (v := 96) hx hb dL_height_0 (by decide) ?_
  refine lv_iload_n hx hb dL_height_2 rfl (lv_at hl 1 rfl) ?_
  refine lv_imul hx hb dL_height_3 ?_
  refine kq_top (z := nI (96 * r)) (pk_mul 96 r) ?_
  refine lv_bipush (v := 16) hx hb dL_height_4 (by decide) ?_
  refine lv_iload_n hx hb dL_height_6 rfl (lv_at hl 2 rfl) ?_
  refine lv_imul hx hb dL_height_7 ?_
  refine kq_top (z := nI (16 * i)) (pk_mul 16 i) ?_
  refine lv_iadd hx hb dL_height_8 ?_
  refine kq_top (z := nI ((96 * r) + (16 * i))) (nI_add (96 * r) (16 * i)) ?_
  refine lv_iload_n hx hb dL_height_9 rfl (lv_at hl 3 rfl) ?_
  refine lv_iadd hx hb dL_height_10 ?_
  refine kq_top (z := nI (((96 * r) + (16 * i)) + j)) (nI_add ((96 * r) + (16 * i)) j) ?_
  refine lv_istore (lv' := [(4, .int (nI (((96 * r) + (16 * i)) + j))), (0, .ref sb), (1, .int (nI r)), (2, .int (nI i)), (3, .int (nI j))]) hx hb dL_height_11 hl (by decide) rfl (fun ls hl => ?_)
  refine lv_aload_n hx hb dL_height_13 rfl (lv_at hl 1 rfl) ?_
  refine lv_iload hx hb dL_height_14 (lv_at hl 0 rfl) ?_
  refine lv_iconst (v := 5) hx hb dL_height_16 (by decide) ?_
  refine lv_idiv hx hb dL_height_17 (nI_ne0 (n := 5) (by omega) (by omega)) ?_
  refine kq_top (z := nI ((((96 * r) + (16 * i)) + j) / 5)) (pk_div (a := (((96 * r) + (16 * i)) + j)) (d := 5) (by omega) (by omega) (by omega)) ?_
  refine lv_bipush (v := 60) hx hb dL_height_18 (by decide) ?_
  refine lv_irem hx hb dL_height_20 (nI_ne0 (n := 60) (by omega) (by omega)) ?_
  refine kq_top (z := nI (((((96 * r) + (16 * i)) + j) / 5) % 60)) (pk_rem (a := ((((96 * r) + (16 * i)) + j) / 5)) (d := 60) (by omega) (by omega) (by omega)) ?_
  refine kq_cSX (As := [.ref sb, .int (nI (((((96 * r) + (16 * i)) + j) / 5) % 60))]) (rest := []) ⟨hx, hb, hml, hown, hts⟩ (c_L_cell l dC dI cI sb sL xs (((((96 * r) + (16 * i)) + j) / 5) % 60) (by first | assumption | omega) (by first | assumption | omega)) (va_cwS 2 hts gL_height_L_cell rfl rfl rfl (by decide +kernel) ⟨Nat.le_of_ble_eq_true rfl, Nat.le_of_ble_eq_true rfl⟩) (hP.sub [] rfl) hX hK rfl hl.1 rfl (Nat.le_of_ble_eq_true rfl) dL_height_21 ⟨Nat.le_of_ble_eq_true rfl, Nat.le_of_ble_eq_true rfl⟩ ?_
  refine lv_bipush (v := 6) hx hb dL_height_24 (by decide) ?_
  refine lv_iload hx hb dL_height_26 (lv_at hl 0 rfl) ?_
  refine lv_iconst (v := 5) hx hb dL_height_28 (by decide) ?_
  refine lv_irem hx hb dL_height_29 (nI_ne0 (n := 5) (by omega) (by omega)) ?_
  refine kq_top (z := nI ((((96 * r) + (16 * i)) + j) % 5)) (pk_rem (a := (((96 * r) + (16 * i)) + j)) (d := 5) (by omega) (by omega) (by omega)) ?_
  refine lv_imul hx hb dL_height_30 ?_
  refine kq_top (z := nI (6 * ((((96 * r) + (16 * i)) + j) % 5))) (pk_mul 6 ((((96 * r) + (16 * i)) + j) % 5)) ?_
  refine lv_ishr hx hb dL_height_31 ?_
  refine kq_top (z := n_hs sL xs ((r * 6 + i) * 16 + j)) (by rw [n_hs, hkk]) ?_
  refine lv_istore (lv' := [(5, .int (n_hs sL xs ((r * 6 + i) * 16 + j))), (4, .int (nI (((96 * r) + (16 * i)) + j))), (0, .ref sb), (1, .int (nI r)), (2, .int (nI i)), (3, .int (nI j))]) hx hb dL_height_32 hl (by decide) rfl (fun ls hl => ?_)
  refine lv_aload_n hx hb dL_height_34 rfl (lv_at hl 2 rfl) ?_
  refine lv_bipush (v := 60) hx hb dL_height_35 (by decide) ?_
  refine lv_iload_n hx hb dL_height_37 rfl (lv_at hl 3 rfl) ?_
  refine lv_iadd hx hb dL_height_38 ?_
  refine kq_top (z := nI (60 + r)) (nI_add 60 r) ?_
  refine kq_cSX (As := [.ref sb, .int (nI (60 + r))]) (rest := []) ⟨hx, hb, hml, hown, hts⟩ (c_L_cell l dC dI cI sb sL xs (60 + r) (by first | assumption | omega) (by first | assumption | omega)) (va_cwS 2 hts gL_height_L_cell rfl rfl rfl (by decide +kernel) ⟨Nat.le_of_ble_eq_true rfl, Nat.le_of_ble_eq_true rfl⟩) (hP.sub [] rfl) hX hK rfl hl.1 rfl (Nat.le_of_ble_eq_true rfl) dL_height_39 ⟨Nat.le_of_ble_eq_true rfl, Nat.le_of_ble_eq_true rfl⟩ ?_
  refine kq_top (z := n_ce sL xs (60 + ((r * 6 + i) * 16 + j) / 96)) (by rw [hk9]) ?_
  refine lv_iconst (v := 3) hx hb dL_height_42 (by decide) ?_
  refine kq_cS (As := [.int (n_ce sL xs (60 + ((r * 6 + i) * 16 + j) / 96)), .int 3]) (rest := []) ⟨hx, hb, hml, hown, hts⟩ (c_L_low l dC dI cI (n_ce sL xs (60 + ((r * 6 + i) * 16 + j) / 96)) 3 (by first | assumption | omega) (by first | assumption | omega)) (va_cwS 2 hts gL_height_L_low rfl rfl rfl (by decide +kernel) ⟨Nat.le_of_ble_eq_true rfl, Nat.le_of_ble_eq_true rfl⟩) (hP.sub [] rfl) hK rfl hl.1 rfl (Nat.le_of_ble_eq_true rfl) dL_height_43 ⟨Nat.le_of_ble_eq_true rfl, Nat.le_of_ble_eq_true rfl⟩ ?_
  refine lv_istore (lv' := [(6, .int (nI (n_lw (n_ce sL xs (60 + ((r * 6 + i) * 16 + j) / 96)) 3))), (5, .int (n_hs sL xs ((r * 6 + i) * 16 + j))), (4, .int (nI (((96 * r) + (16 * i)) + j))), (0, .ref sb), (1, .int (nI r)), (2, .int (nI i)), (3, .int (nI j))]) hx hb dL_height_46 hl (by decide) rfl (fun ls hl => ?_)
  refine lv_iload hx hb dL_height_48 (lv_at hl 0 rfl) ?_
  refine lv_if_ne (tgt := 67) hx hb dL_height_50 (by decide) (fun c_1 => ?_) (fun c_1 => ?_)
  · skip
    have c_1 := kq_neN (a := (n_lw (n_ce sL xs (60 + ((r * 6 + i) * 16 + j) / 96)) 3)) (b := 0) c_1 (by omega) (by omega)
    refine lv_iload hx hb dL_height_67 (lv_at hl 0 rfl) ?_
    refine lv_iconst (v := 1) hx hb dL_height_69 (by decide) ?_
    refine lv_icmp_ne (tgt := 86) hx hb dL_height_70 (by decide) (fun c_2 => ?_) (fun c_2 => ?_)
    · skip
      have c_2 := kq_neN (a := (n_lw (n_ce sL xs (60 + ((r * 6 + i) * 16 + j) / 96)) 3)) (b := 1) c_2 (by omega) (by omega)
      refine lv_iload hx hb dL_height_86 (lv_at hl 1 rfl) ?_
      refine lv_iconst (v := 2) hx hb dL_height_88 (by decide) ?_
      refine lv_ishr hx hb dL_height_89 ?_
      refine lv_bipush (v := 7) hx hb dL_height_90 (by decide) ?_
      refine kq_cS (As := [.int ((n_hs sL xs ((r * 6 + i) * 16 + j)) >>> (2 &&& 31)), .int 7]) (rest := []) ⟨hx, hb, hml, hown, hts⟩ (c_L_low l dC dI cI ((n_hs sL xs ((r * 6 + i) * 16 + j)) >>> (2 &&& 31)) 7 (by first | assumption | omega) (by first | assumption | omega)) (va_cwS 2 hts gL_height_L_low rfl rfl rfl (by decide +kernel) ⟨Nat.le_of_ble_eq_true rfl, Nat.le_of_ble_eq_true rfl⟩) (hP.sub [] rfl) hK rfl hl.1 rfl (Nat.le_of_ble_eq_true rfl) dL_height_92 ⟨Nat.le_of_ble_eq_true rfl, Nat.le_of_ble_eq_true rfl⟩ ?_
      refine lv_iconst (v := 3) hx hb dL_height_95 (by decide) ?_
      refine lv_isub hx hb dL_height_96 ?_
      exact kq_ret hx hb hr hlocks dL_height_97 (by show _ = n_wv (n_ce sL xs (60 + ((r * 6 + i) * 16 + j) / 96)) (n_hs sL xs ((r * 6 + i) * 16 + j)); unfold n_wv; first | (exfalso; omega) | rw [if_pos (by omega)] | rw [if_neg (by omega), if_pos (by omega)] | rw [if_neg (by omega), if_neg (by omega)])
    · skip
      have c_2 := kq_eqN (a := (n_lw (n_ce sL xs (60 + ((r * 6 + i) * 16 + j) / 96)) 3)) (b := 1) c_2 (by omega) (by omega)
      refine lv_iload hx hb dL_height_73 (lv_at hl 1 rfl) ?_
      refine lv_iconst (v := 3) hx hb dL_height_75 (by decide) ?_
      refine kq_cS (As := [.int (n_hs sL xs ((r * 6 + i) * 16 + j)), .int 3]) (rest := []) ⟨hx, hb, hml, hown, hts⟩ (c_L_low l dC dI cI (n_hs sL xs ((r * 6 + i) * 16 + j)) 3 (by first | assumption | omega) (by first | assumption | omega)) (va_cwS 2 hts gL_height_L_low rfl rfl rfl (by decide +kernel) ⟨Nat.le_of_ble_eq_true rfl, Nat.le_of_ble_eq_true rfl⟩) (hP.sub [] rfl) hK rfl hl.1 rfl (Nat.le_of_ble_eq_true rfl) dL_height_76 ⟨Nat.le_of_ble_eq_true rfl, Nat.le_of_ble_eq_true rfl⟩ ?_
      refine lv_if_le (tgt := 86) hx hb dL_height_79 (by decide) (fun c_3 => ?_) (fun c_3 => ?_)
      · skip
        have c_3 := kq_leN (a := (n_lw (n_hs sL xs ((r * 6 + i) * 16 + j)) 3)) (b := 0) c_3 (by omega) (by omega)
        refine lv_iload hx hb dL_height_86 (lv_at hl 1 rfl) ?_
        refine lv_iconst (v := 2) hx hb dL_height_88 (by decide) ?_
        refine lv_ishr hx hb dL_height_89 ?_
        refine lv_bipush (v := 7) hx hb dL_height_90 (by decide) ?_
        refine kq_cS (As := [.int ((n_hs sL xs ((r * 6 + i) * 16 + j)) >>> (2 &&& 31)), .int 7]) (rest := []) ⟨hx, hb, hml, hown, hts⟩ (c_L_low l dC dI cI ((n_hs sL xs ((r * 6 + i) * 16 + j)) >>> (2 &&& 31)) 7 (by first | assumption | omega) (by first | assumption | omega)) (va_cwS 2 hts gL_height_L_low rfl rfl rfl (by decide +kernel) ⟨Nat.le_of_ble_eq_true rfl, Nat.le_of_ble_eq_true rfl⟩) (hP.sub [] rfl) hK rfl hl.1 rfl (Nat.le_of_ble_eq_true rfl) dL_height_92 ⟨Nat.le_of_ble_eq_true rfl, Nat.le_of_ble_eq_true rfl⟩ ?_
        refine lv_iconst (v := 3) hx hb dL_height_95 (by decide) ?_
        refine lv_isub hx hb dL_height_96 ?_
        exact kq_ret hx hb hr hlocks dL_height_97 (by show _ = n_wv (n_ce sL xs (60 + ((r * 6 + i) * 16 + j) / 96)) (n_hs sL xs ((r * 6 + i) * 16 + j)); unfold n_wv; first | (exfalso; omega) | rw [if_pos (by omega)] | rw [if_neg (by omega), if_pos (by omega)] | rw [if_neg (by omega), if_neg (by omega)])
      · skip
        have c_3 := kq_nleN (a := (n_lw (n_hs sL xs ((r * 6 + i) * 16 + j)) 3)) (b := 0) c_3 (by omega) (by omega)
        refine lv_iconst (v := 0) hx hb dL_height_82 (by decide) ?_
        refine lv_goto (tgt := 97) hx hb dL_height_83 (by decide) ?_
        exact kq_ret hx hb hr hlocks dL_height_97 (by show _ = n_wv (n_ce sL xs (60 + ((r * 6 + i) * 16 + j) / 96)) (n_hs sL xs ((r * 6 + i) * 16 + j)); unfold n_wv; first | (exfalso; omega) | rw [if_pos (by omega)] | rw [if_neg (by omega), if_pos (by omega)] | rw [if_neg (by omega), if_neg (by omega)])
  · skip
    have c_1 := kq_eqN (a := (n_lw (n_ce sL xs (60 + ((r * 6 + i) * 16 + j) / 96)) 3)) (b := 0) c_1 (by omega) (by omega)
    refine lv_iload hx hb dL_height_53 (lv_at hl 1 rfl) ?_
    refine lv_bipush (v := 8) hx hb dL_height_55 (by decide) ?_
    refine kq_cS (As := [.int (n_hs sL xs ((r * 6 + i) * 16 + j)), .int 8]) (rest := []) ⟨hx, hb, hml, hown, hts⟩ (c_L_low l dC dI cI (n_hs sL xs ((r * 6 + i) * 16 + j)) 8 (by first | assumption | omega) (by first | assumption | omega)) (va_cwS 2 hts gL_height_L_low rfl rfl rfl (by decide +kernel) ⟨Nat.le_of_ble_eq_true rfl, Nat.le_of_ble_eq_true rfl⟩) (hP.sub [] rfl) hK rfl hl.1 rfl (Nat.le_of_ble_eq_true rfl) dL_height_57 ⟨Nat.le_of_ble_eq_true rfl, Nat.le_of_ble_eq_true rfl⟩ ?_
    refine lv_if_le (tgt := 67) hx hb dL_height_60 (by decide) (fun c_4 => ?_) (fun c_4 => ?_)
    · skip
      have c_4 := kq_leN (a := (n_lw (n_hs sL xs ((r * 6 + i) * 16 + j)) 8)) (b := 0) c_4 (by omega) (by omega)
      refine lv_iload hx hb dL_height_67 (lv_at hl 0 rfl) ?_
      refine lv_iconst (v := 1) hx hb dL_height_69 (by decide) ?_
      refine lv_icmp_ne (tgt := 86) hx hb dL_height_70 (by decide) (fun c_5 => ?_) (fun c_5 => ?_)
      · skip
        have c_5 := kq_neN (a := (n_lw (n_ce sL xs (60 + ((r * 6 + i) * 16 + j) / 96)) 3)) (b := 1) c_5 (by omega) (by omega)
        refine lv_iload hx hb dL_height_86 (lv_at hl 1 rfl) ?_
        refine lv_iconst (v := 2) hx hb dL_height_88 (by decide) ?_
        refine lv_ishr hx hb dL_height_89 ?_
        refine lv_bipush (v := 7) hx hb dL_height_90 (by decide) ?_
        refine kq_cS (As := [.int ((n_hs sL xs ((r * 6 + i) * 16 + j)) >>> (2 &&& 31)), .int 7]) (rest := []) ⟨hx, hb, hml, hown, hts⟩ (c_L_low l dC dI cI ((n_hs sL xs ((r * 6 + i) * 16 + j)) >>> (2 &&& 31)) 7 (by first | assumption | omega) (by first | assumption | omega)) (va_cwS 2 hts gL_height_L_low rfl rfl rfl (by decide +kernel) ⟨Nat.le_of_ble_eq_true rfl, Nat.le_of_ble_eq_true rfl⟩) (hP.sub [] rfl) hK rfl hl.1 rfl (Nat.le_of_ble_eq_true rfl) dL_height_92 ⟨Nat.le_of_ble_eq_true rfl, Nat.le_of_ble_eq_true rfl⟩ ?_
        refine lv_iconst (v := 3) hx hb dL_height_95 (by decide) ?_
        refine lv_isub hx hb dL_height_96 ?_
        exact kq_ret hx hb hr hlocks dL_height_97 (by show _ = n_wv (n_ce sL xs (60 + ((r * 6 + i) * 16 + j) / 96)) (n_hs sL xs ((r * 6 + i) * 16 + j)); unfold n_wv; first | (exfalso; omega) | rw [if_pos (by omega)] | rw [if_neg (by omega), if_pos (by omega)] | rw [if_neg (by omega), if_neg (by omega)])
      · skip
        have c_5 := kq_eqN (a := (n_lw (n_ce sL xs (60 + ((r * 6 + i) * 16 + j) / 96)) 3)) (b := 1) c_5 (by omega) (by omega)
        refine lv_iload hx hb dL_height_73 (lv_at hl 1 rfl) ?_
        refine lv_iconst (v := 3) hx hb dL_height_75 (by decide) ?_
        refine kq_cS (As := [.int (n_hs sL xs ((r * 6 + i) * 16 + j)), .int 3]) (rest := []) ⟨hx, hb, hml, hown, hts⟩ (c_L_low l dC dI cI (n_hs sL xs ((r * 6 + i) * 16 + j)) 3 (by first | assumption | omega) (by first | assumption | omega)) (va_cwS 2 hts gL_height_L_low rfl rfl rfl (by decide +kernel) ⟨Nat.le_of_ble_eq_true rfl, Nat.le_of_ble_eq_true rfl⟩) (hP.sub [] rfl) hK rfl hl.1 rfl (Nat.le_of_ble_eq_true rfl) dL_height_76 ⟨Nat.le_of_ble_eq_true rfl, Nat.le_of_ble_eq_true rfl⟩ ?_
        refine lv_if_le (tgt := 86) hx hb dL_height_79 (by decide) (fun c_6 => ?_) (fun c_6 => ?_)
        · skip
          have c_6 := kq_leN (a := (n_lw (n_hs sL xs ((r * 6 + i) * 16 + j)) 3)) (b := 0) c_6 (by omega) (by omega)
          refine lv_iload hx hb dL_height_86 (lv_at hl 1 rfl) ?_
          refine lv_iconst (v := 2) hx hb dL_height_88 (by decide) ?_
          refine lv_ishr hx hb dL_height_89 ?_
          refine lv_bipush (v := 7) hx hb dL_height_90 (by decide) ?_
          refine kq_cS (As := [.int ((n_hs sL xs ((r * 6 + i) * 16 + j)) >>> (2 &&& 31)), .int 7]) (rest := []) ⟨hx, hb, hml, hown, hts⟩ (c_L_low l dC dI cI ((n_hs sL xs ((r * 6 + i) * 16 + j)) >>> (2 &&& 31)) 7 (by first | assumption | omega) (by first | assumption | omega)) (va_cwS 2 hts gL_height_L_low rfl rfl rfl (by decide +kernel) ⟨Nat.le_of_ble_eq_true rfl, Nat.le_of_ble_eq_true rfl⟩) (hP.sub [] rfl) hK rfl hl.1 rfl (Nat.le_of_ble_eq_true rfl) dL_height_92 ⟨Nat.le_of_ble_eq_true rfl, Nat.le_of_ble_eq_true rfl⟩ ?_
          refine lv_iconst (v := 3) hx hb dL_height_95 (by decide) ?_
          refine lv_isub hx hb dL_height_96 ?_
          exact kq_ret hx hb hr hlocks dL_height_97 (by show _ = n_wv (n_ce sL xs (60 + ((r * 6 + i) * 16 + j) / 96)) (n_hs sL xs ((r * 6 + i) * 16 + j)); unfold n_wv; first | (exfalso; omega) | rw [if_pos (by omega)] | rw [if_neg (by omega), if_pos (by omega)] | rw [if_neg (by omega), if_neg (by omega)])
        · skip
          have c_6 := kq_nleN (a := (n_lw (n_hs sL xs ((r * 6 + i) * 16 + j)) 3)) (b := 0) c_6 (by omega) (by omega)
          refine lv_iconst (v := 0) hx hb dL_height_82 (by decide) ?_
          refine lv_goto (tgt := 97) hx hb dL_height_83 (by decide) ?_
          exact kq_ret hx hb hr hlocks dL_height_97 (by show _ = n_wv (n_ce sL xs (60 + ((r * 6 + i) * 16 + j) / 96)) (n_hs sL xs ((r * 6 + i) * 16 + j)); unfold n_wv; first | (exfalso; omega) | rw [if_pos (by omega)] | rw [if_neg (by omega), if_pos (by omega)] | rw [if_neg (by omega), if_neg (by omega)])
    · skip
      have c_4 := kq_nleN (a := (n_lw (n_hs sL xs ((r * 6 + i) * 16 + j)) 8)) (b := 0) c_4 (by omega) (by omega)
      refine lv_iconst (v := 0) hx hb dL_height_63 (by decide) ?_
      refine lv_goto (tgt := 97) hx hb dL_height_64 (by decide) ?_
      exact kq_ret hx hb hr hlocks dL_height_97 (by show _ = n_wv (n_ce sL xs (60 + ((r * 6 + i) * 16 + j) / 96)) (n_hs sL xs ((r * 6 + i) * 16 + j)); unfold n_wv; first | (exfalso; omega) | rw [if_pos (by omega)] | rw [if_neg (by omega), if_pos (by omega)] | rw [if_neg (by omega), if_neg (by omega)])
set_option maxHeartbeats 4000000 in
set_option maxRecDepth 100000 in
theorem c_L_sum (l : Launch) (dC : Nat → ClassId) (dI : Nat → Nat → Nat) (cI : ClassId) (sb sL : Nat) (xs : Nat → Int32) (pa : Nat) (v : Nat → Int32) (pf : Nat → Int32) (n : Nat) (i : Nat) (j : Nat) (hI : n_I v) (hW : n_ww sL xs v) (hp : n_pp v pf) (hn : n < 1000) (hi9 : i < 6) (hj9 : j < 12) (hL : sL ≤ 260) : Met l yL_sum wsL_sum ({ frames := 2, cells := 0, slots := 0, locals := 47 }) (kq_RX dC dI cI sb sL xs [.ref sb, .ref pa, .int (nI n), .int (nI i), .int (nI j)] [(pa, .inl (cI, 8, .inl pf))]) (QcRead (n_pr v (n_x v n j) i)) 0 0 (fun _ => False) := by
  refine kq_startRX (cc := cL_sum) (maxL := 8) (ret := (some .int)) (plainFor_of_name (by decide)) rfl (Nat.le_of_ble_eq_true rfl) ?_
  intro p e s m below meth c hx hb hr hml hown hlocks hts hP hK hX hbl ls hl
  have hown : s.vm.findClass RL = some m.cls := hown
  have hl : lv_has ls 8 [(0, .ref sb), (1, .ref pa), (2, .int (nI n)), (3, .int (nI i)), (4, .int (nI j))] := hl
  obtain ⟨hs0, hs1, hs2, hs3, hs4, hs5, hs6, hs7⟩ := n_I_s hI
  have hnm : n * n_s v 1 ≤ 999 * 30 := Nat.mul_le_mul (by omega) (by omega)
  refine lv_aload_n hx hb dL_sum_0 rfl (lv_at hl 1 rfl) ?_
  refine lv_bipush (v := 6) hx hb dL_sum_1 (by decide) ?_
  refine va_iald hx hb hK.1 hP 0 0 rfl rfl (vp_in_nI (show 6 < 8 from by omega) (by omega)) dL_sum_3 ?_
  refine kq_top (z := pf 6) (congrArg pf (nI_clamp (Nat.lt_trans (show 6 < 8 from by omega) (by omega)))) ?_
  refine kq_top (z := nI (n_s v 0)) (hp.2.1.trans hs0) ?_
  refine lv_iload_n hx hb dL_sum_4 rfl (lv_at hl 2 rfl) ?_
  refine lv_aload_n hx hb dL_sum_5 rfl (lv_at hl 1 rfl) ?_
  refine lv_bipush (v := 7) hx hb dL_sum_6 (by decide) ?_
  refine va_iald hx hb hK.1 hP 0 0 rfl rfl (vp_in_nI (show 7 < 8 from by omega) (by omega)) dL_sum_8 ?_
  refine kq_top (z := pf 7) (congrArg pf (nI_clamp (Nat.lt_trans (show 7 < 8 from by omega) (by omega)))) ?_
  refine kq_top (z := nI (n_s v 1)) (hp.2.2.trans hs2) ?_
  refine lv_imul hx hb dL_sum_9 ?_
  refine kq_top (z := nI (n * (n_s v 1))) (pk_mul n (n_s v 1)) ?_
  refine lv_iadd hx hb dL_sum_10 ?_
  refine kq_top (z := nI ((n_s v 0) + (n * (n_s v 1)))) (nI_add (n_s v 0) (n * (n_s v 1))) ?_
  refine lv_iload hx hb dL_sum_11 (lv_at hl 4 rfl) ?_
  refine lv_iadd hx hb dL_sum_13 ?_
  refine kq_top (z := nI (((n_s v 0) + (n * (n_s v 1))) + j)) (nI_add ((n_s v 0) + (n * (n_s v 1))) j) ?_
  refine lv_istore (lv' := [(5, .int (nI (((n_s v 0) + (n * (n_s v 1))) + j))), (0, .ref sb), (1, .ref pa), (2, .int (nI n)), (3, .int (nI i)), (4, .int (nI j))]) hx hb dL_sum_14 hl (by decide) rfl (fun ls hl => ?_)
  refine lv_iconst (v := 0) hx hb dL_sum_16 (by decide) ?_
  refine lv_istore (lv' := [(6, .int 0), (5, .int (nI (((n_s v 0) + (n * (n_s v 1))) + j))), (0, .ref sb), (1, .ref pa), (2, .int (nI n)), (3, .int (nI i)), (4, .int (nI j))]) hx hb dL_sum_17 hl (by decide) rfl (fun ls hl => ?_)
  refine lv_iconst (v := 0) hx hb dL_sum_19 (by decide) ?_
  refine lv_istore (lv' := [(7, .int 0), (6, .int 0), (5, .int (nI (((n_s v 0) + (n * (n_s v 1))) + j))), (0, .ref sb), (1, .ref pa), (2, .int (nI n)), (3, .int (nI i)), (4, .int (nI j))]) hx hb dL_sum_20 hl (by decide) rfl (fun ls hl => ?_)
  refine kq_loop1 (A1 := Nat) (fun (r : Nat) => 3 - r) (fun (r : Nat) => (r ≤ 3)) (fun (r : Nat) => [(0, .ref sb), (1, .ref pa), (2, .int (nI n)), (3, .int (nI i)), (4, .int (nI j)), (5, .int (nI (n_s v 0 + n * n_s v 1 + j))), (6, .int (n_sum (fun r => n_wr v (n_x v n j) r i) r)), (7, .int (nI r))]) (nL := 8) ?_ 0 (by omega) _ (lv_sub hl [3, 4, 5, 6, 7, 2, 1, 0] rfl)
  intro r hi_2 ih_1 ls hl
  have ir : r ≤ 3 := hi_2
  have hl : lv_has ls 8 [(0, .ref sb), (1, .ref pa), (2, .int (nI n)), (3, .int (nI i)), (4, .int (nI j)), (5, .int (nI (n_s v 0 + n * n_s v 1 + j))), (6, .int (n_sum (fun r => n_wr v (n_x v n j) r i) r)), (7, .int (nI r))] := hl
  refine lv_iload hx hb dL_sum_22 (lv_at hl 7 rfl) ?_
  refine lv_iconst (v := 3) hx hb dL_sum_24 (by decide) ?_
  refine lv_icmp_ge (tgt := 60) hx hb dL_sum_25 (by decide) (fun c_3 => ?_) (fun c_3 => ?_)
  · skip
    have c_3 := kq_leN (a := 3) (b := r) c_3 (by omega) (by omega)
    refine lv_iload hx hb dL_sum_60 (lv_at hl 6 rfl) ?_
    exact kq_ret hx hb hr hlocks dL_sum_62 (by rw [show r = 3 by omega]; rfl)
  · skip
    have c_3 := kq_nleN (a := 3) (b := r) c_3 (by omega) (by omega)
    refine lv_iload hx hb dL_sum_28 (lv_at hl 6 rfl) ?_
    have hrr : r < 3 := by omega
    have h4 := n_I_c4 hI hrr
    have h16 := n_I_c16 hI hrr
    have hpc := n_I_pc hI hrr
    have hmd := Nat.mod_lt ((n_s v 0 + n * n_s v 1 + j) + n_p v r) (show 0 < n_c v r by omega)
    refine lv_aload_n hx hb dL_sum_30 rfl (lv_at hl 0 rfl) ?_
    refine lv_iload hx hb dL_sum_31 (lv_at hl 7 rfl) ?_
    refine lv_iload_n hx hb dL_sum_33 rfl (lv_at hl 3 rfl) ?_
    refine lv_iload hx hb dL_sum_34 (lv_at hl 5 rfl) ?_
    refine lv_aload_n hx hb dL_sum_36 rfl (lv_at hl 1 rfl) ?_
    refine lv_iconst (v := 3) hx hb dL_sum_37 (by decide) ?_
    refine lv_iload hx hb dL_sum_38 (lv_at hl 7 rfl) ?_
    refine lv_iadd hx hb dL_sum_40 ?_
    refine kq_top (z := nI (3 + r)) (nI_add 3 r) ?_
    refine va_iald hx hb hK.1 hP 0 0 rfl rfl (vp_in_nI (show 3 + r < 8 from by omega) (by omega)) dL_sum_41 ?_
    refine kq_top (z := pf (3 + r)) (congrArg pf (nI_clamp (Nat.lt_trans (show 3 + r < 8 from by omega) (by omega)))) ?_
    refine kq_top (z := nI (n_p v r)) ((hp.1 r hrr).2.trans (n_I_p hI hrr)) ?_
    refine lv_iadd hx hb dL_sum_42 ?_
    refine kq_top (z := nI ((n_s v 0 + n * n_s v 1 + j) + (n_p v r))) (nI_add (n_s v 0 + n * n_s v 1 + j) (n_p v r)) ?_
    refine lv_aload_n hx hb dL_sum_43 rfl (lv_at hl 1 rfl) ?_
    refine lv_iload hx hb dL_sum_44 (lv_at hl 7 rfl) ?_
    refine va_iald hx hb hK.1 hP 0 0 rfl rfl (vp_in_nI (show r < 8 from by omega) (by omega)) dL_sum_46 ?_
    refine kq_top (z := pf r) (congrArg pf (nI_clamp (Nat.lt_trans (show r < 8 from by omega) (by omega)))) ?_
    refine kq_top (z := nI (n_c v r)) ((hp.1 r hrr).1.trans (n_I_c hI hrr)) ?_
    refine lv_irem hx hb dL_sum_47 (nI_ne0 (n := (n_c v r)) (by omega) (by omega)) ?_
    refine kq_top (z := nI (((n_s v 0 + n * n_s v 1 + j) + (n_p v r)) % (n_c v r))) (pk_rem (a := ((n_s v 0 + n * n_s v 1 + j) + (n_p v r))) (d := (n_c v r)) (by omega) (by omega) (by omega)) ?_
    refine kq_cSX (As := [.ref sb, .int (nI r), .int (nI i), .int (nI (((n_s v 0 + n * n_s v 1 + j) + (n_p v r)) % (n_c v r)))]) (rest := [.int (n_sum (fun r => n_wr v (n_x v n j) r i) r)]) ⟨hx, hb, hml, hown, hts⟩ (c_L_height l dC dI cI sb sL xs r i (((n_s v 0 + n * n_s v 1 + j) + (n_p v r)) % (n_c v r)) (by first | assumption | omega) (by first | assumption | omega) (by first | assumption | omega) (by first | assumption | omega)) (va_cwS 4 hts gL_sum_L_height rfl rfl rfl (by decide +kernel) ⟨Nat.le_of_ble_eq_true rfl, Nat.le_of_ble_eq_true rfl⟩) (hP.sub [] rfl) hX hK rfl hl.1 rfl (Nat.le_of_ble_eq_true rfl) dL_sum_48 ⟨Nat.le_of_ble_eq_true rfl, Nat.le_of_ble_eq_true rfl⟩ ?_
    refine kq_top (z := n_wr v (n_x v n j) r i) (by rw [n_wr, n_col, n_x]; exact (hW _ (by omega)).symm) ?_
    refine lv_iadd hx hb dL_sum_51 ?_
    refine lv_istore (lv' := [(6, .int ((n_sum (fun r => n_wr v (n_x v n j) r i) r) + (n_wr v (n_x v n j) r i))), (0, .ref sb), (1, .ref pa), (2, .int (nI n)), (3, .int (nI i)), (4, .int (nI j)), (5, .int (nI (n_s v 0 + n * n_s v 1 + j))), (7, .int (nI r))]) hx hb dL_sum_52 hl (by decide) rfl (fun ls hl => ?_)
    refine lv_iinc (v := nI (r + 1)) (lv' := [(7, .int (nI (r + 1))), (6, .int ((n_sum (fun r => n_wr v (n_x v n j) r i) r) + (n_wr v (n_x v n j) r i))), (0, .ref sb), (1, .ref pa), (2, .int (nI n)), (3, .int (nI i)), (4, .int (nI j)), (5, .int (nI (n_s v 0 + n * n_s v 1 + j)))]) hx hb dL_sum_54 hl (k := 7) rfl (nI_1 r) (by decide) rfl (fun ls hl => ?_)
    refine lv_goto (tgt := 22) hx hb dL_sum_57 (by decide) ?_
    exact ih_1 (r + 1) (by omega) (by show 3 - (r + 1) < 3 - r; omega) _ (lv_sub hl [2, 3, 4, 5, 6, 7, 1, 0] rfl)
set_option maxHeartbeats 4000000 in
set_option maxRecDepth 100000 in
theorem c_L_tone (l : Launch) (dC : Nat → ClassId) (dI : Nat → Nat → Nat) (cI : ClassId) (sb sL : Nat) (xs : Nat → Int32) (pa : Nat) (v : Nat → Int32) (pf : Nat → Int32) (n : Nat) (i : Nat) (j : Nat) (hI : n_I v) (hW : n_ww sL xs v) (hp : n_pp v pf) (hn : n < 1000) (hi9 : i < 6) (hj9 : j < 12) (hL : sL ≤ 260) : Met l yL_tone wsL_tone ({ frames := 3, cells := 0, slots := 0, locals := 74 }) (kq_RX dC dI cI sb sL xs [.ref sb, .ref pa, .int (nI n), .int (nI i), .int (nI j)] [(pa, .inl (cI, 8, .inl pf))]) (QcRead (n_to v n i j)) 0 0 (fun _ => False) := by
  refine kq_startRX (cc := cL_tone) (maxL := 6) (ret := (some .int)) (plainFor_of_name (by decide)) rfl (Nat.le_of_ble_eq_true rfl) ?_
  intro p e s m below meth c hx hb hr hml hown hlocks hts hP hK hX hbl ls hl
  have hown : s.vm.findClass RL = some m.cls := hown
  have hl : lv_has ls 6 [(0, .ref sb), (1, .ref pa), (2, .int (nI n)), (3, .int (nI i)), (4, .int (nI j))] := hl
  refine lv_bipush (v := 10) hx hb dL_tone_0 (by decide) ?_
  refine lv_aload_n hx hb dL_tone_2 rfl (lv_at hl 0 rfl) ?_
  refine lv_aload_n hx hb dL_tone_3 rfl (lv_at hl 1 rfl) ?_
  refine lv_iload_n hx hb dL_tone_4 rfl (lv_at hl 2 rfl) ?_
  refine lv_iload_n hx hb dL_tone_5 rfl (lv_at hl 3 rfl) ?_
  refine lv_iload hx hb dL_tone_6 (lv_at hl 4 rfl) ?_
  refine kq_cSX (As := [.ref sb, .ref pa, .int (nI n), .int (nI i), .int (nI j)]) (rest := [.int 10]) ⟨hx, hb, hml, hown, hts⟩ (c_L_sum l dC dI cI sb sL xs pa v pf n i j (by first | assumption | omega) (by first | assumption | omega) (by first | assumption | omega) (by first | assumption | omega) (by first | assumption | omega) (by first | assumption | omega) (by first | assumption | omega)) (va_cwS 5 hts gL_tone_L_sum rfl rfl rfl (by decide +kernel) ⟨Nat.le_of_ble_eq_true rfl, Nat.le_of_ble_eq_true rfl⟩) (hP.sub [0] rfl) hX hK rfl hl.1 rfl (Nat.le_of_ble_eq_true rfl) dL_tone_8 ⟨Nat.le_of_ble_eq_true rfl, Nat.le_of_ble_eq_true rfl⟩ ?_
  refine lv_iadd hx hb dL_tone_11 ?_
  refine lv_istore (lv' := [(5, .int (10 + (n_pr v (n_x v n j) i))), (0, .ref sb), (1, .ref pa), (2, .int (nI n)), (3, .int (nI i)), (4, .int (nI j))]) hx hb dL_tone_12 hl (by decide) rfl (fun ls hl => ?_)
  refine lv_iload hx hb dL_tone_14 (lv_at hl 0 rfl) ?_
  refine lv_if_ge (tgt := 23) hx hb dL_tone_16 (by decide) (fun c_1 => ?_) (fun c_1 => ?_)
  · skip
    refine lv_iload hx hb dL_tone_23 (lv_at hl 0 rfl) ?_
    refine lv_bipush (v := 19) hx hb dL_tone_25 (by decide) ?_
    refine lv_icmp_le (tgt := 35) hx hb dL_tone_27 (by decide) (fun c_2 => ?_) (fun c_2 => ?_)
    · skip
      refine lv_iload hx hb dL_tone_35 (lv_at hl 0 rfl) ?_
      exact kq_ret hx hb hr hlocks dL_tone_37 (by rw [n_to]; first | rw [n_tn_0 (by assumption)] | rw [n_tn_19 (by assumption) (by assumption)] | rw [n_tn_m (by assumption) (by assumption)])
    · skip
      refine lv_bipush (v := 19) hx hb dL_tone_30 (by decide) ?_
      refine lv_goto (tgt := 37) hx hb dL_tone_32 (by decide) ?_
      exact kq_ret hx hb hr hlocks dL_tone_37 (by rw [n_to]; first | rw [n_tn_0 (by assumption)] | rw [n_tn_19 (by assumption) (by assumption)] | rw [n_tn_m (by assumption) (by assumption)])
  · skip
    refine lv_iconst (v := 0) hx hb dL_tone_19 (by decide) ?_
    refine lv_goto (tgt := 37) hx hb dL_tone_20 (by decide) ?_
    exact kq_ret hx hb hr hlocks dL_tone_37 (by rw [n_to]; first | rw [n_tn_0 (by assumption)] | rw [n_tn_19 (by assumption) (by assumption)] | rw [n_tn_m (by assumption) (by assumption)])
set_option maxHeartbeats 4000000 in
set_option maxRecDepth 100000 in
theorem c_L_isIn_0 (l : Launch) (dC : Nat → ClassId) (dI : Nat → Nat → Nat) (cI : ClassId) (qa : Nat) (qf : Nat → Int32) (a : Nat) (b : Nat) (h : Nat) (w : Nat) (r : Nat) (c9 : Nat) (hq : n_qq qf a b h w) (h1 : a + h ≤ 6) (h2 : b + w ≤ 12) (hr9 : r < 6) (hc9 : c9 < 12) : Met l yL_isIn wsL_isIn ({ frames := 0, cells := 0, slots := 0, locals := 0 }) (kq_R dC dI cI [.ref qa, .int (nI r), .int (nI c9), .int 0] [(qa, .inl (cI, 4, .inl qf))]) (QcRead (if (a ≤ r ∧ r < a + h) ∧ (b ≤ c9 ∧ c9 < b + w) then (1:Int32) else 0)) 0 0 (fun _ => False) := by
  refine kq_start (cc := cL_isIn) (maxL := 4) (ret := (some .boolean)) (plainFor_of_name (by decide)) rfl (Nat.le_of_ble_eq_true rfl) ?_
  intro p e s m below meth c hx hb hr hml hown hlocks hts hP hK ls hl
  have hown : s.vm.findClass RL = some m.cls := hown
  have hl : lv_has ls 4 [(0, .ref qa), (1, .int (nI r)), (2, .int (nI c9)), (3, .int 0)] := hl
  refine lv_iload_n hx hb dL_isIn_0 rfl (lv_at hl 1 rfl) ?_
  refine lv_aload_n hx hb dL_isIn_1 rfl (lv_at hl 0 rfl) ?_
  refine lv_iconst (v := 0) hx hb dL_isIn_2 (by decide) ?_
  refine va_iald hx hb hK.1 hP 0 0 rfl rfl (vp_in_nI (show 0 < 4 from by omega) (by omega)) dL_isIn_3 ?_
  refine kq_top (z := qf 0) (congrArg qf (nI_clamp (Nat.lt_trans (show 0 < 4 from by omega) (by omega)))) ?_
  refine kq_top (z := nI a) (hq.1) ?_
  refine lv_iload_n hx hb dL_isIn_4 rfl (lv_at hl 3 rfl) ?_
  refine lv_isub hx hb dL_isIn_5 ?_
  refine kq_top (z := nI (a - 0)) (pk_sub (a := a) (b := 0) (by omega)) ?_
  refine lv_icmp_lt (tgt := 48) hx hb dL_isIn_6 (by decide) (fun c_1 => ?_) (fun c_1 => ?_)
  · skip
    have c_1 := kq_ltN (a := r) (b := (a - 0)) c_1 (by omega) (by omega)
    refine lv_iconst (v := 0) hx hb dL_isIn_48 (by decide) ?_
    exact kq_retz hx hb hr hlocks dL_isIn_49 (Or.inl rfl) (by first | rw [if_pos (by omega)] | rw [if_neg (by omega)])
  · skip
    have c_1 := kq_nltN (a := r) (b := (a - 0)) c_1 (by omega) (by omega)
    refine lv_iload_n hx hb dL_isIn_9 rfl (lv_at hl 1 rfl) ?_
    refine lv_aload_n hx hb dL_isIn_10 rfl (lv_at hl 0 rfl) ?_
    refine lv_iconst (v := 0) hx hb dL_isIn_11 (by decide) ?_
    refine va_iald hx hb hK.1 hP 0 0 rfl rfl (vp_in_nI (show 0 < 4 from by omega) (by omega)) dL_isIn_12 ?_
    refine kq_top (z := qf 0) (congrArg qf (nI_clamp (Nat.lt_trans (show 0 < 4 from by omega) (by omega)))) ?_
    refine kq_top (z := nI a) (hq.1) ?_
    refine lv_aload_n hx hb dL_isIn_13 rfl (lv_at hl 0 rfl) ?_
    refine lv_iconst (v := 2) hx hb dL_isIn_14 (by decide) ?_
    refine va_iald hx hb hK.1 hP 0 0 rfl rfl (vp_in_nI (show 2 < 4 from by omega) (by omega)) dL_isIn_15 ?_
    refine kq_top (z := qf 2) (congrArg qf (nI_clamp (Nat.lt_trans (show 2 < 4 from by omega) (by omega)))) ?_
    refine kq_top (z := nI h) (hq.2.2.1) ?_
    refine lv_iadd hx hb dL_isIn_16 ?_
    refine kq_top (z := nI (a + h)) (nI_add a h) ?_
    refine lv_iload_n hx hb dL_isIn_17 rfl (lv_at hl 3 rfl) ?_
    refine lv_iadd hx hb dL_isIn_18 ?_
    refine kq_top (z := nI ((a + h) + 0)) (nI_add (a + h) 0) ?_
    refine lv_icmp_ge (tgt := 48) hx hb dL_isIn_19 (by decide) (fun c_2 => ?_) (fun c_2 => ?_)
    · skip
      have c_2 := kq_leN (a := ((a + h) + 0)) (b := r) c_2 (by omega) (by omega)
      refine lv_iconst (v := 0) hx hb dL_isIn_48 (by decide) ?_
      exact kq_retz hx hb hr hlocks dL_isIn_49 (Or.inl rfl) (by first | rw [if_pos (by omega)] | rw [if_neg (by omega)])
    · skip
      have c_2 := kq_nleN (a := ((a + h) + 0)) (b := r) c_2 (by omega) (by omega)
      refine lv_iload_n hx hb dL_isIn_22 rfl (lv_at hl 2 rfl) ?_
      refine lv_aload_n hx hb dL_isIn_23 rfl (lv_at hl 0 rfl) ?_
      refine lv_iconst (v := 1) hx hb dL_isIn_24 (by decide) ?_
      refine va_iald hx hb hK.1 hP 0 0 rfl rfl (vp_in_nI (show 1 < 4 from by omega) (by omega)) dL_isIn_25 ?_
      refine kq_top (z := qf 1) (congrArg qf (nI_clamp (Nat.lt_trans (show 1 < 4 from by omega) (by omega)))) ?_
      refine kq_top (z := nI b) (hq.2.1) ?_
      refine lv_iload_n hx hb dL_isIn_26 rfl (lv_at hl 3 rfl) ?_
      refine lv_isub hx hb dL_isIn_27 ?_
      refine kq_top (z := nI (b - 0)) (pk_sub (a := b) (b := 0) (by omega)) ?_
      refine lv_icmp_lt (tgt := 48) hx hb dL_isIn_28 (by decide) (fun c_3 => ?_) (fun c_3 => ?_)
      · skip
        have c_3 := kq_ltN (a := c9) (b := (b - 0)) c_3 (by omega) (by omega)
        refine lv_iconst (v := 0) hx hb dL_isIn_48 (by decide) ?_
        exact kq_retz hx hb hr hlocks dL_isIn_49 (Or.inl rfl) (by first | rw [if_pos (by omega)] | rw [if_neg (by omega)])
      · skip
        have c_3 := kq_nltN (a := c9) (b := (b - 0)) c_3 (by omega) (by omega)
        refine lv_iload_n hx hb dL_isIn_31 rfl (lv_at hl 2 rfl) ?_
        refine lv_aload_n hx hb dL_isIn_32 rfl (lv_at hl 0 rfl) ?_
        refine lv_iconst (v := 1) hx hb dL_isIn_33 (by decide) ?_
        refine va_iald hx hb hK.1 hP 0 0 rfl rfl (vp_in_nI (show 1 < 4 from by omega) (by omega)) dL_isIn_34 ?_
        refine kq_top (z := qf 1) (congrArg qf (nI_clamp (Nat.lt_trans (show 1 < 4 from by omega) (by omega)))) ?_
        refine kq_top (z := nI b) (hq.2.1) ?_
        refine lv_aload_n hx hb dL_isIn_35 rfl (lv_at hl 0 rfl) ?_
        refine lv_iconst (v := 3) hx hb dL_isIn_36 (by decide) ?_
        refine va_iald hx hb hK.1 hP 0 0 rfl rfl (vp_in_nI (show 3 < 4 from by omega) (by omega)) dL_isIn_37 ?_
        refine kq_top (z := qf 3) (congrArg qf (nI_clamp (Nat.lt_trans (show 3 < 4 from by omega) (by omega)))) ?_
        refine kq_top (z := nI w) (hq.2.2.2) ?_
        refine lv_iadd hx hb dL_isIn_38 ?_
        refine kq_top (z := nI (b + w)) (nI_add b w) ?_
        refine lv_iload_n hx hb dL_isIn_39 rfl (lv_at hl 3 rfl) ?_
        refine lv_iadd hx hb dL_isIn_40 ?_
        refine kq_top (z := nI ((b + w) + 0)) (nI_add (b + w) 0) ?_
        refine lv_icmp_ge (tgt := 48) hx hb dL_isIn_41 (by decide) (fun c_4 => ?_) (fun c_4 => ?_)
        · skip
          have c_4 := kq_leN (a := ((b + w) + 0)) (b := c9) c_4 (by omega) (by omega)
          refine lv_iconst (v := 0) hx hb dL_isIn_48 (by decide) ?_
          exact kq_retz hx hb hr hlocks dL_isIn_49 (Or.inl rfl) (by first | rw [if_pos (by omega)] | rw [if_neg (by omega)])
        · skip
          have c_4 := kq_nleN (a := ((b + w) + 0)) (b := c9) c_4 (by omega) (by omega)
          refine lv_iconst (v := 1) hx hb dL_isIn_44 (by decide) ?_
          refine lv_goto (tgt := 49) hx hb dL_isIn_45 (by decide) ?_
          exact kq_retz hx hb hr hlocks dL_isIn_49 (Or.inr rfl) (by first | rw [if_pos (by omega)] | rw [if_neg (by omega)])
set_option maxHeartbeats 4000000 in
set_option maxRecDepth 100000 in
theorem c_L_isIn_1 (l : Launch) (dC : Nat → ClassId) (dI : Nat → Nat → Nat) (cI : ClassId) (qa : Nat) (qf : Nat → Int32) (a : Nat) (b : Nat) (h : Nat) (w : Nat) (r : Nat) (c9 : Nat) (hq : n_qq qf a b h w) (h1 : a + h ≤ 6) (h2 : b + w ≤ 12) (hr9 : r < 6) (hc9 : c9 < 12) : Met l yL_isIn wsL_isIn ({ frames := 0, cells := 0, slots := 0, locals := 0 }) (kq_R dC dI cI [.ref qa, .int (nI r), .int (nI c9), .int 1] [(qa, .inl (cI, 4, .inl qf))]) (QcRead (if (a ≤ r + 1 ∧ r ≤ a + h) ∧ (b ≤ c9 + 1 ∧ c9 ≤ b + w) then (1:Int32) else 0)) 0 0 (fun _ => False) := by
  refine kq_start (cc := cL_isIn) (maxL := 4) (ret := (some .boolean)) (plainFor_of_name (by decide)) rfl (Nat.le_of_ble_eq_true rfl) ?_
  intro p e s m below meth c hx hb hr hml hown hlocks hts hP hK ls hl
  have hown : s.vm.findClass RL = some m.cls := hown
  have hl : lv_has ls 4 [(0, .ref qa), (1, .int (nI r)), (2, .int (nI c9)), (3, .int 1)] := hl
  refine lv_iload_n hx hb dL_isIn_0 rfl (lv_at hl 1 rfl) ?_
  refine lv_aload_n hx hb dL_isIn_1 rfl (lv_at hl 0 rfl) ?_
  refine lv_iconst (v := 0) hx hb dL_isIn_2 (by decide) ?_
  refine va_iald hx hb hK.1 hP 0 0 rfl rfl (vp_in_nI (show 0 < 4 from by omega) (by omega)) dL_isIn_3 ?_
  refine kq_top (z := qf 0) (congrArg qf (nI_clamp (Nat.lt_trans (show 0 < 4 from by omega) (by omega)))) ?_
  refine kq_top (z := nI a) (hq.1) ?_
  refine lv_iload_n hx hb dL_isIn_4 rfl (lv_at hl 3 rfl) ?_
  refine lv_isub hx hb dL_isIn_5 ?_
  refine lv_icmp_lt (tgt := 48) hx hb dL_isIn_6 (by decide) (fun c_1 => ?_) (fun c_1 => ?_)
  · skip
    have c_1 := (kq_lt1 (by omega) (by omega)).mp c_1
    refine lv_iconst (v := 0) hx hb dL_isIn_48 (by decide) ?_
    exact kq_retz hx hb hr hlocks dL_isIn_49 (Or.inl rfl) (by first | rw [if_pos (by omega)] | rw [if_neg (by omega)])
  · skip
    have c_1 : ¬ r + 1 < a := fun z => c_1 ((kq_lt1 (r := r) (a := a) (by omega) (by omega)).mpr z)
    refine lv_iload_n hx hb dL_isIn_9 rfl (lv_at hl 1 rfl) ?_
    refine lv_aload_n hx hb dL_isIn_10 rfl (lv_at hl 0 rfl) ?_
    refine lv_iconst (v := 0) hx hb dL_isIn_11 (by decide) ?_
    refine va_iald hx hb hK.1 hP 0 0 rfl rfl (vp_in_nI (show 0 < 4 from by omega) (by omega)) dL_isIn_12 ?_
    refine kq_top (z := qf 0) (congrArg qf (nI_clamp (Nat.lt_trans (show 0 < 4 from by omega) (by omega)))) ?_
    refine kq_top (z := nI a) (hq.1) ?_
    refine lv_aload_n hx hb dL_isIn_13 rfl (lv_at hl 0 rfl) ?_
    refine lv_iconst (v := 2) hx hb dL_isIn_14 (by decide) ?_
    refine va_iald hx hb hK.1 hP 0 0 rfl rfl (vp_in_nI (show 2 < 4 from by omega) (by omega)) dL_isIn_15 ?_
    refine kq_top (z := qf 2) (congrArg qf (nI_clamp (Nat.lt_trans (show 2 < 4 from by omega) (by omega)))) ?_
    refine kq_top (z := nI h) (hq.2.2.1) ?_
    refine lv_iadd hx hb dL_isIn_16 ?_
    refine kq_top (z := nI (a + h)) (nI_add a h) ?_
    refine lv_iload_n hx hb dL_isIn_17 rfl (lv_at hl 3 rfl) ?_
    refine lv_iadd hx hb dL_isIn_18 ?_
    refine kq_top (z := nI ((a + h) + 1)) (nI_add (a + h) 1) ?_
    refine lv_icmp_ge (tgt := 48) hx hb dL_isIn_19 (by decide) (fun c_2 => ?_) (fun c_2 => ?_)
    · skip
      have c_2 := kq_leN (a := ((a + h) + 1)) (b := r) c_2 (by omega) (by omega)
      refine lv_iconst (v := 0) hx hb dL_isIn_48 (by decide) ?_
      exact kq_retz hx hb hr hlocks dL_isIn_49 (Or.inl rfl) (by first | rw [if_pos (by omega)] | rw [if_neg (by omega)])
    · skip
      have c_2 := kq_nleN (a := ((a + h) + 1)) (b := r) c_2 (by omega) (by omega)
      refine lv_iload_n hx hb dL_isIn_22 rfl (lv_at hl 2 rfl) ?_
      refine lv_aload_n hx hb dL_isIn_23 rfl (lv_at hl 0 rfl) ?_
      refine lv_iconst (v := 1) hx hb dL_isIn_24 (by decide) ?_
      refine va_iald hx hb hK.1 hP 0 0 rfl rfl (vp_in_nI (show 1 < 4 from by omega) (by omega)) dL_isIn_25 ?_
      refine kq_top (z := qf 1) (congrArg qf (nI_clamp (Nat.lt_trans (show 1 < 4 from by omega) (by omega)))) ?_
      refine kq_top (z := nI b) (hq.2.1) ?_
      refine lv_iload_n hx hb dL_isIn_26 rfl (lv_at hl 3 rfl) ?_
      refine lv_isub hx hb dL_isIn_27 ?_
      refine lv_icmp_lt (tgt := 48) hx hb dL_isIn_28 (by decide) (fun c_3 => ?_) (fun c_3 => ?_)
      · skip
        have c_3 := (kq_lt1 (by omega) (by omega)).mp c_3
        refine lv_iconst (v := 0) hx hb dL_isIn_48 (by decide) ?_
        exact kq_retz hx hb hr hlocks dL_isIn_49 (Or.inl rfl) (by first | rw [if_pos (by omega)] | rw [if_neg (by omega)])
      · skip
        have c_3 : ¬ c9 + 1 < b := fun z => c_3 ((kq_lt1 (r := c9) (a := b) (by omega) (by omega)).mpr z)
        refine lv_iload_n hx hb dL_isIn_31 rfl (lv_at hl 2 rfl) ?_
        refine lv_aload_n hx hb dL_isIn_32 rfl (lv_at hl 0 rfl) ?_
        refine lv_iconst (v := 1) hx hb dL_isIn_33 (by decide) ?_
        refine va_iald hx hb hK.1 hP 0 0 rfl rfl (vp_in_nI (show 1 < 4 from by omega) (by omega)) dL_isIn_34 ?_
        refine kq_top (z := qf 1) (congrArg qf (nI_clamp (Nat.lt_trans (show 1 < 4 from by omega) (by omega)))) ?_
        refine kq_top (z := nI b) (hq.2.1) ?_
        refine lv_aload_n hx hb dL_isIn_35 rfl (lv_at hl 0 rfl) ?_
        refine lv_iconst (v := 3) hx hb dL_isIn_36 (by decide) ?_
        refine va_iald hx hb hK.1 hP 0 0 rfl rfl (vp_in_nI (show 3 < 4 from by omega) (by omega)) dL_isIn_37 ?_
        refine kq_top (z := qf 3) (congrArg qf (nI_clamp (Nat.lt_trans (show 3 < 4 from by omega) (by omega)))) ?_
        refine kq_top (z := nI w) (hq.2.2.2) ?_
        refine lv_iadd hx hb dL_isIn_38 ?_
        refine kq_top (z := nI (b + w)) (nI_add b w) ?_
        refine lv_iload_n hx hb dL_isIn_39 rfl (lv_at hl 3 rfl) ?_
        refine lv_iadd hx hb dL_isIn_40 ?_
        refine kq_top (z := nI ((b + w) + 1)) (nI_add (b + w) 1) ?_
        refine lv_icmp_ge (tgt := 48) hx hb dL_isIn_41 (by decide) (fun c_4 => ?_) (fun c_4 => ?_)
        · skip
          have c_4 := kq_leN (a := ((b + w) + 1)) (b := c9) c_4 (by omega) (by omega)
          refine lv_iconst (v := 0) hx hb dL_isIn_48 (by decide) ?_
          exact kq_retz hx hb hr hlocks dL_isIn_49 (Or.inl rfl) (by first | rw [if_pos (by omega)] | rw [if_neg (by omega)])
        · skip
          have c_4 := kq_nleN (a := ((b + w) + 1)) (b := c9) c_4 (by omega) (by omega)
          refine lv_iconst (v := 1) hx hb dL_isIn_44 (by decide) ?_
          refine lv_goto (tgt := 49) hx hb dL_isIn_45 (by decide) ?_
          exact kq_retz hx hb hr hlocks dL_isIn_49 (Or.inr rfl) (by first | rw [if_pos (by omega)] | rw [if_neg (by omega)])
set_option maxHeartbeats 4000000 in
set_option maxRecDepth 100000 in
theorem c_L_frame (l : Launch) (dC : Nat → ClassId) (dI : Nat → Nat → Nat) (cI : ClassId) (qa : Nat) (qf : Nat → Int32) (a : Nat) (b : Nat) (h : Nat) (w : Nat) (hq : n_qq qf a b h w) (h1 : a + h ≤ 6) (h2 : b + w ≤ 12) (h3 : 0 < h) (h4 : 0 < w) : Met l yL_frame wsL_frame ({ frames := 1, cells := 0, slots := 0, locals := 23 }) (kq_R dC dI cI [.ref qa] [(qa, .inl (cI, 4, .inl qf))]) (QcRead (nI (n_fr a b h w))) 0 0 (fun _ => False) := by
  refine kq_start (cc := cL_frame) (maxL := 3) (ret := (some .int)) (plainFor_of_name (by decide)) rfl (Nat.le_of_ble_eq_true rfl) ?_
  intro p e s m below meth c hx hb hr hml hown hlocks hts hP hK ls hl
  have hown : s.vm.findClass RL = some m.cls := hown
  have hl : lv_has ls 3 [(0, .ref qa)] := hl
  refine lv_iconst (v := 0) hx hb dL_frame_0 (by decide) ?_
  refine lv_istore_n (lv' := [(1, .int 0), (0, .ref qa)]) hx hb dL_frame_1 rfl hl (by decide) rfl (fun ls hl => ?_)
  refine lv_iconst (v := 0) hx hb dL_frame_2 (by decide) ?_
  refine lv_istore_n (lv' := [(2, .int 0), (1, .int 0), (0, .ref qa)]) hx hb dL_frame_3 rfl hl (by decide) rfl (fun ls hl => ?_)
  refine kq_loop2 (A1 := Nat) (A2 := Nat) (fun (k : Nat) (x : Nat) => 72 - k) (fun (k : Nat) (x : Nat) => (k ≤ 72 ∧ x ≤ k) ∧ (x = n_fc a h b w k)) (fun (k : Nat) (x : Nat) => [(0, .ref qa), (1, .int (nI x)), (2, .int (nI k))]) (nL := 3) ?_ 0 0 ⟨(by omega), (by rfl)⟩ _ (lv_sub hl [2, 1, 0] rfl)
  intro k x hi_2 ih_1 ls hl
  obtain ⟨ik, ix⟩ := hi_2
  have hl : lv_has ls 3 [(0, .ref qa), (1, .int (nI x)), (2, .int (nI k))] := hl
  refine lv_iload_n hx hb dL_frame_4 rfl (lv_at hl 2 rfl) ?_
  refine lv_bipush (v := 72) hx hb dL_frame_5 (by decide) ?_
  refine lv_icmp_ge (tgt := 56) hx hb dL_frame_7 (by decide) (fun c_3 => ?_) (fun c_3 => ?_)
  · skip
    have c_3 := kq_leN (a := 72) (b := k) c_3 (by omega) (by omega)
    refine lv_iload_n hx hb dL_frame_56 rfl (lv_at hl 1 rfl) ?_
    exact kq_ret hx hb hr hlocks dL_frame_57 (by rw [ix, show k = 72 by omega, n_fc_eq h1 h2 h3 h4])
  · skip
    have c_3 := kq_nleN (a := 72) (b := k) c_3 (by omega) (by omega)
    refine lv_iload_n hx hb dL_frame_10 rfl (lv_at hl 1 rfl) ?_
    refine lv_aload_n hx hb dL_frame_11 rfl (lv_at hl 0 rfl) ?_
    refine lv_iload_n hx hb dL_frame_12 rfl (lv_at hl 2 rfl) ?_
    refine lv_bipush (v := 12) hx hb dL_frame_13 (by decide) ?_
    refine lv_idiv hx hb dL_frame_15 (nI_ne0 (n := 12) (by omega) (by omega)) ?_
    refine kq_top (z := nI (k / 12)) (pk_div (a := k) (d := 12) (by omega) (by omega) (by omega)) ?_
    refine lv_iload_n hx hb dL_frame_16 rfl (lv_at hl 2 rfl) ?_
    refine lv_bipush (v := 12) hx hb dL_frame_17 (by decide) ?_
    refine lv_irem hx hb dL_frame_19 (nI_ne0 (n := 12) (by omega) (by omega)) ?_
    refine kq_top (z := nI (k % 12)) (pk_rem (a := k) (d := 12) (by omega) (by omega) (by omega)) ?_
    refine lv_iconst (v := 1) hx hb dL_frame_20 (by decide) ?_
    refine kq_cS (As := [.ref qa, .int (nI (k / 12)), .int (nI (k % 12)), .int 1]) (rest := [.int (nI x)]) ⟨hx, hb, hml, hown, hts⟩ (c_L_isIn_1 l dC dI cI qa qf a b h w (k / 12) (k % 12) (by first | assumption | omega) (by first | assumption | omega) (by first | assumption | omega) (by first | assumption | omega) (by first | assumption | omega)) (va_cwS 4 hts gL_frame_L_isIn rfl rfl rfl (by decide +kernel) ⟨Nat.le_of_ble_eq_true rfl, Nat.le_of_ble_eq_true rfl⟩) (hP.sub [0] rfl) hK rfl hl.1 rfl (Nat.le_of_ble_eq_true rfl) dL_frame_21 ⟨Nat.le_of_ble_eq_true rfl, Nat.le_of_ble_eq_true rfl⟩ ?_
    refine lv_if_eq (tgt := 47) hx hb dL_frame_24 (by decide) (fun c_4 => ?_) (fun c_4 => ?_)
    · skip
      have c_4 := kq_bf c_4
      refine lv_iconst (v := 0) hx hb dL_frame_47 (by decide) ?_
      refine lv_iadd hx hb dL_frame_48 ?_
      refine kq_top (z := nI (x + 0)) (nI_add x 0) ?_
      refine lv_istore_n (lv' := [(1, .int (nI (x + 0))), (0, .ref qa), (2, .int (nI k))]) hx hb dL_frame_49 rfl hl (by decide) rfl (fun ls hl => ?_)
      refine lv_iinc (v := nI (k + 1)) (lv' := [(2, .int (nI (k + 1))), (1, .int (nI (x + 0))), (0, .ref qa)]) hx hb dL_frame_50 hl (k := 2) rfl (nI_1 k) (by decide) rfl (fun ls hl => ?_)
      refine lv_goto (tgt := 4) hx hb dL_frame_53 (by decide) ?_
      exact ih_1 (k + 1) (x + 0) ⟨(by omega), (by rw [n_fc_s, ← ix]; first | rw [if_pos (by omega)] | rw [if_neg (by omega)])⟩ (by show 72 - (k + 1) < 72 - k; omega) _ (lv_sub hl [2, 1, 0] rfl)
    · skip
      have c_4 := kq_bt c_4
      refine lv_aload_n hx hb dL_frame_27 rfl (lv_at hl 0 rfl) ?_
      refine lv_iload_n hx hb dL_frame_28 rfl (lv_at hl 2 rfl) ?_
      refine lv_bipush (v := 12) hx hb dL_frame_29 (by decide) ?_
      refine lv_idiv hx hb dL_frame_31 (nI_ne0 (n := 12) (by omega) (by omega)) ?_
      refine kq_top (z := nI (k / 12)) (pk_div (a := k) (d := 12) (by omega) (by omega) (by omega)) ?_
      refine lv_iload_n hx hb dL_frame_32 rfl (lv_at hl 2 rfl) ?_
      refine lv_bipush (v := 12) hx hb dL_frame_33 (by decide) ?_
      refine lv_irem hx hb dL_frame_35 (nI_ne0 (n := 12) (by omega) (by omega)) ?_
      refine kq_top (z := nI (k % 12)) (pk_rem (a := k) (d := 12) (by omega) (by omega) (by omega)) ?_
      refine lv_iconst (v := 0) hx hb dL_frame_36 (by decide) ?_
      refine kq_cS (As := [.ref qa, .int (nI (k / 12)), .int (nI (k % 12)), .int 0]) (rest := [.int (nI x)]) ⟨hx, hb, hml, hown, hts⟩ (c_L_isIn_0 l dC dI cI qa qf a b h w (k / 12) (k % 12) (by first | assumption | omega) (by first | assumption | omega) (by first | assumption | omega) (by first | assumption | omega) (by first | assumption | omega)) (va_cwS 4 hts gL_frame_L_isIn rfl rfl rfl (by decide +kernel) ⟨Nat.le_of_ble_eq_true rfl, Nat.le_of_ble_eq_true rfl⟩) (hP.sub [0] rfl) hK rfl hl.1 rfl (Nat.le_of_ble_eq_true rfl) dL_frame_37 ⟨Nat.le_of_ble_eq_true rfl, Nat.le_of_ble_eq_true rfl⟩ ?_
      refine lv_if_ne (tgt := 47) hx hb dL_frame_40 (by decide) (fun c_5 => ?_) (fun c_5 => ?_)
      · skip
        have c_5 := kq_bt c_5
        refine lv_iconst (v := 0) hx hb dL_frame_47 (by decide) ?_
        refine lv_iadd hx hb dL_frame_48 ?_
        refine kq_top (z := nI (x + 0)) (nI_add x 0) ?_
        refine lv_istore_n (lv' := [(1, .int (nI (x + 0))), (0, .ref qa), (2, .int (nI k))]) hx hb dL_frame_49 rfl hl (by decide) rfl (fun ls hl => ?_)
        refine lv_iinc (v := nI (k + 1)) (lv' := [(2, .int (nI (k + 1))), (1, .int (nI (x + 0))), (0, .ref qa)]) hx hb dL_frame_50 hl (k := 2) rfl (nI_1 k) (by decide) rfl (fun ls hl => ?_)
        refine lv_goto (tgt := 4) hx hb dL_frame_53 (by decide) ?_
        exact ih_1 (k + 1) (x + 0) ⟨(by omega), (by rw [n_fc_s, ← ix]; first | rw [if_pos (by omega)] | rw [if_neg (by omega)])⟩ (by show 72 - (k + 1) < 72 - k; omega) _ (lv_sub hl [2, 1, 0] rfl)
      · skip
        have c_5 := kq_bf c_5
        refine lv_iconst (v := 1) hx hb dL_frame_43 (by decide) ?_
        refine lv_goto (tgt := 48) hx hb dL_frame_44 (by decide) ?_
        refine lv_iadd hx hb dL_frame_48 ?_
        refine kq_top (z := nI (x + 1)) (nI_add x 1) ?_
        refine lv_istore_n (lv' := [(1, .int (nI (x + 1))), (0, .ref qa), (2, .int (nI k))]) hx hb dL_frame_49 rfl hl (by decide) rfl (fun ls hl => ?_)
        refine lv_iinc (v := nI (k + 1)) (lv' := [(2, .int (nI (k + 1))), (1, .int (nI (x + 1))), (0, .ref qa)]) hx hb dL_frame_50 hl (k := 2) rfl (nI_1 k) (by decide) rfl (fun ls hl => ?_)
        refine lv_goto (tgt := 4) hx hb dL_frame_53 (by decide) ?_
        exact ih_1 (k + 1) (x + 1) ⟨(by omega), (by rw [n_fc_s, ← ix]; first | rw [if_pos (by omega)] | rw [if_neg (by omega)])⟩ (by show 72 - (k + 1) < 72 - k; omega) _ (lv_sub hl [2, 1, 0] rfl)
