set_option maxHeartbeats 4000000 in
set_option maxRecDepth 100000 in
theorem c_X3_save (l : Launch) (dC : Nat → ClassId) (dI : Nat → Nat → Nat) (cI : ClassId) (sz : Nat) (oS : Nat) (rv : Nat) (rs : Nat) (kc : Nat) (v : Nat → Int32) (sv : Nat → Int32) (hkc : kc ≤ 6) : Met l yX3_save wsX3_save ({ frames := 1, cells := 0, slots := 0, locals := 40 }) (kq_M dC dI cI [.ref oS] sz [(oS, .inr (3, [.ref rv, .ref rs, .int (nI kc)])), (rv, .inl (cI, 385, .inl v)), (rs, .inl (cI, 2310, .inl sv))]) (va_Qv (fun (u : Unit) => True) (kq_B dC dI (va_A [(oS, .inr (3, [.ref rv, .ref rs, .int (nI kc)])), (rv, .inl (cI, 385, .inl v)), (rs, .inl (cI, 2310, .inl sv))] sz) (fun u : Unit => [(oS, .inr (3, [.ref rv, .ref rs, .int (nI (min (kc + 1) 6))])), (rv, .inl (cI, 385, .inl v)), (rs, .inl (cI, 2310, .inl (n_push v sv)))])) (va_A [(oS, .inr (3, [.ref rv, .ref rs, .int (nI kc)])), (rv, .inl (cI, 385, .inl v)), (rs, .inl (cI, 2310, .inl sv))] sz)) 0 0 (va_A [(oS, .inr (3, [.ref rv, .ref rs, .int (nI kc)])), (rv, .inl (cI, 385, .inl v)), (rs, .inl (cI, 2310, .inl sv))] sz) := by
  refine kq_startM (cc := cX3_save) (maxL := 1) (ret := none) (by decide) rfl (Nat.le_of_ble_eq_true rfl) ?_
  intro p e s m below meth c hx hb hr hml hown hlocks hts hsz hA hP hD hS hK hnm ls hl
  subst hsz
  generalize hAe : va_A [(oS, .inr (3, [.ref rv, .ref rs, .int (nI kc)])), (rv, .inl (cI, 385, .inl v)), (rs, .inl (cI, 2310, .inl sv))] s.heap.size = A at hA hD hS ⊢
  have hown : s.vm.findClass RX3 = some m.cls := hown
  have hl : lv_has ls 1 [(0, .ref oS)] := hl
  refine lv_aload_n hx hb dX3_save_0 rfl (lv_at hl 0 rfl) ?_
  refine va_get (D := (dC, dI)) (ci := 3) (v := .ref rs) (C := RX3) (T := TX3) (N := 3) hx hb hts (by decide +kernel) hown hK.1 hP 0 rfl rfl 1 (by decide) (hts (.fieldLink RX3 15 "NoteWatermarks$State" "saved" "[I") (by decide +kernel)) (fun _ h9 => h9) rfl dX3_save_1 ?_
  refine lv_iconst (v := 0) hx hb dX3_save_4 (by decide) ?_
  refine lv_aload_n hx hb dX3_save_5 rfl (lv_at hl 0 rfl) ?_
  refine va_get (D := (dC, dI)) (ci := 3) (v := .ref rs) (C := RX3) (T := TX3) (N := 3) hx hb hts (by decide +kernel) hown hK.1 hP 0 rfl rfl 1 (by decide) (hts (.fieldLink RX3 15 "NoteWatermarks$State" "saved" "[I") (by decide +kernel)) (fun _ h9 => h9) rfl dX3_save_6 ?_
  refine lv_sipush (v := 385) hx hb dX3_save_9 (by decide) ?_
  refine lv_sipush (v := 1925) hx hb dX3_save_12 (by decide) ?_
  refine va_copyi hx hb (hml.trans hl.1.symm) hown (hts (.methodLink RX3 22 arraycopyName) (by decide +kernel)) (hts (.native arraycopyName) (by decide +kernel)) (hts (.static arraycopyName) (by decide +kernel)) (hts (.initialized "java/lang/System") (by decide +kernel)) hK.1 hP hD hS 2 2 0 0 rfl rfl rfl rfl rfl (by decide) (by decide) (by decide) (by decide) (by decide) (fun _ _ => rfl) (Nat.le_of_ble_eq_true rfl) (Nat.le_of_ble_eq_true rfl) dX3_save_15 (fun H locs hP hD hS => ?_)
  have hP : va_P (dC, dI) vwCl [(oS, .inr (3, [.ref rv, .ref rs, .int (nI kc)])), (rv, .inl (cI, 385, .inl v)), (rs, .inl (cI, 2310, .inl (va_cpy sv sv 0 385 1925)))] H := hP
  have hD : va_D A [(oS, .inr (3, [.ref rv, .ref rs, .int (nI kc)])), (rv, .inl (cI, 385, .inl v)), (rs, .inl (cI, 2310, .inl (va_cpy sv sv 0 385 1925)))] := hD
  refine lv_aload_n hx hb dX3_save_18 rfl (lv_at hl 0 rfl) ?_
  refine va_get (D := (dC, dI)) (ci := 3) (v := .ref rv) (C := RX3) (T := TX3) (N := 3) hx hb hts (by decide +kernel) hown hK.1 hP 0 rfl rfl 0 (by decide) (hts (.fieldLink RX3 11 "NoteWatermarks$State" "values" "[I") (by decide +kernel)) (fun _ h9 => h9) rfl dX3_save_19 ?_
  refine lv_iconst (v := 0) hx hb dX3_save_22 (by decide) ?_
  refine lv_aload_n hx hb dX3_save_23 rfl (lv_at hl 0 rfl) ?_
  refine va_get (D := (dC, dI)) (ci := 3) (v := .ref rs) (C := RX3) (T := TX3) (N := 3) hx hb hts (by decide +kernel) hown hK.1 hP 0 rfl rfl 1 (by decide) (hts (.fieldLink RX3 15 "NoteWatermarks$State" "saved" "[I") (by decide +kernel)) (fun _ h9 => h9) rfl dX3_save_24 ?_
  refine lv_iconst (v := 0) hx hb dX3_save_27 (by decide) ?_
  refine lv_sipush (v := 385) hx hb dX3_save_28 (by decide) ?_
  refine va_copyi hx hb (hml.trans hl.1.symm) hown (hts (.methodLink RX3 22 arraycopyName) (by decide +kernel)) (hts (.native arraycopyName) (by decide +kernel)) (hts (.static arraycopyName) (by decide +kernel)) (hts (.initialized "java/lang/System") (by decide +kernel)) hK.1 hP hD hS 1 2 0 0 rfl rfl rfl rfl rfl (by decide) (by decide) (by decide) (by decide) (by decide) (fun _ _ => rfl) (Nat.le_of_ble_eq_true rfl) (Nat.le_of_ble_eq_true rfl) dX3_save_31 (fun H locs hP hD hS => ?_)
  have hP : va_P (dC, dI) vwCl [(oS, .inr (3, [.ref rv, .ref rs, .int (nI kc)])), (rv, .inl (cI, 385, .inl v)), (rs, .inl (cI, 2310, .inl (va_cpy v (va_cpy sv sv 0 385 1925) 0 0 385)))] H := hP
  have hD : va_D A [(oS, .inr (3, [.ref rv, .ref rs, .int (nI kc)])), (rv, .inl (cI, 385, .inl v)), (rs, .inl (cI, 2310, .inl (va_cpy v (va_cpy sv sv 0 385 1925) 0 0 385)))] := hD
  refine lv_aload_n hx hb dX3_save_34 rfl (lv_at hl 0 rfl) ?_
  refine lv_aload_n hx hb dX3_save_35 rfl (lv_at hl 0 rfl) ?_
  refine va_get (D := (dC, dI)) (ci := 3) (v := .int (nI kc)) (C := RX3) (T := TX3) (N := 3) hx hb hts (by decide +kernel) hown hK.1 hP 0 rfl rfl 2 (by decide) (hts (.fieldLink RX3 18 "NoteWatermarks$State" "savedCount" "I") (by decide +kernel)) (fun _ h9 => h9) rfl dX3_save_36 ?_
  refine lv_iconst (v := 1) hx hb dX3_save_39 (by decide) ?_
  refine lv_iadd hx hb dX3_save_40 ?_
  refine kq_top (z := nI (kc + 1)) (nI_add kc 1) ?_
  refine lv_bipush (v := 6) hx hb dX3_save_41 (by decide) ?_
  refine va_mmin hx hb (hml.trans hl.1.symm) hown (hts (.methodLink RX3 28 Lib.Math.min.name) (by decide +kernel)) (hts (.static Lib.Math.min.name) (by decide +kernel)) (hts (.initialized "java/lang/Math") (by decide +kernel)) (hts (.code Lib.Math.min.name Lib.Math.min.code 2 (some .int)) (by decide +kernel)) (Nat.le_of_ble_eq_true rfl) (Nat.le_of_ble_eq_true rfl) (Nat.le_of_ble_eq_true rfl) (Nat.le_of_ble_eq_true rfl) dX3_save_43 ?_
  refine kq_top (z := nI (min (kc + 1) 6)) (kq_min (a := (kc + 1)) (b := 6) (by omega) (by omega)) ?_
  refine va_put (D := (dC, dI)) (ci := 3) (v := .int (nI (min (kc + 1) 6))) (ty := .int) (C := RX3) (T := TX3) (N := 3) hx hb hts (by decide +kernel) tyX3 tyX3_ok nmX3 hown hK.1 hP hD hS 0 rfl rfl 2 (by decide) (hts (.fieldLink RX3 18 "NoteWatermarks$State" "savedCount" "I") (by decide +kernel)) (fun _ h9 => h9) rfl (by decide +kernel) rfl rfl (Nat.le_of_ble_eq_true rfl) dX3_save_46 (fun H locs hP hD hS => ?_)
  have hP : va_P (dC, dI) vwCl [(oS, .inr (3, [.ref rv, .ref rs, .int (nI (min (kc + 1) 6))])), (rv, .inl (cI, 385, .inl v)), (rs, .inl (cI, 2310, .inl (va_cpy v (va_cpy sv sv 0 385 1925) 0 0 385)))] H := hP
  have hD : va_D A [(oS, .inr (3, [.ref rv, .ref rs, .int (nI (min (kc + 1) 6))])), (rv, .inl (cI, 385, .inl v)), (rs, .inl (cI, 2310, .inl (va_cpy v (va_cpy sv sv 0 385 1925) 0 0 385)))] := hD
  exact kq_retMv () hx hb hr hlocks hP hD hS dX3_save_49 (by trivial)
set_option maxHeartbeats 4000000 in
set_option maxRecDepth 100000 in
theorem c_X5_stepsToMultiple (l : Launch) (dC : Nat → ClassId) (dI : Nat → Nat → Nat) (cI : ClassId) (a : Nat) (d : Nat) (ha : a < 32768) (hd0 : 0 < d) (hd9 : d < 32768) : Met l yX5_stepsToMultiple wsX5_stepsToMultiple ({ frames := 1, cells := 0, slots := 0, locals := 22 }) (kq_R dC dI cI [.int (nI a), .int (nI d)] []) (QcRead (nI (n_stm a d))) 0 0 (fun _ => False) := by
  refine kq_start (cc := cX5_stepsToMultiple) (maxL := 3) (ret := (some .int)) (plainFor_of_name (by decide)) rfl (Nat.le_of_ble_eq_true rfl) ?_
  intro p e s m below meth c hx hb hr hml hown hlocks hts hP hK ls hl
  have hown : s.vm.findClass RX5 = some m.cls := hown
  have hl : lv_has ls 3 [(0, .int (nI a)), (1, .int (nI d))] := hl
  refine lv_iconst (v := 1) hx hb dX5_stepsToMultiple_0 (by decide) ?_
  refine lv_istore_n (lv' := [(2, .int 1), (0, .int (nI a)), (1, .int (nI d))]) hx hb dX5_stepsToMultiple_1 rfl hl (by decide) rfl (fun ls hl => ?_)
  refine kq_loop1 (A1 := Nat) (fun (k : Nat) => d - k) (fun (k : Nat) => (1 ≤ k ∧ k ≤ d) ∧ (∀ j, 1 ≤ j → j < k → ¬ n_stm a d ∣ j)) (fun (k : Nat) => [(0, .int (nI a)), (1, .int (nI d)), (2, .int (nI k))]) (nL := 3) ?_ 1 ⟨(by omega), (by intro j h1 h2; omega)⟩ _ (lv_sub hl [1, 2, 0] rfl)
  intro k hi_2 ih_1 ls hl
  obtain ⟨k1, kn⟩ := hi_2
  have hl : lv_has ls 3 [(0, .int (nI a)), (1, .int (nI d)), (2, .int (nI k))] := hl
  refine lv_iload_n hx hb dX5_stepsToMultiple_2 rfl (lv_at hl 2 rfl) ?_
  refine lv_iload_n hx hb dX5_stepsToMultiple_3 rfl (lv_at hl 1 rfl) ?_
  refine lv_icmp_ge (tgt := 25) hx hb dX5_stepsToMultiple_4 (by decide) (fun c_3 => ?_) (fun c_3 => ?_)
  · skip
    have c_3 := kq_leN (a := d) (b := k) c_3 (by omega) (by omega)
    have hst : n_stm a d = d := Nat.le_antisymm n_stm_le (Nat.le_of_not_lt fun q => kn _ (n_stm_pos hd0) (by omega) (Nat.dvd_refl _))
    refine lv_iload_n hx hb dX5_stepsToMultiple_25 rfl (lv_at hl 1 rfl) ?_
    exact kq_ret hx hb hr hlocks dX5_stepsToMultiple_26 (by rw [hst])
  · skip
    have c_3 := kq_nleN (a := d) (b := k) c_3 (by omega) (by omega)
    have hka : k * a < 2 ^ 31 := Nat.lt_of_le_of_lt (Nat.mul_le_mul (show k ≤ 32767 by omega) (show a ≤ 32767 by omega)) (by decide)
    have hkm := Nat.mod_lt (k * a) hd0
    refine lv_iload_n hx hb dX5_stepsToMultiple_7 rfl (lv_at hl 2 rfl) ?_
    refine lv_iload_n hx hb dX5_stepsToMultiple_8 rfl (lv_at hl 0 rfl) ?_
    refine lv_imul hx hb dX5_stepsToMultiple_9 ?_
    refine kq_top (z := nI (k * a)) (pk_mul k a) ?_
    refine lv_iload_n hx hb dX5_stepsToMultiple_10 rfl (lv_at hl 1 rfl) ?_
    refine kq_cS (As := [.int (nI (k * a)), .int (nI d)]) (rest := []) ⟨hx, hb, hml, hown, hts⟩ (c_X5_modulo_n l dC dI cI (k * a) d (by first | assumption | omega) (by first | assumption | omega) (by first | assumption | omega)) (va_cwS 2 hts gX5_stepsToMultiple_X5_modulo rfl rfl rfl (by decide +kernel) ⟨Nat.le_of_ble_eq_true rfl, Nat.le_of_ble_eq_true rfl⟩) (hP.sub [] rfl) hK rfl hl.1 rfl (Nat.le_of_ble_eq_true rfl) dX5_stepsToMultiple_11 ⟨Nat.le_of_ble_eq_true rfl, Nat.le_of_ble_eq_true rfl⟩ ?_
    refine lv_if_ne (tgt := 19) hx hb dX5_stepsToMultiple_14 (by decide) (fun c_4 => ?_) (fun c_4 => ?_)
    · skip
      have c_4 := kq_neN (a := ((k * a) % d)) (b := 0) c_4 (by omega) (by omega)
      have hnd : ¬ n_stm a d ∣ k := fun q => (fun z => by omega) ((n_stm_iff hd0).mpr q)
      refine lv_iinc (v := nI (k + 1)) (lv' := [(2, .int (nI (k + 1))), (0, .int (nI a)), (1, .int (nI d))]) hx hb dX5_stepsToMultiple_19 hl (k := 2) rfl (nI_1 k) (by decide) rfl (fun ls hl => ?_)
      refine lv_goto (tgt := 2) hx hb dX5_stepsToMultiple_22 (by decide) ?_
      exact ih_1 (k + 1) ⟨(by omega), (by intro j h1 h2; rcases Nat.lt_or_ge j k with q | q; exact kn j h1 q; rw [show j = k by omega]; exact hnd)⟩ (by show d - (k + 1) < d - k; omega) _ (lv_sub hl [1, 2, 0] rfl)
    · skip
      have c_4 := kq_eqN (a := ((k * a) % d)) (b := 0) c_4 (by omega) (by omega)
      have hst : n_stm a d = k := Nat.le_antisymm (Nat.le_of_dvd (by omega) ((n_stm_iff hd0).mp (by omega))) (Nat.le_of_not_lt fun q => kn _ (n_stm_pos hd0) q (Nat.dvd_refl _))
      refine lv_iload_n hx hb dX5_stepsToMultiple_17 rfl (lv_at hl 2 rfl) ?_
      exact kq_ret hx hb hr hlocks dX5_stepsToMultiple_18 (by rw [hst])
set_option maxHeartbeats 4000000 in
set_option maxRecDepth 100000 in
theorem c_X2_turnTo_n (l : Launch) (dC : Nat → ClassId) (dI : Nat → Nat → Nat) (cI : ClassId) (sz : Nat) (oR : Nat) (oS : Nat) (rv : Nat) (rs : Nat) (cnt : Int32) (v : Nat → Int32) (a : Nat) (k : Nat) (q : Nat) (ha : a < 3) (hk : k < 32768) (hq : v (288 + a) = nI q) (hq1 : 0 < q ∧ q < 32768) : Met l yX2_turnTo wsX2_turnTo ({ frames := 1, cells := 0, slots := 0, locals := 22 }) (kq_M dC dI cI [.ref oR, .int (nI a), .int (nI k)] sz [(oR, .inr (2, [.ref oS])), (oS, .inr (3, [.ref rv, .ref rs, .int cnt])), (rv, .inl (cI, 385, .inl v))]) (va_Qv (fun (u : Unit) => True) (kq_B dC dI (va_A [(oR, .inr (2, [.ref oS])), (oS, .inr (3, [.ref rv, .ref rs, .int cnt])), (rv, .inl (cI, 385, .inl v))] sz) (fun u : Unit => [(oR, .inr (2, [.ref oS])), (oS, .inr (3, [.ref rv, .ref rs, .int cnt])), (rv, .inl (cI, 385, .inl (upd v (291 + a) (nI (k % q)))))])) (va_A [(oR, .inr (2, [.ref oS])), (oS, .inr (3, [.ref rv, .ref rs, .int cnt])), (rv, .inl (cI, 385, .inl v))] sz)) 0 0 (va_A [(oR, .inr (2, [.ref oS])), (oS, .inr (3, [.ref rv, .ref rs, .int cnt])), (rv, .inl (cI, 385, .inl v))] sz) := by
  refine kq_startM (cc := cX2_turnTo) (maxL := 4) (ret := none) (by decide) rfl (Nat.le_of_ble_eq_true rfl) ?_
  intro p e s m below meth c hx hb hr hml hown hlocks hts hsz hA hP hD hS hK hnm ls hl
  subst hsz
  generalize hAe : va_A [(oR, .inr (2, [.ref oS])), (oS, .inr (3, [.ref rv, .ref rs, .int cnt])), (rv, .inl (cI, 385, .inl v))] s.heap.size = A at hA hD hS ⊢
  have hown : s.vm.findClass RX2 = some m.cls := hown
  have hl : lv_has ls 4 [(0, .ref oR), (1, .int (nI a)), (2, .int (nI k))] := hl
  refine lv_aload_n hx hb dX2_turnTo_0 rfl (lv_at hl 0 rfl) ?_
  refine va_get (D := (dC, dI)) (ci := 2) (v := .ref oS) (C := RX2) (T := TX2) (N := 1) hx hb hts (by decide +kernel) hown hK.1 hP 0 rfl rfl 0 (by decide) (hts (.fieldLink RX2 9 "NoteWatermarks$Rolls" "state" "LNoteWatermarks$State;") (by decide +kernel)) (fun _ h9 => h9) rfl dX2_turnTo_1 ?_
  refine lv_iload_n hx hb dX2_turnTo_4 rfl (lv_at hl 1 rfl) ?_
  refine kq_cS (As := [.int (nI a)]) (rest := [.ref oS]) ⟨hx, hb, hml, hown, hts⟩ (c_X3_circumferencePlace l dC dI cI a ) (va_cwS 1 hts gX2_turnTo_X3_circumferencePlace rfl rfl rfl (by decide +kernel) ⟨Nat.le_of_ble_eq_true rfl, Nat.le_of_ble_eq_true rfl⟩) (hP.sub [] rfl) hK rfl hl.1 rfl (Nat.le_of_ble_eq_true rfl) dX2_turnTo_5 ⟨Nat.le_of_ble_eq_true rfl, Nat.le_of_ble_eq_true rfl⟩ ?_
  refine kq_cV (As := [.int (nI (288 + a))]) (rest := []) ⟨hx, hb, hml, hown, hts⟩ (c_X3_at l dC dI cI oS rv rs cnt v (288 + a) (by first | assumption | omega)) (cwV 1 hts gX2_turnTo_X3_at rfl rfl rfl (by decide +kernel) ⟨Nat.le_of_ble_eq_true rfl, Nat.le_of_ble_eq_true rfl⟩) (hP.sub [1, 2] rfl) hK (ci := 3) (q0 := 0) rfl rfl rfl rfl hl.1 rfl (Nat.le_of_ble_eq_true rfl) dX2_turnTo_8 ⟨Nat.le_of_ble_eq_true rfl, Nat.le_of_ble_eq_true rfl⟩ ?_
  refine kq_top (z := nI q) (hq) ?_
  refine lv_istore_n (lv' := [(3, .int (nI q)), (0, .ref oR), (1, .int (nI a)), (2, .int (nI k))]) hx hb dX2_turnTo_11 rfl hl (by decide) rfl (fun ls hl => ?_)
  refine lv_aload_n hx hb dX2_turnTo_12 rfl (lv_at hl 1 rfl) ?_
  refine va_get (D := (dC, dI)) (ci := 2) (v := .ref oS) (C := RX2) (T := TX2) (N := 1) hx hb hts (by decide +kernel) hown hK.1 hP 0 rfl rfl 0 (by decide) (hts (.fieldLink RX2 9 "NoteWatermarks$Rolls" "state" "LNoteWatermarks$State;") (by decide +kernel)) (fun _ h9 => h9) rfl dX2_turnTo_13 ?_
  refine lv_iload_n hx hb dX2_turnTo_16 rfl (lv_at hl 2 rfl) ?_
  refine kq_cS (As := [.int (nI a)]) (rest := [.ref oS]) ⟨hx, hb, hml, hown, hts⟩ (c_X3_phasePlace l dC dI cI a ) (va_cwS 1 hts gX2_turnTo_X3_phasePlace rfl rfl rfl (by decide +kernel) ⟨Nat.le_of_ble_eq_true rfl, Nat.le_of_ble_eq_true rfl⟩) (hP.sub [] rfl) hK rfl hl.1 rfl (Nat.le_of_ble_eq_true rfl) dX2_turnTo_17 ⟨Nat.le_of_ble_eq_true rfl, Nat.le_of_ble_eq_true rfl⟩ ?_
  refine lv_iload_n hx hb dX2_turnTo_20 rfl (lv_at hl 3 rfl) ?_
  refine lv_iload_n hx hb dX2_turnTo_21 rfl (lv_at hl 0 rfl) ?_
  refine kq_cN (As := [.int (nI k), .int (nI q)]) (rest := [.int (nI (291 + a)), .ref oS]) ⟨hx, hb, hml, hown, hts⟩ (c_X5_modulo_n l dC dI cI k q (by first | assumption | omega) (by first | assumption | omega) (by first | assumption | omega)) (va_cnB (own := RX2) (host := RX5) (index := 27) (y := yX5_modulo) 2 hts gX2_turnTo_X5_modulo_n27 rfl rfl rfl (hK.2 _ (by simp [kq_nest])) (hts (.initialized RX5) (by decide +kernel)) (by decide +kernel) ⟨Nat.le_of_ble_eq_true rfl, Nat.le_of_ble_eq_true rfl⟩) (hts (.static yX5_modulo) (by decide +kernel)) (hP.sub [] rfl) hK rfl hl.1 rfl (Nat.le_of_ble_eq_true rfl) dX2_turnTo_22 ⟨Nat.le_of_ble_eq_true rfl, Nat.le_of_ble_eq_true rfl⟩ ?_
  refine kq_callMv (wr := [(oR, .inr (2, [.ref oS]))]) (va_runV (As := [.int (nI (291 + a)), .int (nI (k % q))]) (rest := []) ⟨hx, hb, hml, hown, hts⟩ (c_X3_put l dC dI cI s.heap.size oS rv rs cnt v (291 + a) (nI (k % q)) (by first | assumption | omega)) (cwV 2 hts gX2_turnTo_X3_put rfl rfl rfl (by decide +kernel) ⟨Nat.le_of_ble_eq_true rfl, Nat.le_of_ble_eq_true rfl⟩) (kq_preV (ci := 3) (q0 := 0) (hP.sub [1, 2] rfl) (hD.sub [1, 2] (by decide) rfl) hK rfl rfl) rfl rfl hl.1 rfl (lv_room (Nat.le_of_ble_eq_true rfl)) dX2_turnTo_25 ⟨Nat.le_of_ble_eq_true rfl, Nat.le_of_ble_eq_true rfl⟩) hP hD hS hA [1, 2] [0] rfl rfl (by decide) (by decide) (fun u_2 H locs hw_3 hP hD hS => ?_)
  have hP : va_P (dC, dI) vwCl [(oR, .inr (2, [.ref oS])), (oS, .inr (3, [.ref rv, .ref rs, .int cnt])), (rv, .inl (cI, 385, .inl (upd v (291 + a) (nI (k % q)))))] H := hP
  have hD : va_D A [(oR, .inr (2, [.ref oS])), (oS, .inr (3, [.ref rv, .ref rs, .int cnt])), (rv, .inl (cI, 385, .inl (upd v (291 + a) (nI (k % q)))))] := hD
  exact kq_retMv () hx hb hr hlocks hP hD hS dX2_turnTo_28 (by trivial)
set_option maxHeartbeats 4000000 in
set_option maxRecDepth 100000 in
theorem c_X2_wiresUpTo (l : Launch) (dC : Nat → ClassId) (dI : Nat → Nat → Nat) (cI : ClassId) (oR : Nat) (oS : Nat) (rv : Nat) (rs : Nat) (cnt : Int32) (v : Nat → Int32) (a : Nat) (d : Nat) (ha : a < 3) (hd : d ≤ 16) : Met l yX2_wiresUpTo wsX2_wiresUpTo ({ frames := 1, cells := 0, slots := 0, locals := 22 }) (kq_R dC dI cI [.ref oR, .int (nI a), .int (nI d)] [(oR, .inr (2, [.ref oS])), (oS, .inr (3, [.ref rv, .ref rs, .int cnt])), (rv, .inl (cI, 385, .inl v))]) (QcRead (n_cw v a d)) 0 0 (fun _ => False) := by
  refine kq_start (cc := cX2_wiresUpTo) (maxL := 6) (ret := (some .int)) (plainFor_of_name (by decide)) rfl (Nat.le_of_ble_eq_true rfl) ?_
  intro p e s m below meth c hx hb hr hml hown hlocks hts hP hK ls hl
  have hown : s.vm.findClass RX2 = some m.cls := hown
  have hl : lv_has ls 6 [(0, .ref oR), (1, .int (nI a)), (2, .int (nI d))] := hl
  refine lv_iconst (v := 0) hx hb dX2_wiresUpTo_0 (by decide) ?_
  refine lv_istore_n (lv' := [(3, .int 0), (0, .ref oR), (1, .int (nI a)), (2, .int (nI d))]) hx hb dX2_wiresUpTo_1 rfl hl (by decide) rfl (fun ls hl => ?_)
  refine lv_iconst (v := 0) hx hb dX2_wiresUpTo_2 (by decide) ?_
  refine lv_istore (lv' := [(4, .int 0), (3, .int 0), (0, .ref oR), (1, .int (nI a)), (2, .int (nI d))]) hx hb dX2_wiresUpTo_3 hl (by decide) rfl (fun ls hl => ?_)
  refine kq_loop2 (A1 := Nat) (A2 := Int32) (fun (i : Nat) (x : Int32) => 6 - i) (fun (i : Nat) (x : Int32) => (i ≤ 6) ∧ (x = n_iv (fun i => n_cw1 v a i d) 0 i)) (fun (i : Nat) (x : Int32) => [(0, .ref oR), (1, .int (nI a)), (2, .int (nI d)), (3, .int x), (4, .int (nI i))]) (nL := 6) ?_ 0 0 ⟨(by omega), (by exact n_iv_0.symm)⟩ _ (lv_sub hl [2, 3, 4, 1, 0] rfl)
  intro i x hi_2 ih_1 ls hl
  obtain ⟨ii, ix⟩ := hi_2
  have hl : lv_has ls 6 [(0, .ref oR), (1, .int (nI a)), (2, .int (nI d)), (3, .int x), (4, .int (nI i))] := hl
  refine lv_iload hx hb dX2_wiresUpTo_5 (lv_at hl 4 rfl) ?_
  refine lv_bipush (v := 6) hx hb dX2_wiresUpTo_7 (by decide) ?_
  refine lv_icmp_ge (tgt := 54) hx hb dX2_wiresUpTo_9 (by decide) (fun c_3 => ?_) (fun c_3 => ?_)
  · skip
    have c_3 := kq_leN (a := 6) (b := i) c_3 (by omega) (by omega)
    refine lv_iload_n hx hb dX2_wiresUpTo_54 rfl (lv_at hl 3 rfl) ?_
    exact kq_ret hx hb hr hlocks dX2_wiresUpTo_55 (by rw [ix, n_cw, show i = 6 by omega])
  · skip
    have c_3 := kq_nleN (a := 6) (b := i) c_3 (by omega) (by omega)
    refine lv_iconst (v := 0) hx hb dX2_wiresUpTo_12 (by decide) ?_
    refine lv_istore (lv' := [(5, .int 0), (0, .ref oR), (1, .int (nI a)), (2, .int (nI d)), (3, .int x), (4, .int (nI i))]) hx hb dX2_wiresUpTo_13 hl (by decide) rfl (fun ls hl => ?_)
    refine kq_loop2 (A1 := Nat) (A2 := Int32) (fun (j : Nat) (x : Int32) => d - j) (fun (j : Nat) (x : Int32) => (j ≤ d) ∧ (x = n_iv (fun i => n_cw1 v a i d) 0 i + n_cw1 v a i j)) (fun (j : Nat) (x : Int32) => [(0, .ref oR), (1, .int (nI a)), (2, .int (nI d)), (3, .int x), (4, .int (nI i)), (5, .int (nI j))]) (nL := 6) ?_ 0 x ⟨(by omega), (by rw [n_cw1, n_iv_0, Int32.add_zero]; exact ix)⟩ _ (lv_sub hl [1, 2, 3, 4, 5, 0] rfl)
    intro j x hi_5 ih_4 ls hl
    obtain ⟨ij, ix⟩ := hi_5
    have hl : lv_has ls 6 [(0, .ref oR), (1, .int (nI a)), (2, .int (nI d)), (3, .int x), (4, .int (nI i)), (5, .int (nI j))] := hl
    refine lv_iload hx hb dX2_wiresUpTo_15 (lv_at hl 5 rfl) ?_
    refine lv_iload_n hx hb dX2_wiresUpTo_17 rfl (lv_at hl 2 rfl) ?_
    refine lv_icmp_ge (tgt := 48) hx hb dX2_wiresUpTo_18 (by decide) (fun c_6 => ?_) (fun c_6 => ?_)
    · skip
      have c_6 := kq_leN (a := d) (b := j) c_6 (by omega) (by omega)
      refine lv_iinc (v := nI (i + 1)) (lv' := [(4, .int (nI (i + 1))), (0, .ref oR), (1, .int (nI a)), (2, .int (nI d)), (3, .int x), (5, .int (nI j))]) hx hb dX2_wiresUpTo_48 hl (k := 4) rfl (nI_1 i) (by decide) rfl (fun ls hl => ?_)
      refine lv_goto (tgt := 5) hx hb dX2_wiresUpTo_51 (by decide) ?_
      exact ih_1 (i + 1) x ⟨(by omega), (by rw [n_iv_s (Nat.zero_le _), ix, show j = d by omega])⟩ (by show 6 - (i + 1) < 6 - i; omega) _ (lv_sub hl [1, 2, 3, 4, 0] rfl)
    · skip
      have c_6 := kq_nleN (a := d) (b := j) c_6 (by omega) (by omega)
      refine lv_aload_n hx hb dX2_wiresUpTo_21 rfl (lv_at hl 0 rfl) ?_
      refine va_get (D := (dC, dI)) (ci := 2) (v := .ref oS) (C := RX2) (T := TX2) (N := 1) hx hb hts (by decide +kernel) hown hK.1 hP 0 rfl rfl 0 (by decide) (hts (.fieldLink RX2 9 "NoteWatermarks$Rolls" "state" "LNoteWatermarks$State;") (by decide +kernel)) (fun _ h9 => h9) rfl dX2_wiresUpTo_22 ?_
      refine lv_iload_n hx hb dX2_wiresUpTo_25 rfl (lv_at hl 1 rfl) ?_
      refine lv_iload hx hb dX2_wiresUpTo_26 (lv_at hl 4 rfl) ?_
      refine lv_iload hx hb dX2_wiresUpTo_28 (lv_at hl 5 rfl) ?_
      refine kq_cS (As := [.int (nI a), .int (nI i), .int (nI j)]) (rest := [.ref oS]) ⟨hx, hb, hml, hown, hts⟩ (c_X3_wirePlace l dC dI cI a i j ) (va_cwS 3 hts gX2_wiresUpTo_X3_wirePlace rfl rfl rfl (by decide +kernel) ⟨Nat.le_of_ble_eq_true rfl, Nat.le_of_ble_eq_true rfl⟩) (hP.sub [] rfl) hK rfl hl.1 rfl (Nat.le_of_ble_eq_true rfl) dX2_wiresUpTo_30 ⟨Nat.le_of_ble_eq_true rfl, Nat.le_of_ble_eq_true rfl⟩ ?_
      refine kq_cV (As := [.int (nI ((a * 6 + i) * 16 + j))]) (rest := []) ⟨hx, hb, hml, hown, hts⟩ (c_X3_at l dC dI cI oS rv rs cnt v ((a * 6 + i) * 16 + j) (by first | assumption | omega)) (cwV 1 hts gX2_wiresUpTo_X3_at rfl rfl rfl (by decide +kernel) ⟨Nat.le_of_ble_eq_true rfl, Nat.le_of_ble_eq_true rfl⟩) (hP.sub [1, 2] rfl) hK (ci := 3) (q0 := 0) rfl rfl rfl rfl hl.1 rfl (Nat.le_of_ble_eq_true rfl) dX2_wiresUpTo_33 ⟨Nat.le_of_ble_eq_true rfl, Nat.le_of_ble_eq_true rfl⟩ ?_
      refine lv_if_eq (tgt := 42) hx hb dX2_wiresUpTo_36 (by decide) (fun c_7 => ?_) (fun c_7 => ?_)
      · skip
        refine lv_iinc (v := nI (j + 1)) (lv' := [(5, .int (nI (j + 1))), (0, .ref oR), (1, .int (nI a)), (2, .int (nI d)), (3, .int x), (4, .int (nI i))]) hx hb dX2_wiresUpTo_42 hl (k := 5) rfl (nI_1 j) (by decide) rfl (fun ls hl => ?_)
        refine lv_goto (tgt := 15) hx hb dX2_wiresUpTo_45 (by decide) ?_
        exact ih_4 (j + 1) x ⟨(by omega), (by rw [ix, n_cw1, n_cw1, n_iv_s (Nat.zero_le _)]; first | rw [if_pos (by assumption), Int32.add_zero] | rw [if_neg (by assumption), Int32.add_assoc])⟩ (by show d - (j + 1) < d - j; omega) _ (lv_sub hl [1, 2, 3, 4, 5, 0] rfl)
      · skip
        refine lv_iinc (v := x + 1) (lv' := [(3, .int (x + 1)), (0, .ref oR), (1, .int (nI a)), (2, .int (nI d)), (4, .int (nI i)), (5, .int (nI j))]) hx hb dX2_wiresUpTo_39 hl (k := 3) rfl (rfl) (by decide) rfl (fun ls hl => ?_)
        refine lv_iinc (v := nI (j + 1)) (lv' := [(5, .int (nI (j + 1))), (3, .int (x + 1)), (0, .ref oR), (1, .int (nI a)), (2, .int (nI d)), (4, .int (nI i))]) hx hb dX2_wiresUpTo_42 hl (k := 5) rfl (nI_1 j) (by decide) rfl (fun ls hl => ?_)
        refine lv_goto (tgt := 15) hx hb dX2_wiresUpTo_45 (by decide) ?_
        exact ih_4 (j + 1) (x + 1) ⟨(by omega), (by rw [ix, n_cw1, n_cw1, n_iv_s (Nat.zero_le _)]; first | rw [if_pos (by assumption), Int32.add_zero] | rw [if_neg (by assumption), Int32.add_assoc])⟩ (by show d - (j + 1) < d - j; omega) _ (lv_sub hl [2, 3, 4, 1, 5, 0] rfl)
set_option maxHeartbeats 4000000 in
set_option maxRecDepth 100000 in
theorem c_X2_heightsUpTo (l : Launch) (dC : Nat → ClassId) (dI : Nat → Nat → Nat) (cI : ClassId) (oR : Nat) (oS : Nat) (rv : Nat) (rs : Nat) (cnt : Int32) (v : Nat → Int32) (a : Nat) (d : Nat) (ha : a < 3) (hd : d ≤ 16) : Met l yX2_heightsUpTo wsX2_heightsUpTo ({ frames := 1, cells := 0, slots := 0, locals := 22 }) (kq_R dC dI cI [.ref oR, .int (nI a), .int (nI d)] [(oR, .inr (2, [.ref oS])), (oS, .inr (3, [.ref rv, .ref rs, .int cnt])), (rv, .inl (cI, 385, .inl v))]) (QcRead (n_hw v a d)) 0 0 (fun _ => False) := by
  refine kq_start (cc := cX2_heightsUpTo) (maxL := 6) (ret := (some .int)) (plainFor_of_name (by decide)) rfl (Nat.le_of_ble_eq_true rfl) ?_
  intro p e s m below meth c hx hb hr hml hown hlocks hts hP hK ls hl
  have hown : s.vm.findClass RX2 = some m.cls := hown
  have hl : lv_has ls 6 [(0, .ref oR), (1, .int (nI a)), (2, .int (nI d))] := hl
  refine lv_iconst (v := 0) hx hb dX2_heightsUpTo_0 (by decide) ?_
  refine lv_istore_n (lv' := [(3, .int 0), (0, .ref oR), (1, .int (nI a)), (2, .int (nI d))]) hx hb dX2_heightsUpTo_1 rfl hl (by decide) rfl (fun ls hl => ?_)
  refine lv_iconst (v := 0) hx hb dX2_heightsUpTo_2 (by decide) ?_
  refine lv_istore (lv' := [(4, .int 0), (3, .int 0), (0, .ref oR), (1, .int (nI a)), (2, .int (nI d))]) hx hb dX2_heightsUpTo_3 hl (by decide) rfl (fun ls hl => ?_)
  refine kq_loop2 (A1 := Nat) (A2 := Int32) (fun (i : Nat) (x : Int32) => 6 - i) (fun (i : Nat) (x : Int32) => (i ≤ 6) ∧ (x = n_iv (fun i => n_hw1 v a i d) 0 i)) (fun (i : Nat) (x : Int32) => [(0, .ref oR), (1, .int (nI a)), (2, .int (nI d)), (3, .int x), (4, .int (nI i))]) (nL := 6) ?_ 0 0 ⟨(by omega), (by exact n_iv_0.symm)⟩ _ (lv_sub hl [2, 3, 4, 1, 0] rfl)
  intro i x hi_2 ih_1 ls hl
  obtain ⟨ii, ix⟩ := hi_2
  have hl : lv_has ls 6 [(0, .ref oR), (1, .int (nI a)), (2, .int (nI d)), (3, .int x), (4, .int (nI i))] := hl
  refine lv_iload hx hb dX2_heightsUpTo_5 (lv_at hl 4 rfl) ?_
  refine lv_bipush (v := 6) hx hb dX2_heightsUpTo_7 (by decide) ?_
  refine lv_icmp_ge (tgt := 51) hx hb dX2_heightsUpTo_9 (by decide) (fun c_3 => ?_) (fun c_3 => ?_)
  · skip
    have c_3 := kq_leN (a := 6) (b := i) c_3 (by omega) (by omega)
    refine lv_iload_n hx hb dX2_heightsUpTo_51 rfl (lv_at hl 3 rfl) ?_
    exact kq_ret hx hb hr hlocks dX2_heightsUpTo_52 (by rw [ix, n_hw, show i = 6 by omega])
  · skip
    have c_3 := kq_nleN (a := 6) (b := i) c_3 (by omega) (by omega)
    refine lv_iconst (v := 0) hx hb dX2_heightsUpTo_12 (by decide) ?_
    refine lv_istore (lv' := [(5, .int 0), (0, .ref oR), (1, .int (nI a)), (2, .int (nI d)), (3, .int x), (4, .int (nI i))]) hx hb dX2_heightsUpTo_13 hl (by decide) rfl (fun ls hl => ?_)
    refine kq_loop2 (A1 := Nat) (A2 := Int32) (fun (j : Nat) (x : Int32) => d - j) (fun (j : Nat) (x : Int32) => (j ≤ d) ∧ (x = n_iv (fun i => n_hw1 v a i d) 0 i + n_hw1 v a i j)) (fun (j : Nat) (x : Int32) => [(0, .ref oR), (1, .int (nI a)), (2, .int (nI d)), (3, .int x), (4, .int (nI i)), (5, .int (nI j))]) (nL := 6) ?_ 0 x ⟨(by omega), (by rw [n_hw1, n_iv_0, Int32.add_zero]; exact ix)⟩ _ (lv_sub hl [1, 2, 3, 4, 5, 0] rfl)
    intro j x hi_5 ih_4 ls hl
    obtain ⟨ij, ix⟩ := hi_5
    have hl : lv_has ls 6 [(0, .ref oR), (1, .int (nI a)), (2, .int (nI d)), (3, .int x), (4, .int (nI i)), (5, .int (nI j))] := hl
    refine lv_iload hx hb dX2_heightsUpTo_15 (lv_at hl 5 rfl) ?_
    refine lv_iload_n hx hb dX2_heightsUpTo_17 rfl (lv_at hl 2 rfl) ?_
    refine lv_icmp_ge (tgt := 45) hx hb dX2_heightsUpTo_18 (by decide) (fun c_6 => ?_) (fun c_6 => ?_)
    · skip
      have c_6 := kq_leN (a := d) (b := j) c_6 (by omega) (by omega)
      refine lv_iinc (v := nI (i + 1)) (lv' := [(4, .int (nI (i + 1))), (0, .ref oR), (1, .int (nI a)), (2, .int (nI d)), (3, .int x), (5, .int (nI j))]) hx hb dX2_heightsUpTo_45 hl (k := 4) rfl (nI_1 i) (by decide) rfl (fun ls hl => ?_)
      refine lv_goto (tgt := 5) hx hb dX2_heightsUpTo_48 (by decide) ?_
      exact ih_1 (i + 1) x ⟨(by omega), (by rw [n_iv_s (Nat.zero_le _), ix, show j = d by omega])⟩ (by show 6 - (i + 1) < 6 - i; omega) _ (lv_sub hl [1, 2, 3, 4, 0] rfl)
    · skip
      have c_6 := kq_nleN (a := d) (b := j) c_6 (by omega) (by omega)
      refine lv_iload_n hx hb dX2_heightsUpTo_21 rfl (lv_at hl 3 rfl) ?_
      refine lv_aload_n hx hb dX2_heightsUpTo_22 rfl (lv_at hl 0 rfl) ?_
      refine va_get (D := (dC, dI)) (ci := 2) (v := .ref oS) (C := RX2) (T := TX2) (N := 1) hx hb hts (by decide +kernel) hown hK.1 hP 0 rfl rfl 0 (by decide) (hts (.fieldLink RX2 9 "NoteWatermarks$Rolls" "state" "LNoteWatermarks$State;") (by decide +kernel)) (fun _ h9 => h9) rfl dX2_heightsUpTo_23 ?_
      refine lv_iload_n hx hb dX2_heightsUpTo_26 rfl (lv_at hl 1 rfl) ?_
      refine lv_iload hx hb dX2_heightsUpTo_27 (lv_at hl 4 rfl) ?_
      refine lv_iload hx hb dX2_heightsUpTo_29 (lv_at hl 5 rfl) ?_
      refine kq_cS (As := [.int (nI a), .int (nI i), .int (nI j)]) (rest := [.ref oS, .int x]) ⟨hx, hb, hml, hown, hts⟩ (c_X3_wirePlace l dC dI cI a i j ) (va_cwS 3 hts gX2_heightsUpTo_X3_wirePlace rfl rfl rfl (by decide +kernel) ⟨Nat.le_of_ble_eq_true rfl, Nat.le_of_ble_eq_true rfl⟩) (hP.sub [] rfl) hK rfl hl.1 rfl (Nat.le_of_ble_eq_true rfl) dX2_heightsUpTo_31 ⟨Nat.le_of_ble_eq_true rfl, Nat.le_of_ble_eq_true rfl⟩ ?_
      refine kq_cV (As := [.int (nI ((a * 6 + i) * 16 + j))]) (rest := [.int x]) ⟨hx, hb, hml, hown, hts⟩ (c_X3_at l dC dI cI oS rv rs cnt v ((a * 6 + i) * 16 + j) (by first | assumption | omega)) (cwV 1 hts gX2_heightsUpTo_X3_at rfl rfl rfl (by decide +kernel) ⟨Nat.le_of_ble_eq_true rfl, Nat.le_of_ble_eq_true rfl⟩) (hP.sub [1, 2] rfl) hK (ci := 3) (q0 := 0) rfl rfl rfl rfl hl.1 rfl (Nat.le_of_ble_eq_true rfl) dX2_heightsUpTo_34 ⟨Nat.le_of_ble_eq_true rfl, Nat.le_of_ble_eq_true rfl⟩ ?_
      refine lv_iadd hx hb dX2_heightsUpTo_37 ?_
      refine lv_istore_n (lv' := [(3, .int (x + (v ((a * 6 + i) * 16 + j)))), (0, .ref oR), (1, .int (nI a)), (2, .int (nI d)), (4, .int (nI i)), (5, .int (nI j))]) hx hb dX2_heightsUpTo_38 rfl hl (by decide) rfl (fun ls hl => ?_)
      refine lv_iinc (v := nI (j + 1)) (lv' := [(5, .int (nI (j + 1))), (3, .int (x + (v ((a * 6 + i) * 16 + j)))), (0, .ref oR), (1, .int (nI a)), (2, .int (nI d)), (4, .int (nI i))]) hx hb dX2_heightsUpTo_39 hl (k := 5) rfl (nI_1 j) (by decide) rfl (fun ls hl => ?_)
      refine lv_goto (tgt := 15) hx hb dX2_heightsUpTo_42 (by decide) ?_
      exact ih_4 (j + 1) (x + (v ((a * 6 + i) * 16 + j))) ⟨(by omega), (by rw [ix, n_hw1, n_hw1, n_iv_s (Nat.zero_le _), Int32.add_assoc])⟩ (by show d - (j + 1) < d - j; omega) _ (lv_sub hl [2, 3, 4, 1, 5, 0] rfl)
set_option maxHeartbeats 4000000 in
set_option maxRecDepth 100000 in
theorem c_X2_notesAround (l : Launch) (dC : Nat → ClassId) (dI : Nat → Nat → Nat) (cI : ClassId) (oR : Nat) (oS : Nat) (rv : Nat) (rs : Nat) (cnt : Int32) (v : Nat → Int32) (a : Nat) (k : Nat) (ha : a < 3) (hk : k < 32768) (hI : n_I v) : Met l yX2_notesAround wsX2_notesAround ({ frames := 2, cells := 0, slots := 0, locals := 44 }) (kq_R dC dI cI [.ref oR, .int (nI a), .int (nI k)] [(oR, .inr (2, [.ref oS])), (oS, .inr (3, [.ref rv, .ref rs, .int cnt])), (rv, .inl (cI, 385, .inl v))]) (QcRead (nI (n_stm k (n_c v a)))) 0 0 (fun _ => False) := by
  refine kq_start (cc := cX2_notesAround) (maxL := 3) (ret := (some .int)) (plainFor_of_name (by decide)) rfl (Nat.le_of_ble_eq_true rfl) ?_
  intro p e s m below meth c hx hb hr hml hown hlocks hts hP hK ls hl
  have hown : s.vm.findClass RX2 = some m.cls := hown
  have hl : lv_has ls 3 [(0, .ref oR), (1, .int (nI a)), (2, .int (nI k))] := hl
  have h4 := n_I_c4 hI ha
  have h16 := n_I_c16 hI ha
  refine lv_iload_n hx hb dX2_notesAround_0 rfl (lv_at hl 2 rfl) ?_
  refine lv_aload_n hx hb dX2_notesAround_1 rfl (lv_at hl 0 rfl) ?_
  refine va_get (D := (dC, dI)) (ci := 2) (v := .ref oS) (C := RX2) (T := TX2) (N := 1) hx hb hts (by decide +kernel) hown hK.1 hP 0 rfl rfl 0 (by decide) (hts (.fieldLink RX2 9 "NoteWatermarks$Rolls" "state" "LNoteWatermarks$State;") (by decide +kernel)) (fun _ h9 => h9) rfl dX2_notesAround_2 ?_
  refine lv_iload_n hx hb dX2_notesAround_5 rfl (lv_at hl 1 rfl) ?_
  refine kq_cS (As := [.int (nI a)]) (rest := [.ref oS, .int (nI k)]) ⟨hx, hb, hml, hown, hts⟩ (c_X3_circumferencePlace l dC dI cI a ) (va_cwS 1 hts gX2_notesAround_X3_circumferencePlace rfl rfl rfl (by decide +kernel) ⟨Nat.le_of_ble_eq_true rfl, Nat.le_of_ble_eq_true rfl⟩) (hP.sub [] rfl) hK rfl hl.1 rfl (Nat.le_of_ble_eq_true rfl) dX2_notesAround_6 ⟨Nat.le_of_ble_eq_true rfl, Nat.le_of_ble_eq_true rfl⟩ ?_
  refine kq_cV (As := [.int (nI (288 + a))]) (rest := [.int (nI k)]) ⟨hx, hb, hml, hown, hts⟩ (c_X3_at l dC dI cI oS rv rs cnt v (288 + a) (by first | assumption | omega)) (cwV 1 hts gX2_notesAround_X3_at rfl rfl rfl (by decide +kernel) ⟨Nat.le_of_ble_eq_true rfl, Nat.le_of_ble_eq_true rfl⟩) (hP.sub [1, 2] rfl) hK (ci := 3) (q0 := 0) rfl rfl rfl rfl hl.1 rfl (Nat.le_of_ble_eq_true rfl) dX2_notesAround_9 ⟨Nat.le_of_ble_eq_true rfl, Nat.le_of_ble_eq_true rfl⟩ ?_
  refine kq_top (z := nI (n_c v a)) (n_I_c hI ha) ?_
  refine kq_cN (As := [.int (nI k), .int (nI (n_c v a))]) (rest := []) ⟨hx, hb, hml, hown, hts⟩ (c_X5_stepsToMultiple l dC dI cI k (n_c v a) (by first | assumption | omega) (by first | assumption | omega) (by first | assumption | omega)) (va_cnB (own := RX2) (host := RX5) (index := 39) (y := yX5_stepsToMultiple) 2 hts gX2_notesAround_X5_stepsToMultiple_n39 rfl rfl rfl (hK.2 _ (by simp [kq_nest])) (hts (.initialized RX5) (by decide +kernel)) (by decide +kernel) ⟨Nat.le_of_ble_eq_true rfl, Nat.le_of_ble_eq_true rfl⟩) (hts (.static yX5_stepsToMultiple) (by decide +kernel)) (hP.sub [] rfl) hK rfl hl.1 rfl (Nat.le_of_ble_eq_true rfl) dX2_notesAround_12 ⟨Nat.le_of_ble_eq_true rfl, Nat.le_of_ble_eq_true rfl⟩ ?_
  exact kq_ret hx hb hr hlocks dX2_notesAround_15 (by rfl)
set_option maxHeartbeats 4000000 in
set_option maxRecDepth 100000 in
theorem c_X2_notesAllAround (l : Launch) (dC : Nat → ClassId) (dI : Nat → Nat → Nat) (cI : ClassId) (oR : Nat) (oS : Nat) (rv : Nat) (rs : Nat) (cnt : Int32) (v : Nat → Int32) (k : Nat) (hk : k < 32768) (hI : n_I v) : Met l yX2_notesAllAround wsX2_notesAllAround ({ frames := 3, cells := 0, slots := 0, locals := 66 }) (kq_R dC dI cI [.ref oR, .int (nI k)] [(oR, .inr (2, [.ref oS])), (oS, .inr (3, [.ref rv, .ref rs, .int cnt])), (rv, .inl (cI, 385, .inl v))]) (QcRead (nI (n_all v k 3))) 0 0 (fun _ => False) := by
  refine kq_start (cc := cX2_notesAllAround) (maxL := 4) (ret := (some .int)) (plainFor_of_name (by decide)) rfl (Nat.le_of_ble_eq_true rfl) ?_
  intro p e s m below meth c hx hb hr hml hown hlocks hts hP hK ls hl
  have hown : s.vm.findClass RX2 = some m.cls := hown
  have hl : lv_has ls 4 [(0, .ref oR), (1, .int (nI k))] := hl
  refine lv_iconst (v := 1) hx hb dX2_notesAllAround_0 (by decide) ?_
  refine lv_istore_n (lv' := [(2, .int 1), (0, .ref oR), (1, .int (nI k))]) hx hb dX2_notesAllAround_1 rfl hl (by decide) rfl (fun ls hl => ?_)
  refine lv_iconst (v := 0) hx hb dX2_notesAllAround_2 (by decide) ?_
  refine lv_istore_n (lv' := [(3, .int 0), (2, .int 1), (0, .ref oR), (1, .int (nI k))]) hx hb dX2_notesAllAround_3 rfl hl (by decide) rfl (fun ls hl => ?_)
  refine kq_loop1 (A1 := Nat) (fun (r : Nat) => 3 - r) (fun (r : Nat) => (r ≤ 3)) (fun (r : Nat) => [(0, .ref oR), (1, .int (nI k)), (2, .int (nI (n_all v k r))), (3, .int (nI r))]) (nL := 4) ?_ 0 (by omega) _ (lv_sub hl [2, 3, 1, 0] rfl)
  intro r hi_2 ih_1 ls hl
  have ir : r ≤ 3 := hi_2
  have hl : lv_has ls 4 [(0, .ref oR), (1, .int (nI k)), (2, .int (nI (n_all v k r))), (3, .int (nI r))] := hl
  have hap := n_all_pos hI (q := k) r ir
  have hap2 : 16 ^ r ≤ 16 ^ 3 := Nat.pow_le_pow_right (by decide) ir
  refine lv_iload_n hx hb dX2_notesAllAround_4 rfl (lv_at hl 3 rfl) ?_
  refine lv_iconst (v := 3) hx hb dX2_notesAllAround_5 (by decide) ?_
  refine lv_icmp_ge (tgt := 28) hx hb dX2_notesAllAround_6 (by decide) (fun c_3 => ?_) (fun c_3 => ?_)
  · skip
    have c_3 := kq_leN (a := 3) (b := r) c_3 (by omega) (by omega)
    refine lv_iload_n hx hb dX2_notesAllAround_28 rfl (lv_at hl 2 rfl) ?_
    exact kq_ret hx hb hr hlocks dX2_notesAllAround_29 (by rw [show r = 3 by omega])
  · skip
    have c_3 := kq_nleN (a := 3) (b := r) c_3 (by omega) (by omega)
    have h4 := n_I_c4 hI (r := r) (by omega)
    have h16 := n_I_c16 hI (r := r) (by omega)
    have hq0 : 0 < n_stm k (n_c v r) := n_stm_pos (by omega)
    have hq9 : n_stm k (n_c v r) ≤ n_c v r := n_stm_le
    refine lv_iload_n hx hb dX2_notesAllAround_9 rfl (lv_at hl 2 rfl) ?_
    refine lv_iload_n hx hb dX2_notesAllAround_10 rfl (lv_at hl 2 rfl) ?_
    refine lv_aload_n hx hb dX2_notesAllAround_11 rfl (lv_at hl 0 rfl) ?_
    refine lv_iload_n hx hb dX2_notesAllAround_12 rfl (lv_at hl 3 rfl) ?_
    refine lv_iload_n hx hb dX2_notesAllAround_13 rfl (lv_at hl 1 rfl) ?_
    refine kq_cV (As := [.int (nI r), .int (nI k)]) (rest := [.int (nI (n_all v k r)), .int (nI (n_all v k r))]) ⟨hx, hb, hml, hown, hts⟩ (c_X2_notesAround l dC dI cI oR oS rv rs cnt v r k (by first | assumption | omega) (by first | assumption | omega) (by first | assumption | omega)) (cwV 2 hts gX2_notesAllAround_X2_notesAround rfl rfl rfl (by decide +kernel) ⟨Nat.le_of_ble_eq_true rfl, Nat.le_of_ble_eq_true rfl⟩) (hP.sub [0, 1, 2] rfl) hK (ci := 2) (q0 := 0) rfl rfl rfl rfl hl.1 rfl (Nat.le_of_ble_eq_true rfl) dX2_notesAllAround_14 ⟨Nat.le_of_ble_eq_true rfl, Nat.le_of_ble_eq_true rfl⟩ ?_
    refine kq_cN (As := [.int (nI (n_all v k r)), .int (nI (n_stm k (n_c v r)))]) (rest := [.int (nI (n_all v k r))]) ⟨hx, hb, hml, hown, hts⟩ (c_X5_stepsToMultiple l dC dI cI (n_all v k r) (n_stm k (n_c v r)) (by first | assumption | omega) (by first | assumption | omega) (by first | assumption | omega)) (va_cnB (own := RX2) (host := RX5) (index := 39) (y := yX5_stepsToMultiple) 2 hts gX2_notesAllAround_X5_stepsToMultiple_n39 rfl rfl rfl (hK.2 _ (by simp [kq_nest])) (hts (.initialized RX5) (by decide +kernel)) (by decide +kernel) ⟨Nat.le_of_ble_eq_true rfl, Nat.le_of_ble_eq_true rfl⟩) (hts (.static yX5_stepsToMultiple) (by decide +kernel)) (hP.sub [] rfl) hK rfl hl.1 rfl (Nat.le_of_ble_eq_true rfl) dX2_notesAllAround_17 ⟨Nat.le_of_ble_eq_true rfl, Nat.le_of_ble_eq_true rfl⟩ ?_
    refine lv_imul hx hb dX2_notesAllAround_20 ?_
    refine kq_top (z := nI ((n_all v k r) * (n_stm (n_all v k r) (n_stm k (n_c v r))))) (pk_mul (n_all v k r) (n_stm (n_all v k r) (n_stm k (n_c v r)))) ?_
    refine lv_istore_n (lv' := [(2, .int (nI ((n_all v k r) * (n_stm (n_all v k r) (n_stm k (n_c v r)))))), (0, .ref oR), (1, .int (nI k)), (3, .int (nI r))]) hx hb dX2_notesAllAround_21 rfl hl (by decide) rfl (fun ls hl => ?_)
    refine lv_iinc (v := nI (r + 1)) (lv' := [(3, .int (nI (r + 1))), (2, .int (nI ((n_all v k r) * (n_stm (n_all v k r) (n_stm k (n_c v r)))))), (0, .ref oR), (1, .int (nI k))]) hx hb dX2_notesAllAround_22 hl (k := 3) rfl (nI_1 r) (by decide) rfl (fun ls hl => ?_)
    refine lv_goto (tgt := 4) hx hb dX2_notesAllAround_25 (by decide) ?_
    exact ih_1 (r + 1) (by omega) (by show 3 - (r + 1) < 3 - r; omega) _ (lv_sub hl [2, 3, 1, 0] rfl)
