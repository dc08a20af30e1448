set_option maxHeartbeats 4000000 in
set_option maxRecDepth 100000 in
theorem c_X5_bitsOfShare_0 (l : Launch) (dC : Nat → ClassId) (dI : Nat → Nat → Nat) (cI : ClassId) (sz : Nat)   : Met l yX5_bitsOfShare wsX5_bitsOfShare ({ frames := 0, cells := 0, slots := 0, locals := 0 }) (kq_M dC dI cI [.double 0] sz []) (va_Ql (fun (r : Int64) (u : Unit) => r = 0) (kq_B dC dI (va_A [] sz) (fun u : Unit => [])) (va_A [] sz)) 0 0 (va_A [] sz) := by
  refine kq_startM (cc := cX5_bitsOfShare) (maxL := 8) (ret := (some .long)) (by decide) rfl (Nat.le_of_ble_eq_true rfl) ?_
  intro p e s m below meth c hx hb hr hml hown hlocks hts hsz hA hP hD hS hK hnm ls hl
  subst hsz
  generalize hAe : va_A [] s.heap.size = A at hA hD hS ⊢
  have hown : s.vm.findClass RX5 = some m.cls := hown
  have hl : lv_has ls 8 [(0, .double 0)] := hl
  refine lv_dload_n hx hb dX5_bitsOfShare_0 rfl (lv_at hl 0 rfl) ?_
  refine lv_dconst0 hx hb dX5_bitsOfShare_1 ?_
  refine lv_dcmp hx hb dX5_bitsOfShare_2 ?_
  refine lv_if_gt (tgt := 8) hx hb dX5_bitsOfShare_3 (by decide) (fun c_1 => ?_) (fun c_1 => ?_)
  · skip
    exact absurd c_1 (by decide +kernel)
  · skip
    refine lv_lconst (v := 0) hx hb dX5_bitsOfShare_6 (by decide) ?_
    exact kq_retMl () hx hb hr hlocks hP hD hS dX5_bitsOfShare_7 (by rfl)
set_option maxHeartbeats 4000000 in
set_option maxRecDepth 100000 in
theorem c_X5_bitsOfShare_p (l : Launch) (dC : Nat → ClassId) (dI : Nat → Nat → Nat) (cI : ClassId) (sz : Nat) (d : UInt64) (hd : n_OK d = true) : Met l yX5_bitsOfShare wsX5_bitsOfShare ({ frames := 0, cells := 0, slots := 0, locals := 0 }) (kq_M dC dI cI [.double d] sz []) (va_Ql (fun (r : Int64) (u : Unit) => r = n_bs1 d) (kq_B dC dI (va_A [] sz) (fun u : Unit => [])) (va_A [] sz)) 0 0 (va_A [] sz) := by
  refine kq_startM (cc := cX5_bitsOfShare) (maxL := 8) (ret := (some .long)) (by decide) rfl (Nat.le_of_ble_eq_true rfl) ?_
  intro p e s m below meth c hx hb hr hml hown hlocks hts hsz hA hP hD hS hK hnm ls hl
  subst hsz
  generalize hAe : va_A [] s.heap.size = A at hA hD hS ⊢
  have hown : s.vm.findClass RX5 = some m.cls := hown
  have hl : lv_has ls 8 [(0, .double d)] := hl
  have hB := n_OK_e hd
  have h6 := hB.2.2.2.2.1
  refine lv_dload_n hx hb dX5_bitsOfShare_0 rfl (lv_at hl 0 rfl) ?_
  refine lv_dconst0 hx hb dX5_bitsOfShare_1 ?_
  refine lv_dcmp hx hb dX5_bitsOfShare_2 ?_
  refine lv_if_gt (tgt := 8) hx hb dX5_bitsOfShare_3 (by decide) (fun c_1 => ?_) (fun c_1 => ?_)
  · skip
    refine lv_dload_n hx hb dX5_bitsOfShare_8 rfl (lv_at hl 0 rfl) ?_
    refine lv_dstore_n (lv' := [(2, .double d), (0, .double d)]) hx hb dX5_bitsOfShare_9 rfl hl (by decide) rfl (fun ls hl => ?_)
    refine lv_ldc2 (v := 1023) hx hb hown (hts (.constantLong RX5 271 (1023)) (by decide +kernel)) dX5_bitsOfShare_10 ?_
    refine lv_lstore (lv' := [(4, .long 1023), (2, .double d), (0, .double d)]) hx hb dX5_bitsOfShare_13 hl (by decide) rfl (fun ls hl => ?_)
    refine kq_loopM1 (A1 := Nat) (fun (k : Nat) => n_tt d - k) (fun (k : Nat) => (k ≤ n_tt d)) (fun (k : Nat) => [(0, .double d), (2, .double (n_dn d k)), (4, .long (n_ex k))]) (fun (k : Nat) => []) (nL := 8) hK ?_ 0 (by omega) hP hD hS _ (lv_sub hl [2, 1, 0] rfl)
    intro k hi_3 ih_2 H locs hP hD hS ls hl
    have ik : k ≤ n_tt d := hi_3
    have hl : lv_has ls 8 [(0, .double d), (2, .double (n_dn d k)), (4, .long (n_ex k))] := hl
    have hP : va_P (dC, dI) vwCl [] H := hP
    have hD : va_D A [] := hD
    refine lv_dload_n hx hb dX5_bitsOfShare_15 rfl (lv_at hl 1 rfl) ?_
    refine lv_dconst1 hx hb dX5_bitsOfShare_16 ?_
    refine lv_dcmp hx hb dX5_bitsOfShare_17 ?_
    refine lv_if_ge (tgt := 43) hx hb dX5_bitsOfShare_18 (by decide) (fun c_4 => ?_) (fun c_4 => ?_)
    · skip
      have hkt : k = n_tt d := Nat.le_antisymm ik (Nat.le_of_not_lt fun q => absurd c_4 (Int32.not_le.mpr (hB.2.1 k q)))
      refine lv_dload_n hx hb dX5_bitsOfShare_43 rfl (lv_at hl 1 rfl) ?_
      refine lv_ldc2d (v := 4841369599423283200) hx hb hown (hts (.constantDouble RX5 275 (4841369599423283200)) (by decide +kernel)) dX5_bitsOfShare_44 ?_
      refine lv_dmul hx hb dX5_bitsOfShare_47 (by rw [hkt]; exact hB.2.2.2.1) ?_
      refine lv_d2l hx hb dX5_bitsOfShare_48 ?_
      refine lv_lstore (lv' := [(6, .long (FP.d2l (FP.dmul (n_dn d k) 4841369599423283200))), (0, .double d), (2, .double (n_dn d k)), (4, .long (n_ex k))]) hx hb dX5_bitsOfShare_49 hl (by decide) rfl (fun ls hl => ?_)
      refine lv_lload hx hb dX5_bitsOfShare_51 (lv_at hl 3 rfl) ?_
      refine lv_bipush (v := 52) hx hb dX5_bitsOfShare_53 (by decide) ?_
      refine lv_lshl (v := (n_ex k) <<< ((52 : Int32).toInt64 &&& 63)) hx hb dX5_bitsOfShare_55 rfl ?_
      refine lv_lload hx hb dX5_bitsOfShare_56 (lv_at hl 0 rfl) ?_
      refine lv_ldc2 (v := 4503599627370496) hx hb hown (hts (.constantLong RX5 277 (4503599627370496)) (by decide +kernel)) dX5_bitsOfShare_58 ?_
      refine lv_lsub hx hb dX5_bitsOfShare_61 ?_
      refine lv_ladd hx hb dX5_bitsOfShare_62 ?_
      exact kq_retMl () hx hb hr hlocks hP hD hS dX5_bitsOfShare_63 (by rw [n_bs1, ← hkt])
    · skip
      have hkt : k < n_tt d := Nat.lt_of_le_of_ne ik (fun q => c_4 (by rw [q]; exact Int32.not_lt.mp hB.2.2.1))
      refine lv_lload hx hb dX5_bitsOfShare_21 (lv_at hl 2 rfl) ?_
      refine lv_lconst (v := 1) hx hb dX5_bitsOfShare_23 (by decide) ?_
      refine W.lcmp hx hb dX5_bitsOfShare_24 ?_
      refine lv_if_le (tgt := 43) hx hb dX5_bitsOfShare_25 (by decide) (fun c_5 => ?_) (fun c_5 => ?_)
      · skip
        exact absurd c_5 (Int32.not_le.mpr (n_ex_1 k (by omega)))
      · skip
        refine lv_dload_n hx hb dX5_bitsOfShare_28 rfl (lv_at hl 1 rfl) ?_
        refine lv_ldc2d (v := 4611686018427387904) hx hb hown (hts (.constantDouble RX5 273 (4611686018427387904)) (by decide +kernel)) dX5_bitsOfShare_29 ?_
        refine lv_dmul hx hb dX5_bitsOfShare_32 (hB.1 (k + 1) (by omega)) ?_
        refine lv_dstore_n (lv' := [(2, .double (FP.dmul (n_dn d k) 4611686018427387904)), (0, .double d), (4, .long (n_ex k))]) hx hb dX5_bitsOfShare_33 rfl hl (by decide) rfl (fun ls hl => ?_)
        refine lv_lload hx hb dX5_bitsOfShare_34 (lv_at hl 2 rfl) ?_
        refine lv_lconst (v := 1) hx hb dX5_bitsOfShare_36 (by decide) ?_
        refine lv_lsub hx hb dX5_bitsOfShare_37 ?_
        refine lv_lstore (lv' := [(4, .long ((n_ex k) - 1)), (2, .double (FP.dmul (n_dn d k) 4611686018427387904)), (0, .double d)]) hx hb dX5_bitsOfShare_38 hl (by decide) rfl (fun ls hl => ?_)
        refine lv_goto (tgt := 15) hx hb dX5_bitsOfShare_40 (by decide) ?_
        exact ih_2 (k + 1) (by omega) (by show n_tt d - (k + 1) < n_tt d - k; omega) _ _ hP hD hS _ (lv_sub hl [2, 1, 0] rfl)
  · skip
    exact absurd hB.2.2.2.2.2.1 c_1
theorem c_X5_bitsOfShare_b (l : Launch) (dC : Nat → ClassId) (dI : Nat → Nat → Nat) (cI : ClassId) (sz : Nat) (v : Nat → Int32)  : Met l yX5_bitsOfShare wsX5_bitsOfShare ({ frames := 0, cells := 0, slots := 0, locals := 0 }) (kq_M dC dI cI [.double (n_gn v)] sz []) (va_Ql (fun (r : Int64) (u : Unit) => r = n_bs (n_gn v)) (kq_B dC dI (va_A [] sz) (fun u : Unit => [])) (va_A [] sz)) 0 0 (va_A [] sz) := by
  rcases n_gn_2 v with h | h
  · rw [h, show n_bs 0 = 0 from if_pos rfl]
    exact c_X5_bitsOfShare_0 l dC dI cI sz
  · have h0 : ¬ n_gn v = 0 := fun q => by rw [q] at h; exact absurd h (by decide +kernel)
    rw [show n_bs (n_gn v) = n_bs1 (n_gn v) from if_neg h0]
    exact c_X5_bitsOfShare_p l dC dI cI sz (n_gn v) h
set_option maxHeartbeats 4000000 in
set_option maxRecDepth 100000 in
theorem c_X5_goodness (l : Launch) (dC : Nat → ClassId) (dI : Nat → Nat → Nat) (cI : ClassId) (sz : Nat) (oX : Nat) (oS : Nat) (oR : Nat) (oN : Nat) (o2 : Nat) (oF : Nat) (oT : Nat) (rv : Nat) (rs : Nat) (kc : Nat) (rp : Nat) (rt : Nat) (rl : Nat) (v : Nat → Int32) (fp : Nat → Int32) (ft : Nat → Int32) (fl : Nat → Int32) (hI : n_I v) : Met l yX5_goodness wsX5_goodness ({ frames := 5, cells := 0, slots := 0, locals := 121 }) (kq_M dC dI cI [.ref oX] sz [(oX, .inr (5, [.ref oS, .ref oR, .ref oN, .ref o2, .ref oF, .ref oT])), (oS, .inr (3, [.ref rv, .ref rs, .int (nI kc)])), (rv, .inl (cI, 385, .inl v)), (oF, .inr (0, [.ref oS, .ref oN])), (oN, .inr (1, [.ref oS, .ref rp, .ref rt, .ref rl])), (rp, .inl (cI, 72, .inl fp)), (rt, .inl (cI, 72, .inl ft)), (rl, .inl (cI, 72, .inl fl))]) (va_Qd (fun (r : UInt64) (u : (Nat → Int32) × (Nat → Int32) × (Nat → Int32)) => r = n_gn v) (kq_B dC dI (va_A [(oX, .inr (5, [.ref oS, .ref oR, .ref oN, .ref o2, .ref oF, .ref oT])), (oS, .inr (3, [.ref rv, .ref rs, .int (nI kc)])), (rv, .inl (cI, 385, .inl v)), (oF, .inr (0, [.ref oS, .ref oN])), (oN, .inr (1, [.ref oS, .ref rp, .ref rt, .ref rl])), (rp, .inl (cI, 72, .inl fp)), (rt, .inl (cI, 72, .inl ft)), (rl, .inl (cI, 72, .inl fl))] sz) (fun u : (Nat → Int32) × (Nat → Int32) × (Nat → Int32) => [(oX, .inr (5, [.ref oS, .ref oR, .ref oN, .ref o2, .ref oF, .ref oT])), (oS, .inr (3, [.ref rv, .ref rs, .int (nI kc)])), (rv, .inl (cI, 385, .inl v)), (oF, .inr (0, [.ref oS, .ref oN])), (oN, .inr (1, [.ref oS, .ref rp, .ref rt, .ref rl])), (rp, .inl (cI, 72, .inl u.1)), (rt, .inl (cI, 72, .inl u.2.1)), (rl, .inl (cI, 72, .inl u.2.2))])) (va_A [(oX, .inr (5, [.ref oS, .ref oR, .ref oN, .ref o2, .ref oF, .ref oT])), (oS, .inr (3, [.ref rv, .ref rs, .int (nI kc)])), (rv, .inl (cI, 385, .inl v)), (oF, .inr (0, [.ref oS, .ref oN])), (oN, .inr (1, [.ref oS, .ref rp, .ref rt, .ref rl])), (rp, .inl (cI, 72, .inl fp)), (rt, .inl (cI, 72, .inl ft)), (rl, .inl (cI, 72, .inl fl))] sz)) 0 0 (va_A [(oX, .inr (5, [.ref oS, .ref oR, .ref oN, .ref o2, .ref oF, .ref oT])), (oS, .inr (3, [.ref rv, .ref rs, .int (nI kc)])), (rv, .inl (cI, 385, .inl v)), (oF, .inr (0, [.ref oS, .ref oN])), (oN, .inr (1, [.ref oS, .ref rp, .ref rt, .ref rl])), (rp, .inl (cI, 72, .inl fp)), (rt, .inl (cI, 72, .inl ft)), (rl, .inl (cI, 72, .inl fl))] sz) := by
  refine kq_startM (cc := cX5_goodness) (maxL := 4) (ret := (some .double)) (by decide) rfl (Nat.le_of_ble_eq_true rfl) ?_
  intro p e s m below meth c hx hb hr hml hown hlocks hts hsz hA hP hD hS hK hnm ls hl
  subst hsz
  generalize hAe : va_A [(oX, .inr (5, [.ref oS, .ref oR, .ref oN, .ref o2, .ref oF, .ref oT])), (oS, .inr (3, [.ref rv, .ref rs, .int (nI kc)])), (rv, .inl (cI, 385, .inl v)), (oF, .inr (0, [.ref oS, .ref oN])), (oN, .inr (1, [.ref oS, .ref rp, .ref rt, .ref rl])), (rp, .inl (cI, 72, .inl fp)), (rt, .inl (cI, 72, .inl ft)), (rl, .inl (cI, 72, .inl fl))] s.heap.size = A at hA hD hS ⊢
  have hown : s.vm.findClass RX5 = some m.cls := hown
  have hl : lv_has ls 4 [(0, .ref oX)] := hl
  refine lv_aload_n hx hb dX5_goodness_0 rfl (lv_at hl 0 rfl) ?_
  refine va_get (D := (dC, dI)) (ci := 5) (v := .ref oF) (C := RX5) (T := TX5) (N := 6) hx hb hts (by decide +kernel) hown hK.1 hP 0 rfl rfl 4 (by decide) (hts (.fieldLink RX5 40 "NoteWatermarks" "figures" "LNoteWatermarks$Figures;") (by decide +kernel)) (fun _ h9 => h9) rfl dX5_goodness_1 ?_
  refine kq_cV (As := []) (rest := []) ⟨hx, hb, hml, hown, hts⟩ (c_X0_howMany l dC dI cI oF oN oS rv rs (nI kc) v (by first | assumption | omega)) (cwV 0 hts gX5_goodness_X0_howMany rfl rfl rfl (by decide +kernel) ⟨Nat.le_of_ble_eq_true rfl, Nat.le_of_ble_eq_true rfl⟩) (hP.sub [3, 1, 2] rfl) hK (ci := 0) (q0 := 0) rfl rfl rfl rfl hl.1 rfl (Nat.le_of_ble_eq_true rfl) dX5_goodness_4 ⟨Nat.le_of_ble_eq_true rfl, Nat.le_of_ble_eq_true rfl⟩ ?_
  refine lv_istore_n (lv' := [(1, .int (n_hm v)), (0, .ref oX)]) hx hb dX5_goodness_7 rfl hl (by decide) rfl (fun ls hl => ?_)
  refine lv_iload_n hx hb dX5_goodness_8 rfl (lv_at hl 0 rfl) ?_
  refine lv_if_ne (tgt := 14) hx hb dX5_goodness_9 (by decide) (fun c_1 => ?_) (fun c_1 => ?_)
  · skip
    have h0 := c_1
    refine lv_iconst (v := 0) hx hb dX5_goodness_14 (by decide) ?_
    refine lv_istore_n (lv' := [(2, .int 0), (1, .int (n_hm v)), (0, .ref oX)]) hx hb dX5_goodness_15 rfl hl (by decide) rfl (fun ls hl => ?_)
    refine lv_iconst (v := 0) hx hb dX5_goodness_16 (by decide) ?_
    refine lv_istore_n (lv' := [(3, .int 0), (2, .int 0), (1, .int (n_hm v)), (0, .ref oX)]) hx hb dX5_goodness_17 rfl hl (by decide) rfl (fun ls hl => ?_)
    refine kq_loopM5 (A1 := Nat) (A2 := Int32) (A3 := Nat → Int32) (A4 := Nat → Int32) (A5 := Nat → Int32) (fun (k : Nat) (x : Int32) (fp : Nat → Int32) (ft : Nat → Int32) (fl : Nat → Int32) => 10 - k) (fun (k : Nat) (x : Int32) (fp : Nat → Int32) (ft : Nat → Int32) (fl : Nat → Int32) => (k ≤ 10) ∧ (x = n_sum (fun k => n_hg v k) k)) (fun (k : Nat) (x : Int32) (fp : Nat → Int32) (ft : Nat → Int32) (fl : Nat → Int32) => [(0, .ref oX), (1, .int (n_hm v)), (2, .int x), (3, .int (nI k))]) (fun (k : Nat) (x : Int32) (fp : Nat → Int32) (ft : Nat → Int32) (fl : Nat → Int32) => [(oX, .inr (5, [.ref oS, .ref oR, .ref oN, .ref o2, .ref oF, .ref oT])), (oS, .inr (3, [.ref rv, .ref rs, .int (nI kc)])), (rv, .inl (cI, 385, .inl v)), (oF, .inr (0, [.ref oS, .ref oN])), (oN, .inr (1, [.ref oS, .ref rp, .ref rt, .ref rl])), (rp, .inl (cI, 72, .inl fp)), (rt, .inl (cI, 72, .inl ft)), (rl, .inl (cI, 72, .inl fl))]) (nL := 4) hK ?_ 0 0 fp ft fl ⟨(by omega), (by rfl)⟩ hP hD hS _ (lv_sub hl [3, 2, 1, 0] rfl)
    intro k x fp ft fl hi_3 ih_2 H locs hP hD hS ls hl
    obtain ⟨ik, ix⟩ := hi_3
    have hl : lv_has ls 4 [(0, .ref oX), (1, .int (n_hm v)), (2, .int x), (3, .int (nI k))] := hl
    have hP : va_P (dC, dI) vwCl [(oX, .inr (5, [.ref oS, .ref oR, .ref oN, .ref o2, .ref oF, .ref oT])), (oS, .inr (3, [.ref rv, .ref rs, .int (nI kc)])), (rv, .inl (cI, 385, .inl v)), (oF, .inr (0, [.ref oS, .ref oN])), (oN, .inr (1, [.ref oS, .ref rp, .ref rt, .ref rl])), (rp, .inl (cI, 72, .inl fp)), (rt, .inl (cI, 72, .inl ft)), (rl, .inl (cI, 72, .inl fl))] H := hP
    have hD : va_D A [(oX, .inr (5, [.ref oS, .ref oR, .ref oN, .ref o2, .ref oF, .ref oT])), (oS, .inr (3, [.ref rv, .ref rs, .int (nI kc)])), (rv, .inl (cI, 385, .inl v)), (oF, .inr (0, [.ref oS, .ref oN])), (oN, .inr (1, [.ref oS, .ref rp, .ref rt, .ref rl])), (rp, .inl (cI, 72, .inl fp)), (rt, .inl (cI, 72, .inl ft)), (rl, .inl (cI, 72, .inl fl))] := hD
    refine lv_iload_n hx hb dX5_goodness_18 rfl (lv_at hl 3 rfl) ?_
    refine lv_bipush (v := 10) hx hb dX5_goodness_19 (by decide) ?_
    refine lv_icmp_ge (tgt := 41) hx hb dX5_goodness_21 (by decide) (fun c_4 => ?_) (fun c_4 => ?_)
    · skip
      have c_4 := kq_leN (a := 10) (b := k) c_4 (by omega) (by omega)
      refine lv_iload_n hx hb dX5_goodness_41 rfl (lv_at hl 2 rfl) ?_
      refine kq_top (z := n_go v 10) (by rw [ix, n_go_s, show k = 10 by omega]) ?_
      refine lv_i2d hx hb dX5_goodness_42 ?_
      refine lv_ldc2d (v := 4621819117588971520) hx hb hown (hts (.constantDouble RX5 222 (4621819117588971520)) (by decide +kernel)) dX5_goodness_43 ?_
      refine lv_iload_n hx hb dX5_goodness_46 rfl (lv_at hl 1 rfl) ?_
      refine lv_i2d hx hb dX5_goodness_47 ?_
      refine lv_dmul hx hb dX5_goodness_48 ((n_gn_1 h0).1) ?_
      refine lv_ddiv hx hb dX5_goodness_49 ((n_gn_1 h0).2) ?_
      exact kq_retMd (fp, ft, fl) hx hb hr hlocks hP hD hS dX5_goodness_50 (by exact ((if_neg h0).symm : _ = n_gn v))
    · skip
      have c_4 := kq_nleN (a := 10) (b := k) c_4 (by omega) (by omega)
      refine lv_iload_n hx hb dX5_goodness_24 rfl (lv_at hl 2 rfl) ?_
      refine lv_aload_n hx hb dX5_goodness_25 rfl (lv_at hl 0 rfl) ?_
      refine va_get (D := (dC, dI)) (ci := 5) (v := .ref oF) (C := RX5) (T := TX5) (N := 6) hx hb hts (by decide +kernel) hown hK.1 hP 0 rfl rfl 4 (by decide) (hts (.fieldLink RX5 40 "NoteWatermarks" "figures" "LNoteWatermarks$Figures;") (by decide +kernel)) (fun _ h9 => h9) rfl dX5_goodness_26 ?_
      refine lv_iload_n hx hb dX5_goodness_29 rfl (lv_at hl 3 rfl) ?_
      refine kq_callMi (wr := [(oX, .inr (5, [.ref oS, .ref oR, .ref oN, .ref o2, .ref oF, .ref oT]))]) (va_runV (As := [.int (nI k)]) (rest := [.int x]) ⟨hx, hb, hml, hown, hts⟩ (c_X0_howManyGood l dC dI cI H.size oF oN oS rv rs rp rt rl (nI kc) v fp ft fl k (by first | assumption | omega) (by first | assumption | omega)) (cwV 1 hts gX5_goodness_X0_howManyGood rfl rfl rfl (by decide +kernel) ⟨Nat.le_of_ble_eq_true rfl, Nat.le_of_ble_eq_true rfl⟩) (kq_preV (ci := 0) (q0 := 0) (hP.sub [3, 4, 1, 2, 5, 6, 7] rfl) (hD.sub [3, 4, 1, 2, 5, 6, 7] (by decide) rfl) hK rfl rfl) rfl rfl hl.1 rfl (lv_room (Nat.le_of_ble_eq_true rfl)) dX5_goodness_30 ⟨Nat.le_of_ble_eq_true rfl, Nat.le_of_ble_eq_true rfl⟩) hP hD hS hA [3, 4, 1, 2, 5, 6, 7] [0] rfl rfl (by decide) (by decide) (fun r_5 u_6 H locs hw_7 hP hD hS => ?_)
      obtain ⟨gp_8, gt_9, gl_10⟩ := u_6
      have hP : va_P (dC, dI) vwCl [(oX, .inr (5, [.ref oS, .ref oR, .ref oN, .ref o2, .ref oF, .ref oT])), (oF, .inr (0, [.ref oS, .ref oN])), (oN, .inr (1, [.ref oS, .ref rp, .ref rt, .ref rl])), (oS, .inr (3, [.ref rv, .ref rs, .int (nI kc)])), (rv, .inl (cI, 385, .inl v)), (rp, .inl (cI, 72, .inl gp_8)), (rt, .inl (cI, 72, .inl gt_9)), (rl, .inl (cI, 72, .inl gl_10))] H := hP
      have hD : va_D A [(oX, .inr (5, [.ref oS, .ref oR, .ref oN, .ref o2, .ref oF, .ref oT])), (oF, .inr (0, [.ref oS, .ref oN])), (oN, .inr (1, [.ref oS, .ref rp, .ref rt, .ref rl])), (oS, .inr (3, [.ref rv, .ref rs, .int (nI kc)])), (rv, .inl (cI, 385, .inl v)), (rp, .inl (cI, 72, .inl gp_8)), (rt, .inl (cI, 72, .inl gt_9)), (rl, .inl (cI, 72, .inl gl_10))] := hD
      obtain rfl := hw_7
      refine lv_iadd hx hb dX5_goodness_33 ?_
      refine lv_istore_n (lv' := [(2, .int (x + (n_hg v k))), (0, .ref oX), (1, .int (n_hm v)), (3, .int (nI k))]) hx hb dX5_goodness_34 rfl hl (by decide) rfl (fun ls hl => ?_)
      refine lv_iinc (v := nI (k + 1)) (lv' := [(3, .int (nI (k + 1))), (2, .int (x + (n_hg v k))), (0, .ref oX), (1, .int (n_hm v))]) hx hb dX5_goodness_35 hl (k := 3) rfl (nI_1 k) (by decide) rfl (fun ls hl => ?_)
      refine lv_goto (tgt := 18) hx hb dX5_goodness_38 (by decide) ?_
      exact ih_2 (k + 1) (x + (n_hg v k)) gp_8 gt_9 gl_10 ⟨(by omega), (by rw [n_sum, ← ix])⟩ (by show 10 - (k + 1) < 10 - k; omega) _ _ (hP.sub [0, 3, 4, 1, 2, 5, 6, 7] rfl) (hD.sub [0, 3, 4, 1, 2, 5, 6, 7] (by decide) rfl) hS _ (lv_sub hl [2, 3, 1, 0] rfl)
  · skip
    have h0 := c_1
    refine lv_dconst0 hx hb dX5_goodness_12 ?_
    exact kq_retMd (fp, ft, fl) hx hb hr hlocks hP hD hS dX5_goodness_13 (by exact ((if_pos h0).symm : (0 : UInt64) = n_gn v))
set_option maxHeartbeats 4000000 in
set_option maxRecDepth 100000 in
theorem c_X5_withSecondNote (l : Launch) (dC : Nat → ClassId) (dI : Nat → Nat → Nat) (cI : ClassId) (sz : Nat) (oX : Nat) (oS : Nat) (oR : Nat) (oN : Nat) (o2 : Nat) (oF : Nat) (oT : Nat) (rv : Nat) (rs : Nat) (kc : Nat) (rp : Nat) (rt : Nat) (rl : Nat) (v : Nat → Int32) (fp : Nat → Int32) (ft : Nat → Int32) (fl : Nat → Int32) (h0 : Int64) (hI : n_I v) : Met l yX5_withSecondNote wsX5_withSecondNote ({ frames := 3, cells := 0, slots := 0, locals := 72 }) (kq_M dC dI cI [.ref oX, .long h0] sz [(oX, .inr (5, [.ref oS, .ref oR, .ref oN, .ref o2, .ref oF, .ref oT])), (oS, .inr (3, [.ref rv, .ref rs, .int (nI kc)])), (rv, .inl (cI, 385, .inl v)), (oN, .inr (1, [.ref oS, .ref rp, .ref rt, .ref rl])), (rp, .inl (cI, 72, .inl fp)), (rt, .inl (cI, 72, .inl ft)), (rl, .inl (cI, 72, .inl fl))]) (va_Ql (fun (r : Int64) (u : (Nat → Int32) × (Nat → Int32) × (Nat → Int32)) => r = n_h4 v h0 72) (kq_B dC dI (va_A [(oX, .inr (5, [.ref oS, .ref oR, .ref oN, .ref o2, .ref oF, .ref oT])), (oS, .inr (3, [.ref rv, .ref rs, .int (nI kc)])), (rv, .inl (cI, 385, .inl v)), (oN, .inr (1, [.ref oS, .ref rp, .ref rt, .ref rl])), (rp, .inl (cI, 72, .inl fp)), (rt, .inl (cI, 72, .inl ft)), (rl, .inl (cI, 72, .inl fl))] sz) (fun u : (Nat → Int32) × (Nat → Int32) × (Nat → Int32) => [(oX, .inr (5, [.ref oS, .ref oR, .ref oN, .ref o2, .ref oF, .ref oT])), (oS, .inr (3, [.ref rv, .ref rs, .int (nI kc)])), (rv, .inl (cI, 385, .inl v)), (oN, .inr (1, [.ref oS, .ref rp, .ref rt, .ref rl])), (rp, .inl (cI, 72, .inl u.1)), (rt, .inl (cI, 72, .inl u.2.1)), (rl, .inl (cI, 72, .inl u.2.2))])) (va_A [(oX, .inr (5, [.ref oS, .ref oR, .ref oN, .ref o2, .ref oF, .ref oT])), (oS, .inr (3, [.ref rv, .ref rs, .int (nI kc)])), (rv, .inl (cI, 385, .inl v)), (oN, .inr (1, [.ref oS, .ref rp, .ref rt, .ref rl])), (rp, .inl (cI, 72, .inl fp)), (rt, .inl (cI, 72, .inl ft)), (rl, .inl (cI, 72, .inl fl))] sz)) 0 0 (va_A [(oX, .inr (5, [.ref oS, .ref oR, .ref oN, .ref o2, .ref oF, .ref oT])), (oS, .inr (3, [.ref rv, .ref rs, .int (nI kc)])), (rv, .inl (cI, 385, .inl v)), (oN, .inr (1, [.ref oS, .ref rp, .ref rt, .ref rl])), (rp, .inl (cI, 72, .inl fp)), (rt, .inl (cI, 72, .inl ft)), (rl, .inl (cI, 72, .inl fl))] sz) := by
  refine kq_startM (cc := cX5_withSecondNote) (maxL := 7) (ret := (some .long)) (by decide) rfl (Nat.le_of_ble_eq_true rfl) ?_
  intro p e s m below meth c hx hb hr hml hown hlocks hts hsz hA hP hD hS hK hnm ls hl
  subst hsz
  generalize hAe : va_A [(oX, .inr (5, [.ref oS, .ref oR, .ref oN, .ref o2, .ref oF, .ref oT])), (oS, .inr (3, [.ref rv, .ref rs, .int (nI kc)])), (rv, .inl (cI, 385, .inl v)), (oN, .inr (1, [.ref oS, .ref rp, .ref rt, .ref rl])), (rp, .inl (cI, 72, .inl fp)), (rt, .inl (cI, 72, .inl ft)), (rl, .inl (cI, 72, .inl fl))] s.heap.size = A at hA hD hS ⊢
  have hown : s.vm.findClass RX5 = some m.cls := hown
  have hl : lv_has ls 7 [(0, .ref oX), (1, .long h0)] := hl
  refine lv_lload_n hx hb dX5_withSecondNote_0 rfl (lv_at hl 1 rfl) ?_
  refine lv_lstore_n (lv' := [(3, .long h0), (0, .ref oX), (1, .long h0)]) hx hb dX5_withSecondNote_1 rfl hl (by decide) rfl (fun ls hl => ?_)
  refine lv_aload_n hx hb dX5_withSecondNote_2 rfl (lv_at hl 1 rfl) ?_
  refine va_get (D := (dC, dI)) (ci := 5) (v := .ref oN) (C := RX5) (T := TX5) (N := 6) hx hb hts (by decide +kernel) hown hK.1 hP 0 rfl rfl 2 (by decide) (hts (.fieldLink RX5 28 "NoteWatermarks" "view" "LNoteWatermarks$Note;") (by decide +kernel)) (fun _ h9 => h9) rfl dX5_withSecondNote_3 ?_
  refine lv_iconst (v := 1) hx hb dX5_withSecondNote_6 (by decide) ?_
  refine kq_callMv (wr := [(oX, .inr (5, [.ref oS, .ref oR, .ref oN, .ref o2, .ref oF, .ref oT]))]) (va_runV (As := [.int 1]) (rest := []) ⟨hx, hb, hml, hown, hts⟩ (c_X1_look l dC dI cI s.heap.size oN oS rv rs rp rt rl (nI kc) v fp ft fl 1 (by first | assumption | omega) (by first | assumption | omega)) (cwV 1 hts gX5_withSecondNote_X1_look rfl rfl rfl (by decide +kernel) ⟨Nat.le_of_ble_eq_true rfl, Nat.le_of_ble_eq_true rfl⟩) (kq_preV (ci := 1) (q0 := 0) (hP.sub [3, 1, 2, 4, 5, 6] rfl) (hD.sub [3, 1, 2, 4, 5, 6] (by decide) rfl) hK rfl rfl) rfl rfl hl.1 rfl (lv_room (Nat.le_of_ble_eq_true rfl)) dX5_withSecondNote_7 ⟨Nat.le_of_ble_eq_true rfl, Nat.le_of_ble_eq_true rfl⟩) hP hD hS hA [3, 1, 2, 4, 5, 6] [0] rfl rfl (by decide) (by decide) (fun u_2 H locs hw_3 hP hD hS => ?_)
  obtain ⟨gp_4, gt_5, gl_6⟩ := u_2
  have hP : va_P (dC, dI) vwCl [(oX, .inr (5, [.ref oS, .ref oR, .ref oN, .ref o2, .ref oF, .ref oT])), (oN, .inr (1, [.ref oS, .ref rp, .ref rt, .ref rl])), (oS, .inr (3, [.ref rv, .ref rs, .int (nI kc)])), (rv, .inl (cI, 385, .inl v)), (rp, .inl (cI, 72, .inl gp_4)), (rt, .inl (cI, 72, .inl gt_5)), (rl, .inl (cI, 72, .inl gl_6))] H := hP
  have hD : va_D A [(oX, .inr (5, [.ref oS, .ref oR, .ref oN, .ref o2, .ref oF, .ref oT])), (oN, .inr (1, [.ref oS, .ref rp, .ref rt, .ref rl])), (oS, .inr (3, [.ref rv, .ref rs, .int (nI kc)])), (rv, .inl (cI, 385, .inl v)), (rp, .inl (cI, 72, .inl gp_4)), (rt, .inl (cI, 72, .inl gt_5)), (rl, .inl (cI, 72, .inl gl_6))] := hD
  try dsimp only at hw_3
  have hlk := hw_3
  refine lv_iconst (v := 0) hx hb dX5_withSecondNote_10 (by decide) ?_
  refine lv_istore (lv' := [(5, .int 0), (3, .long h0), (0, .ref oX), (1, .long h0)]) hx hb dX5_withSecondNote_11 hl (by decide) rfl (fun ls hl => ?_)
  refine kq_loopM2 (A1 := Nat) (A2 := Int64) (fun (y : Nat) (hh : Int64) => 6 - y) (fun (y : Nat) (hh : Int64) => (y ≤ 6) ∧ (hh = n_h4 v h0 (y * 12))) (fun (y : Nat) (hh : Int64) => [(0, .ref oX), (3, .long hh), (5, .int (nI y))]) (fun (y : Nat) (hh : Int64) => [(oX, .inr (5, [.ref oS, .ref oR, .ref oN, .ref o2, .ref oF, .ref oT])), (oN, .inr (1, [.ref oS, .ref rp, .ref rt, .ref rl])), (oS, .inr (3, [.ref rv, .ref rs, .int (nI kc)])), (rv, .inl (cI, 385, .inl v)), (rp, .inl (cI, 72, .inl gp_4)), (rt, .inl (cI, 72, .inl gt_5)), (rl, .inl (cI, 72, .inl gl_6))]) (nL := 7) hK ?_ 0 h0 ⟨(by omega), (by rfl)⟩ hP hD hS _ (lv_sub hl [2, 1, 0] rfl)
  intro y hh hi_8 ih_7 H locs hP hD hS ls hl
  obtain ⟨iy, ih1⟩ := hi_8
  have hl : lv_has ls 7 [(0, .ref oX), (3, .long hh), (5, .int (nI y))] := hl
  have hP : va_P (dC, dI) vwCl [(oX, .inr (5, [.ref oS, .ref oR, .ref oN, .ref o2, .ref oF, .ref oT])), (oN, .inr (1, [.ref oS, .ref rp, .ref rt, .ref rl])), (oS, .inr (3, [.ref rv, .ref rs, .int (nI kc)])), (rv, .inl (cI, 385, .inl v)), (rp, .inl (cI, 72, .inl gp_4)), (rt, .inl (cI, 72, .inl gt_5)), (rl, .inl (cI, 72, .inl gl_6))] H := hP
  have hD : va_D A [(oX, .inr (5, [.ref oS, .ref oR, .ref oN, .ref o2, .ref oF, .ref oT])), (oN, .inr (1, [.ref oS, .ref rp, .ref rt, .ref rl])), (oS, .inr (3, [.ref rv, .ref rs, .int (nI kc)])), (rv, .inl (cI, 385, .inl v)), (rp, .inl (cI, 72, .inl gp_4)), (rt, .inl (cI, 72, .inl gt_5)), (rl, .inl (cI, 72, .inl gl_6))] := hD
  refine lv_iload hx hb dX5_withSecondNote_13 (lv_at hl 2 rfl) ?_
  refine lv_bipush (v := 6) hx hb dX5_withSecondNote_15 (by decide) ?_
  refine lv_icmp_ge (tgt := 83) hx hb dX5_withSecondNote_17 (by decide) (fun c_9 => ?_) (fun c_9 => ?_)
  · skip
    have c_9 := kq_leN (a := 6) (b := y) c_9 (by omega) (by omega)
    refine lv_lload_n hx hb dX5_withSecondNote_83 rfl (lv_at hl 1 rfl) ?_
    exact kq_retMl (gp_4, gt_5, gl_6) hx hb hr hlocks (hP.sub [0, 2, 3, 1, 4, 5, 6] rfl) (hD.sub [0, 2, 3, 1, 4, 5, 6] (by decide) rfl) hS dX5_withSecondNote_84 (by rw [ih1, show y = 6 by omega])
  · skip
    have c_9 := kq_nleN (a := 6) (b := y) c_9 (by omega) (by omega)
    refine lv_iconst (v := 0) hx hb dX5_withSecondNote_20 (by decide) ?_
    refine lv_istore (lv' := [(6, .int 0), (0, .ref oX), (3, .long hh), (5, .int (nI y))]) hx hb dX5_withSecondNote_21 hl (by decide) rfl (fun ls hl => ?_)
    refine kq_loopM2 (A1 := Nat) (A2 := Int64) (fun (z : Nat) (hh : Int64) => 12 - z) (fun (z : Nat) (hh : Int64) => (z ≤ 12) ∧ (hh = n_h4 v h0 (y * 12 + z))) (fun (z : Nat) (hh : Int64) => [(0, .ref oX), (3, .long hh), (5, .int (nI y)), (6, .int (nI z))]) (fun (z : Nat) (hh : Int64) => [(oX, .inr (5, [.ref oS, .ref oR, .ref oN, .ref o2, .ref oF, .ref oT])), (oN, .inr (1, [.ref oS, .ref rp, .ref rt, .ref rl])), (oS, .inr (3, [.ref rv, .ref rs, .int (nI kc)])), (rv, .inl (cI, 385, .inl v)), (rp, .inl (cI, 72, .inl gp_4)), (rt, .inl (cI, 72, .inl gt_5)), (rl, .inl (cI, 72, .inl gl_6))]) (nL := 7) hK ?_ 0 hh ⟨(by omega), (by exact ih1)⟩ hP hD hS _ (lv_sub hl [1, 2, 3, 0] rfl)
    intro z hh hi_11 ih_10 H locs hP hD hS ls hl
    obtain ⟨iz, ih1⟩ := hi_11
    have hl : lv_has ls 7 [(0, .ref oX), (3, .long hh), (5, .int (nI y)), (6, .int (nI z))] := hl
    have hP : va_P (dC, dI) vwCl [(oX, .inr (5, [.ref oS, .ref oR, .ref oN, .ref o2, .ref oF, .ref oT])), (oN, .inr (1, [.ref oS, .ref rp, .ref rt, .ref rl])), (oS, .inr (3, [.ref rv, .ref rs, .int (nI kc)])), (rv, .inl (cI, 385, .inl v)), (rp, .inl (cI, 72, .inl gp_4)), (rt, .inl (cI, 72, .inl gt_5)), (rl, .inl (cI, 72, .inl gl_6))] H := hP
    have hD : va_D A [(oX, .inr (5, [.ref oS, .ref oR, .ref oN, .ref o2, .ref oF, .ref oT])), (oN, .inr (1, [.ref oS, .ref rp, .ref rt, .ref rl])), (oS, .inr (3, [.ref rv, .ref rs, .int (nI kc)])), (rv, .inl (cI, 385, .inl v)), (rp, .inl (cI, 72, .inl gp_4)), (rt, .inl (cI, 72, .inl gt_5)), (rl, .inl (cI, 72, .inl gl_6))] := hD
    refine lv_iload hx hb dX5_withSecondNote_23 (lv_at hl 3 rfl) ?_
    refine lv_bipush (v := 12) hx hb dX5_withSecondNote_25 (by decide) ?_
    refine lv_icmp_ge (tgt := 77) hx hb dX5_withSecondNote_27 (by decide) (fun c_12 => ?_) (fun c_12 => ?_)
    · skip
      have c_12 := kq_leN (a := 12) (b := z) c_12 (by omega) (by omega)
      refine lv_iinc (v := nI (y + 1)) (lv' := [(5, .int (nI (y + 1))), (0, .ref oX), (3, .long hh), (6, .int (nI z))]) hx hb dX5_withSecondNote_77 hl (k := 2) rfl (nI_1 y) (by decide) rfl (fun ls hl => ?_)
      refine lv_goto (tgt := 13) hx hb dX5_withSecondNote_80 (by decide) ?_
      exact ih_7 (y + 1) hh ⟨(by omega), (by rw [ih1, show (y + 1) * 12 = y * 12 + z by omega])⟩ (by show 6 - (y + 1) < 6 - y; omega) _ _ hP hD hS _ (lv_sub hl [1, 2, 0] rfl)
    · skip
      have c_12 := kq_nleN (a := 12) (b := z) c_12 (by omega) (by omega)
      refine lv_ldc2 (v := 31) hx hb hown (hts (.constantLong RX5 226 (31)) (by decide +kernel)) dX5_withSecondNote_30 ?_
      refine lv_lload_n hx hb dX5_withSecondNote_33 rfl (lv_at hl 1 rfl) ?_
      refine lv_lmul hx hb dX5_withSecondNote_34 ?_
      refine lv_aload_n hx hb dX5_withSecondNote_35 rfl (lv_at hl 0 rfl) ?_
      refine va_get (D := (dC, dI)) (ci := 5) (v := .ref oN) (C := RX5) (T := TX5) (N := 6) hx hb hts (by decide +kernel) hown hK.1 hP 0 rfl rfl 2 (by decide) (hts (.fieldLink RX5 28 "NoteWatermarks" "view" "LNoteWatermarks$Note;") (by decide +kernel)) (fun _ h9 => h9) rfl dX5_withSecondNote_36 ?_
      refine lv_iload hx hb dX5_withSecondNote_39 (lv_at hl 2 rfl) ?_
      refine lv_iload hx hb dX5_withSecondNote_41 (lv_at hl 3 rfl) ?_
      refine kq_cV (As := [.int (nI y), .int (nI z)]) (rest := [.long (31 * hh)]) ⟨hx, hb, hml, hown, hts⟩ (c_X1_toneAt l dC dI cI oN oS rp rt rl gt_5 y z (by first | assumption | omega) (by first | assumption | omega)) (cwV 2 hts gX5_withSecondNote_X1_toneAt rfl rfl rfl (by decide +kernel) ⟨Nat.le_of_ble_eq_true rfl, Nat.le_of_ble_eq_true rfl⟩) (hP.sub [1, 5] rfl) hK (ci := 1) (q0 := 0) rfl rfl rfl rfl hl.1 rfl (Nat.le_of_ble_eq_true rfl) dX5_withSecondNote_43 ⟨Nat.le_of_ble_eq_true rfl, Nat.le_of_ble_eq_true rfl⟩ ?_
      refine kq_top (z := n_cell v 1 y z 0) (by rw [(hlk (y * 12 + z) (by omega)).2.1, show (y * 12 + z) / 12 = y by omega, show (y * 12 + z) % 12 = z by omega]; rfl) ?_
      refine lv_i2l (v := (n_cell v 1 y z 0).toInt64) hx hb dX5_withSecondNote_46 rfl ?_
      refine lv_ladd hx hb dX5_withSecondNote_47 ?_
      refine lv_lstore_n (lv' := [(3, .long ((31 * hh) + ((n_cell v 1 y z 0).toInt64))), (0, .ref oX), (5, .int (nI y)), (6, .int (nI z))]) hx hb dX5_withSecondNote_48 rfl hl (by decide) rfl (fun ls hl => ?_)
      refine lv_ldc2 (v := 31) hx hb hown (hts (.constantLong RX5 226 (31)) (by decide +kernel)) dX5_withSecondNote_49 ?_
      refine lv_lload_n hx hb dX5_withSecondNote_52 rfl (lv_at hl 0 rfl) ?_
      refine lv_lmul hx hb dX5_withSecondNote_53 ?_
      refine lv_aload_n hx hb dX5_withSecondNote_54 rfl (lv_at hl 1 rfl) ?_
      refine va_get (D := (dC, dI)) (ci := 5) (v := .ref oN) (C := RX5) (T := TX5) (N := 6) hx hb hts (by decide +kernel) hown hK.1 hP 0 rfl rfl 2 (by decide) (hts (.fieldLink RX5 28 "NoteWatermarks" "view" "LNoteWatermarks$Note;") (by decide +kernel)) (fun _ h9 => h9) rfl dX5_withSecondNote_55 ?_
      refine lv_iload hx hb dX5_withSecondNote_58 (lv_at hl 2 rfl) ?_
      refine lv_iload hx hb dX5_withSecondNote_60 (lv_at hl 3 rfl) ?_
      refine kq_cV (As := [.int (nI y), .int (nI z)]) (rest := [.long (31 * ((31 * hh) + ((n_cell v 1 y z 0).toInt64)))]) ⟨hx, hb, hml, hown, hts⟩ (c_X1_lightAt l dC dI cI oN oS rp rt rl gl_6 y z (by first | assumption | omega) (by first | assumption | omega)) (cwV 2 hts gX5_withSecondNote_X1_lightAt rfl rfl rfl (by decide +kernel) ⟨Nat.le_of_ble_eq_true rfl, Nat.le_of_ble_eq_true rfl⟩) (hP.sub [1, 6] rfl) hK (ci := 1) (q0 := 0) rfl rfl rfl rfl hl.1 rfl (Nat.le_of_ble_eq_true rfl) dX5_withSecondNote_62 ⟨Nat.le_of_ble_eq_true rfl, Nat.le_of_ble_eq_true rfl⟩ ?_
      refine lv_bipush (v := 100) hx hb dX5_withSecondNote_65 (by decide) ?_
      refine lv_iadd hx hb dX5_withSecondNote_67 ?_
      refine kq_top (z := n_cell v 1 y z 2) (by rw [(hlk (y * 12 + z) (by omega)).2.2, show (y * 12 + z) / 12 = y by omega, show (y * 12 + z) % 12 = z by omega]; rfl) ?_
      refine lv_i2l (v := (n_cell v 1 y z 2).toInt64) hx hb dX5_withSecondNote_68 rfl ?_
      refine lv_ladd hx hb dX5_withSecondNote_69 ?_
      refine lv_lstore_n (lv' := [(3, .long ((31 * ((31 * hh) + ((n_cell v 1 y z 0).toInt64))) + ((n_cell v 1 y z 2).toInt64))), (0, .ref oX), (5, .int (nI y)), (6, .int (nI z))]) hx hb dX5_withSecondNote_70 rfl hl (by decide) rfl (fun ls hl => ?_)
      refine lv_iinc (v := nI (z + 1)) (lv' := [(6, .int (nI (z + 1))), (3, .long ((31 * ((31 * hh) + ((n_cell v 1 y z 0).toInt64))) + ((n_cell v 1 y z 2).toInt64))), (0, .ref oX), (5, .int (nI y))]) hx hb dX5_withSecondNote_71 hl (k := 3) rfl (nI_1 z) (by decide) rfl (fun ls hl => ?_)
      refine lv_goto (tgt := 23) hx hb dX5_withSecondNote_74 (by decide) ?_
      exact ih_10 (z + 1) ((31 * ((31 * hh) + ((n_cell v 1 y z 0).toInt64))) + ((n_cell v 1 y z 2).toInt64)) ⟨(by omega), (by rw [show y * 12 + (z + 1) = (y * 12 + z) + 1 by omega, n_h4, ← ih1, show (y * 12 + z) / 12 = y by omega, show (y * 12 + z) % 12 = z by omega]; rfl)⟩ (by show 12 - (z + 1) < 12 - z; omega) _ _ hP hD hS _ (lv_sub hl [2, 1, 3, 0] rfl)
set_option maxHeartbeats 4000000 in
set_option maxRecDepth 100000 in
theorem c_X5_digest (l : Launch) (dC : Nat → ClassId) (dI : Nat → Nat → Nat) (cI : ClassId) (sz : Nat) (oX : Nat) (oS : Nat) (oR : Nat) (oN : Nat) (o2 : Nat) (oF : Nat) (oT : Nat) (rv : Nat) (rs : Nat) (kc : Nat) (rp : Nat) (rt : Nat) (rl : Nat) (q1 : Nat) (q2 : Nat) (q3 : Nat) (v : Nat → Int32) (fp : Nat → Int32) (ft : Nat → Int32) (fl : Nat → Int32) (z1 : Nat → Int32) (z2 : Nat → Int32) (z3 : Nat → Int32) (n : Nat) (rc : Nat) (cd : Nat → Int32) (hI : n_I v) (hn : n ≤ 60) : Met l yX5_digest wsX5_digest ({ frames := 8, cells := 0, slots := 0, locals := 144 }) (kq_M dC dI cI [.ref oX] sz [(oX, .inr (5, [.ref oS, .ref oR, .ref oN, .ref o2, .ref oF, .ref oT])), (oS, .inr (3, [.ref rv, .ref rs, .int (nI kc)])), (rv, .inl (cI, 385, .inl v)), (oR, .inr (2, [.ref oS])), (oF, .inr (0, [.ref oS, .ref oN])), (oT, .inr (4, [.ref rc, .int (nI n)])), (rc, .inl (cI, 60, .inl cd)), (oN, .inr (1, [.ref oS, .ref rp, .ref rt, .ref rl])), (rp, .inl (cI, 72, .inl fp)), (rt, .inl (cI, 72, .inl ft)), (rl, .inl (cI, 72, .inl fl)), (o2, .inr (1, [.ref oS, .ref q1, .ref q2, .ref q3])), (q1, .inl (cI, 72, .inl z1)), (q2, .inl (cI, 72, .inl z2)), (q3, .inl (cI, 72, .inl z3))]) (va_Ql (fun (r : Int64) (u : (Nat → Int32) × (Nat → Int32) × (Nat → Int32) × (Nat → Int32) × (Nat → Int32) × (Nat → Int32)) => r = n_dig2 v kc n cd) (kq_B dC dI (va_A [(oX, .inr (5, [.ref oS, .ref oR, .ref oN, .ref o2, .ref oF, .ref oT])), (oS, .inr (3, [.ref rv, .ref rs, .int (nI kc)])), (rv, .inl (cI, 385, .inl v)), (oR, .inr (2, [.ref oS])), (oF, .inr (0, [.ref oS, .ref oN])), (oT, .inr (4, [.ref rc, .int (nI n)])), (rc, .inl (cI, 60, .inl cd)), (oN, .inr (1, [.ref oS, .ref rp, .ref rt, .ref rl])), (rp, .inl (cI, 72, .inl fp)), (rt, .inl (cI, 72, .inl ft)), (rl, .inl (cI, 72, .inl fl)), (o2, .inr (1, [.ref oS, .ref q1, .ref q2, .ref q3])), (q1, .inl (cI, 72, .inl z1)), (q2, .inl (cI, 72, .inl z2)), (q3, .inl (cI, 72, .inl z3))] sz) (fun u : (Nat → Int32) × (Nat → Int32) × (Nat → Int32) × (Nat → Int32) × (Nat → Int32) × (Nat → Int32) => [(oX, .inr (5, [.ref oS, .ref oR, .ref oN, .ref o2, .ref oF, .ref oT])), (oS, .inr (3, [.ref rv, .ref rs, .int (nI kc)])), (rv, .inl (cI, 385, .inl v)), (oR, .inr (2, [.ref oS])), (oF, .inr (0, [.ref oS, .ref oN])), (oT, .inr (4, [.ref rc, .int (nI n)])), (rc, .inl (cI, 60, .inl cd)), (oN, .inr (1, [.ref oS, .ref rp, .ref rt, .ref rl])), (rp, .inl (cI, 72, .inl u.1)), (rt, .inl (cI, 72, .inl u.2.1)), (rl, .inl (cI, 72, .inl u.2.2.1)), (o2, .inr (1, [.ref oS, .ref q1, .ref q2, .ref q3])), (q1, .inl (cI, 72, .inl u.2.2.2.1)), (q2, .inl (cI, 72, .inl u.2.2.2.2.1)), (q3, .inl (cI, 72, .inl u.2.2.2.2.2))])) (va_A [(oX, .inr (5, [.ref oS, .ref oR, .ref oN, .ref o2, .ref oF, .ref oT])), (oS, .inr (3, [.ref rv, .ref rs, .int (nI kc)])), (rv, .inl (cI, 385, .inl v)), (oR, .inr (2, [.ref oS])), (oF, .inr (0, [.ref oS, .ref oN])), (oT, .inr (4, [.ref rc, .int (nI n)])), (rc, .inl (cI, 60, .inl cd)), (oN, .inr (1, [.ref oS, .ref rp, .ref rt, .ref rl])), (rp, .inl (cI, 72, .inl fp)), (rt, .inl (cI, 72, .inl ft)), (rl, .inl (cI, 72, .inl fl)), (o2, .inr (1, [.ref oS, .ref q1, .ref q2, .ref q3])), (q1, .inl (cI, 72, .inl z1)), (q2, .inl (cI, 72, .inl z2)), (q3, .inl (cI, 72, .inl z3))] sz)) 0 0 (va_A [(oX, .inr (5, [.ref oS, .ref oR, .ref oN, .ref o2, .ref oF, .ref oT])), (oS, .inr (3, [.ref rv, .ref rs, .int (nI kc)])), (rv, .inl (cI, 385, .inl v)), (oR, .inr (2, [.ref oS])), (oF, .inr (0, [.ref oS, .ref oN])), (oT, .inr (4, [.ref rc, .int (nI n)])), (rc, .inl (cI, 60, .inl cd)), (oN, .inr (1, [.ref oS, .ref rp, .ref rt, .ref rl])), (rp, .inl (cI, 72, .inl fp)), (rt, .inl (cI, 72, .inl ft)), (rl, .inl (cI, 72, .inl fl)), (o2, .inr (1, [.ref oS, .ref q1, .ref q2, .ref q3])), (q1, .inl (cI, 72, .inl z1)), (q2, .inl (cI, 72, .inl z2)), (q3, .inl (cI, 72, .inl z3))] sz) := by
  refine kq_startM (cc := cX5_digest) (maxL := 5) (ret := (some .long)) (by decide) rfl (Nat.le_of_ble_eq_true rfl) ?_
  intro p e s m below meth c hx hb hr hml hown hlocks hts hsz hA hP hD hS hK hnm ls hl
  subst hsz
  generalize hAe : va_A [(oX, .inr (5, [.ref oS, .ref oR, .ref oN, .ref o2, .ref oF, .ref oT])), (oS, .inr (3, [.ref rv, .ref rs, .int (nI kc)])), (rv, .inl (cI, 385, .inl v)), (oR, .inr (2, [.ref oS])), (oF, .inr (0, [.ref oS, .ref oN])), (oT, .inr (4, [.ref rc, .int (nI n)])), (rc, .inl (cI, 60, .inl cd)), (oN, .inr (1, [.ref oS, .ref rp, .ref rt, .ref rl])), (rp, .inl (cI, 72, .inl fp)), (rt, .inl (cI, 72, .inl ft)), (rl, .inl (cI, 72, .inl fl)), (o2, .inr (1, [.ref oS, .ref q1, .ref q2, .ref q3])), (q1, .inl (cI, 72, .inl z1)), (q2, .inl (cI, 72, .inl z2)), (q3, .inl (cI, 72, .inl z3))] s.heap.size = A at hA hD hS ⊢
  have hown : s.vm.findClass RX5 = some m.cls := hown
  have hl : lv_has ls 5 [(0, .ref oX)] := hl
  refine lv_ldc2 (v := 2837) hx hb hown (hts (.constantLong RX5 224 (2837)) (by decide +kernel)) dX5_digest_0 ?_
  refine lv_lstore_n (lv' := [(1, .long 2837), (0, .ref oX)]) hx hb dX5_digest_3 rfl hl (by decide) rfl (fun ls hl => ?_)
  refine lv_iconst (v := 0) hx hb dX5_digest_4 (by decide) ?_
  refine lv_istore_n (lv' := [(3, .int 0), (1, .long 2837), (0, .ref oX)]) hx hb dX5_digest_5 rfl hl (by decide) rfl (fun ls hl => ?_)
  refine kq_loopM8 (A1 := Nat) (A2 := Int64) (A3 := Nat → Int32) (A4 := Nat → Int32) (A5 := Nat → Int32) (A6 := Nat → Int32) (A7 := Nat → Int32) (A8 := Nat → Int32) (fun (k : Nat) (hh : Int64) (fp : Nat → Int32) (ft : Nat → Int32) (fl : Nat → Int32) (z1 : Nat → Int32) (z2 : Nat → Int32) (z3 : Nat → Int32) => 9 - k) (fun (k : Nat) (hh : Int64) (fp : Nat → Int32) (ft : Nat → Int32) (fl : Nat → Int32) (z1 : Nat → Int32) (z2 : Nat → Int32) (z3 : Nat → Int32) => (k ≤ 9) ∧ (hh = n_hf (n_cnt v kc) 2837 k)) (fun (k : Nat) (hh : Int64) (fp : Nat → Int32) (ft : Nat → Int32) (fl : Nat → Int32) (z1 : Nat → Int32) (z2 : Nat → Int32) (z3 : Nat → Int32) => [(0, .ref oX), (1, .long hh), (3, .int (nI k))]) (fun (k : Nat) (hh : Int64) (fp : Nat → Int32) (ft : Nat → Int32) (fl : Nat → Int32) (z1 : Nat → Int32) (z2 : Nat → Int32) (z3 : Nat → Int32) => [(oX, .inr (5, [.ref oS, .ref oR, .ref oN, .ref o2, .ref oF, .ref oT])), (oS, .inr (3, [.ref rv, .ref rs, .int (nI kc)])), (rv, .inl (cI, 385, .inl v)), (oR, .inr (2, [.ref oS])), (oF, .inr (0, [.ref oS, .ref oN])), (oT, .inr (4, [.ref rc, .int (nI n)])), (rc, .inl (cI, 60, .inl cd)), (oN, .inr (1, [.ref oS, .ref rp, .ref rt, .ref rl])), (rp, .inl (cI, 72, .inl fp)), (rt, .inl (cI, 72, .inl ft)), (rl, .inl (cI, 72, .inl fl)), (o2, .inr (1, [.ref oS, .ref q1, .ref q2, .ref q3])), (q1, .inl (cI, 72, .inl z1)), (q2, .inl (cI, 72, .inl z2)), (q3, .inl (cI, 72, .inl z3))]) (nL := 5) hK ?_ 0 2837 fp ft fl z1 z2 z3 ⟨(by omega), (by rfl)⟩ hP hD hS _ (lv_sub hl [2, 1, 0] rfl)
  intro k hh fp ft fl z1 z2 z3 hi_2 ih_1 H locs hP hD hS ls hl
  obtain ⟨ik, ih1⟩ := hi_2
  have hl : lv_has ls 5 [(0, .ref oX), (1, .long hh), (3, .int (nI k))] := hl
  have hP : va_P (dC, dI) vwCl [(oX, .inr (5, [.ref oS, .ref oR, .ref oN, .ref o2, .ref oF, .ref oT])), (oS, .inr (3, [.ref rv, .ref rs, .int (nI kc)])), (rv, .inl (cI, 385, .inl v)), (oR, .inr (2, [.ref oS])), (oF, .inr (0, [.ref oS, .ref oN])), (oT, .inr (4, [.ref rc, .int (nI n)])), (rc, .inl (cI, 60, .inl cd)), (oN, .inr (1, [.ref oS, .ref rp, .ref rt, .ref rl])), (rp, .inl (cI, 72, .inl fp)), (rt, .inl (cI, 72, .inl ft)), (rl, .inl (cI, 72, .inl fl)), (o2, .inr (1, [.ref oS, .ref q1, .ref q2, .ref q3])), (q1, .inl (cI, 72, .inl z1)), (q2, .inl (cI, 72, .inl z2)), (q3, .inl (cI, 72, .inl z3))] H := hP
  have hD : va_D A [(oX, .inr (5, [.ref oS, .ref oR, .ref oN, .ref o2, .ref oF, .ref oT])), (oS, .inr (3, [.ref rv, .ref rs, .int (nI kc)])), (rv, .inl (cI, 385, .inl v)), (oR, .inr (2, [.ref oS])), (oF, .inr (0, [.ref oS, .ref oN])), (oT, .inr (4, [.ref rc, .int (nI n)])), (rc, .inl (cI, 60, .inl cd)), (oN, .inr (1, [.ref oS, .ref rp, .ref rt, .ref rl])), (rp, .inl (cI, 72, .inl fp)), (rt, .inl (cI, 72, .inl ft)), (rl, .inl (cI, 72, .inl fl)), (o2, .inr (1, [.ref oS, .ref q1, .ref q2, .ref q3])), (q1, .inl (cI, 72, .inl z1)), (q2, .inl (cI, 72, .inl z2)), (q3, .inl (cI, 72, .inl z3))] := hD
  refine lv_iload_n hx hb dX5_digest_6 rfl (lv_at hl 2 rfl) ?_
  refine lv_bipush (v := 8) hx hb dX5_digest_7 (by decide) ?_
  refine lv_icmp_gt (tgt := 31) hx hb dX5_digest_9 (by decide) (fun c_3 => ?_) (fun c_3 => ?_)
  · skip
    have c_3 := kq_ltN (a := 8) (b := k) c_3 (by omega) (by omega)
    refine lv_iconst (v := 0) hx hb dX5_digest_31 (by decide) ?_
    refine lv_istore_n (lv' := [(3, .int 0), (0, .ref oX), (1, .long hh)]) hx hb dX5_digest_32 rfl hl (by decide) rfl (fun ls hl => ?_)
    refine kq_loopM2 (A1 := Nat) (A2 := Int64) (fun (k : Nat) (hh : Int64) => 3 - k) (fun (k : Nat) (hh : Int64) => (k ≤ 3) ∧ (hh = n_hf (fun k => v (382 + k)) (n_hf (n_cnt v kc) 2837 9) k)) (fun (k : Nat) (hh : Int64) => [(0, .ref oX), (1, .long hh), (3, .int (nI k))]) (fun (k : Nat) (hh : Int64) => [(oX, .inr (5, [.ref oS, .ref oR, .ref oN, .ref o2, .ref oF, .ref oT])), (oS, .inr (3, [.ref rv, .ref rs, .int (nI kc)])), (rv, .inl (cI, 385, .inl v)), (oR, .inr (2, [.ref oS])), (oF, .inr (0, [.ref oS, .ref oN])), (oT, .inr (4, [.ref rc, .int (nI n)])), (rc, .inl (cI, 60, .inl cd)), (oN, .inr (1, [.ref oS, .ref rp, .ref rt, .ref rl])), (rp, .inl (cI, 72, .inl fp)), (rt, .inl (cI, 72, .inl ft)), (rl, .inl (cI, 72, .inl fl)), (o2, .inr (1, [.ref oS, .ref q1, .ref q2, .ref q3])), (q1, .inl (cI, 72, .inl z1)), (q2, .inl (cI, 72, .inl z2)), (q3, .inl (cI, 72, .inl z3))]) (nL := 5) hK ?_ 0 hh ⟨(by omega), (by rw [ih1, show k = 9 by omega]; rfl)⟩ hP hD hS _ (lv_sub hl [1, 2, 0] rfl)
    intro k hh hi_5 ih_4 H locs hP hD hS ls hl
    obtain ⟨ik, ih1⟩ := hi_5
    have hl : lv_has ls 5 [(0, .ref oX), (1, .long hh), (3, .int (nI k))] := hl
    have hP : va_P (dC, dI) vwCl [(oX, .inr (5, [.ref oS, .ref oR, .ref oN, .ref o2, .ref oF, .ref oT])), (oS, .inr (3, [.ref rv, .ref rs, .int (nI kc)])), (rv, .inl (cI, 385, .inl v)), (oR, .inr (2, [.ref oS])), (oF, .inr (0, [.ref oS, .ref oN])), (oT, .inr (4, [.ref rc, .int (nI n)])), (rc, .inl (cI, 60, .inl cd)), (oN, .inr (1, [.ref oS, .ref rp, .ref rt, .ref rl])), (rp, .inl (cI, 72, .inl fp)), (rt, .inl (cI, 72, .inl ft)), (rl, .inl (cI, 72, .inl fl)), (o2, .inr (1, [.ref oS, .ref q1, .ref q2, .ref q3])), (q1, .inl (cI, 72, .inl z1)), (q2, .inl (cI, 72, .inl z2)), (q3, .inl (cI, 72, .inl z3))] H := hP
    have hD : va_D A [(oX, .inr (5, [.ref oS, .ref oR, .ref oN, .ref o2, .ref oF, .ref oT])), (oS, .inr (3, [.ref rv, .ref rs, .int (nI kc)])), (rv, .inl (cI, 385, .inl v)), (oR, .inr (2, [.ref oS])), (oF, .inr (0, [.ref oS, .ref oN])), (oT, .inr (4, [.ref rc, .int (nI n)])), (rc, .inl (cI, 60, .inl cd)), (oN, .inr (1, [.ref oS, .ref rp, .ref rt, .ref rl])), (rp, .inl (cI, 72, .inl fp)), (rt, .inl (cI, 72, .inl ft)), (rl, .inl (cI, 72, .inl fl)), (o2, .inr (1, [.ref oS, .ref q1, .ref q2, .ref q3])), (q1, .inl (cI, 72, .inl z1)), (q2, .inl (cI, 72, .inl z2)), (q3, .inl (cI, 72, .inl z3))] := hD
    refine lv_iload_n hx hb dX5_digest_33 rfl (lv_at hl 2 rfl) ?_
    refine lv_iconst (v := 3) hx hb dX5_digest_34 (by decide) ?_
    refine lv_icmp_ge (tgt := 57) hx hb dX5_digest_35 (by decide) (fun c_6 => ?_) (fun c_6 => ?_)
    · skip
      have c_6 := kq_leN (a := 3) (b := k) c_6 (by omega) (by omega)
      refine lv_iconst (v := 0) hx hb dX5_digest_57 (by decide) ?_
      refine lv_istore_n (lv' := [(3, .int 0), (0, .ref oX), (1, .long hh)]) hx hb dX5_digest_58 rfl hl (by decide) rfl (fun ls hl => ?_)
      refine kq_loopM5 (A1 := Nat) (A2 := Int64) (A3 := Nat → Int32) (A4 := Nat → Int32) (A5 := Nat → Int32) (fun (r : Nat) (hh : Int64) (fp : Nat → Int32) (ft : Nat → Int32) (fl : Nat → Int32) => 3 - r) (fun (r : Nat) (hh : Int64) (fp : Nat → Int32) (ft : Nat → Int32) (fl : Nat → Int32) => (r ≤ 3) ∧ (hh = n_h3 v (n_d1 v kc) r)) (fun (r : Nat) (hh : Int64) (fp : Nat → Int32) (ft : Nat → Int32) (fl : Nat → Int32) => [(0, .ref oX), (1, .long hh), (3, .int (nI r))]) (fun (r : Nat) (hh : Int64) (fp : Nat → Int32) (ft : Nat → Int32) (fl : Nat → Int32) => [(oX, .inr (5, [.ref oS, .ref oR, .ref oN, .ref o2, .ref oF, .ref oT])), (oS, .inr (3, [.ref rv, .ref rs, .int (nI kc)])), (rv, .inl (cI, 385, .inl v)), (oR, .inr (2, [.ref oS])), (oF, .inr (0, [.ref oS, .ref oN])), (oT, .inr (4, [.ref rc, .int (nI n)])), (rc, .inl (cI, 60, .inl cd)), (oN, .inr (1, [.ref oS, .ref rp, .ref rt, .ref rl])), (rp, .inl (cI, 72, .inl fp)), (rt, .inl (cI, 72, .inl ft)), (rl, .inl (cI, 72, .inl fl)), (o2, .inr (1, [.ref oS, .ref q1, .ref q2, .ref q3])), (q1, .inl (cI, 72, .inl z1)), (q2, .inl (cI, 72, .inl z2)), (q3, .inl (cI, 72, .inl z3))]) (nL := 5) hK ?_ 0 hh fp ft fl ⟨(by omega), (by rw [ih1, show k = 3 by omega]; rfl)⟩ hP hD hS _ (lv_sub hl [1, 2, 0] rfl)
      intro r hh fp ft fl hi_8 ih_7 H locs hP hD hS ls hl
      obtain ⟨ir, ih1⟩ := hi_8
      have hl : lv_has ls 5 [(0, .ref oX), (1, .long hh), (3, .int (nI r))] := hl
      have hP : va_P (dC, dI) vwCl [(oX, .inr (5, [.ref oS, .ref oR, .ref oN, .ref o2, .ref oF, .ref oT])), (oS, .inr (3, [.ref rv, .ref rs, .int (nI kc)])), (rv, .inl (cI, 385, .inl v)), (oR, .inr (2, [.ref oS])), (oF, .inr (0, [.ref oS, .ref oN])), (oT, .inr (4, [.ref rc, .int (nI n)])), (rc, .inl (cI, 60, .inl cd)), (oN, .inr (1, [.ref oS, .ref rp, .ref rt, .ref rl])), (rp, .inl (cI, 72, .inl fp)), (rt, .inl (cI, 72, .inl ft)), (rl, .inl (cI, 72, .inl fl)), (o2, .inr (1, [.ref oS, .ref q1, .ref q2, .ref q3])), (q1, .inl (cI, 72, .inl z1)), (q2, .inl (cI, 72, .inl z2)), (q3, .inl (cI, 72, .inl z3))] H := hP
      have hD : va_D A [(oX, .inr (5, [.ref oS, .ref oR, .ref oN, .ref o2, .ref oF, .ref oT])), (oS, .inr (3, [.ref rv, .ref rs, .int (nI kc)])), (rv, .inl (cI, 385, .inl v)), (oR, .inr (2, [.ref oS])), (oF, .inr (0, [.ref oS, .ref oN])), (oT, .inr (4, [.ref rc, .int (nI n)])), (rc, .inl (cI, 60, .inl cd)), (oN, .inr (1, [.ref oS, .ref rp, .ref rt, .ref rl])), (rp, .inl (cI, 72, .inl fp)), (rt, .inl (cI, 72, .inl ft)), (rl, .inl (cI, 72, .inl fl)), (o2, .inr (1, [.ref oS, .ref q1, .ref q2, .ref q3])), (q1, .inl (cI, 72, .inl z1)), (q2, .inl (cI, 72, .inl z2)), (q3, .inl (cI, 72, .inl z3))] := hD
      refine lv_iload_n hx hb dX5_digest_59 rfl (lv_at hl 2 rfl) ?_
      refine lv_iconst (v := 3) hx hb dX5_digest_60 (by decide) ?_
      refine lv_icmp_ge (tgt := 114) hx hb dX5_digest_61 (by decide) (fun c_9 => ?_) (fun c_9 => ?_)
      · skip
        have c_9 := kq_leN (a := 3) (b := r) c_9 (by omega) (by omega)
        refine lv_aload_n hx hb dX5_digest_114 rfl (lv_at hl 0 rfl) ?_
        refine lv_lload_n hx hb dX5_digest_115 rfl (lv_at hl 1 rfl) ?_
        refine kq_callMl (wr := [(oR, .inr (2, [.ref oS])), (oF, .inr (0, [.ref oS, .ref oN])), (oT, .inr (4, [.ref rc, .int (nI n)])), (rc, .inl (cI, 60, .inl cd)), (o2, .inr (1, [.ref oS, .ref q1, .ref q2, .ref q3])), (q1, .inl (cI, 72, .inl z1)), (q2, .inl (cI, 72, .inl z2)), (q3, .inl (cI, 72, .inl z3))]) (va_runV (As := [.long hh]) (rest := []) ⟨hx, hb, hml, hown, hts⟩ (c_X5_withSecondNote l dC dI cI H.size oX oS oR oN o2 oF oT rv rs kc rp rt rl v fp ft fl hh (by first | assumption | omega)) (cwV 1 hts gX5_digest_X5_withSecondNote rfl rfl rfl (by decide +kernel) ⟨Nat.le_of_ble_eq_true rfl, Nat.le_of_ble_eq_true rfl⟩) (kq_preV (ci := 5) (q0 := 0) (hP.sub [0, 1, 2, 7, 8, 9, 10] rfl) (hD.sub [0, 1, 2, 7, 8, 9, 10] (by decide) rfl) hK rfl rfl) rfl rfl hl.1 rfl (lv_room (Nat.le_of_ble_eq_true rfl)) dX5_digest_116 ⟨Nat.le_of_ble_eq_true rfl, Nat.le_of_ble_eq_true rfl⟩) hP hD hS hA [0, 1, 2, 7, 8, 9, 10] [3, 4, 5, 6, 11, 12, 13, 14] rfl rfl (by decide) (by decide) (fun r_10 u_11 H locs hw_12 hP hD hS => ?_)
        obtain ⟨gp_13, gt_14, gl_15⟩ := u_11
        have hP : va_P (dC, dI) vwCl [(oR, .inr (2, [.ref oS])), (oF, .inr (0, [.ref oS, .ref oN])), (oT, .inr (4, [.ref rc, .int (nI n)])), (rc, .inl (cI, 60, .inl cd)), (o2, .inr (1, [.ref oS, .ref q1, .ref q2, .ref q3])), (q1, .inl (cI, 72, .inl z1)), (q2, .inl (cI, 72, .inl z2)), (q3, .inl (cI, 72, .inl z3)), (oX, .inr (5, [.ref oS, .ref oR, .ref oN, .ref o2, .ref oF, .ref oT])), (oS, .inr (3, [.ref rv, .ref rs, .int (nI kc)])), (rv, .inl (cI, 385, .inl v)), (oN, .inr (1, [.ref oS, .ref rp, .ref rt, .ref rl])), (rp, .inl (cI, 72, .inl gp_13)), (rt, .inl (cI, 72, .inl gt_14)), (rl, .inl (cI, 72, .inl gl_15))] H := hP
        have hD : va_D A [(oR, .inr (2, [.ref oS])), (oF, .inr (0, [.ref oS, .ref oN])), (oT, .inr (4, [.ref rc, .int (nI n)])), (rc, .inl (cI, 60, .inl cd)), (o2, .inr (1, [.ref oS, .ref q1, .ref q2, .ref q3])), (q1, .inl (cI, 72, .inl z1)), (q2, .inl (cI, 72, .inl z2)), (q3, .inl (cI, 72, .inl z3)), (oX, .inr (5, [.ref oS, .ref oR, .ref oN, .ref o2, .ref oF, .ref oT])), (oS, .inr (3, [.ref rv, .ref rs, .int (nI kc)])), (rv, .inl (cI, 385, .inl v)), (oN, .inr (1, [.ref oS, .ref rp, .ref rt, .ref rl])), (rp, .inl (cI, 72, .inl gp_13)), (rt, .inl (cI, 72, .inl gt_14)), (rl, .inl (cI, 72, .inl gl_15))] := hD
        obtain rfl := hw_12
        refine lv_lstore_n (lv' := [(1, .long (n_h4 v hh 72)), (0, .ref oX), (3, .int (nI r))]) hx hb dX5_digest_119 rfl hl (by decide) rfl (fun ls hl => ?_)
        refine lv_iconst (v := 0) hx hb dX5_digest_120 (by decide) ?_
        refine lv_istore_n (lv' := [(3, .int 0), (1, .long (n_h4 v hh 72)), (0, .ref oX)]) hx hb dX5_digest_121 rfl hl (by decide) rfl (fun ls hl => ?_)
        refine kq_loopM5 (A1 := Nat) (A2 := Int64) (A3 := Nat → Int32) (A4 := Nat → Int32) (A5 := Nat → Int32) (fun (f : Nat) (hh : Int64) (fp : Nat → Int32) (ft : Nat → Int32) (fl : Nat → Int32) => 4 - f) (fun (f : Nat) (hh : Int64) (fp : Nat → Int32) (ft : Nat → Int32) (fl : Nat → Int32) => (f ≤ 4) ∧ (hh = n_h5 v (n_h4 v (n_h3 v (n_d1 v kc) 3) 72) f)) (fun (f : Nat) (hh : Int64) (fp : Nat → Int32) (ft : Nat → Int32) (fl : Nat → Int32) => [(0, .ref oX), (1, .long hh), (3, .int (nI f))]) (fun (f : Nat) (hh : Int64) (fp : Nat → Int32) (ft : Nat → Int32) (fl : Nat → Int32) => [(oR, .inr (2, [.ref oS])), (oF, .inr (0, [.ref oS, .ref oN])), (oT, .inr (4, [.ref rc, .int (nI n)])), (rc, .inl (cI, 60, .inl cd)), (o2, .inr (1, [.ref oS, .ref q1, .ref q2, .ref q3])), (q1, .inl (cI, 72, .inl z1)), (q2, .inl (cI, 72, .inl z2)), (q3, .inl (cI, 72, .inl z3)), (oX, .inr (5, [.ref oS, .ref oR, .ref oN, .ref o2, .ref oF, .ref oT])), (oS, .inr (3, [.ref rv, .ref rs, .int (nI kc)])), (rv, .inl (cI, 385, .inl v)), (oN, .inr (1, [.ref oS, .ref rp, .ref rt, .ref rl])), (rp, .inl (cI, 72, .inl fp)), (rt, .inl (cI, 72, .inl ft)), (rl, .inl (cI, 72, .inl fl))]) (nL := 5) hK ?_ 0 (n_h4 v hh 72) gp_13 gt_14 gl_15 ⟨(by omega), (by rw [ih1, show r = 3 by omega]; rfl)⟩ hP hD hS _ (lv_sub hl [2, 1, 0] rfl)
        intro f hh fp ft fl hi_17 ih_16 H locs hP hD hS ls hl
        obtain ⟨jf, ih1⟩ := hi_17
        have hl : lv_has ls 5 [(0, .ref oX), (1, .long hh), (3, .int (nI f))] := hl
        have hP : va_P (dC, dI) vwCl [(oR, .inr (2, [.ref oS])), (oF, .inr (0, [.ref oS, .ref oN])), (oT, .inr (4, [.ref rc, .int (nI n)])), (rc, .inl (cI, 60, .inl cd)), (o2, .inr (1, [.ref oS, .ref q1, .ref q2, .ref q3])), (q1, .inl (cI, 72, .inl z1)), (q2, .inl (cI, 72, .inl z2)), (q3, .inl (cI, 72, .inl z3)), (oX, .inr (5, [.ref oS, .ref oR, .ref oN, .ref o2, .ref oF, .ref oT])), (oS, .inr (3, [.ref rv, .ref rs, .int (nI kc)])), (rv, .inl (cI, 385, .inl v)), (oN, .inr (1, [.ref oS, .ref rp, .ref rt, .ref rl])), (rp, .inl (cI, 72, .inl fp)), (rt, .inl (cI, 72, .inl ft)), (rl, .inl (cI, 72, .inl fl))] H := hP
        have hD : va_D A [(oR, .inr (2, [.ref oS])), (oF, .inr (0, [.ref oS, .ref oN])), (oT, .inr (4, [.ref rc, .int (nI n)])), (rc, .inl (cI, 60, .inl cd)), (o2, .inr (1, [.ref oS, .ref q1, .ref q2, .ref q3])), (q1, .inl (cI, 72, .inl z1)), (q2, .inl (cI, 72, .inl z2)), (q3, .inl (cI, 72, .inl z3)), (oX, .inr (5, [.ref oS, .ref oR, .ref oN, .ref o2, .ref oF, .ref oT])), (oS, .inr (3, [.ref rv, .ref rs, .int (nI kc)])), (rv, .inl (cI, 385, .inl v)), (oN, .inr (1, [.ref oS, .ref rp, .ref rt, .ref rl])), (rp, .inl (cI, 72, .inl fp)), (rt, .inl (cI, 72, .inl ft)), (rl, .inl (cI, 72, .inl fl))] := hD
        refine lv_iload_n hx hb dX5_digest_122 rfl (lv_at hl 2 rfl) ?_
        refine lv_iconst (v := 4) hx hb dX5_digest_123 (by decide) ?_
        refine lv_icmp_ge (tgt := 193) hx hb dX5_digest_124 (by decide) (fun c_18 => ?_) (fun c_18 => ?_)
        · skip
          have c_18 := kq_leN (a := 4) (b := f) c_18 (by omega) (by omega)
          refine lv_ldc2 (v := 31) hx hb hown (hts (.constantLong RX5 226 (31)) (by decide +kernel)) dX5_digest_193 ?_
          refine lv_lload_n hx hb dX5_digest_196 rfl (lv_at hl 1 rfl) ?_
          refine lv_lmul hx hb dX5_digest_197 ?_
          refine lv_aload_n hx hb dX5_digest_198 rfl (lv_at hl 0 rfl) ?_
          refine kq_cV (As := []) (rest := [.long (31 * hh)]) ⟨hx, hb, hml, hown, hts⟩ (c_X5_bestPitch l dC dI cI oX oS oR oN o2 oF oT rv rs kc v (by first | assumption | omega)) (cwV 0 hts gX5_digest_X5_bestPitch rfl rfl rfl (by decide +kernel) ⟨Nat.le_of_ble_eq_true rfl, Nat.le_of_ble_eq_true rfl⟩) (hP.sub [8, 9, 10, 0] rfl) hK (ci := 5) (q0 := 0) rfl rfl rfl rfl hl.1 rfl (Nat.le_of_ble_eq_true rfl) dX5_digest_199 ⟨Nat.le_of_ble_eq_true rfl, Nat.le_of_ble_eq_true rfl⟩ ?_
          refine lv_i2l (v := (nI (n_pit v 18)).toInt64) hx hb dX5_digest_202 rfl ?_
          refine lv_ladd hx hb dX5_digest_203 ?_
          refine lv_lstore_n (lv' := [(1, .long ((31 * hh) + ((nI (n_pit v 18)).toInt64))), (0, .ref oX), (3, .int (nI f))]) hx hb dX5_digest_204 rfl hl (by decide) rfl (fun ls hl => ?_)
          refine lv_iconst (v := 0) hx hb dX5_digest_205 (by decide) ?_
          refine lv_istore_n (lv' := [(3, .int 0), (1, .long ((31 * hh) + ((nI (n_pit v 18)).toInt64))), (0, .ref oX)]) hx hb dX5_digest_206 rfl hl (by decide) rfl (fun ls hl => ?_)
          refine kq_loopM5 (A1 := Nat) (A2 := Int64) (A3 := Nat → Int32) (A4 := Nat → Int32) (A5 := Nat → Int32) (fun (k : Nat) (hh : Int64) (fp : Nat → Int32) (ft : Nat → Int32) (fl : Nat → Int32) => 3 - k) (fun (k : Nat) (hh : Int64) (fp : Nat → Int32) (ft : Nat → Int32) (fl : Nat → Int32) => (k ≤ 3) ∧ (hh = n_hf (n_so v 2 3) (n_mx (n_d2 v kc) (nI (n_pit v 18))) k)) (fun (k : Nat) (hh : Int64) (fp : Nat → Int32) (ft : Nat → Int32) (fl : Nat → Int32) => [(0, .ref oX), (1, .long hh), (3, .int (nI k))]) (fun (k : Nat) (hh : Int64) (fp : Nat → Int32) (ft : Nat → Int32) (fl : Nat → Int32) => [(oR, .inr (2, [.ref oS])), (oF, .inr (0, [.ref oS, .ref oN])), (oT, .inr (4, [.ref rc, .int (nI n)])), (rc, .inl (cI, 60, .inl cd)), (o2, .inr (1, [.ref oS, .ref q1, .ref q2, .ref q3])), (q1, .inl (cI, 72, .inl z1)), (q2, .inl (cI, 72, .inl z2)), (q3, .inl (cI, 72, .inl z3)), (oX, .inr (5, [.ref oS, .ref oR, .ref oN, .ref o2, .ref oF, .ref oT])), (oS, .inr (3, [.ref rv, .ref rs, .int (nI kc)])), (rv, .inl (cI, 385, .inl v)), (oN, .inr (1, [.ref oS, .ref rp, .ref rt, .ref rl])), (rp, .inl (cI, 72, .inl fp)), (rt, .inl (cI, 72, .inl ft)), (rl, .inl (cI, 72, .inl fl))]) (nL := 5) hK ?_ 0 ((31 * hh) + ((nI (n_pit v 18)).toInt64)) fp ft fl ⟨(by omega), (by rw [ih1, show f = 4 by omega]; rfl)⟩ hP hD hS _ (lv_sub hl [2, 1, 0] rfl)
          intro k hh fp ft fl hi_20 ih_19 H locs hP hD hS ls hl
          obtain ⟨ik, ih1⟩ := hi_20
          have hl : lv_has ls 5 [(0, .ref oX), (1, .long hh), (3, .int (nI k))] := hl
          have hP : va_P (dC, dI) vwCl [(oR, .inr (2, [.ref oS])), (oF, .inr (0, [.ref oS, .ref oN])), (oT, .inr (4, [.ref rc, .int (nI n)])), (rc, .inl (cI, 60, .inl cd)), (o2, .inr (1, [.ref oS, .ref q1, .ref q2, .ref q3])), (q1, .inl (cI, 72, .inl z1)), (q2, .inl (cI, 72, .inl z2)), (q3, .inl (cI, 72, .inl z3)), (oX, .inr (5, [.ref oS, .ref oR, .ref oN, .ref o2, .ref oF, .ref oT])), (oS, .inr (3, [.ref rv, .ref rs, .int (nI kc)])), (rv, .inl (cI, 385, .inl v)), (oN, .inr (1, [.ref oS, .ref rp, .ref rt, .ref rl])), (rp, .inl (cI, 72, .inl fp)), (rt, .inl (cI, 72, .inl ft)), (rl, .inl (cI, 72, .inl fl))] H := hP
          have hD : va_D A [(oR, .inr (2, [.ref oS])), (oF, .inr (0, [.ref oS, .ref oN])), (oT, .inr (4, [.ref rc, .int (nI n)])), (rc, .inl (cI, 60, .inl cd)), (o2, .inr (1, [.ref oS, .ref q1, .ref q2, .ref q3])), (q1, .inl (cI, 72, .inl z1)), (q2, .inl (cI, 72, .inl z2)), (q3, .inl (cI, 72, .inl z3)), (oX, .inr (5, [.ref oS, .ref oR, .ref oN, .ref o2, .ref oF, .ref oT])), (oS, .inr (3, [.ref rv, .ref rs, .int (nI kc)])), (rv, .inl (cI, 385, .inl v)), (oN, .inr (1, [.ref oS, .ref rp, .ref rt, .ref rl])), (rp, .inl (cI, 72, .inl fp)), (rt, .inl (cI, 72, .inl ft)), (rl, .inl (cI, 72, .inl fl))] := hD
          refine lv_iload_n hx hb dX5_digest_207 rfl (lv_at hl 2 rfl) ?_
          refine lv_iconst (v := 2) hx hb dX5_digest_208 (by decide) ?_
          refine lv_icmp_gt (tgt := 233) hx hb dX5_digest_209 (by decide) (fun c_21 => ?_) (fun c_21 => ?_)
          · skip
            have c_21 := kq_ltN (a := 2) (b := k) c_21 (by omega) (by omega)
            refine lv_ldc2 (v := 31) hx hb hown (hts (.constantLong RX5 226 (31)) (by decide +kernel)) dX5_digest_233 ?_
            refine lv_lload_n hx hb dX5_digest_236 rfl (lv_at hl 1 rfl) ?_
            refine lv_lmul hx hb dX5_digest_237 ?_
            refine lv_aload_n hx hb dX5_digest_238 rfl (lv_at hl 0 rfl) ?_
            refine kq_callMd (wr := [(oR, .inr (2, [.ref oS])), (oT, .inr (4, [.ref rc, .int (nI n)])), (rc, .inl (cI, 60, .inl cd)), (o2, .inr (1, [.ref oS, .ref q1, .ref q2, .ref q3])), (q1, .inl (cI, 72, .inl z1)), (q2, .inl (cI, 72, .inl z2)), (q3, .inl (cI, 72, .inl z3))]) (va_runV (As := []) (rest := [.long (31 * hh)]) ⟨hx, hb, hml, hown, hts⟩ (c_X5_goodness l dC dI cI H.size oX oS oR oN o2 oF oT rv rs kc rp rt rl v fp ft fl (by first | assumption | omega)) (cwV 0 hts gX5_digest_X5_goodness rfl rfl rfl (by decide +kernel) ⟨Nat.le_of_ble_eq_true rfl, Nat.le_of_ble_eq_true rfl⟩) (kq_preV (ci := 5) (q0 := 0) (hP.sub [8, 9, 10, 1, 11, 12, 13, 14] rfl) (hD.sub [8, 9, 10, 1, 11, 12, 13, 14] (by decide) rfl) hK rfl rfl) rfl rfl hl.1 rfl (lv_room (Nat.le_of_ble_eq_true rfl)) dX5_digest_239 ⟨Nat.le_of_ble_eq_true rfl, Nat.le_of_ble_eq_true rfl⟩) hP hD hS hA [8, 9, 10, 1, 11, 12, 13, 14] [0, 2, 3, 4, 5, 6, 7] rfl rfl (by decide) (by decide) (fun r_22 u_23 H locs hw_24 hP hD hS => ?_)
            obtain ⟨gp_25, gt_26, gl_27⟩ := u_23
            have hP : va_P (dC, dI) vwCl [(oR, .inr (2, [.ref oS])), (oT, .inr (4, [.ref rc, .int (nI n)])), (rc, .inl (cI, 60, .inl cd)), (o2, .inr (1, [.ref oS, .ref q1, .ref q2, .ref q3])), (q1, .inl (cI, 72, .inl z1)), (q2, .inl (cI, 72, .inl z2)), (q3, .inl (cI, 72, .inl z3)), (oX, .inr (5, [.ref oS, .ref oR, .ref oN, .ref o2, .ref oF, .ref oT])), (oS, .inr (3, [.ref rv, .ref rs, .int (nI kc)])), (rv, .inl (cI, 385, .inl v)), (oF, .inr (0, [.ref oS, .ref oN])), (oN, .inr (1, [.ref oS, .ref rp, .ref rt, .ref rl])), (rp, .inl (cI, 72, .inl gp_25)), (rt, .inl (cI, 72, .inl gt_26)), (rl, .inl (cI, 72, .inl gl_27))] H := hP
            have hD : va_D A [(oR, .inr (2, [.ref oS])), (oT, .inr (4, [.ref rc, .int (nI n)])), (rc, .inl (cI, 60, .inl cd)), (o2, .inr (1, [.ref oS, .ref q1, .ref q2, .ref q3])), (q1, .inl (cI, 72, .inl z1)), (q2, .inl (cI, 72, .inl z2)), (q3, .inl (cI, 72, .inl z3)), (oX, .inr (5, [.ref oS, .ref oR, .ref oN, .ref o2, .ref oF, .ref oT])), (oS, .inr (3, [.ref rv, .ref rs, .int (nI kc)])), (rv, .inl (cI, 385, .inl v)), (oF, .inr (0, [.ref oS, .ref oN])), (oN, .inr (1, [.ref oS, .ref rp, .ref rt, .ref rl])), (rp, .inl (cI, 72, .inl gp_25)), (rt, .inl (cI, 72, .inl gt_26)), (rl, .inl (cI, 72, .inl gl_27))] := hD
            obtain rfl := hw_24
            refine kq_callMl (wr := [(oR, .inr (2, [.ref oS])), (oT, .inr (4, [.ref rc, .int (nI n)])), (rc, .inl (cI, 60, .inl cd)), (o2, .inr (1, [.ref oS, .ref q1, .ref q2, .ref q3])), (q1, .inl (cI, 72, .inl z1)), (q2, .inl (cI, 72, .inl z2)), (q3, .inl (cI, 72, .inl z3)), (oX, .inr (5, [.ref oS, .ref oR, .ref oN, .ref o2, .ref oF, .ref oT])), (oS, .inr (3, [.ref rv, .ref rs, .int (nI kc)])), (rv, .inl (cI, 385, .inl v)), (oF, .inr (0, [.ref oS, .ref oN])), (oN, .inr (1, [.ref oS, .ref rp, .ref rt, .ref rl])), (rp, .inl (cI, 72, .inl gp_25)), (rt, .inl (cI, 72, .inl gt_26)), (rl, .inl (cI, 72, .inl gl_27))]) (va_runS (As := [.double (n_gn v)]) (rest := [.long (31 * hh)]) ⟨hx, hb, hml, hown, hts⟩ (c_X5_bitsOfShare_b l dC dI cI H.size v ) (va_cwS 1 hts gX5_digest_X5_bitsOfShare rfl rfl rfl (by decide +kernel) ⟨Nat.le_of_ble_eq_true rfl, Nat.le_of_ble_eq_true rfl⟩) (kq_preS (hP.sub [] rfl) (hD.sub [] (by decide) rfl) hK) rfl rfl hl.1 rfl (lv_room (Nat.le_of_ble_eq_true rfl)) dX5_digest_242 ⟨Nat.le_of_ble_eq_true rfl, Nat.le_of_ble_eq_true rfl⟩) hP hD hS hA [] [0, 1, 2, 3, 4, 5, 6, 7, 8, 9, 10, 11, 12, 13, 14] rfl rfl (by decide) (by decide) (fun r_28 u_29 H locs hw_30 hP hD hS => ?_)
            have hP : va_P (dC, dI) vwCl [(oR, .inr (2, [.ref oS])), (oT, .inr (4, [.ref rc, .int (nI n)])), (rc, .inl (cI, 60, .inl cd)), (o2, .inr (1, [.ref oS, .ref q1, .ref q2, .ref q3])), (q1, .inl (cI, 72, .inl z1)), (q2, .inl (cI, 72, .inl z2)), (q3, .inl (cI, 72, .inl z3)), (oX, .inr (5, [.ref oS, .ref oR, .ref oN, .ref o2, .ref oF, .ref oT])), (oS, .inr (3, [.ref rv, .ref rs, .int (nI kc)])), (rv, .inl (cI, 385, .inl v)), (oF, .inr (0, [.ref oS, .ref oN])), (oN, .inr (1, [.ref oS, .ref rp, .ref rt, .ref rl])), (rp, .inl (cI, 72, .inl gp_25)), (rt, .inl (cI, 72, .inl gt_26)), (rl, .inl (cI, 72, .inl gl_27))] H := hP
            have hD : va_D A [(oR, .inr (2, [.ref oS])), (oT, .inr (4, [.ref rc, .int (nI n)])), (rc, .inl (cI, 60, .inl cd)), (o2, .inr (1, [.ref oS, .ref q1, .ref q2, .ref q3])), (q1, .inl (cI, 72, .inl z1)), (q2, .inl (cI, 72, .inl z2)), (q3, .inl (cI, 72, .inl z3)), (oX, .inr (5, [.ref oS, .ref oR, .ref oN, .ref o2, .ref oF, .ref oT])), (oS, .inr (3, [.ref rv, .ref rs, .int (nI kc)])), (rv, .inl (cI, 385, .inl v)), (oF, .inr (0, [.ref oS, .ref oN])), (oN, .inr (1, [.ref oS, .ref rp, .ref rt, .ref rl])), (rp, .inl (cI, 72, .inl gp_25)), (rt, .inl (cI, 72, .inl gt_26)), (rl, .inl (cI, 72, .inl gl_27))] := hD
            obtain rfl := hw_30
            refine lv_ladd hx hb dX5_digest_245 ?_
            refine lv_lstore_n (lv' := [(1, .long ((31 * hh) + (n_bs (n_gn v)))), (0, .ref oX), (3, .int (nI k))]) hx hb dX5_digest_246 rfl hl (by decide) rfl (fun ls hl => ?_)
            refine lv_ldc2 (v := 31) hx hb hown (hts (.constantLong RX5 226 (31)) (by decide +kernel)) dX5_digest_247 ?_
            refine lv_lload_n hx hb dX5_digest_250 rfl (lv_at hl 0 rfl) ?_
            refine lv_lmul hx hb dX5_digest_251 ?_
            refine lv_aload_n hx hb dX5_digest_252 rfl (lv_at hl 1 rfl) ?_
            refine va_get (D := (dC, dI)) (ci := 5) (v := .ref oT) (C := RX5) (T := TX5) (N := 6) hx hb hts (by decide +kernel) hown hK.1 hP 7 rfl rfl 5 (by decide) (hts (.fieldLink RX5 47 "NoteWatermarks" "text" "LNoteWatermarks$WireText;") (by decide +kernel)) (fun _ h9 => h9) rfl dX5_digest_253 ?_
            refine kq_cV (As := []) (rest := [.long (31 * ((31 * hh) + (n_bs (n_gn v))))]) ⟨hx, hb, hml, hown, hts⟩ (c_X4_length l dC dI cI oT rc n cd ) (cwV 0 hts gX5_digest_X4_length rfl rfl rfl (by decide +kernel) ⟨Nat.le_of_ble_eq_true rfl, Nat.le_of_ble_eq_true rfl⟩) (hP.sub [1] rfl) hK (ci := 4) (q0 := 0) rfl rfl rfl rfl hl.1 rfl (Nat.le_of_ble_eq_true rfl) dX5_digest_256 ⟨Nat.le_of_ble_eq_true rfl, Nat.le_of_ble_eq_true rfl⟩ ?_
            refine lv_i2l (v := (nI n).toInt64) hx hb dX5_digest_259 rfl ?_
            refine lv_ladd hx hb dX5_digest_260 ?_
            refine lv_lstore_n (lv' := [(1, .long ((31 * ((31 * hh) + (n_bs (n_gn v)))) + ((nI n).toInt64))), (0, .ref oX), (3, .int (nI k))]) hx hb dX5_digest_261 rfl hl (by decide) rfl (fun ls hl => ?_)
            refine lv_iconst (v := 0) hx hb dX5_digest_262 (by decide) ?_
            refine lv_istore_n (lv' := [(3, .int 0), (1, .long ((31 * ((31 * hh) + (n_bs (n_gn v)))) + ((nI n).toInt64))), (0, .ref oX)]) hx hb dX5_digest_263 rfl hl (by decide) rfl (fun ls hl => ?_)
            refine kq_loopM2 (A1 := Nat) (A2 := Int64) (fun (k : Nat) (hh : Int64) => n - k) (fun (k : Nat) (hh : Int64) => (k ≤ n) ∧ (hh = n_hf cd (n_d4 v kc n) k)) (fun (k : Nat) (hh : Int64) => [(0, .ref oX), (1, .long hh), (3, .int (nI k))]) (fun (k : Nat) (hh : Int64) => [(oR, .inr (2, [.ref oS])), (oT, .inr (4, [.ref rc, .int (nI n)])), (rc, .inl (cI, 60, .inl cd)), (o2, .inr (1, [.ref oS, .ref q1, .ref q2, .ref q3])), (q1, .inl (cI, 72, .inl z1)), (q2, .inl (cI, 72, .inl z2)), (q3, .inl (cI, 72, .inl z3)), (oX, .inr (5, [.ref oS, .ref oR, .ref oN, .ref o2, .ref oF, .ref oT])), (oS, .inr (3, [.ref rv, .ref rs, .int (nI kc)])), (rv, .inl (cI, 385, .inl v)), (oF, .inr (0, [.ref oS, .ref oN])), (oN, .inr (1, [.ref oS, .ref rp, .ref rt, .ref rl])), (rp, .inl (cI, 72, .inl gp_25)), (rt, .inl (cI, 72, .inl gt_26)), (rl, .inl (cI, 72, .inl gl_27))]) (nL := 5) hK ?_ 0 ((31 * ((31 * hh) + (n_bs (n_gn v)))) + ((nI n).toInt64)) ⟨(by omega), (by rw [ih1, show k = 3 by omega]; rfl)⟩ hP hD hS _ (lv_sub hl [2, 1, 0] rfl)
            intro k hh hi_32 ih_31 H locs hP hD hS ls hl
            obtain ⟨ik, ih1⟩ := hi_32
            have hl : lv_has ls 5 [(0, .ref oX), (1, .long hh), (3, .int (nI k))] := hl
            have hP : va_P (dC, dI) vwCl [(oR, .inr (2, [.ref oS])), (oT, .inr (4, [.ref rc, .int (nI n)])), (rc, .inl (cI, 60, .inl cd)), (o2, .inr (1, [.ref oS, .ref q1, .ref q2, .ref q3])), (q1, .inl (cI, 72, .inl z1)), (q2, .inl (cI, 72, .inl z2)), (q3, .inl (cI, 72, .inl z3)), (oX, .inr (5, [.ref oS, .ref oR, .ref oN, .ref o2, .ref oF, .ref oT])), (oS, .inr (3, [.ref rv, .ref rs, .int (nI kc)])), (rv, .inl (cI, 385, .inl v)), (oF, .inr (0, [.ref oS, .ref oN])), (oN, .inr (1, [.ref oS, .ref rp, .ref rt, .ref rl])), (rp, .inl (cI, 72, .inl gp_25)), (rt, .inl (cI, 72, .inl gt_26)), (rl, .inl (cI, 72, .inl gl_27))] H := hP
            have hD : va_D A [(oR, .inr (2, [.ref oS])), (oT, .inr (4, [.ref rc, .int (nI n)])), (rc, .inl (cI, 60, .inl cd)), (o2, .inr (1, [.ref oS, .ref q1, .ref q2, .ref q3])), (q1, .inl (cI, 72, .inl z1)), (q2, .inl (cI, 72, .inl z2)), (q3, .inl (cI, 72, .inl z3)), (oX, .inr (5, [.ref oS, .ref oR, .ref oN, .ref o2, .ref oF, .ref oT])), (oS, .inr (3, [.ref rv, .ref rs, .int (nI kc)])), (rv, .inl (cI, 385, .inl v)), (oF, .inr (0, [.ref oS, .ref oN])), (oN, .inr (1, [.ref oS, .ref rp, .ref rt, .ref rl])), (rp, .inl (cI, 72, .inl gp_25)), (rt, .inl (cI, 72, .inl gt_26)), (rl, .inl (cI, 72, .inl gl_27))] := hD
            refine lv_iload_n hx hb dX5_digest_264 rfl (lv_at hl 2 rfl) ?_
            refine lv_aload_n hx hb dX5_digest_265 rfl (lv_at hl 0 rfl) ?_
            refine va_get (D := (dC, dI)) (ci := 5) (v := .ref oT) (C := RX5) (T := TX5) (N := 6) hx hb hts (by decide +kernel) hown hK.1 hP 7 rfl rfl 5 (by decide) (hts (.fieldLink RX5 47 "NoteWatermarks" "text" "LNoteWatermarks$WireText;") (by decide +kernel)) (fun _ h9 => h9) rfl dX5_digest_266 ?_
            refine kq_cV (As := []) (rest := [.int (nI k)]) ⟨hx, hb, hml, hown, hts⟩ (c_X4_length l dC dI cI oT rc n cd ) (cwV 0 hts gX5_digest_X4_length rfl rfl rfl (by decide +kernel) ⟨Nat.le_of_ble_eq_true rfl, Nat.le_of_ble_eq_true rfl⟩) (hP.sub [1] rfl) hK (ci := 4) (q0 := 0) rfl rfl rfl rfl hl.1 rfl (Nat.le_of_ble_eq_true rfl) dX5_digest_269 ⟨Nat.le_of_ble_eq_true rfl, Nat.le_of_ble_eq_true rfl⟩ ?_
            refine lv_icmp_ge (tgt := 297) hx hb dX5_digest_272 (by decide) (fun c_33 => ?_) (fun c_33 => ?_)
            · skip
              have c_33 := kq_leN (a := n) (b := k) c_33 (by omega) (by omega)
              refine lv_lload_n hx hb dX5_digest_297 rfl (lv_at hl 1 rfl) ?_
              exact kq_retMl (gp_25, gt_26, gl_27, z1, z2, z3) hx hb hr hlocks (hP.sub [7, 8, 9, 0, 10, 1, 2, 11, 12, 13, 14, 3, 4, 5, 6] rfl) (hD.sub [7, 8, 9, 0, 10, 1, 2, 11, 12, 13, 14, 3, 4, 5, 6] (by decide) rfl) hS dX5_digest_298 (by rw [ih1, show k = n by omega]; rfl)
            · skip
              have c_33 := kq_nleN (a := n) (b := k) c_33 (by omega) (by omega)
              refine lv_ldc2 (v := 31) hx hb hown (hts (.constantLong RX5 226 (31)) (by decide +kernel)) dX5_digest_275 ?_
              refine lv_lload_n hx hb dX5_digest_278 rfl (lv_at hl 1 rfl) ?_
              refine lv_lmul hx hb dX5_digest_279 ?_
              refine lv_aload_n hx hb dX5_digest_280 rfl (lv_at hl 0 rfl) ?_
              refine va_get (D := (dC, dI)) (ci := 5) (v := .ref oT) (C := RX5) (T := TX5) (N := 6) hx hb hts (by decide +kernel) hown hK.1 hP 7 rfl rfl 5 (by decide) (hts (.fieldLink RX5 47 "NoteWatermarks" "text" "LNoteWatermarks$WireText;") (by decide +kernel)) (fun _ h9 => h9) rfl dX5_digest_281 ?_
              refine lv_iload_n hx hb dX5_digest_284 rfl (lv_at hl 2 rfl) ?_
              refine kq_cV (As := [.int (nI k)]) (rest := [.long (31 * hh)]) ⟨hx, hb, hml, hown, hts⟩ (c_X4_codeAt_n l dC dI cI oT rc n cd k (by first | assumption | omega) (by first | assumption | omega)) (cwV 1 hts gX5_digest_X4_codeAt rfl rfl rfl (by decide +kernel) ⟨Nat.le_of_ble_eq_true rfl, Nat.le_of_ble_eq_true rfl⟩) (hP.sub [1, 2] rfl) hK (ci := 4) (q0 := 0) rfl rfl rfl rfl hl.1 rfl (Nat.le_of_ble_eq_true rfl) dX5_digest_285 ⟨Nat.le_of_ble_eq_true rfl, Nat.le_of_ble_eq_true rfl⟩ ?_
              refine lv_i2l (v := (cd k).toInt64) hx hb dX5_digest_288 rfl ?_
              refine lv_ladd hx hb dX5_digest_289 ?_
              refine lv_lstore_n (lv' := [(1, .long ((31 * hh) + ((cd k).toInt64))), (0, .ref oX), (3, .int (nI k))]) hx hb dX5_digest_290 rfl hl (by decide) rfl (fun ls hl => ?_)
              refine lv_iinc (v := nI (k + 1)) (lv' := [(3, .int (nI (k + 1))), (1, .long ((31 * hh) + ((cd k).toInt64))), (0, .ref oX)]) hx hb dX5_digest_291 hl (k := 2) rfl (nI_1 k) (by decide) rfl (fun ls hl => ?_)
              refine lv_goto (tgt := 264) hx hb dX5_digest_294 (by decide) ?_
              exact ih_31 (k + 1) ((31 * hh) + ((cd k).toInt64)) ⟨(by omega), (by rw [n_hf, ← ih1]; rfl)⟩ (by show n - (k + 1) < n - k; omega) _ _ hP hD hS _ (lv_sub hl [2, 1, 0] rfl)
          · skip
            have c_21 := kq_nltN (a := 2) (b := k) c_21 (by omega) (by omega)
            refine lv_ldc2 (v := 31) hx hb hown (hts (.constantLong RX5 226 (31)) (by decide +kernel)) dX5_digest_212 ?_
            refine lv_lload_n hx hb dX5_digest_215 rfl (lv_at hl 1 rfl) ?_
            refine lv_lmul hx hb dX5_digest_216 ?_
            refine lv_aload_n hx hb dX5_digest_217 rfl (lv_at hl 0 rfl) ?_
            refine lv_iconst (v := 2) hx hb dX5_digest_218 (by decide) ?_
            refine lv_iconst (v := 3) hx hb dX5_digest_219 (by decide) ?_
            refine lv_iload_n hx hb dX5_digest_220 rfl (lv_at hl 2 rfl) ?_
            refine kq_callMi (wr := [(oR, .inr (2, [.ref oS])), (oF, .inr (0, [.ref oS, .ref oN])), (oT, .inr (4, [.ref rc, .int (nI n)])), (rc, .inl (cI, 60, .inl cd)), (o2, .inr (1, [.ref oS, .ref q1, .ref q2, .ref q3])), (q1, .inl (cI, 72, .inl z1)), (q2, .inl (cI, 72, .inl z2)), (q3, .inl (cI, 72, .inl z3))]) (va_runV (As := [.int 2, .int 3, .int (nI k)]) (rest := [.long (31 * hh)]) ⟨hx, hb, hml, hown, hts⟩ (c_X5_standsOut l dC dI cI H.size oX oS oR oN o2 oF oT rv rs kc rp rt rl v fp ft fl 2 3 k (by first | assumption | omega) (by first | assumption | omega) (by first | assumption | omega) (by first | assumption | omega)) (cwV 3 hts gX5_digest_X5_standsOut rfl rfl rfl (by decide +kernel) ⟨Nat.le_of_ble_eq_true rfl, Nat.le_of_ble_eq_true rfl⟩) (kq_preV (ci := 5) (q0 := 0) (hP.sub [8, 9, 10, 11, 12, 13, 14] rfl) (hD.sub [8, 9, 10, 11, 12, 13, 14] (by decide) rfl) hK rfl rfl) rfl rfl hl.1 rfl (lv_room (Nat.le_of_ble_eq_true rfl)) dX5_digest_221 ⟨Nat.le_of_ble_eq_true rfl, Nat.le_of_ble_eq_true rfl⟩) hP hD hS hA [8, 9, 10, 11, 12, 13, 14] [0, 1, 2, 3, 4, 5, 6, 7] rfl rfl (by decide) (by decide) (fun r_34 u_35 H locs hw_36 hP hD hS => ?_)
            obtain ⟨gp_37, gt_38, gl_39⟩ := u_35
            have hP : va_P (dC, dI) vwCl [(oR, .inr (2, [.ref oS])), (oF, .inr (0, [.ref oS, .ref oN])), (oT, .inr (4, [.ref rc, .int (nI n)])), (rc, .inl (cI, 60, .inl cd)), (o2, .inr (1, [.ref oS, .ref q1, .ref q2, .ref q3])), (q1, .inl (cI, 72, .inl z1)), (q2, .inl (cI, 72, .inl z2)), (q3, .inl (cI, 72, .inl z3)), (oX, .inr (5, [.ref oS, .ref oR, .ref oN, .ref o2, .ref oF, .ref oT])), (oS, .inr (3, [.ref rv, .ref rs, .int (nI kc)])), (rv, .inl (cI, 385, .inl v)), (oN, .inr (1, [.ref oS, .ref rp, .ref rt, .ref rl])), (rp, .inl (cI, 72, .inl gp_37)), (rt, .inl (cI, 72, .inl gt_38)), (rl, .inl (cI, 72, .inl gl_39))] H := hP
            have hD : va_D A [(oR, .inr (2, [.ref oS])), (oF, .inr (0, [.ref oS, .ref oN])), (oT, .inr (4, [.ref rc, .int (nI n)])), (rc, .inl (cI, 60, .inl cd)), (o2, .inr (1, [.ref oS, .ref q1, .ref q2, .ref q3])), (q1, .inl (cI, 72, .inl z1)), (q2, .inl (cI, 72, .inl z2)), (q3, .inl (cI, 72, .inl z3)), (oX, .inr (5, [.ref oS, .ref oR, .ref oN, .ref o2, .ref oF, .ref oT])), (oS, .inr (3, [.ref rv, .ref rs, .int (nI kc)])), (rv, .inl (cI, 385, .inl v)), (oN, .inr (1, [.ref oS, .ref rp, .ref rt, .ref rl])), (rp, .inl (cI, 72, .inl gp_37)), (rt, .inl (cI, 72, .inl gt_38)), (rl, .inl (cI, 72, .inl gl_39))] := hD
            obtain rfl := hw_36
            refine lv_i2l (v := (n_so v 2 3 k).toInt64) hx hb dX5_digest_224 rfl ?_
            refine lv_ladd hx hb dX5_digest_225 ?_
            refine lv_lstore_n (lv' := [(1, .long ((31 * hh) + ((n_so v 2 3 k).toInt64))), (0, .ref oX), (3, .int (nI k))]) hx hb dX5_digest_226 rfl hl (by decide) rfl (fun ls hl => ?_)
            refine lv_iinc (v := nI (k + 1)) (lv' := [(3, .int (nI (k + 1))), (1, .long ((31 * hh) + ((n_so v 2 3 k).toInt64))), (0, .ref oX)]) hx hb dX5_digest_227 hl (k := 2) rfl (nI_1 k) (by decide) rfl (fun ls hl => ?_)
            refine lv_goto (tgt := 207) hx hb dX5_digest_230 (by decide) ?_
            exact ih_19 (k + 1) ((31 * hh) + ((n_so v 2 3 k).toInt64)) gp_37 gt_38 gl_39 ⟨(by omega), (by rw [n_hf, ← ih1]; rfl)⟩ (by show 3 - (k + 1) < 3 - k; omega) _ _ hP hD hS _ (lv_sub hl [2, 1, 0] rfl)
        · skip
          have c_18 := kq_nleN (a := 4) (b := f) c_18 (by omega) (by omega)
          refine lv_iconst (v := 0) hx hb dX5_digest_127 (by decide) ?_
          refine lv_istore (lv' := [(4, .int 0), (0, .ref oX), (1, .long hh), (3, .int (nI f))]) hx hb dX5_digest_128 hl (by decide) rfl (fun ls hl => ?_)
          refine kq_loopM5 (A1 := Nat) (A2 := Int64) (A3 := Nat → Int32) (A4 := Nat → Int32) (A5 := Nat → Int32) (fun (k : Nat) (hh : Int64) (fp : Nat → Int32) (ft : Nat → Int32) (fl : Nat → Int32) => 5 - k) (fun (k : Nat) (hh : Int64) (fp : Nat → Int32) (ft : Nat → Int32) (fl : Nat → Int32) => (k ≤ 5) ∧ (hh = n_hf (n_fo v f) (n_h5 v (n_h4 v (n_h3 v (n_d1 v kc) 3) 72) f) k)) (fun (k : Nat) (hh : Int64) (fp : Nat → Int32) (ft : Nat → Int32) (fl : Nat → Int32) => [(0, .ref oX), (1, .long hh), (3, .int (nI f)), (4, .int (nI k))]) (fun (k : Nat) (hh : Int64) (fp : Nat → Int32) (ft : Nat → Int32) (fl : Nat → Int32) => [(oR, .inr (2, [.ref oS])), (oF, .inr (0, [.ref oS, .ref oN])), (oT, .inr (4, [.ref rc, .int (nI n)])), (rc, .inl (cI, 60, .inl cd)), (o2, .inr (1, [.ref oS, .ref q1, .ref q2, .ref q3])), (q1, .inl (cI, 72, .inl z1)), (q2, .inl (cI, 72, .inl z2)), (q3, .inl (cI, 72, .inl z3)), (oX, .inr (5, [.ref oS, .ref oR, .ref oN, .ref o2, .ref oF, .ref oT])), (oS, .inr (3, [.ref rv, .ref rs, .int (nI kc)])), (rv, .inl (cI, 385, .inl v)), (oN, .inr (1, [.ref oS, .ref rp, .ref rt, .ref rl])), (rp, .inl (cI, 72, .inl fp)), (rt, .inl (cI, 72, .inl ft)), (rl, .inl (cI, 72, .inl fl))]) (nL := 5) hK ?_ 0 hh fp ft fl ⟨(by omega), (by rw [ih1]; rfl)⟩ hP hD hS _ (lv_sub hl [1, 2, 3, 0] rfl)
          intro k hh fp ft fl hi_41 ih_40 H locs hP hD hS ls hl
          obtain ⟨ik, ih1⟩ := hi_41
          have hl : lv_has ls 5 [(0, .ref oX), (1, .long hh), (3, .int (nI f)), (4, .int (nI k))] := hl
          have hP : va_P (dC, dI) vwCl [(oR, .inr (2, [.ref oS])), (oF, .inr (0, [.ref oS, .ref oN])), (oT, .inr (4, [.ref rc, .int (nI n)])), (rc, .inl (cI, 60, .inl cd)), (o2, .inr (1, [.ref oS, .ref q1, .ref q2, .ref q3])), (q1, .inl (cI, 72, .inl z1)), (q2, .inl (cI, 72, .inl z2)), (q3, .inl (cI, 72, .inl z3)), (oX, .inr (5, [.ref oS, .ref oR, .ref oN, .ref o2, .ref oF, .ref oT])), (oS, .inr (3, [.ref rv, .ref rs, .int (nI kc)])), (rv, .inl (cI, 385, .inl v)), (oN, .inr (1, [.ref oS, .ref rp, .ref rt, .ref rl])), (rp, .inl (cI, 72, .inl fp)), (rt, .inl (cI, 72, .inl ft)), (rl, .inl (cI, 72, .inl fl))] H := hP
          have hD : va_D A [(oR, .inr (2, [.ref oS])), (oF, .inr (0, [.ref oS, .ref oN])), (oT, .inr (4, [.ref rc, .int (nI n)])), (rc, .inl (cI, 60, .inl cd)), (o2, .inr (1, [.ref oS, .ref q1, .ref q2, .ref q3])), (q1, .inl (cI, 72, .inl z1)), (q2, .inl (cI, 72, .inl z2)), (q3, .inl (cI, 72, .inl z3)), (oX, .inr (5, [.ref oS, .ref oR, .ref oN, .ref o2, .ref oF, .ref oT])), (oS, .inr (3, [.ref rv, .ref rs, .int (nI kc)])), (rv, .inl (cI, 385, .inl v)), (oN, .inr (1, [.ref oS, .ref rp, .ref rt, .ref rl])), (rp, .inl (cI, 72, .inl fp)), (rt, .inl (cI, 72, .inl ft)), (rl, .inl (cI, 72, .inl fl))] := hD
          refine lv_iload hx hb dX5_digest_130 (lv_at hl 3 rfl) ?_
          refine lv_iconst (v := 4) hx hb dX5_digest_132 (by decide) ?_
          refine lv_icmp_gt (tgt := 157) hx hb dX5_digest_133 (by decide) (fun c_42 => ?_) (fun c_42 => ?_)
          · skip
            have c_42 := kq_ltN (a := 4) (b := k) c_42 (by omega) (by omega)
            refine lv_iconst (v := 0) hx hb dX5_digest_157 (by decide) ?_
            refine lv_istore (lv' := [(4, .int 0), (0, .ref oX), (1, .long hh), (3, .int (nI f))]) hx hb dX5_digest_158 hl (by decide) rfl (fun ls hl => ?_)
            refine kq_loopM5 (A1 := Nat) (A2 := Int64) (A3 := Nat → Int32) (A4 := Nat → Int32) (A5 := Nat → Int32) (fun (k : Nat) (hh : Int64) (fp : Nat → Int32) (ft : Nat → Int32) (fl : Nat → Int32) => 3 - k) (fun (k : Nat) (hh : Int64) (fp : Nat → Int32) (ft : Nat → Int32) (fl : Nat → Int32) => (k ≤ 3) ∧ (hh = n_hf (n_cn v f) (n_hf (n_fo v f) (n_h5 v (n_h4 v (n_h3 v (n_d1 v kc) 3) 72) f) 5) k)) (fun (k : Nat) (hh : Int64) (fp : Nat → Int32) (ft : Nat → Int32) (fl : Nat → Int32) => [(0, .ref oX), (1, .long hh), (3, .int (nI f)), (4, .int (nI k))]) (fun (k : Nat) (hh : Int64) (fp : Nat → Int32) (ft : Nat → Int32) (fl : Nat → Int32) => [(oR, .inr (2, [.ref oS])), (oF, .inr (0, [.ref oS, .ref oN])), (oT, .inr (4, [.ref rc, .int (nI n)])), (rc, .inl (cI, 60, .inl cd)), (o2, .inr (1, [.ref oS, .ref q1, .ref q2, .ref q3])), (q1, .inl (cI, 72, .inl z1)), (q2, .inl (cI, 72, .inl z2)), (q3, .inl (cI, 72, .inl z3)), (oX, .inr (5, [.ref oS, .ref oR, .ref oN, .ref o2, .ref oF, .ref oT])), (oS, .inr (3, [.ref rv, .ref rs, .int (nI kc)])), (rv, .inl (cI, 385, .inl v)), (oN, .inr (1, [.ref oS, .ref rp, .ref rt, .ref rl])), (rp, .inl (cI, 72, .inl fp)), (rt, .inl (cI, 72, .inl ft)), (rl, .inl (cI, 72, .inl fl))]) (nL := 5) hK ?_ 0 hh fp ft fl ⟨(by omega), (by rw [ih1, show k = 5 by omega]; rfl)⟩ hP hD hS _ (lv_sub hl [1, 2, 3, 0] rfl)
            intro k hh fp ft fl hi_44 ih_43 H locs hP hD hS ls hl
            obtain ⟨ik, ih1⟩ := hi_44
            have hl : lv_has ls 5 [(0, .ref oX), (1, .long hh), (3, .int (nI f)), (4, .int (nI k))] := hl
            have hP : va_P (dC, dI) vwCl [(oR, .inr (2, [.ref oS])), (oF, .inr (0, [.ref oS, .ref oN])), (oT, .inr (4, [.ref rc, .int (nI n)])), (rc, .inl (cI, 60, .inl cd)), (o2, .inr (1, [.ref oS, .ref q1, .ref q2, .ref q3])), (q1, .inl (cI, 72, .inl z1)), (q2, .inl (cI, 72, .inl z2)), (q3, .inl (cI, 72, .inl z3)), (oX, .inr (5, [.ref oS, .ref oR, .ref oN, .ref o2, .ref oF, .ref oT])), (oS, .inr (3, [.ref rv, .ref rs, .int (nI kc)])), (rv, .inl (cI, 385, .inl v)), (oN, .inr (1, [.ref oS, .ref rp, .ref rt, .ref rl])), (rp, .inl (cI, 72, .inl fp)), (rt, .inl (cI, 72, .inl ft)), (rl, .inl (cI, 72, .inl fl))] H := hP
            have hD : va_D A [(oR, .inr (2, [.ref oS])), (oF, .inr (0, [.ref oS, .ref oN])), (oT, .inr (4, [.ref rc, .int (nI n)])), (rc, .inl (cI, 60, .inl cd)), (o2, .inr (1, [.ref oS, .ref q1, .ref q2, .ref q3])), (q1, .inl (cI, 72, .inl z1)), (q2, .inl (cI, 72, .inl z2)), (q3, .inl (cI, 72, .inl z3)), (oX, .inr (5, [.ref oS, .ref oR, .ref oN, .ref o2, .ref oF, .ref oT])), (oS, .inr (3, [.ref rv, .ref rs, .int (nI kc)])), (rv, .inl (cI, 385, .inl v)), (oN, .inr (1, [.ref oS, .ref rp, .ref rt, .ref rl])), (rp, .inl (cI, 72, .inl fp)), (rt, .inl (cI, 72, .inl ft)), (rl, .inl (cI, 72, .inl fl))] := hD
            refine lv_iload hx hb dX5_digest_160 (lv_at hl 3 rfl) ?_
            refine lv_iconst (v := 2) hx hb dX5_digest_162 (by decide) ?_
            refine lv_icmp_gt (tgt := 187) hx hb dX5_digest_163 (by decide) (fun c_45 => ?_) (fun c_45 => ?_)
            · skip
              have c_45 := kq_ltN (a := 2) (b := k) c_45 (by omega) (by omega)
              refine lv_iinc (v := nI (f + 1)) (lv' := [(3, .int (nI (f + 1))), (0, .ref oX), (1, .long hh), (4, .int (nI k))]) hx hb dX5_digest_187 hl (k := 2) rfl (nI_1 f) (by decide) rfl (fun ls hl => ?_)
              refine lv_goto (tgt := 122) hx hb dX5_digest_190 (by decide) ?_
              exact ih_16 (f + 1) hh fp ft fl ⟨(by omega), (by rw [ih1, show k = 3 by omega]; rfl)⟩ (by show 4 - (f + 1) < 4 - f; omega) _ _ hP hD hS _ (lv_sub hl [1, 2, 0] rfl)
            · skip
              have c_45 := kq_nltN (a := 2) (b := k) c_45 (by omega) (by omega)
              refine lv_ldc2 (v := 31) hx hb hown (hts (.constantLong RX5 226 (31)) (by decide +kernel)) dX5_digest_166 ?_
              refine lv_lload_n hx hb dX5_digest_169 rfl (lv_at hl 1 rfl) ?_
              refine lv_lmul hx hb dX5_digest_170 ?_
              refine lv_aload_n hx hb dX5_digest_171 rfl (lv_at hl 0 rfl) ?_
              refine lv_iload_n hx hb dX5_digest_172 rfl (lv_at hl 2 rfl) ?_
              refine lv_iload hx hb dX5_digest_173 (lv_at hl 3 rfl) ?_
              refine kq_callMi (wr := [(oR, .inr (2, [.ref oS])), (oT, .inr (4, [.ref rc, .int (nI n)])), (rc, .inl (cI, 60, .inl cd)), (o2, .inr (1, [.ref oS, .ref q1, .ref q2, .ref q3])), (q1, .inl (cI, 72, .inl z1)), (q2, .inl (cI, 72, .inl z2)), (q3, .inl (cI, 72, .inl z3))]) (va_runV (As := [.int (nI f), .int (nI k)]) (rest := [.long (31 * hh)]) ⟨hx, hb, hml, hown, hts⟩ (c_X5_contrast l dC dI cI H.size oX oS oR oN o2 oF oT rv rs kc rp rt rl v fp ft fl f k (by first | assumption | omega) (by first | assumption | omega) (by first | assumption | omega)) (cwV 2 hts gX5_digest_X5_contrast rfl rfl rfl (by decide +kernel) ⟨Nat.le_of_ble_eq_true rfl, Nat.le_of_ble_eq_true rfl⟩) (kq_preV (ci := 5) (q0 := 0) (hP.sub [8, 9, 10, 1, 11, 12, 13, 14] rfl) (hD.sub [8, 9, 10, 1, 11, 12, 13, 14] (by decide) rfl) hK rfl rfl) rfl rfl hl.1 rfl (lv_room (Nat.le_of_ble_eq_true rfl)) dX5_digest_175 ⟨Nat.le_of_ble_eq_true rfl, Nat.le_of_ble_eq_true rfl⟩) hP hD hS hA [8, 9, 10, 1, 11, 12, 13, 14] [0, 2, 3, 4, 5, 6, 7] rfl rfl (by decide) (by decide) (fun r_46 u_47 H locs hw_48 hP hD hS => ?_)
              obtain ⟨gp_49, gt_50, gl_51⟩ := u_47
              have hP : va_P (dC, dI) vwCl [(oR, .inr (2, [.ref oS])), (oT, .inr (4, [.ref rc, .int (nI n)])), (rc, .inl (cI, 60, .inl cd)), (o2, .inr (1, [.ref oS, .ref q1, .ref q2, .ref q3])), (q1, .inl (cI, 72, .inl z1)), (q2, .inl (cI, 72, .inl z2)), (q3, .inl (cI, 72, .inl z3)), (oX, .inr (5, [.ref oS, .ref oR, .ref oN, .ref o2, .ref oF, .ref oT])), (oS, .inr (3, [.ref rv, .ref rs, .int (nI kc)])), (rv, .inl (cI, 385, .inl v)), (oF, .inr (0, [.ref oS, .ref oN])), (oN, .inr (1, [.ref oS, .ref rp, .ref rt, .ref rl])), (rp, .inl (cI, 72, .inl gp_49)), (rt, .inl (cI, 72, .inl gt_50)), (rl, .inl (cI, 72, .inl gl_51))] H := hP
              have hD : va_D A [(oR, .inr (2, [.ref oS])), (oT, .inr (4, [.ref rc, .int (nI n)])), (rc, .inl (cI, 60, .inl cd)), (o2, .inr (1, [.ref oS, .ref q1, .ref q2, .ref q3])), (q1, .inl (cI, 72, .inl z1)), (q2, .inl (cI, 72, .inl z2)), (q3, .inl (cI, 72, .inl z3)), (oX, .inr (5, [.ref oS, .ref oR, .ref oN, .ref o2, .ref oF, .ref oT])), (oS, .inr (3, [.ref rv, .ref rs, .int (nI kc)])), (rv, .inl (cI, 385, .inl v)), (oF, .inr (0, [.ref oS, .ref oN])), (oN, .inr (1, [.ref oS, .ref rp, .ref rt, .ref rl])), (rp, .inl (cI, 72, .inl gp_49)), (rt, .inl (cI, 72, .inl gt_50)), (rl, .inl (cI, 72, .inl gl_51))] := hD
              obtain rfl := hw_48
              refine lv_i2l (v := (n_cn v f k).toInt64) hx hb dX5_digest_178 rfl ?_
              refine lv_ladd hx hb dX5_digest_179 ?_
              refine lv_lstore_n (lv' := [(1, .long ((31 * hh) + ((n_cn v f k).toInt64))), (0, .ref oX), (3, .int (nI f)), (4, .int (nI k))]) hx hb dX5_digest_180 rfl hl (by decide) rfl (fun ls hl => ?_)
              refine lv_iinc (v := nI (k + 1)) (lv' := [(4, .int (nI (k + 1))), (1, .long ((31 * hh) + ((n_cn v f k).toInt64))), (0, .ref oX), (3, .int (nI f))]) hx hb dX5_digest_181 hl (k := 3) rfl (nI_1 k) (by decide) rfl (fun ls hl => ?_)
              refine lv_goto (tgt := 160) hx hb dX5_digest_184 (by decide) ?_
              exact ih_43 (k + 1) ((31 * hh) + ((n_cn v f k).toInt64)) gp_49 gt_50 gl_51 ⟨(by omega), (by rw [n_hf, ← ih1]; rfl)⟩ (by show 3 - (k + 1) < 3 - k; omega) _ _ (hP.sub [0, 10, 1, 2, 3, 4, 5, 6, 7, 8, 9, 11, 12, 13, 14] rfl) (hD.sub [0, 10, 1, 2, 3, 4, 5, 6, 7, 8, 9, 11, 12, 13, 14] (by decide) rfl) hS _ (lv_sub hl [2, 1, 3, 0] rfl)
          · skip
            have c_42 := kq_nltN (a := 4) (b := k) c_42 (by omega) (by omega)
            refine lv_ldc2 (v := 31) hx hb hown (hts (.constantLong RX5 226 (31)) (by decide +kernel)) dX5_digest_136 ?_
            refine lv_lload_n hx hb dX5_digest_139 rfl (lv_at hl 1 rfl) ?_
            refine lv_lmul hx hb dX5_digest_140 ?_
            refine lv_aload_n hx hb dX5_digest_141 rfl (lv_at hl 0 rfl) ?_
            refine lv_iload_n hx hb dX5_digest_142 rfl (lv_at hl 2 rfl) ?_
            refine lv_iload hx hb dX5_digest_143 (lv_at hl 3 rfl) ?_
            refine kq_callMi (wr := [(oR, .inr (2, [.ref oS])), (oT, .inr (4, [.ref rc, .int (nI n)])), (rc, .inl (cI, 60, .inl cd)), (o2, .inr (1, [.ref oS, .ref q1, .ref q2, .ref q3])), (q1, .inl (cI, 72, .inl z1)), (q2, .inl (cI, 72, .inl z2)), (q3, .inl (cI, 72, .inl z3))]) (va_runV (As := [.int (nI f), .int (nI k)]) (rest := [.long (31 * hh)]) ⟨hx, hb, hml, hown, hts⟩ (c_X5_figureOf l dC dI cI H.size oX oS oR oN o2 oF oT rv rs kc rp rt rl v fp ft fl f k (by first | assumption | omega) (by first | assumption | omega) (by first | assumption | omega)) (cwV 2 hts gX5_digest_X5_figureOf rfl rfl rfl (by decide +kernel) ⟨Nat.le_of_ble_eq_true rfl, Nat.le_of_ble_eq_true rfl⟩) (kq_preV (ci := 5) (q0 := 0) (hP.sub [8, 9, 10, 1, 11, 12, 13, 14] rfl) (hD.sub [8, 9, 10, 1, 11, 12, 13, 14] (by decide) rfl) hK rfl rfl) rfl rfl hl.1 rfl (lv_room (Nat.le_of_ble_eq_true rfl)) dX5_digest_145 ⟨Nat.le_of_ble_eq_true rfl, Nat.le_of_ble_eq_true rfl⟩) hP hD hS hA [8, 9, 10, 1, 11, 12, 13, 14] [0, 2, 3, 4, 5, 6, 7] rfl rfl (by decide) (by decide) (fun r_52 u_53 H locs hw_54 hP hD hS => ?_)
            obtain ⟨gp_55, gt_56, gl_57⟩ := u_53
            have hP : va_P (dC, dI) vwCl [(oR, .inr (2, [.ref oS])), (oT, .inr (4, [.ref rc, .int (nI n)])), (rc, .inl (cI, 60, .inl cd)), (o2, .inr (1, [.ref oS, .ref q1, .ref q2, .ref q3])), (q1, .inl (cI, 72, .inl z1)), (q2, .inl (cI, 72, .inl z2)), (q3, .inl (cI, 72, .inl z3)), (oX, .inr (5, [.ref oS, .ref oR, .ref oN, .ref o2, .ref oF, .ref oT])), (oS, .inr (3, [.ref rv, .ref rs, .int (nI kc)])), (rv, .inl (cI, 385, .inl v)), (oF, .inr (0, [.ref oS, .ref oN])), (oN, .inr (1, [.ref oS, .ref rp, .ref rt, .ref rl])), (rp, .inl (cI, 72, .inl gp_55)), (rt, .inl (cI, 72, .inl gt_56)), (rl, .inl (cI, 72, .inl gl_57))] H := hP
            have hD : va_D A [(oR, .inr (2, [.ref oS])), (oT, .inr (4, [.ref rc, .int (nI n)])), (rc, .inl (cI, 60, .inl cd)), (o2, .inr (1, [.ref oS, .ref q1, .ref q2, .ref q3])), (q1, .inl (cI, 72, .inl z1)), (q2, .inl (cI, 72, .inl z2)), (q3, .inl (cI, 72, .inl z3)), (oX, .inr (5, [.ref oS, .ref oR, .ref oN, .ref o2, .ref oF, .ref oT])), (oS, .inr (3, [.ref rv, .ref rs, .int (nI kc)])), (rv, .inl (cI, 385, .inl v)), (oF, .inr (0, [.ref oS, .ref oN])), (oN, .inr (1, [.ref oS, .ref rp, .ref rt, .ref rl])), (rp, .inl (cI, 72, .inl gp_55)), (rt, .inl (cI, 72, .inl gt_56)), (rl, .inl (cI, 72, .inl gl_57))] := hD
            obtain rfl := hw_54
            refine lv_i2l (v := (n_fo v f k).toInt64) hx hb dX5_digest_148 rfl ?_
            refine lv_ladd hx hb dX5_digest_149 ?_
            refine lv_lstore_n (lv' := [(1, .long ((31 * hh) + ((n_fo v f k).toInt64))), (0, .ref oX), (3, .int (nI f)), (4, .int (nI k))]) hx hb dX5_digest_150 rfl hl (by decide) rfl (fun ls hl => ?_)
            refine lv_iinc (v := nI (k + 1)) (lv' := [(4, .int (nI (k + 1))), (1, .long ((31 * hh) + ((n_fo v f k).toInt64))), (0, .ref oX), (3, .int (nI f))]) hx hb dX5_digest_151 hl (k := 3) rfl (nI_1 k) (by decide) rfl (fun ls hl => ?_)
            refine lv_goto (tgt := 130) hx hb dX5_digest_154 (by decide) ?_
            exact ih_40 (k + 1) ((31 * hh) + ((n_fo v f k).toInt64)) gp_55 gt_56 gl_57 ⟨(by omega), (by rw [n_hf, ← ih1]; rfl)⟩ (by show 5 - (k + 1) < 5 - k; omega) _ _ (hP.sub [0, 10, 1, 2, 3, 4, 5, 6, 7, 8, 9, 11, 12, 13, 14] rfl) (hD.sub [0, 10, 1, 2, 3, 4, 5, 6, 7, 8, 9, 11, 12, 13, 14] (by decide) rfl) hS _ (lv_sub hl [2, 1, 3, 0] rfl)
      · skip
        have c_9 := kq_nleN (a := 3) (b := r) c_9 (by omega) (by omega)
        refine lv_iconst (v := 0) hx hb dX5_digest_64 (by decide) ?_
        refine lv_istore (lv' := [(4, .int 0), (0, .ref oX), (1, .long hh), (3, .int (nI r))]) hx hb dX5_digest_65 hl (by decide) rfl (fun ls hl => ?_)
        refine kq_loopM2 (A1 := Nat) (A2 := Int64) (fun (k : Nat) (hh : Int64) => 5 - k) (fun (k : Nat) (hh : Int64) => (k ≤ 5) ∧ (hh = n_hf (n_roll v r) (n_h3 v (n_d1 v kc) r) k)) (fun (k : Nat) (hh : Int64) => [(0, .ref oX), (1, .long hh), (3, .int (nI r)), (4, .int (nI k))]) (fun (k : Nat) (hh : Int64) => [(oX, .inr (5, [.ref oS, .ref oR, .ref oN, .ref o2, .ref oF, .ref oT])), (oS, .inr (3, [.ref rv, .ref rs, .int (nI kc)])), (rv, .inl (cI, 385, .inl v)), (oR, .inr (2, [.ref oS])), (oF, .inr (0, [.ref oS, .ref oN])), (oT, .inr (4, [.ref rc, .int (nI n)])), (rc, .inl (cI, 60, .inl cd)), (oN, .inr (1, [.ref oS, .ref rp, .ref rt, .ref rl])), (rp, .inl (cI, 72, .inl fp)), (rt, .inl (cI, 72, .inl ft)), (rl, .inl (cI, 72, .inl fl)), (o2, .inr (1, [.ref oS, .ref q1, .ref q2, .ref q3])), (q1, .inl (cI, 72, .inl z1)), (q2, .inl (cI, 72, .inl z2)), (q3, .inl (cI, 72, .inl z3))]) (nL := 5) hK ?_ 0 hh ⟨(by omega), (by rw [ih1]; rfl)⟩ hP hD hS _ (lv_sub hl [1, 2, 3, 0] rfl)
        intro k hh hi_59 ih_58 H locs hP hD hS ls hl
        obtain ⟨ik, ih1⟩ := hi_59
        have hl : lv_has ls 5 [(0, .ref oX), (1, .long hh), (3, .int (nI r)), (4, .int (nI k))] := hl
        have hP : va_P (dC, dI) vwCl [(oX, .inr (5, [.ref oS, .ref oR, .ref oN, .ref o2, .ref oF, .ref oT])), (oS, .inr (3, [.ref rv, .ref rs, .int (nI kc)])), (rv, .inl (cI, 385, .inl v)), (oR, .inr (2, [.ref oS])), (oF, .inr (0, [.ref oS, .ref oN])), (oT, .inr (4, [.ref rc, .int (nI n)])), (rc, .inl (cI, 60, .inl cd)), (oN, .inr (1, [.ref oS, .ref rp, .ref rt, .ref rl])), (rp, .inl (cI, 72, .inl fp)), (rt, .inl (cI, 72, .inl ft)), (rl, .inl (cI, 72, .inl fl)), (o2, .inr (1, [.ref oS, .ref q1, .ref q2, .ref q3])), (q1, .inl (cI, 72, .inl z1)), (q2, .inl (cI, 72, .inl z2)), (q3, .inl (cI, 72, .inl z3))] H := hP
        have hD : va_D A [(oX, .inr (5, [.ref oS, .ref oR, .ref oN, .ref o2, .ref oF, .ref oT])), (oS, .inr (3, [.ref rv, .ref rs, .int (nI kc)])), (rv, .inl (cI, 385, .inl v)), (oR, .inr (2, [.ref oS])), (oF, .inr (0, [.ref oS, .ref oN])), (oT, .inr (4, [.ref rc, .int (nI n)])), (rc, .inl (cI, 60, .inl cd)), (oN, .inr (1, [.ref oS, .ref rp, .ref rt, .ref rl])), (rp, .inl (cI, 72, .inl fp)), (rt, .inl (cI, 72, .inl ft)), (rl, .inl (cI, 72, .inl fl)), (o2, .inr (1, [.ref oS, .ref q1, .ref q2, .ref q3])), (q1, .inl (cI, 72, .inl z1)), (q2, .inl (cI, 72, .inl z2)), (q3, .inl (cI, 72, .inl z3))] := hD
        refine lv_iload hx hb dX5_digest_67 (lv_at hl 3 rfl) ?_
        refine lv_iconst (v := 4) hx hb dX5_digest_69 (by decide) ?_
        refine lv_icmp_gt (tgt := 94) hx hb dX5_digest_70 (by decide) (fun c_60 => ?_) (fun c_60 => ?_)
        · skip
          have c_60 := kq_ltN (a := 4) (b := k) c_60 (by omega) (by omega)
          refine lv_ldc2 (v := 31) hx hb hown (hts (.constantLong RX5 226 (31)) (by decide +kernel)) dX5_digest_94 ?_
          refine lv_lload_n hx hb dX5_digest_97 rfl (lv_at hl 1 rfl) ?_
          refine lv_lmul hx hb dX5_digest_98 ?_
          refine lv_aload_n hx hb dX5_digest_99 rfl (lv_at hl 0 rfl) ?_
          refine lv_iload_n hx hb dX5_digest_100 rfl (lv_at hl 2 rfl) ?_
          refine lv_iconst (v := 0) hx hb dX5_digest_101 (by decide) ?_
          refine kq_callMi (wr := [(oR, .inr (2, [.ref oS])), (oT, .inr (4, [.ref rc, .int (nI n)])), (rc, .inl (cI, 60, .inl cd)), (o2, .inr (1, [.ref oS, .ref q1, .ref q2, .ref q3])), (q1, .inl (cI, 72, .inl z1)), (q2, .inl (cI, 72, .inl z2)), (q3, .inl (cI, 72, .inl z3))]) (va_runV (As := [.int (nI r), .int 0]) (rest := [.long (31 * hh)]) ⟨hx, hb, hml, hown, hts⟩ (c_X5_bestPhase l dC dI cI H.size oX oS oR oN o2 oF oT rv rs kc rp rt rl v fp ft fl r 0 (by first | assumption | omega) (by first | assumption | omega) (by first | assumption | omega)) (cwV 2 hts gX5_digest_X5_bestPhase rfl rfl rfl (by decide +kernel) ⟨Nat.le_of_ble_eq_true rfl, Nat.le_of_ble_eq_true rfl⟩) (kq_preV (ci := 5) (q0 := 0) (hP.sub [0, 1, 2, 4, 7, 8, 9, 10] rfl) (hD.sub [0, 1, 2, 4, 7, 8, 9, 10] (by decide) rfl) hK rfl rfl) rfl rfl hl.1 rfl (lv_room (Nat.le_of_ble_eq_true rfl)) dX5_digest_102 ⟨Nat.le_of_ble_eq_true rfl, Nat.le_of_ble_eq_true rfl⟩) hP hD hS hA [0, 1, 2, 4, 7, 8, 9, 10] [3, 5, 6, 11, 12, 13, 14] rfl rfl (by decide) (by decide) (fun r_61 u_62 H locs hw_63 hP hD hS => ?_)
          obtain ⟨gp_64, gt_65, gl_66⟩ := u_62
          have hP : va_P (dC, dI) vwCl [(oR, .inr (2, [.ref oS])), (oT, .inr (4, [.ref rc, .int (nI n)])), (rc, .inl (cI, 60, .inl cd)), (o2, .inr (1, [.ref oS, .ref q1, .ref q2, .ref q3])), (q1, .inl (cI, 72, .inl z1)), (q2, .inl (cI, 72, .inl z2)), (q3, .inl (cI, 72, .inl z3)), (oX, .inr (5, [.ref oS, .ref oR, .ref oN, .ref o2, .ref oF, .ref oT])), (oS, .inr (3, [.ref rv, .ref rs, .int (nI kc)])), (rv, .inl (cI, 385, .inl v)), (oF, .inr (0, [.ref oS, .ref oN])), (oN, .inr (1, [.ref oS, .ref rp, .ref rt, .ref rl])), (rp, .inl (cI, 72, .inl gp_64)), (rt, .inl (cI, 72, .inl gt_65)), (rl, .inl (cI, 72, .inl gl_66))] H := hP
          have hD : va_D A [(oR, .inr (2, [.ref oS])), (oT, .inr (4, [.ref rc, .int (nI n)])), (rc, .inl (cI, 60, .inl cd)), (o2, .inr (1, [.ref oS, .ref q1, .ref q2, .ref q3])), (q1, .inl (cI, 72, .inl z1)), (q2, .inl (cI, 72, .inl z2)), (q3, .inl (cI, 72, .inl z3)), (oX, .inr (5, [.ref oS, .ref oR, .ref oN, .ref o2, .ref oF, .ref oT])), (oS, .inr (3, [.ref rv, .ref rs, .int (nI kc)])), (rv, .inl (cI, 385, .inl v)), (oF, .inr (0, [.ref oS, .ref oN])), (oN, .inr (1, [.ref oS, .ref rp, .ref rt, .ref rl])), (rp, .inl (cI, 72, .inl gp_64)), (rt, .inl (cI, 72, .inl gt_65)), (rl, .inl (cI, 72, .inl gl_66))] := hD
          obtain rfl := hw_63
          refine lv_i2l (v := (n_bph v r 0).toInt64) hx hb dX5_digest_105 rfl ?_
          refine lv_ladd hx hb dX5_digest_106 ?_
          refine lv_lstore_n (lv' := [(1, .long ((31 * hh) + ((n_bph v r 0).toInt64))), (0, .ref oX), (3, .int (nI r)), (4, .int (nI k))]) hx hb dX5_digest_107 rfl hl (by decide) rfl (fun ls hl => ?_)
          refine lv_iinc (v := nI (r + 1)) (lv' := [(3, .int (nI (r + 1))), (1, .long ((31 * hh) + ((n_bph v r 0).toInt64))), (0, .ref oX), (4, .int (nI k))]) hx hb dX5_digest_108 hl (k := 2) rfl (nI_1 r) (by decide) rfl (fun ls hl => ?_)
          refine lv_goto (tgt := 59) hx hb dX5_digest_111 (by decide) ?_
          exact ih_7 (r + 1) ((31 * hh) + ((n_bph v r 0).toInt64)) gp_64 gt_65 gl_66 ⟨(by omega), (by rw [ih1, show k = 5 by omega]; rfl)⟩ (by show 3 - (r + 1) < 3 - r; omega) _ _ (hP.sub [7, 8, 9, 0, 10, 1, 2, 11, 12, 13, 14, 3, 4, 5, 6] rfl) (hD.sub [7, 8, 9, 0, 10, 1, 2, 11, 12, 13, 14, 3, 4, 5, 6] (by decide) rfl) hS _ (lv_sub hl [2, 1, 0] rfl)
        · skip
          have c_60 := kq_nltN (a := 4) (b := k) c_60 (by omega) (by omega)
          refine lv_ldc2 (v := 31) hx hb hown (hts (.constantLong RX5 226 (31)) (by decide +kernel)) dX5_digest_73 ?_
          refine lv_lload_n hx hb dX5_digest_76 rfl (lv_at hl 1 rfl) ?_
          refine lv_lmul hx hb dX5_digest_77 ?_
          refine lv_aload_n hx hb dX5_digest_78 rfl (lv_at hl 0 rfl) ?_
          refine lv_iload_n hx hb dX5_digest_79 rfl (lv_at hl 2 rfl) ?_
          refine lv_iload hx hb dX5_digest_80 (lv_at hl 3 rfl) ?_
          refine kq_callMi (wr := [(oF, .inr (0, [.ref oS, .ref oN])), (oT, .inr (4, [.ref rc, .int (nI n)])), (rc, .inl (cI, 60, .inl cd)), (oN, .inr (1, [.ref oS, .ref rp, .ref rt, .ref rl])), (rp, .inl (cI, 72, .inl fp)), (rt, .inl (cI, 72, .inl ft)), (rl, .inl (cI, 72, .inl fl)), (o2, .inr (1, [.ref oS, .ref q1, .ref q2, .ref q3])), (q1, .inl (cI, 72, .inl z1)), (q2, .inl (cI, 72, .inl z2)), (q3, .inl (cI, 72, .inl z3))]) (va_runV (As := [.int (nI r), .int (nI k)]) (rest := [.long (31 * hh)]) ⟨hx, hb, hml, hown, hts⟩ (c_X5_roll l dC dI cI H.size oX oS oR oN o2 oF oT rv rs kc v r k (by first | assumption | omega) (by first | assumption | omega) (by first | assumption | omega)) (cwV 2 hts gX5_digest_X5_roll rfl rfl rfl (by decide +kernel) ⟨Nat.le_of_ble_eq_true rfl, Nat.le_of_ble_eq_true rfl⟩) (kq_preV (ci := 5) (q0 := 0) (hP.sub [0, 1, 2, 3] rfl) (hD.sub [0, 1, 2, 3] (by decide) rfl) hK rfl rfl) rfl rfl hl.1 rfl (lv_room (Nat.le_of_ble_eq_true rfl)) dX5_digest_82 ⟨Nat.le_of_ble_eq_true rfl, Nat.le_of_ble_eq_true rfl⟩) hP hD hS hA [0, 1, 2, 3] [4, 5, 6, 7, 8, 9, 10, 11, 12, 13, 14] rfl rfl (by decide) (by decide) (fun r_67 u_68 H locs hw_69 hP hD hS => ?_)
          have hP : va_P (dC, dI) vwCl [(oF, .inr (0, [.ref oS, .ref oN])), (oT, .inr (4, [.ref rc, .int (nI n)])), (rc, .inl (cI, 60, .inl cd)), (oN, .inr (1, [.ref oS, .ref rp, .ref rt, .ref rl])), (rp, .inl (cI, 72, .inl fp)), (rt, .inl (cI, 72, .inl ft)), (rl, .inl (cI, 72, .inl fl)), (o2, .inr (1, [.ref oS, .ref q1, .ref q2, .ref q3])), (q1, .inl (cI, 72, .inl z1)), (q2, .inl (cI, 72, .inl z2)), (q3, .inl (cI, 72, .inl z3)), (oX, .inr (5, [.ref oS, .ref oR, .ref oN, .ref o2, .ref oF, .ref oT])), (oS, .inr (3, [.ref rv, .ref rs, .int (nI kc)])), (rv, .inl (cI, 385, .inl v)), (oR, .inr (2, [.ref oS]))] H := hP
          have hD : va_D A [(oF, .inr (0, [.ref oS, .ref oN])), (oT, .inr (4, [.ref rc, .int (nI n)])), (rc, .inl (cI, 60, .inl cd)), (oN, .inr (1, [.ref oS, .ref rp, .ref rt, .ref rl])), (rp, .inl (cI, 72, .inl fp)), (rt, .inl (cI, 72, .inl ft)), (rl, .inl (cI, 72, .inl fl)), (o2, .inr (1, [.ref oS, .ref q1, .ref q2, .ref q3])), (q1, .inl (cI, 72, .inl z1)), (q2, .inl (cI, 72, .inl z2)), (q3, .inl (cI, 72, .inl z3)), (oX, .inr (5, [.ref oS, .ref oR, .ref oN, .ref o2, .ref oF, .ref oT])), (oS, .inr (3, [.ref rv, .ref rs, .int (nI kc)])), (rv, .inl (cI, 385, .inl v)), (oR, .inr (2, [.ref oS]))] := hD
          obtain rfl := hw_69
          refine lv_i2l (v := (n_roll v r k).toInt64) hx hb dX5_digest_85 rfl ?_
          refine lv_ladd hx hb dX5_digest_86 ?_
          refine lv_lstore_n (lv' := [(1, .long ((31 * hh) + ((n_roll v r k).toInt64))), (0, .ref oX), (3, .int (nI r)), (4, .int (nI k))]) hx hb dX5_digest_87 rfl hl (by decide) rfl (fun ls hl => ?_)
          refine lv_iinc (v := nI (k + 1)) (lv' := [(4, .int (nI (k + 1))), (1, .long ((31 * hh) + ((n_roll v r k).toInt64))), (0, .ref oX), (3, .int (nI r))]) hx hb dX5_digest_88 hl (k := 3) rfl (nI_1 k) (by decide) rfl (fun ls hl => ?_)
          refine lv_goto (tgt := 67) hx hb dX5_digest_91 (by decide) ?_
          exact ih_58 (k + 1) ((31 * hh) + ((n_roll v r k).toInt64)) ⟨(by omega), (by rw [n_hf, ← ih1]; rfl)⟩ (by show 5 - (k + 1) < 5 - k; omega) _ _ (hP.sub [11, 12, 13, 14, 0, 1, 2, 3, 4, 5, 6, 7, 8, 9, 10] rfl) (hD.sub [11, 12, 13, 14, 0, 1, 2, 3, 4, 5, 6, 7, 8, 9, 10] (by decide) rfl) hS _ (lv_sub hl [2, 1, 3, 0] rfl)
    · skip
      have c_6 := kq_nleN (a := 3) (b := k) c_6 (by omega) (by omega)
      refine lv_ldc2 (v := 31) hx hb hown (hts (.constantLong RX5 226 (31)) (by decide +kernel)) dX5_digest_38 ?_
      refine lv_lload_n hx hb dX5_digest_41 rfl (lv_at hl 1 rfl) ?_
      refine lv_lmul hx hb dX5_digest_42 ?_
      refine lv_aload_n hx hb dX5_digest_43 rfl (lv_at hl 0 rfl) ?_
      refine lv_iload_n hx hb dX5_digest_44 rfl (lv_at hl 2 rfl) ?_
      refine kq_callMi (wr := [(oR, .inr (2, [.ref oS])), (oF, .inr (0, [.ref oS, .ref oN])), (oT, .inr (4, [.ref rc, .int (nI n)])), (rc, .inl (cI, 60, .inl cd)), (oN, .inr (1, [.ref oS, .ref rp, .ref rt, .ref rl])), (rp, .inl (cI, 72, .inl fp)), (rt, .inl (cI, 72, .inl ft)), (rl, .inl (cI, 72, .inl fl)), (o2, .inr (1, [.ref oS, .ref q1, .ref q2, .ref q3])), (q1, .inl (cI, 72, .inl z1)), (q2, .inl (cI, 72, .inl z2)), (q3, .inl (cI, 72, .inl z3))]) (va_runV (As := [.int (nI k)]) (rest := [.long (31 * hh)]) ⟨hx, hb, hml, hown, hts⟩ (c_X5_setting l dC dI cI H.size oX oS oR oN o2 oF oT rv rs kc v k (by first | assumption | omega)) (cwV 1 hts gX5_digest_X5_setting rfl rfl rfl (by decide +kernel) ⟨Nat.le_of_ble_eq_true rfl, Nat.le_of_ble_eq_true rfl⟩) (kq_preV (ci := 5) (q0 := 0) (hP.sub [0, 1, 2] rfl) (hD.sub [0, 1, 2] (by decide) rfl) hK rfl rfl) rfl rfl hl.1 rfl (lv_room (Nat.le_of_ble_eq_true rfl)) dX5_digest_45 ⟨Nat.le_of_ble_eq_true rfl, Nat.le_of_ble_eq_true rfl⟩) hP hD hS hA [0, 1, 2] [3, 4, 5, 6, 7, 8, 9, 10, 11, 12, 13, 14] rfl rfl (by decide) (by decide) (fun r_70 u_71 H locs hw_72 hP hD hS => ?_)
      have hP : va_P (dC, dI) vwCl [(oR, .inr (2, [.ref oS])), (oF, .inr (0, [.ref oS, .ref oN])), (oT, .inr (4, [.ref rc, .int (nI n)])), (rc, .inl (cI, 60, .inl cd)), (oN, .inr (1, [.ref oS, .ref rp, .ref rt, .ref rl])), (rp, .inl (cI, 72, .inl fp)), (rt, .inl (cI, 72, .inl ft)), (rl, .inl (cI, 72, .inl fl)), (o2, .inr (1, [.ref oS, .ref q1, .ref q2, .ref q3])), (q1, .inl (cI, 72, .inl z1)), (q2, .inl (cI, 72, .inl z2)), (q3, .inl (cI, 72, .inl z3)), (oX, .inr (5, [.ref oS, .ref oR, .ref oN, .ref o2, .ref oF, .ref oT])), (oS, .inr (3, [.ref rv, .ref rs, .int (nI kc)])), (rv, .inl (cI, 385, .inl v))] H := hP
      have hD : va_D A [(oR, .inr (2, [.ref oS])), (oF, .inr (0, [.ref oS, .ref oN])), (oT, .inr (4, [.ref rc, .int (nI n)])), (rc, .inl (cI, 60, .inl cd)), (oN, .inr (1, [.ref oS, .ref rp, .ref rt, .ref rl])), (rp, .inl (cI, 72, .inl fp)), (rt, .inl (cI, 72, .inl ft)), (rl, .inl (cI, 72, .inl fl)), (o2, .inr (1, [.ref oS, .ref q1, .ref q2, .ref q3])), (q1, .inl (cI, 72, .inl z1)), (q2, .inl (cI, 72, .inl z2)), (q3, .inl (cI, 72, .inl z3)), (oX, .inr (5, [.ref oS, .ref oR, .ref oN, .ref o2, .ref oF, .ref oT])), (oS, .inr (3, [.ref rv, .ref rs, .int (nI kc)])), (rv, .inl (cI, 385, .inl v))] := hD
      obtain rfl := hw_72
      refine lv_i2l (v := (v (382 + k)).toInt64) hx hb dX5_digest_48 rfl ?_
      refine lv_ladd hx hb dX5_digest_49 ?_
      refine lv_lstore_n (lv' := [(1, .long ((31 * hh) + ((v (382 + k)).toInt64))), (0, .ref oX), (3, .int (nI k))]) hx hb dX5_digest_50 rfl hl (by decide) rfl (fun ls hl => ?_)
      refine lv_iinc (v := nI (k + 1)) (lv' := [(3, .int (nI (k + 1))), (1, .long ((31 * hh) + ((v (382 + k)).toInt64))), (0, .ref oX)]) hx hb dX5_digest_51 hl (k := 2) rfl (nI_1 k) (by decide) rfl (fun ls hl => ?_)
      refine lv_goto (tgt := 33) hx hb dX5_digest_54 (by decide) ?_
      exact ih_4 (k + 1) ((31 * hh) + ((v (382 + k)).toInt64)) ⟨(by omega), (by rw [n_hf, ← ih1]; rfl)⟩ (by show 3 - (k + 1) < 3 - k; omega) _ _ (hP.sub [12, 13, 14, 0, 1, 2, 3, 4, 5, 6, 7, 8, 9, 10, 11] rfl) (hD.sub [12, 13, 14, 0, 1, 2, 3, 4, 5, 6, 7, 8, 9, 10, 11] (by decide) rfl) hS _ (lv_sub hl [2, 1, 0] rfl)
  · skip
    have c_3 := kq_nltN (a := 8) (b := k) c_3 (by omega) (by omega)
    refine lv_ldc2 (v := 31) hx hb hown (hts (.constantLong RX5 226 (31)) (by decide +kernel)) dX5_digest_12 ?_
    refine lv_lload_n hx hb dX5_digest_15 rfl (lv_at hl 1 rfl) ?_
    refine lv_lmul hx hb dX5_digest_16 ?_
    refine lv_aload_n hx hb dX5_digest_17 rfl (lv_at hl 0 rfl) ?_
    refine lv_iload_n hx hb dX5_digest_18 rfl (lv_at hl 2 rfl) ?_
    refine kq_callMi (wr := [(oT, .inr (4, [.ref rc, .int (nI n)])), (rc, .inl (cI, 60, .inl cd))]) (va_runV (As := [.int (nI k)]) (rest := [.long (31 * hh)]) ⟨hx, hb, hml, hown, hts⟩ (c_X5_count l dC dI cI H.size oX oS oR oN o2 oF oT rv rs kc rp rt rl q1 q2 q3 v fp ft fl z1 z2 z3 k (by first | assumption | omega) (by first | assumption | omega)) (cwV 1 hts gX5_digest_X5_count rfl rfl rfl (by decide +kernel) ⟨Nat.le_of_ble_eq_true rfl, Nat.le_of_ble_eq_true rfl⟩) (kq_preV (ci := 5) (q0 := 0) (hP.sub [0, 1, 2, 3, 4, 7, 8, 9, 10, 11, 12, 13, 14] rfl) (hD.sub [0, 1, 2, 3, 4, 7, 8, 9, 10, 11, 12, 13, 14] (by decide) rfl) hK rfl rfl) rfl rfl hl.1 rfl (lv_room (Nat.le_of_ble_eq_true rfl)) dX5_digest_19 ⟨Nat.le_of_ble_eq_true rfl, Nat.le_of_ble_eq_true rfl⟩) hP hD hS hA [0, 1, 2, 3, 4, 7, 8, 9, 10, 11, 12, 13, 14] [5, 6] rfl rfl (by decide) (by decide) (fun r_73 u_74 H locs hw_75 hP hD hS => ?_)
    obtain ⟨gp_76, gt_77, gl_78, y1_79, y2_80, y3_81⟩ := u_74
    have hP : va_P (dC, dI) vwCl [(oT, .inr (4, [.ref rc, .int (nI n)])), (rc, .inl (cI, 60, .inl cd)), (oX, .inr (5, [.ref oS, .ref oR, .ref oN, .ref o2, .ref oF, .ref oT])), (oS, .inr (3, [.ref rv, .ref rs, .int (nI kc)])), (rv, .inl (cI, 385, .inl v)), (oR, .inr (2, [.ref oS])), (oF, .inr (0, [.ref oS, .ref oN])), (oN, .inr (1, [.ref oS, .ref rp, .ref rt, .ref rl])), (rp, .inl (cI, 72, .inl gp_76)), (rt, .inl (cI, 72, .inl gt_77)), (rl, .inl (cI, 72, .inl gl_78)), (o2, .inr (1, [.ref oS, .ref q1, .ref q2, .ref q3])), (q1, .inl (cI, 72, .inl y1_79)), (q2, .inl (cI, 72, .inl y2_80)), (q3, .inl (cI, 72, .inl y3_81))] H := hP
    have hD : va_D A [(oT, .inr (4, [.ref rc, .int (nI n)])), (rc, .inl (cI, 60, .inl cd)), (oX, .inr (5, [.ref oS, .ref oR, .ref oN, .ref o2, .ref oF, .ref oT])), (oS, .inr (3, [.ref rv, .ref rs, .int (nI kc)])), (rv, .inl (cI, 385, .inl v)), (oR, .inr (2, [.ref oS])), (oF, .inr (0, [.ref oS, .ref oN])), (oN, .inr (1, [.ref oS, .ref rp, .ref rt, .ref rl])), (rp, .inl (cI, 72, .inl gp_76)), (rt, .inl (cI, 72, .inl gt_77)), (rl, .inl (cI, 72, .inl gl_78)), (o2, .inr (1, [.ref oS, .ref q1, .ref q2, .ref q3])), (q1, .inl (cI, 72, .inl y1_79)), (q2, .inl (cI, 72, .inl y2_80)), (q3, .inl (cI, 72, .inl y3_81))] := hD
    obtain rfl := hw_75
    refine lv_i2l (v := (n_cnt v kc k).toInt64) hx hb dX5_digest_22 rfl ?_
    refine lv_ladd hx hb dX5_digest_23 ?_
    refine lv_lstore_n (lv' := [(1, .long ((31 * hh) + ((n_cnt v kc k).toInt64))), (0, .ref oX), (3, .int (nI k))]) hx hb dX5_digest_24 rfl hl (by decide) rfl (fun ls hl => ?_)
    refine lv_iinc (v := nI (k + 1)) (lv' := [(3, .int (nI (k + 1))), (1, .long ((31 * hh) + ((n_cnt v kc k).toInt64))), (0, .ref oX)]) hx hb dX5_digest_25 hl (k := 2) rfl (nI_1 k) (by decide) rfl (fun ls hl => ?_)
    refine lv_goto (tgt := 6) hx hb dX5_digest_28 (by decide) ?_
    exact ih_1 (k + 1) ((31 * hh) + ((n_cnt v kc k).toInt64)) gp_76 gt_77 gl_78 y1_79 y2_80 y3_81 ⟨(by omega), (by rw [n_hf, ← ih1]; rfl)⟩ (by show 9 - (k + 1) < 9 - k; omega) _ _ (hP.sub [2, 3, 4, 5, 6, 0, 1, 7, 8, 9, 10, 11, 12, 13, 14] rfl) (hD.sub [2, 3, 4, 5, 6, 0, 1, 7, 8, 9, 10, 11, 12, 13, 14] (by decide) rfl) hS _ (lv_sub hl [2, 1, 0] rfl)
