set_option maxHeartbeats 4000000 in
set_option maxRecDepth 100000 in
theorem c_X6_bitsOf_0 (l : Launch) (dC : Nat → ClassId) (dI : Nat → Nat → Nat) (cI : ClassId) (sz : Nat)   : Met l yX6_bitsOf wsX6_bitsOf ({ frames := 0, cells := 0, slots := 0, locals := 0 }) (kq_M dC dI cI [.double 0] sz []) (va_Ql (fun (r : Int64) (u : Unit) => r = 0) (kq_B dC dI (va_A [] sz) (fun u : Unit => [])) (va_A [] sz)) 0 0 (va_A [] sz) := by
  refine kq_startM (cc := cX6_bitsOf) (maxL := 6) (ret := (some .long)) (by decide) rfl (Nat.le_of_ble_eq_true rfl) ?_
  intro p e s m below meth c hx hb hr hml hown hlocks hts hsz hA hP hD hS hK hnm ls hl
  subst hsz
  generalize hAe : va_A [] s.heap.size = A at hA hD hS ⊢
  have hown : s.vm.findClass RX6 = some m.cls := hown
  have hl : lv_has ls 6 [(0, .double 0)] := hl
  refine lv_dload_n hx hb dX6_bitsOf_0 rfl (lv_at hl 0 rfl) ?_
  refine lv_dconst0 hx hb dX6_bitsOf_1 ?_
  refine lv_dcmp hx hb dX6_bitsOf_2 ?_
  refine lv_if_ne (tgt := 8) hx hb dX6_bitsOf_3 (by decide) (fun c_1 => ?_) (fun c_1 => ?_)
  · skip
    exact absurd (by decide +kernel) c_1
  · skip
    refine lv_lconst (v := 0) hx hb dX6_bitsOf_6 (by decide) ?_
    exact kq_retMl () hx hb hr hlocks hP hD hS dX6_bitsOf_7 (by rfl)
set_option maxHeartbeats 4000000 in
set_option maxRecDepth 100000 in
theorem c_X6_bitsOf_p (l : Launch) (dC : Nat → ClassId) (dI : Nat → Nat → Nat) (cI : ClassId) (sz : Nat) (d : UInt64) (hd : n_OK d = true) : Met l yX6_bitsOf wsX6_bitsOf ({ frames := 0, cells := 0, slots := 0, locals := 0 }) (kq_M dC dI cI [.double d] sz []) (va_Ql (fun (r : Int64) (u : Unit) => r = n_bs1 d) (kq_B dC dI (va_A [] sz) (fun u : Unit => [])) (va_A [] sz)) 0 0 (va_A [] sz) := by
  refine kq_startM (cc := cX6_bitsOf) (maxL := 6) (ret := (some .long)) (by decide) rfl (Nat.le_of_ble_eq_true rfl) ?_
  intro p e s m below meth c hx hb hr hml hown hlocks hts hsz hA hP hD hS hK hnm ls hl
  subst hsz
  generalize hAe : va_A [] s.heap.size = A at hA hD hS ⊢
  have hown : s.vm.findClass RX6 = some m.cls := hown
  have hl : lv_has ls 6 [(0, .double d)] := hl
  have hB := n_OK_e hd
  have h6 := hB.2.2.2.2.1
  refine lv_dload_n hx hb dX6_bitsOf_0 rfl (lv_at hl 0 rfl) ?_
  refine lv_dconst0 hx hb dX6_bitsOf_1 ?_
  refine lv_dcmp hx hb dX6_bitsOf_2 ?_
  refine lv_if_ne (tgt := 8) hx hb dX6_bitsOf_3 (by decide) (fun c_1 => ?_) (fun c_1 => ?_)
  · skip
    refine lv_dload_n hx hb dX6_bitsOf_8 rfl (lv_at hl 0 rfl) ?_
    refine lv_dstore_n (lv' := [(2, .double d), (0, .double d)]) hx hb dX6_bitsOf_9 rfl hl (by decide) rfl (fun ls hl => ?_)
    refine lv_ldc2 (v := 1023) hx hb hown (hts (.constantLong RX6 236 (1023)) (by decide +kernel)) dX6_bitsOf_10 ?_
    refine lv_lstore (lv' := [(4, .long 1023), (2, .double d), (0, .double d)]) hx hb dX6_bitsOf_13 hl (by decide) rfl (fun ls hl => ?_)
    refine lv_dload_n hx hb dX6_bitsOf_15 rfl (lv_at hl 1 rfl) ?_
    refine lv_ldc2d (v := 4611686018427387904) hx hb hown (hts (.constantDouble RX6 238 (4611686018427387904)) (by decide +kernel)) dX6_bitsOf_16 ?_
    refine lv_dcmp hx hb dX6_bitsOf_19 ?_
    refine lv_if_lt (tgt := 38) hx hb dX6_bitsOf_20 (by decide) (fun c_2 => ?_) (fun c_2 => ?_)
    · skip
      refine kq_loopM1 (A1 := Nat) (fun (k : Nat) => n_tt d - k) (fun (k : Nat) => (k ≤ n_tt d)) (fun (k : Nat) => [(0, .double d), (2, .double (n_dn d k)), (4, .long (n_ex k))]) (fun (k : Nat) => []) (nL := 6) hK ?_ 0 (by omega) hP hD hS _ (lv_sub hl [2, 1, 0] rfl)
      intro k hi_4 ih_3 H locs hP hD hS ls hl
      have ik : k ≤ n_tt d := hi_4
      have hl : lv_has ls 6 [(0, .double d), (2, .double (n_dn d k)), (4, .long (n_ex k))] := hl
      have hP : va_P (dC, dI) vwCl [] H := hP
      have hD : va_D A [] := hD
      refine lv_dload_n hx hb dX6_bitsOf_38 rfl (lv_at hl 1 rfl) ?_
      refine lv_dconst1 hx hb dX6_bitsOf_39 ?_
      refine lv_dcmp hx hb dX6_bitsOf_40 ?_
      refine lv_if_ge (tgt := 59) hx hb dX6_bitsOf_41 (by decide) (fun c_5 => ?_) (fun c_5 => ?_)
      · skip
        have hkt : k = n_tt d := Nat.le_antisymm ik (Nat.le_of_not_lt fun q => absurd c_5 (Int32.not_le.mpr (hB.2.1 k q)))
        refine lv_lload hx hb dX6_bitsOf_59 (lv_at hl 2 rfl) ?_
        refine lv_bipush (v := 52) hx hb dX6_bitsOf_61 (by decide) ?_
        refine lv_lshl (v := (n_ex k) <<< ((52 : Int32).toInt64 &&& 63)) hx hb dX6_bitsOf_63 rfl ?_
        refine lv_dload_n hx hb dX6_bitsOf_64 rfl (lv_at hl 1 rfl) ?_
        refine lv_ldc2d (v := 4841369599423283200) hx hb hown (hts (.constantDouble RX6 240 (4841369599423283200)) (by decide +kernel)) dX6_bitsOf_65 ?_
        refine lv_dmul hx hb dX6_bitsOf_68 (by rw [hkt]; exact hB.2.2.2.1) ?_
        refine lv_d2l hx hb dX6_bitsOf_69 ?_
        refine lv_ladd hx hb dX6_bitsOf_70 ?_
        refine lv_ldc2 (v := 4503599627370496) hx hb hown (hts (.constantLong RX6 242 (4503599627370496)) (by decide +kernel)) dX6_bitsOf_71 ?_
        refine lv_lsub hx hb dX6_bitsOf_74 ?_
        exact kq_retMl () hx hb hr hlocks hP hD hS dX6_bitsOf_75 (by first | (rw [n_bs1, ← hkt, Int64.sub_eq_add_neg, Int64.sub_eq_add_neg, Int64.add_assoc]; done) | (rw [n_bs1, ← hkt]; grind))
      · skip
        have hkt : k < n_tt d := Nat.lt_of_le_of_ne ik (fun q => c_5 (by rw [q]; exact Int32.not_lt.mp hB.2.2.1))
        refine lv_dload_n hx hb dX6_bitsOf_44 rfl (lv_at hl 1 rfl) ?_
        refine lv_ldc2d (v := 4611686018427387904) hx hb hown (hts (.constantDouble RX6 238 (4611686018427387904)) (by decide +kernel)) dX6_bitsOf_45 ?_
        refine lv_dmul hx hb dX6_bitsOf_48 (hB.1 (k + 1) (by omega)) ?_
        refine lv_dstore_n (lv' := [(2, .double (FP.dmul (n_dn d k) 4611686018427387904)), (0, .double d), (4, .long (n_ex k))]) hx hb dX6_bitsOf_49 rfl hl (by decide) rfl (fun ls hl => ?_)
        refine lv_lload hx hb dX6_bitsOf_50 (lv_at hl 2 rfl) ?_
        refine lv_lconst (v := 1) hx hb dX6_bitsOf_52 (by decide) ?_
        refine lv_lsub hx hb dX6_bitsOf_53 ?_
        refine lv_lstore (lv' := [(4, .long ((n_ex k) - 1)), (2, .double (FP.dmul (n_dn d k) 4611686018427387904)), (0, .double d)]) hx hb dX6_bitsOf_54 hl (by decide) rfl (fun ls hl => ?_)
        refine lv_goto (tgt := 38) hx hb dX6_bitsOf_56 (by decide) ?_
        exact ih_3 (k + 1) (by omega) (by show n_tt d - (k + 1) < n_tt d - k; omega) _ _ hP hD hS _ (lv_sub hl [2, 1, 0] rfl)
    · skip
      exact absurd hB.2.2.2.2.2.2 c_2
  · skip
    exact absurd hB.2.2.2.2.2.1 (by rw [c_1]; decide)
theorem c_X6_bitsOf_b (l : Launch) (dC : Nat → ClassId) (dI : Nat → Nat → Nat) (cI : ClassId) (sz : Nat) (v : Nat → Int32)  : Met l yX6_bitsOf wsX6_bitsOf ({ frames := 0, cells := 0, slots := 0, locals := 0 }) (kq_M dC dI cI [.double (n_gn v)] sz []) (va_Ql (fun (r : Int64) (u : Unit) => r = n_bs (n_gn v)) (kq_B dC dI (va_A [] sz) (fun u : Unit => [])) (va_A [] sz)) 0 0 (va_A [] sz) := by
  rcases n_gn_2 v with h | h
  · rw [h, show n_bs 0 = 0 from if_pos rfl]
    exact c_X6_bitsOf_0 l dC dI cI sz
  · have h0 : ¬ n_gn v = 0 := fun q => by rw [q] at h; exact absurd h (by decide +kernel)
    rw [show n_bs (n_gn v) = n_bs1 (n_gn v) from if_neg h0]
    exact c_X6_bitsOf_p l dC dI cI sz (n_gn v) h
set_option maxHeartbeats 4000000 in
set_option maxRecDepth 100000 in
theorem c_X6_share (l : Launch) (dC : Nat → ClassId) (dI : Nat → Nat → Nat) (cI : ClassId) (sz : Nat) (oM : Nat) (rz : Nat) (r2 : Nat) (rb : Nat) (rq : Nat) (km : Nat) (n : Nat) (th : Int32) (tp : Int32) (lf : Int32) (hg : Int32) (wd : Int32) (pm : Int32) (stt : Int32) (hh : Int64) (z : Nat → Int32) (v : Nat → Int32) (hz : n_Z v z) (hI : n_I v) : Met l yX6_share wsX6_share ({ frames := 9, cells := 0, slots := 0, locals := 211 }) (kq_M dC dI cI [.ref oM] sz [(oM, .inr (6, [.int th, .ref rz, .ref r2, .int (nI km), .ref rb, .int (nI n), .int tp, .int lf, .int hg, .int wd, .ref rq, .int pm, .int stt, .long hh])), (rz, .inl (cI, 389, .inl z))]) (va_Qd (fun (r : UInt64) (u : Int32 × Int32 × Int32 × Int32) => r = n_gn v) (kq_B dC dI (va_A [(oM, .inr (6, [.int th, .ref rz, .ref r2, .int (nI km), .ref rb, .int (nI n), .int tp, .int lf, .int hg, .int wd, .ref rq, .int pm, .int stt, .long hh])), (rz, .inl (cI, 389, .inl z))] sz) (fun u : Int32 × Int32 × Int32 × Int32 => [(oM, .inr (6, [.int th, .ref rz, .ref r2, .int (nI km), .ref rb, .int (nI n), .int u.1, .int u.2.1, .int u.2.2.1, .int u.2.2.2, .ref rq, .int pm, .int stt, .long hh])), (rz, .inl (cI, 389, .inl z))])) (va_A [(oM, .inr (6, [.int th, .ref rz, .ref r2, .int (nI km), .ref rb, .int (nI n), .int tp, .int lf, .int hg, .int wd, .ref rq, .int pm, .int stt, .long hh])), (rz, .inl (cI, 389, .inl z))] sz)) 0 0 (va_A [(oM, .inr (6, [.int th, .ref rz, .ref r2, .int (nI km), .ref rb, .int (nI n), .int tp, .int lf, .int hg, .int wd, .ref rq, .int pm, .int stt, .long hh])), (rz, .inl (cI, 389, .inl z))] sz) := by
  refine kq_startM (cc := cX6_share) (maxL := 1) (ret := (some .double)) (by decide) rfl (Nat.le_of_ble_eq_true rfl) ?_
  intro p e s m below meth c hx hb hr hml hown hlocks hts hsz hA hP hD hS hK hnm ls hl
  subst hsz
  generalize hAe : va_A [(oM, .inr (6, [.int th, .ref rz, .ref r2, .int (nI km), .ref rb, .int (nI n), .int tp, .int lf, .int hg, .int wd, .ref rq, .int pm, .int stt, .long hh])), (rz, .inl (cI, 389, .inl z))] s.heap.size = A at hA hD hS ⊢
  have hown : s.vm.findClass RX6 = some m.cls := hown
  have hl : lv_has ls 1 [(0, .ref oM)] := hl
  refine lv_aload_n hx hb dX6_share_0 rfl (lv_at hl 0 rfl) ?_
  refine kq_cV (As := []) (rest := []) ⟨hx, hb, hml, hown, hts⟩ (c_X6_figures l dC dI cI oM rz r2 rb rq km n th tp lf hg wd pm stt hh z v (by first | assumption | omega)) (cwV 0 hts gX6_share_X6_figures rfl rfl rfl (by decide +kernel) ⟨Nat.le_of_ble_eq_true rfl, Nat.le_of_ble_eq_true rfl⟩) (hP.sub [0, 1] rfl) hK (ci := 6) (q0 := 0) rfl rfl rfl rfl hl.1 rfl (Nat.le_of_ble_eq_true rfl) dX6_share_1 ⟨Nat.le_of_ble_eq_true rfl, Nat.le_of_ble_eq_true rfl⟩ ?_
  refine lv_if_ne (tgt := 11) hx hb dX6_share_4 (by decide) (fun c_1 => ?_) (fun c_1 => ?_)
  · skip
    have h0 := c_1
    refine lv_aload_n hx hb dX6_share_11 rfl (lv_at hl 0 rfl) ?_
    refine lv_bipush (v := 10) hx hb dX6_share_12 (by decide) ?_
    refine kq_callMi (wr := []) (va_runV (As := [.int 10]) (rest := []) ⟨hx, hb, hml, hown, hts⟩ (c_X6_good l dC dI cI s.heap.size oM rz r2 rb rq km n th tp lf hg wd pm stt hh z v 10 (by first | assumption | omega) (by first | assumption | omega) (by first | assumption | omega)) (cwV 1 hts gX6_share_X6_good rfl rfl rfl (by decide +kernel) ⟨Nat.le_of_ble_eq_true rfl, Nat.le_of_ble_eq_true rfl⟩) (kq_preV (ci := 6) (q0 := 0) (hP.sub [0, 1] rfl) (hD.sub [0, 1] (by decide) rfl) hK rfl rfl) rfl rfl hl.1 rfl (lv_room (Nat.le_of_ble_eq_true rfl)) dX6_share_14 ⟨Nat.le_of_ble_eq_true rfl, Nat.le_of_ble_eq_true rfl⟩) hP hD hS hA [0, 1] [] rfl rfl (by decide) (by decide) (fun r_2 u_3 H locs hw_4 hP hD hS => ?_)
    obtain ⟨t1_5, t2_6, t3_7, t4_8⟩ := u_3
    have hP : va_P (dC, dI) vwCl [(oM, .inr (6, [.int th, .ref rz, .ref r2, .int (nI km), .ref rb, .int (nI n), .int t1_5, .int t2_6, .int t3_7, .int t4_8, .ref rq, .int pm, .int stt, .long hh])), (rz, .inl (cI, 389, .inl z))] H := hP
    have hD : va_D A [(oM, .inr (6, [.int th, .ref rz, .ref r2, .int (nI km), .ref rb, .int (nI n), .int t1_5, .int t2_6, .int t3_7, .int t4_8, .ref rq, .int pm, .int stt, .long hh])), (rz, .inl (cI, 389, .inl z))] := hD
    obtain rfl := hw_4
    refine lv_i2d hx hb dX6_share_17 ?_
    refine lv_ldc2d (v := 4621819117588971520) hx hb hown (hts (.constantDouble RX6 230 (4621819117588971520)) (by decide +kernel)) dX6_share_18 ?_
    refine lv_aload_n hx hb dX6_share_21 rfl (lv_at hl 0 rfl) ?_
    refine kq_cV (As := []) (rest := [.double 4621819117588971520, .double (FP.i2d (n_go v 10))]) ⟨hx, hb, hml, hown, hts⟩ (c_X6_figures l dC dI cI oM rz r2 rb rq km n th t1_5 t2_6 t3_7 t4_8 pm stt hh z v (by first | assumption | omega)) (cwV 0 hts gX6_share_X6_figures rfl rfl rfl (by decide +kernel) ⟨Nat.le_of_ble_eq_true rfl, Nat.le_of_ble_eq_true rfl⟩) (hP.sub [0, 1] rfl) hK (ci := 6) (q0 := 0) rfl rfl rfl rfl hl.1 rfl (Nat.le_of_ble_eq_true rfl) dX6_share_22 ⟨Nat.le_of_ble_eq_true rfl, Nat.le_of_ble_eq_true rfl⟩ ?_
    refine lv_i2d hx hb dX6_share_25 ?_
    refine lv_dmul hx hb dX6_share_26 ((n_gn_1 h0).1) ?_
    refine lv_ddiv hx hb dX6_share_27 ((n_gn_1 h0).2) ?_
    exact kq_retMd (t1_5, t2_6, t3_7, t4_8) hx hb hr hlocks hP hD hS dX6_share_28 (by exact ((if_neg h0).symm : _ = n_gn v))
  · skip
    have h0 := c_1
    refine lv_dconst0 hx hb dX6_share_7 ?_
    refine lv_goto (tgt := 28) hx hb dX6_share_8 (by decide) ?_
    exact kq_retMd (tp, lf, hg, wd) hx hb hr hlocks hP hD hS dX6_share_28 (by exact ((if_pos h0).symm : (0 : UInt64) = n_gn v))
set_option maxHeartbeats 4000000 in
set_option maxRecDepth 100000 in
theorem c_X6_goodness (l : Launch) (dC : Nat → ClassId) (dI : Nat → Nat → Nat) (cI : ClassId) (sz : Nat) (oM : Nat) (rz : Nat) (r2 : Nat) (rb : Nat) (rq : Nat) (km : Nat) (n : Nat) (th : Int32) (tp : Int32) (lf : Int32) (hg : Int32) (wd : Int32) (pm : Int32) (stt : Int32) (hh : Int64) (z : Nat → Int32) (v : Nat → Int32) (hz : n_Z v z) (hI : n_I v) : Met l yX6_goodness wsX6_goodness ({ frames := 10, cells := 0, slots := 0, locals := 231 }) (kq_M dC dI cI [.ref oM] sz [(oM, .inr (6, [.int th, .ref rz, .ref r2, .int (nI km), .ref rb, .int (nI n), .int tp, .int lf, .int hg, .int wd, .ref rq, .int pm, .int stt, .long hh])), (rz, .inl (cI, 389, .inl z))]) (va_Qd (fun (r : UInt64) (u : Int32 × Int32 × Int32 × Int32) => r = n_gn v) (kq_B dC dI (va_A [(oM, .inr (6, [.int th, .ref rz, .ref r2, .int (nI km), .ref rb, .int (nI n), .int tp, .int lf, .int hg, .int wd, .ref rq, .int pm, .int stt, .long hh])), (rz, .inl (cI, 389, .inl z))] sz) (fun u : Int32 × Int32 × Int32 × Int32 => [(oM, .inr (6, [.int 0, .ref rz, .ref r2, .int (nI km), .ref rb, .int (nI n), .int u.1, .int u.2.1, .int u.2.2.1, .int u.2.2.2, .ref rq, .int pm, .int stt, .long hh])), (rz, .inl (cI, 389, .inl z))])) (va_A [(oM, .inr (6, [.int th, .ref rz, .ref r2, .int (nI km), .ref rb, .int (nI n), .int tp, .int lf, .int hg, .int wd, .ref rq, .int pm, .int stt, .long hh])), (rz, .inl (cI, 389, .inl z))] sz)) 0 0 (va_A [(oM, .inr (6, [.int th, .ref rz, .ref r2, .int (nI km), .ref rb, .int (nI n), .int tp, .int lf, .int hg, .int wd, .ref rq, .int pm, .int stt, .long hh])), (rz, .inl (cI, 389, .inl z))] sz) := by
  refine kq_startM (cc := cX6_goodness) (maxL := 1) (ret := (some .double)) (by decide) rfl (Nat.le_of_ble_eq_true rfl) ?_
  intro p e s m below meth c hx hb hr hml hown hlocks hts hsz hA hP hD hS hK hnm ls hl
  subst hsz
  generalize hAe : va_A [(oM, .inr (6, [.int th, .ref rz, .ref r2, .int (nI km), .ref rb, .int (nI n), .int tp, .int lf, .int hg, .int wd, .ref rq, .int pm, .int stt, .long hh])), (rz, .inl (cI, 389, .inl z))] s.heap.size = A at hA hD hS ⊢
  have hown : s.vm.findClass RX6 = some m.cls := hown
  have hl : lv_has ls 1 [(0, .ref oM)] := hl
  refine lv_aload_n hx hb dX6_goodness_0 rfl (lv_at hl 0 rfl) ?_
  refine lv_iconst (v := 0) hx hb dX6_goodness_1 (by decide) ?_
  refine va_put (D := (dC, dI)) (ci := 6) (v := .int 0) (ty := .int) (C := RX6) (T := TX6) (N := 14) hx hb hts (by decide +kernel) tyX6 tyX6_ok nmX6 hown hK.1 hP hD hS 0 rfl rfl 0 (by decide) (hts (.fieldLink RX6 22 "NoteWatermarksModel" "thrown" "I") (by decide +kernel)) (fun _ h9 => h9) rfl (by decide +kernel) rfl rfl (Nat.le_of_ble_eq_true rfl) dX6_goodness_2 (fun H locs hP hD hS => ?_)
  have hP : va_P (dC, dI) vwCl [(oM, .inr (6, [.int 0, .ref rz, .ref r2, .int (nI km), .ref rb, .int (nI n), .int tp, .int lf, .int hg, .int wd, .ref rq, .int pm, .int stt, .long hh])), (rz, .inl (cI, 389, .inl z))] H := hP
  have hD : va_D A [(oM, .inr (6, [.int 0, .ref rz, .ref r2, .int (nI km), .ref rb, .int (nI n), .int tp, .int lf, .int hg, .int wd, .ref rq, .int pm, .int stt, .long hh])), (rz, .inl (cI, 389, .inl z))] := hD
  refine lv_aload_n hx hb dX6_goodness_5 rfl (lv_at hl 0 rfl) ?_
  refine kq_callMd (wr := []) (va_runV (As := []) (rest := []) ⟨hx, hb, hml, hown, hts⟩ (c_X6_share l dC dI cI H.size oM rz r2 rb rq km n 0 tp lf hg wd pm stt hh z v (by first | assumption | omega) (by first | assumption | omega)) (cwV 0 hts gX6_goodness_X6_share rfl rfl rfl (by decide +kernel) ⟨Nat.le_of_ble_eq_true rfl, Nat.le_of_ble_eq_true rfl⟩) (kq_preV (ci := 6) (q0 := 0) (hP.sub [0, 1] rfl) (hD.sub [0, 1] (by decide) rfl) hK rfl rfl) rfl rfl hl.1 rfl (lv_room (Nat.le_of_ble_eq_true rfl)) dX6_goodness_6 ⟨Nat.le_of_ble_eq_true rfl, Nat.le_of_ble_eq_true rfl⟩) hP hD hS hA [0, 1] [] rfl rfl (by decide) (by decide) (fun r_1 u_2 H locs hw_3 hP hD hS => ?_)
  obtain ⟨t1_4, t2_5, t3_6, t4_7⟩ := u_2
  have hP : va_P (dC, dI) vwCl [(oM, .inr (6, [.int 0, .ref rz, .ref r2, .int (nI km), .ref rb, .int (nI n), .int t1_4, .int t2_5, .int t3_6, .int t4_7, .ref rq, .int pm, .int stt, .long hh])), (rz, .inl (cI, 389, .inl z))] H := hP
  have hD : va_D A [(oM, .inr (6, [.int 0, .ref rz, .ref r2, .int (nI km), .ref rb, .int (nI n), .int t1_4, .int t2_5, .int t3_6, .int t4_7, .ref rq, .int pm, .int stt, .long hh])), (rz, .inl (cI, 389, .inl z))] := hD
  obtain rfl := hw_3
  exact kq_retMd (t1_4, t2_5, t3_6, t4_7) hx hb hr hlocks hP hD hS dX6_goodness_9 (by rfl)
set_option maxHeartbeats 4000000 in
set_option maxRecDepth 100000 in
theorem c_X6_mix (l : Launch) (dC : Nat → ClassId) (dI : Nat → Nat → Nat) (cI : ClassId) (sz : Nat) (oM : Nat) (rz : Nat) (r2 : Nat) (rb : Nat) (rq : Nat) (km : Nat) (n : Nat) (th : Int32) (tp : Int32) (lf : Int32) (hg : Int32) (wd : Int32) (pm : Int32) (stt : Int32) (hh : Int64) (z : Nat → Int32) (v : Nat → Int32) (x : Int64)  : Met l yX6_mix wsX6_mix ({ frames := 0, cells := 0, slots := 0, locals := 0 }) (kq_M dC dI cI [.ref oM, .long x] sz [(oM, .inr (6, [.int th, .ref rz, .ref r2, .int (nI km), .ref rb, .int (nI n), .int tp, .int lf, .int hg, .int wd, .ref rq, .int pm, .int stt, .long hh]))]) (va_Qv (fun (u : Unit) => True) (kq_B dC dI (va_A [(oM, .inr (6, [.int th, .ref rz, .ref r2, .int (nI km), .ref rb, .int (nI n), .int tp, .int lf, .int hg, .int wd, .ref rq, .int pm, .int stt, .long hh]))] sz) (fun u : Unit => [(oM, .inr (6, [.int th, .ref rz, .ref r2, .int (nI km), .ref rb, .int (nI n), .int tp, .int lf, .int hg, .int wd, .ref rq, .int pm, .int stt, .long (31 * hh + x)]))])) (va_A [(oM, .inr (6, [.int th, .ref rz, .ref r2, .int (nI km), .ref rb, .int (nI n), .int tp, .int lf, .int hg, .int wd, .ref rq, .int pm, .int stt, .long hh]))] sz)) 0 0 (va_A [(oM, .inr (6, [.int th, .ref rz, .ref r2, .int (nI km), .ref rb, .int (nI n), .int tp, .int lf, .int hg, .int wd, .ref rq, .int pm, .int stt, .long hh]))] sz) := by
  refine kq_startM (cc := cX6_mix) (maxL := 3) (ret := none) (by decide) rfl (Nat.le_of_ble_eq_true rfl) ?_
  intro p e s m below meth c hx hb hr hml hown hlocks hts hsz hA hP hD hS hK hnm ls hl
  subst hsz
  generalize hAe : va_A [(oM, .inr (6, [.int th, .ref rz, .ref r2, .int (nI km), .ref rb, .int (nI n), .int tp, .int lf, .int hg, .int wd, .ref rq, .int pm, .int stt, .long hh]))] s.heap.size = A at hA hD hS ⊢
  have hown : s.vm.findClass RX6 = some m.cls := hown
  have hl : lv_has ls 3 [(0, .ref oM), (1, .long x)] := hl
  refine lv_aload_n hx hb dX6_mix_0 rfl (lv_at hl 0 rfl) ?_
  refine lv_ldc2 (v := 31) hx hb hown (hts (.constantLong RX6 244 (31)) (by decide +kernel)) dX6_mix_1 ?_
  refine lv_aload_n hx hb dX6_mix_4 rfl (lv_at hl 0 rfl) ?_
  refine va_get (D := (dC, dI)) (ci := 6) (v := .long hh) (C := RX6) (T := TX6) (N := 14) hx hb hts (by decide +kernel) hown hK.1 hP 0 rfl rfl 13 (by decide) (hts (.fieldLink RX6 246 "NoteWatermarksModel" "hash" "J") (by decide +kernel)) (fun _ h9 => h9) rfl dX6_mix_5 ?_
  refine lv_lmul hx hb dX6_mix_8 ?_
  refine lv_lload_n hx hb dX6_mix_9 rfl (lv_at hl 1 rfl) ?_
  refine lv_ladd hx hb dX6_mix_10 ?_
  refine va_put (D := (dC, dI)) (ci := 6) (v := .long ((31 * hh) + x)) (ty := .long) (C := RX6) (T := TX6) (N := 14) hx hb hts (by decide +kernel) tyX6 tyX6_ok nmX6 hown hK.1 hP hD hS 0 rfl rfl 13 (by decide) (hts (.fieldLink RX6 246 "NoteWatermarksModel" "hash" "J") (by decide +kernel)) (fun _ h9 => h9) rfl (by decide +kernel) rfl rfl (Nat.le_of_ble_eq_true rfl) dX6_mix_11 (fun H locs hP hD hS => ?_)
  have hP : va_P (dC, dI) vwCl [(oM, .inr (6, [.int th, .ref rz, .ref r2, .int (nI km), .ref rb, .int (nI n), .int tp, .int lf, .int hg, .int wd, .ref rq, .int pm, .int stt, .long ((31 * hh) + x)]))] H := hP
  have hD : va_D A [(oM, .inr (6, [.int th, .ref rz, .ref r2, .int (nI km), .ref rb, .int (nI n), .int tp, .int lf, .int hg, .int wd, .ref rq, .int pm, .int stt, .long ((31 * hh) + x)]))] := hD
  exact kq_retMv () hx hb hr hlocks hP hD hS dX6_mix_14 (by trivial)
set_option maxHeartbeats 4000000 in
set_option maxRecDepth 100000 in
theorem c_X6_mixFigures (l : Launch) (dC : Nat → ClassId) (dI : Nat → Nat → Nat) (cI : ClassId) (sz : Nat) (oM : Nat) (rz : Nat) (r2 : Nat) (rb : Nat) (rq : Nat) (km : Nat) (n : Nat) (th : Int32) (tp : Int32) (lf : Int32) (hg : Int32) (wd : Int32) (pm : Int32) (stt : Int32) (hh : Int64) (z : Nat → Int32) (v : Nat → Int32) (hz : n_Z v z) (hI : n_I v) : Met l yX6_mixFigures wsX6_mixFigures ({ frames := 9, cells := 0, slots := 0, locals := 210 }) (kq_M dC dI cI [.ref oM] sz [(oM, .inr (6, [.int th, .ref rz, .ref r2, .int (nI km), .ref rb, .int (nI n), .int tp, .int lf, .int hg, .int wd, .ref rq, .int pm, .int stt, .long hh])), (rz, .inl (cI, 389, .inl z))]) (va_Qv (fun (u : Int32 × Int32 × Int32 × Int32) => True) (kq_B dC dI (va_A [(oM, .inr (6, [.int th, .ref rz, .ref r2, .int (nI km), .ref rb, .int (nI n), .int tp, .int lf, .int hg, .int wd, .ref rq, .int pm, .int stt, .long hh])), (rz, .inl (cI, 389, .inl z))] sz) (fun u : Int32 × Int32 × Int32 × Int32 => [(oM, .inr (6, [.int th, .ref rz, .ref r2, .int (nI km), .ref rb, .int (nI n), .int u.1, .int u.2.1, .int u.2.2.1, .int u.2.2.2, .ref rq, .int pm, .int stt, .long (n_h5 v hh 4)])), (rz, .inl (cI, 389, .inl z))])) (va_A [(oM, .inr (6, [.int th, .ref rz, .ref r2, .int (nI km), .ref rb, .int (nI n), .int tp, .int lf, .int hg, .int wd, .ref rq, .int pm, .int stt, .long hh])), (rz, .inl (cI, 389, .inl z))] sz)) 0 0 (va_A [(oM, .inr (6, [.int th, .ref rz, .ref r2, .int (nI km), .ref rb, .int (nI n), .int tp, .int lf, .int hg, .int wd, .ref rq, .int pm, .int stt, .long hh])), (rz, .inl (cI, 389, .inl z))] sz) := by
  refine kq_startM (cc := cX6_mixFigures) (maxL := 3) (ret := none) (by decide) rfl (Nat.le_of_ble_eq_true rfl) ?_
  intro p e s m below meth c hx hb hr hml hown hlocks hts hsz hA hP hD hS hK hnm ls hl
  subst hsz
  generalize hAe : va_A [(oM, .inr (6, [.int th, .ref rz, .ref r2, .int (nI km), .ref rb, .int (nI n), .int tp, .int lf, .int hg, .int wd, .ref rq, .int pm, .int stt, .long hh])), (rz, .inl (cI, 389, .inl z))] s.heap.size = A at hA hD hS ⊢
  have hown : s.vm.findClass RX6 = some m.cls := hown
  have hl : lv_has ls 3 [(0, .ref oM)] := hl
  refine lv_iconst (v := 0) hx hb dX6_mixFigures_0 (by decide) ?_
  refine lv_istore_n (lv' := [(1, .int 0), (0, .ref oM)]) hx hb dX6_mixFigures_1 rfl hl (by decide) rfl (fun ls hl => ?_)
  refine kq_loopM6 (A1 := Nat) (A2 := Int64) (A3 := Int32) (A4 := Int32) (A5 := Int32) (A6 := Int32) (fun (f : Nat) (h9 : Int64) (t1 : Int32) (t2 : Int32) (t3 : Int32) (t4 : Int32) => 4 - f) (fun (f : Nat) (h9 : Int64) (t1 : Int32) (t2 : Int32) (t3 : Int32) (t4 : Int32) => (f ≤ 4) ∧ (h9 = n_h5 v hh f)) (fun (f : Nat) (h9 : Int64) (t1 : Int32) (t2 : Int32) (t3 : Int32) (t4 : Int32) => [(0, .ref oM), (1, .int (nI f))]) (fun (f : Nat) (h9 : Int64) (t1 : Int32) (t2 : Int32) (t3 : Int32) (t4 : Int32) => [(oM, .inr (6, [.int th, .ref rz, .ref r2, .int (nI km), .ref rb, .int (nI n), .int t1, .int t2, .int t3, .int t4, .ref rq, .int pm, .int stt, .long h9])), (rz, .inl (cI, 389, .inl z))]) (nL := 3) hK ?_ 0 hh tp lf hg wd ⟨(by omega), (by rfl)⟩ hP hD hS _ (lv_sub hl [1, 0] rfl)
  intro f h9 t1 t2 t3 t4 hi_2 ih_1 H locs hP hD hS ls hl
  obtain ⟨jf, ih1⟩ := hi_2
  have hl : lv_has ls 3 [(0, .ref oM), (1, .int (nI f))] := hl
  have hP : va_P (dC, dI) vwCl [(oM, .inr (6, [.int th, .ref rz, .ref r2, .int (nI km), .ref rb, .int (nI n), .int t1, .int t2, .int t3, .int t4, .ref rq, .int pm, .int stt, .long h9])), (rz, .inl (cI, 389, .inl z))] H := hP
  have hD : va_D A [(oM, .inr (6, [.int th, .ref rz, .ref r2, .int (nI km), .ref rb, .int (nI n), .int t1, .int t2, .int t3, .int t4, .ref rq, .int pm, .int stt, .long h9])), (rz, .inl (cI, 389, .inl z))] := hD
  refine lv_iload_n hx hb dX6_mixFigures_2 rfl (lv_at hl 1 rfl) ?_
  refine lv_iconst (v := 4) hx hb dX6_mixFigures_3 (by decide) ?_
  refine lv_icmp_ge (tgt := 61) hx hb dX6_mixFigures_4 (by decide) (fun c_3 => ?_) (fun c_3 => ?_)
  · skip
    have c_3 := kq_leN (a := 4) (b := f) c_3 (by omega) (by omega)
    have e9 : h9 = n_h5 v hh 4 := by rw [ih1, show f = 4 by omega]
    rw [e9] at hP hD
    exact kq_retMv (t1, t2, t3, t4) hx hb hr hlocks hP hD hS dX6_mixFigures_61 (by trivial)
  · skip
    have c_3 := kq_nleN (a := 4) (b := f) c_3 (by omega) (by omega)
    refine lv_iconst (v := 0) hx hb dX6_mixFigures_7 (by decide) ?_
    refine lv_istore_n (lv' := [(2, .int 0), (0, .ref oM), (1, .int (nI f))]) hx hb dX6_mixFigures_8 rfl hl (by decide) rfl (fun ls hl => ?_)
    refine kq_loopM6 (A1 := Nat) (A2 := Int64) (A3 := Int32) (A4 := Int32) (A5 := Int32) (A6 := Int32) (fun (k : Nat) (h9 : Int64) (t1 : Int32) (t2 : Int32) (t3 : Int32) (t4 : Int32) => 5 - k) (fun (k : Nat) (h9 : Int64) (t1 : Int32) (t2 : Int32) (t3 : Int32) (t4 : Int32) => (k ≤ 5) ∧ (h9 = n_hf (n_fo v f) (n_h5 v hh f) k)) (fun (k : Nat) (h9 : Int64) (t1 : Int32) (t2 : Int32) (t3 : Int32) (t4 : Int32) => [(0, .ref oM), (1, .int (nI f)), (2, .int (nI k))]) (fun (k : Nat) (h9 : Int64) (t1 : Int32) (t2 : Int32) (t3 : Int32) (t4 : Int32) => [(oM, .inr (6, [.int th, .ref rz, .ref r2, .int (nI km), .ref rb, .int (nI n), .int t1, .int t2, .int t3, .int t4, .ref rq, .int pm, .int stt, .long h9])), (rz, .inl (cI, 389, .inl z))]) (nL := 3) hK ?_ 0 h9 t1 t2 t3 t4 ⟨(by omega), (by rw [ih1]; rfl)⟩ hP hD hS _ (lv_sub hl [1, 2, 0] rfl)
    intro k h9 t1 t2 t3 t4 hi_5 ih_4 H locs hP hD hS ls hl
    obtain ⟨ik, ih1⟩ := hi_5
    have hl : lv_has ls 3 [(0, .ref oM), (1, .int (nI f)), (2, .int (nI k))] := hl
    have hP : va_P (dC, dI) vwCl [(oM, .inr (6, [.int th, .ref rz, .ref r2, .int (nI km), .ref rb, .int (nI n), .int t1, .int t2, .int t3, .int t4, .ref rq, .int pm, .int stt, .long h9])), (rz, .inl (cI, 389, .inl z))] H := hP
    have hD : va_D A [(oM, .inr (6, [.int th, .ref rz, .ref r2, .int (nI km), .ref rb, .int (nI n), .int t1, .int t2, .int t3, .int t4, .ref rq, .int pm, .int stt, .long h9])), (rz, .inl (cI, 389, .inl z))] := hD
    refine lv_iload_n hx hb dX6_mixFigures_9 rfl (lv_at hl 2 rfl) ?_
    refine lv_iconst (v := 4) hx hb dX6_mixFigures_10 (by decide) ?_
    refine lv_icmp_gt (tgt := 31) hx hb dX6_mixFigures_11 (by decide) (fun c_6 => ?_) (fun c_6 => ?_)
    · skip
      have c_6 := kq_ltN (a := 4) (b := k) c_6 (by omega) (by omega)
      refine lv_iconst (v := 0) hx hb dX6_mixFigures_31 (by decide) ?_
      refine lv_istore_n (lv' := [(2, .int 0), (0, .ref oM), (1, .int (nI f))]) hx hb dX6_mixFigures_32 rfl hl (by decide) rfl (fun ls hl => ?_)
      refine kq_loopM6 (A1 := Nat) (A2 := Int64) (A3 := Int32) (A4 := Int32) (A5 := Int32) (A6 := Int32) (fun (k : Nat) (h9 : Int64) (t1 : Int32) (t2 : Int32) (t3 : Int32) (t4 : Int32) => 3 - k) (fun (k : Nat) (h9 : Int64) (t1 : Int32) (t2 : Int32) (t3 : Int32) (t4 : Int32) => (k ≤ 3) ∧ (h9 = n_hf (n_cn v f) (n_hf (n_fo v f) (n_h5 v hh f) 5) k)) (fun (k : Nat) (h9 : Int64) (t1 : Int32) (t2 : Int32) (t3 : Int32) (t4 : Int32) => [(0, .ref oM), (1, .int (nI f)), (2, .int (nI k))]) (fun (k : Nat) (h9 : Int64) (t1 : Int32) (t2 : Int32) (t3 : Int32) (t4 : Int32) => [(oM, .inr (6, [.int th, .ref rz, .ref r2, .int (nI km), .ref rb, .int (nI n), .int t1, .int t2, .int t3, .int t4, .ref rq, .int pm, .int stt, .long h9])), (rz, .inl (cI, 389, .inl z))]) (nL := 3) hK ?_ 0 h9 t1 t2 t3 t4 ⟨(by omega), (by rw [ih1, show k = 5 by omega]; rfl)⟩ hP hD hS _ (lv_sub hl [1, 2, 0] rfl)
      intro k h9 t1 t2 t3 t4 hi_8 ih_7 H locs hP hD hS ls hl
      obtain ⟨ik, ih1⟩ := hi_8
      have hl : lv_has ls 3 [(0, .ref oM), (1, .int (nI f)), (2, .int (nI k))] := hl
      have hP : va_P (dC, dI) vwCl [(oM, .inr (6, [.int th, .ref rz, .ref r2, .int (nI km), .ref rb, .int (nI n), .int t1, .int t2, .int t3, .int t4, .ref rq, .int pm, .int stt, .long h9])), (rz, .inl (cI, 389, .inl z))] H := hP
      have hD : va_D A [(oM, .inr (6, [.int th, .ref rz, .ref r2, .int (nI km), .ref rb, .int (nI n), .int t1, .int t2, .int t3, .int t4, .ref rq, .int pm, .int stt, .long h9])), (rz, .inl (cI, 389, .inl z))] := hD
      refine lv_iload_n hx hb dX6_mixFigures_33 rfl (lv_at hl 2 rfl) ?_
      refine lv_iconst (v := 2) hx hb dX6_mixFigures_34 (by decide) ?_
      refine lv_icmp_gt (tgt := 55) hx hb dX6_mixFigures_35 (by decide) (fun c_9 => ?_) (fun c_9 => ?_)
      · skip
        have c_9 := kq_ltN (a := 2) (b := k) c_9 (by omega) (by omega)
        refine lv_iinc (v := nI (f + 1)) (lv' := [(1, .int (nI (f + 1))), (0, .ref oM), (2, .int (nI k))]) hx hb dX6_mixFigures_55 hl (k := 1) rfl (nI_1 f) (by decide) rfl (fun ls hl => ?_)
        refine lv_goto (tgt := 2) hx hb dX6_mixFigures_58 (by decide) ?_
        exact ih_1 (f + 1) h9 t1 t2 t3 t4 ⟨(by omega), (by rw [ih1, show k = 3 by omega]; rfl)⟩ (by show 4 - (f + 1) < 4 - f; omega) _ _ hP hD hS _ (lv_sub hl [1, 0] rfl)
      · skip
        have c_9 := kq_nltN (a := 2) (b := k) c_9 (by omega) (by omega)
        refine lv_aload_n hx hb dX6_mixFigures_38 rfl (lv_at hl 0 rfl) ?_
        refine lv_aload_n hx hb dX6_mixFigures_39 rfl (lv_at hl 0 rfl) ?_
        refine lv_iload_n hx hb dX6_mixFigures_40 rfl (lv_at hl 1 rfl) ?_
        refine lv_iload_n hx hb dX6_mixFigures_41 rfl (lv_at hl 2 rfl) ?_
        refine kq_callMi (wr := []) (va_runV (As := [.int (nI f), .int (nI k)]) (rest := [.ref oM]) ⟨hx, hb, hml, hown, hts⟩ (c_X6_toldContrast l dC dI cI H.size oM rz r2 rb rq km n th t1 t2 t3 t4 pm stt h9 z v f k (by first | assumption | omega) (by first | assumption | omega) (by first | assumption | omega) (by first | assumption | omega)) (cwV 2 hts gX6_mixFigures_X6_toldContrast rfl rfl rfl (by decide +kernel) ⟨Nat.le_of_ble_eq_true rfl, Nat.le_of_ble_eq_true rfl⟩) (kq_preV (ci := 6) (q0 := 0) (hP.sub [0, 1] rfl) (hD.sub [0, 1] (by decide) rfl) hK rfl rfl) rfl rfl hl.1 rfl (lv_room (Nat.le_of_ble_eq_true rfl)) dX6_mixFigures_42 ⟨Nat.le_of_ble_eq_true rfl, Nat.le_of_ble_eq_true rfl⟩) hP hD hS hA [0, 1] [] rfl rfl (by decide) (by decide) (fun r_10 u_11 H locs hw_12 hP hD hS => ?_)
        obtain ⟨t1_13, t2_14, t3_15, t4_16⟩ := u_11
        have hP : va_P (dC, dI) vwCl [(oM, .inr (6, [.int th, .ref rz, .ref r2, .int (nI km), .ref rb, .int (nI n), .int t1_13, .int t2_14, .int t3_15, .int t4_16, .ref rq, .int pm, .int stt, .long h9])), (rz, .inl (cI, 389, .inl z))] H := hP
        have hD : va_D A [(oM, .inr (6, [.int th, .ref rz, .ref r2, .int (nI km), .ref rb, .int (nI n), .int t1_13, .int t2_14, .int t3_15, .int t4_16, .ref rq, .int pm, .int stt, .long h9])), (rz, .inl (cI, 389, .inl z))] := hD
        obtain rfl := hw_12
        refine lv_i2l (v := (n_cn v f k).toInt64) hx hb dX6_mixFigures_45 rfl ?_
        refine kq_callMv (wr := [(rz, .inl (cI, 389, .inl z))]) (va_runV (As := [.long ((n_cn v f k).toInt64)]) (rest := []) ⟨hx, hb, hml, hown, hts⟩ (c_X6_mix l dC dI cI H.size oM rz r2 rb rq km n th t1_13 t2_14 t3_15 t4_16 pm stt h9 z v ((n_cn v f k).toInt64) ) (cwV 1 hts gX6_mixFigures_X6_mix rfl rfl rfl (by decide +kernel) ⟨Nat.le_of_ble_eq_true rfl, Nat.le_of_ble_eq_true rfl⟩) (kq_preV (ci := 6) (q0 := 0) (hP.sub [0] rfl) (hD.sub [0] (by decide) rfl) hK rfl rfl) rfl rfl hl.1 rfl (lv_room (Nat.le_of_ble_eq_true rfl)) dX6_mixFigures_46 ⟨Nat.le_of_ble_eq_true rfl, Nat.le_of_ble_eq_true rfl⟩) hP hD hS hA [0] [1] rfl rfl (by decide) (by decide) (fun u_18 H locs hw_19 hP hD hS => ?_)
        have hP : va_P (dC, dI) vwCl [(rz, .inl (cI, 389, .inl z)), (oM, .inr (6, [.int th, .ref rz, .ref r2, .int (nI km), .ref rb, .int (nI n), .int t1_13, .int t2_14, .int t3_15, .int t4_16, .ref rq, .int pm, .int stt, .long (31 * h9 + ((n_cn v f k).toInt64))]))] H := hP
        have hD : va_D A [(rz, .inl (cI, 389, .inl z)), (oM, .inr (6, [.int th, .ref rz, .ref r2, .int (nI km), .ref rb, .int (nI n), .int t1_13, .int t2_14, .int t3_15, .int t4_16, .ref rq, .int pm, .int stt, .long (31 * h9 + ((n_cn v f k).toInt64))]))] := hD
        refine lv_iinc (v := nI (k + 1)) (lv' := [(2, .int (nI (k + 1))), (0, .ref oM), (1, .int (nI f))]) hx hb dX6_mixFigures_49 hl (k := 2) rfl (nI_1 k) (by decide) rfl (fun ls hl => ?_)
        refine lv_goto (tgt := 33) hx hb dX6_mixFigures_52 (by decide) ?_
        exact ih_7 (k + 1) (31 * h9 + ((n_cn v f k).toInt64)) t1_13 t2_14 t3_15 t4_16 ⟨(by omega), (by rw [n_hf, ← ih1]; rfl)⟩ (by show 3 - (k + 1) < 3 - k; omega) _ _ (hP.sub [1, 0] rfl) (hD.sub [1, 0] (by decide) rfl) hS _ (lv_sub hl [1, 2, 0] rfl)
    · skip
      have c_6 := kq_nltN (a := 4) (b := k) c_6 (by omega) (by omega)
      refine lv_aload_n hx hb dX6_mixFigures_14 rfl (lv_at hl 0 rfl) ?_
      refine lv_aload_n hx hb dX6_mixFigures_15 rfl (lv_at hl 0 rfl) ?_
      refine lv_iload_n hx hb dX6_mixFigures_16 rfl (lv_at hl 1 rfl) ?_
      refine lv_iload_n hx hb dX6_mixFigures_17 rfl (lv_at hl 2 rfl) ?_
      refine kq_callMi (wr := []) (va_runV (As := [.int (nI f), .int (nI k)]) (rest := [.ref oM]) ⟨hx, hb, hml, hown, hts⟩ (c_X6_toldFigure l dC dI cI H.size oM rz r2 rb rq km n th t1 t2 t3 t4 pm stt h9 z v f k (by first | assumption | omega) (by first | assumption | omega) (by first | assumption | omega) (by first | assumption | omega)) (cwV 2 hts gX6_mixFigures_X6_toldFigure rfl rfl rfl (by decide +kernel) ⟨Nat.le_of_ble_eq_true rfl, Nat.le_of_ble_eq_true rfl⟩) (kq_preV (ci := 6) (q0 := 0) (hP.sub [0, 1] rfl) (hD.sub [0, 1] (by decide) rfl) hK rfl rfl) rfl rfl hl.1 rfl (lv_room (Nat.le_of_ble_eq_true rfl)) dX6_mixFigures_18 ⟨Nat.le_of_ble_eq_true rfl, Nat.le_of_ble_eq_true rfl⟩) hP hD hS hA [0, 1] [] rfl rfl (by decide) (by decide) (fun r_20 u_21 H locs hw_22 hP hD hS => ?_)
      obtain ⟨t1_23, t2_24, t3_25, t4_26⟩ := u_21
      have hP : va_P (dC, dI) vwCl [(oM, .inr (6, [.int th, .ref rz, .ref r2, .int (nI km), .ref rb, .int (nI n), .int t1_23, .int t2_24, .int t3_25, .int t4_26, .ref rq, .int pm, .int stt, .long h9])), (rz, .inl (cI, 389, .inl z))] H := hP
      have hD : va_D A [(oM, .inr (6, [.int th, .ref rz, .ref r2, .int (nI km), .ref rb, .int (nI n), .int t1_23, .int t2_24, .int t3_25, .int t4_26, .ref rq, .int pm, .int stt, .long h9])), (rz, .inl (cI, 389, .inl z))] := hD
      obtain rfl := hw_22
      refine lv_i2l (v := (n_fo v f k).toInt64) hx hb dX6_mixFigures_21 rfl ?_
      refine kq_callMv (wr := [(rz, .inl (cI, 389, .inl z))]) (va_runV (As := [.long ((n_fo v f k).toInt64)]) (rest := []) ⟨hx, hb, hml, hown, hts⟩ (c_X6_mix l dC dI cI H.size oM rz r2 rb rq km n th t1_23 t2_24 t3_25 t4_26 pm stt h9 z v ((n_fo v f k).toInt64) ) (cwV 1 hts gX6_mixFigures_X6_mix rfl rfl rfl (by decide +kernel) ⟨Nat.le_of_ble_eq_true rfl, Nat.le_of_ble_eq_true rfl⟩) (kq_preV (ci := 6) (q0 := 0) (hP.sub [0] rfl) (hD.sub [0] (by decide) rfl) hK rfl rfl) rfl rfl hl.1 rfl (lv_room (Nat.le_of_ble_eq_true rfl)) dX6_mixFigures_22 ⟨Nat.le_of_ble_eq_true rfl, Nat.le_of_ble_eq_true rfl⟩) hP hD hS hA [0] [1] rfl rfl (by decide) (by decide) (fun u_28 H locs hw_29 hP hD hS => ?_)
      have hP : va_P (dC, dI) vwCl [(rz, .inl (cI, 389, .inl z)), (oM, .inr (6, [.int th, .ref rz, .ref r2, .int (nI km), .ref rb, .int (nI n), .int t1_23, .int t2_24, .int t3_25, .int t4_26, .ref rq, .int pm, .int stt, .long (31 * h9 + ((n_fo v f k).toInt64))]))] H := hP
      have hD : va_D A [(rz, .inl (cI, 389, .inl z)), (oM, .inr (6, [.int th, .ref rz, .ref r2, .int (nI km), .ref rb, .int (nI n), .int t1_23, .int t2_24, .int t3_25, .int t4_26, .ref rq, .int pm, .int stt, .long (31 * h9 + ((n_fo v f k).toInt64))]))] := hD
      refine lv_iinc (v := nI (k + 1)) (lv' := [(2, .int (nI (k + 1))), (0, .ref oM), (1, .int (nI f))]) hx hb dX6_mixFigures_25 hl (k := 2) rfl (nI_1 k) (by decide) rfl (fun ls hl => ?_)
      refine lv_goto (tgt := 9) hx hb dX6_mixFigures_28 (by decide) ?_
      exact ih_4 (k + 1) (31 * h9 + ((n_fo v f k).toInt64)) t1_23 t2_24 t3_25 t4_26 ⟨(by omega), (by rw [n_hf, ← ih1]; rfl)⟩ (by show 5 - (k + 1) < 5 - k; omega) _ _ (hP.sub [1, 0] rfl) (hD.sub [1, 0] (by decide) rfl) hS _ (lv_sub hl [1, 2, 0] rfl)
set_option maxHeartbeats 4000000 in
set_option maxRecDepth 100000 in
theorem c_X6_digest (l : Launch) (dC : Nat → ClassId) (dI : Nat → Nat → Nat) (cI : ClassId) (sz : Nat) (oM : Nat) (rz : Nat) (r2 : Nat) (rb : Nat) (rq : Nat) (km : Nat) (n : Nat) (th : Int32) (tp : Int32) (lf : Int32) (hg : Int32) (wd : Int32) (pm : Int32) (stt : Int32) (hh : Int64) (z : Nat → Int32) (bf : Nat → Int32) (v : Nat → Int32) (hz : n_Z v z) (hI : n_I v) (hn : n ≤ 60) : Met l yX6_digest wsX6_digest ({ frames := 10, cells := 0, slots := 0, locals := 232 }) (kq_M dC dI cI [.ref oM] sz [(oM, .inr (6, [.int th, .ref rz, .ref r2, .int (nI km), .ref rb, .int (nI n), .int tp, .int lf, .int hg, .int wd, .ref rq, .int pm, .int stt, .long hh])), (rz, .inl (cI, 389, .inl z)), (rb, .inl (cI, 60, .inl bf))]) (va_Ql (fun (r : Int64) (u : Int32 × Int32 × Int32 × Int32 × Int64) => r = n_dig2 v km n bf) (kq_B dC dI (va_A [(oM, .inr (6, [.int th, .ref rz, .ref r2, .int (nI km), .ref rb, .int (nI n), .int tp, .int lf, .int hg, .int wd, .ref rq, .int pm, .int stt, .long hh])), (rz, .inl (cI, 389, .inl z)), (rb, .inl (cI, 60, .inl bf))] sz) (fun u : Int32 × Int32 × Int32 × Int32 × Int64 => [(oM, .inr (6, [.int 0, .ref rz, .ref r2, .int (nI km), .ref rb, .int (nI n), .int u.1, .int u.2.1, .int u.2.2.1, .int u.2.2.2.1, .ref rq, .int pm, .int stt, .long u.2.2.2.2])), (rz, .inl (cI, 389, .inl z)), (rb, .inl (cI, 60, .inl bf))])) (va_A [(oM, .inr (6, [.int th, .ref rz, .ref r2, .int (nI km), .ref rb, .int (nI n), .int tp, .int lf, .int hg, .int wd, .ref rq, .int pm, .int stt, .long hh])), (rz, .inl (cI, 389, .inl z)), (rb, .inl (cI, 60, .inl bf))] sz)) 0 0 (va_A [(oM, .inr (6, [.int th, .ref rz, .ref r2, .int (nI km), .ref rb, .int (nI n), .int tp, .int lf, .int hg, .int wd, .ref rq, .int pm, .int stt, .long hh])), (rz, .inl (cI, 389, .inl z)), (rb, .inl (cI, 60, .inl bf))] sz) := by
  refine kq_startM (cc := cX6_digest) (maxL := 3) (ret := (some .long)) (by decide) rfl (Nat.le_of_ble_eq_true rfl) ?_
  intro p e s m below meth c hx hb hr hml hown hlocks hts hsz hA hP hD hS hK hnm ls hl
  subst hsz
  generalize hAe : va_A [(oM, .inr (6, [.int th, .ref rz, .ref r2, .int (nI km), .ref rb, .int (nI n), .int tp, .int lf, .int hg, .int wd, .ref rq, .int pm, .int stt, .long hh])), (rz, .inl (cI, 389, .inl z)), (rb, .inl (cI, 60, .inl bf))] s.heap.size = A at hA hD hS ⊢
  have hown : s.vm.findClass RX6 = some m.cls := hown
  have hl : lv_has ls 3 [(0, .ref oM)] := hl
  refine lv_aload_n hx hb dX6_digest_0 rfl (lv_at hl 0 rfl) ?_
  refine lv_iconst (v := 0) hx hb dX6_digest_1 (by decide) ?_
  refine va_put (D := (dC, dI)) (ci := 6) (v := .int 0) (ty := .int) (C := RX6) (T := TX6) (N := 14) hx hb hts (by decide +kernel) tyX6 tyX6_ok nmX6 hown hK.1 hP hD hS 0 rfl rfl 0 (by decide) (hts (.fieldLink RX6 22 "NoteWatermarksModel" "thrown" "I") (by decide +kernel)) (fun _ h9 => h9) rfl (by decide +kernel) rfl rfl (Nat.le_of_ble_eq_true rfl) dX6_digest_2 (fun H locs hP hD hS => ?_)
  have hP : va_P (dC, dI) vwCl [(oM, .inr (6, [.int 0, .ref rz, .ref r2, .int (nI km), .ref rb, .int (nI n), .int tp, .int lf, .int hg, .int wd, .ref rq, .int pm, .int stt, .long hh])), (rz, .inl (cI, 389, .inl z)), (rb, .inl (cI, 60, .inl bf))] H := hP
  have hD : va_D A [(oM, .inr (6, [.int 0, .ref rz, .ref r2, .int (nI km), .ref rb, .int (nI n), .int tp, .int lf, .int hg, .int wd, .ref rq, .int pm, .int stt, .long hh])), (rz, .inl (cI, 389, .inl z)), (rb, .inl (cI, 60, .inl bf))] := hD
  refine lv_aload_n hx hb dX6_digest_5 rfl (lv_at hl 0 rfl) ?_
  refine lv_ldc2 (v := 2837) hx hb hown (hts (.constantLong RX6 254 (2837)) (by decide +kernel)) dX6_digest_6 ?_
  refine va_put (D := (dC, dI)) (ci := 6) (v := .long 2837) (ty := .long) (C := RX6) (T := TX6) (N := 14) hx hb hts (by decide +kernel) tyX6 tyX6_ok nmX6 hown hK.1 hP hD hS 0 rfl rfl 13 (by decide) (hts (.fieldLink RX6 246 "NoteWatermarksModel" "hash" "J") (by decide +kernel)) (fun _ h9 => h9) rfl (by decide +kernel) rfl rfl (Nat.le_of_ble_eq_true rfl) dX6_digest_9 (fun H locs hP hD hS => ?_)
  have hP : va_P (dC, dI) vwCl [(oM, .inr (6, [.int 0, .ref rz, .ref r2, .int (nI km), .ref rb, .int (nI n), .int tp, .int lf, .int hg, .int wd, .ref rq, .int pm, .int stt, .long 2837])), (rz, .inl (cI, 389, .inl z)), (rb, .inl (cI, 60, .inl bf))] H := hP
  have hD : va_D A [(oM, .inr (6, [.int 0, .ref rz, .ref r2, .int (nI km), .ref rb, .int (nI n), .int tp, .int lf, .int hg, .int wd, .ref rq, .int pm, .int stt, .long 2837])), (rz, .inl (cI, 389, .inl z)), (rb, .inl (cI, 60, .inl bf))] := hD
  refine lv_iconst (v := 0) hx hb dX6_digest_12 (by decide) ?_
  refine lv_istore_n (lv' := [(1, .int 0), (0, .ref oM)]) hx hb dX6_digest_13 rfl hl (by decide) rfl (fun ls hl => ?_)
  refine kq_loopM6 (A1 := Nat) (A2 := Int64) (A3 := Int32) (A4 := Int32) (A5 := Int32) (A6 := Int32) (fun (k : Nat) (h9 : Int64) (t1 : Int32) (t2 : Int32) (t3 : Int32) (t4 : Int32) => 9 - k) (fun (k : Nat) (h9 : Int64) (t1 : Int32) (t2 : Int32) (t3 : Int32) (t4 : Int32) => (k ≤ 9) ∧ (h9 = n_hf (n_cnt v km) 2837 k)) (fun (k : Nat) (h9 : Int64) (t1 : Int32) (t2 : Int32) (t3 : Int32) (t4 : Int32) => [(0, .ref oM), (1, .int (nI k))]) (fun (k : Nat) (h9 : Int64) (t1 : Int32) (t2 : Int32) (t3 : Int32) (t4 : Int32) => [(oM, .inr (6, [.int 0, .ref rz, .ref r2, .int (nI km), .ref rb, .int (nI n), .int t1, .int t2, .int t3, .int t4, .ref rq, .int pm, .int stt, .long h9])), (rz, .inl (cI, 389, .inl z)), (rb, .inl (cI, 60, .inl bf))]) (nL := 3) hK ?_ 0 2837 tp lf hg wd ⟨(by omega), (by rfl)⟩ hP hD hS _ (lv_sub hl [1, 0] rfl)
  intro k h9 t1 t2 t3 t4 hi_2 ih_1 H locs hP hD hS ls hl
  obtain ⟨ik, ih1⟩ := hi_2
  have hl : lv_has ls 3 [(0, .ref oM), (1, .int (nI k))] := hl
  have hP : va_P (dC, dI) vwCl [(oM, .inr (6, [.int 0, .ref rz, .ref r2, .int (nI km), .ref rb, .int (nI n), .int t1, .int t2, .int t3, .int t4, .ref rq, .int pm, .int stt, .long h9])), (rz, .inl (cI, 389, .inl z)), (rb, .inl (cI, 60, .inl bf))] H := hP
  have hD : va_D A [(oM, .inr (6, [.int 0, .ref rz, .ref r2, .int (nI km), .ref rb, .int (nI n), .int t1, .int t2, .int t3, .int t4, .ref rq, .int pm, .int stt, .long h9])), (rz, .inl (cI, 389, .inl z)), (rb, .inl (cI, 60, .inl bf))] := hD
  refine lv_iload_n hx hb dX6_digest_14 rfl (lv_at hl 1 rfl) ?_
  refine lv_bipush (v := 8) hx hb dX6_digest_15 (by decide) ?_
  refine lv_icmp_gt (tgt := 36) hx hb dX6_digest_17 (by decide) (fun c_3 => ?_) (fun c_3 => ?_)
  · skip
    have c_3 := kq_ltN (a := 8) (b := k) c_3 (by omega) (by omega)
    refine lv_iconst (v := 0) hx hb dX6_digest_36 (by decide) ?_
    refine lv_istore_n (lv' := [(1, .int 0), (0, .ref oM)]) hx hb dX6_digest_37 rfl hl (by decide) rfl (fun ls hl => ?_)
    refine kq_loopM2 (A1 := Nat) (A2 := Int64) (fun (k : Nat) (h9 : Int64) => 3 - k) (fun (k : Nat) (h9 : Int64) => (k ≤ 3) ∧ (h9 = n_hf (fun k => v (382 + k)) (n_hf (n_cnt v km) 2837 9) k)) (fun (k : Nat) (h9 : Int64) => [(0, .ref oM), (1, .int (nI k))]) (fun (k : Nat) (h9 : Int64) => [(oM, .inr (6, [.int 0, .ref rz, .ref r2, .int (nI km), .ref rb, .int (nI n), .int t1, .int t2, .int t3, .int t4, .ref rq, .int pm, .int stt, .long h9])), (rz, .inl (cI, 389, .inl z)), (rb, .inl (cI, 60, .inl bf))]) (nL := 3) hK ?_ 0 h9 ⟨(by omega), (by rw [ih1, show k = 9 by omega]; rfl)⟩ hP hD hS _ (lv_sub hl [1, 0] rfl)
    intro k h9 hi_5 ih_4 H locs hP hD hS ls hl
    obtain ⟨ik, ih1⟩ := hi_5
    have hl : lv_has ls 3 [(0, .ref oM), (1, .int (nI k))] := hl
    have hP : va_P (dC, dI) vwCl [(oM, .inr (6, [.int 0, .ref rz, .ref r2, .int (nI km), .ref rb, .int (nI n), .int t1, .int t2, .int t3, .int t4, .ref rq, .int pm, .int stt, .long h9])), (rz, .inl (cI, 389, .inl z)), (rb, .inl (cI, 60, .inl bf))] H := hP
    have hD : va_D A [(oM, .inr (6, [.int 0, .ref rz, .ref r2, .int (nI km), .ref rb, .int (nI n), .int t1, .int t2, .int t3, .int t4, .ref rq, .int pm, .int stt, .long h9])), (rz, .inl (cI, 389, .inl z)), (rb, .inl (cI, 60, .inl bf))] := hD
    refine lv_iload_n hx hb dX6_digest_38 rfl (lv_at hl 1 rfl) ?_
    refine lv_iconst (v := 2) hx hb dX6_digest_39 (by decide) ?_
    refine lv_icmp_gt (tgt := 62) hx hb dX6_digest_40 (by decide) (fun c_6 => ?_) (fun c_6 => ?_)
    · skip
      have c_6 := kq_ltN (a := 2) (b := k) c_6 (by omega) (by omega)
      refine lv_iconst (v := 0) hx hb dX6_digest_62 (by decide) ?_
      refine lv_istore_n (lv' := [(1, .int 0), (0, .ref oM)]) hx hb dX6_digest_63 rfl hl (by decide) rfl (fun ls hl => ?_)
      refine kq_loopM6 (A1 := Nat) (A2 := Int64) (A3 := Int32) (A4 := Int32) (A5 := Int32) (A6 := Int32) (fun (r : Nat) (h9 : Int64) (t1 : Int32) (t2 : Int32) (t3 : Int32) (t4 : Int32) => 3 - r) (fun (r : Nat) (h9 : Int64) (t1 : Int32) (t2 : Int32) (t3 : Int32) (t4 : Int32) => (r ≤ 3) ∧ (h9 = n_h3 v (n_d1 v km) r)) (fun (r : Nat) (h9 : Int64) (t1 : Int32) (t2 : Int32) (t3 : Int32) (t4 : Int32) => [(0, .ref oM), (1, .int (nI r))]) (fun (r : Nat) (h9 : Int64) (t1 : Int32) (t2 : Int32) (t3 : Int32) (t4 : Int32) => [(oM, .inr (6, [.int 0, .ref rz, .ref r2, .int (nI km), .ref rb, .int (nI n), .int t1, .int t2, .int t3, .int t4, .ref rq, .int pm, .int stt, .long h9])), (rz, .inl (cI, 389, .inl z)), (rb, .inl (cI, 60, .inl bf))]) (nL := 3) hK ?_ 0 h9 t1 t2 t3 t4 ⟨(by omega), (by rw [ih1, show k = 3 by omega]; rfl)⟩ hP hD hS _ (lv_sub hl [1, 0] rfl)
      intro r h9 t1 t2 t3 t4 hi_8 ih_7 H locs hP hD hS ls hl
      obtain ⟨ir, ih1⟩ := hi_8
      have hl : lv_has ls 3 [(0, .ref oM), (1, .int (nI r))] := hl
      have hP : va_P (dC, dI) vwCl [(oM, .inr (6, [.int 0, .ref rz, .ref r2, .int (nI km), .ref rb, .int (nI n), .int t1, .int t2, .int t3, .int t4, .ref rq, .int pm, .int stt, .long h9])), (rz, .inl (cI, 389, .inl z)), (rb, .inl (cI, 60, .inl bf))] H := hP
      have hD : va_D A [(oM, .inr (6, [.int 0, .ref rz, .ref r2, .int (nI km), .ref rb, .int (nI n), .int t1, .int t2, .int t3, .int t4, .ref rq, .int pm, .int stt, .long h9])), (rz, .inl (cI, 389, .inl z)), (rb, .inl (cI, 60, .inl bf))] := hD
      refine lv_iload_n hx hb dX6_digest_64 rfl (lv_at hl 1 rfl) ?_
      refine lv_iconst (v := 3) hx hb dX6_digest_65 (by decide) ?_
      refine lv_icmp_ge (tgt := 110) hx hb dX6_digest_66 (by decide) (fun c_9 => ?_) (fun c_9 => ?_)
      · skip
        have c_9 := kq_leN (a := 3) (b := r) c_9 (by omega) (by omega)
        refine lv_iconst (v := 0) hx hb dX6_digest_110 (by decide) ?_
        refine lv_istore_n (lv' := [(1, .int 0), (0, .ref oM)]) hx hb dX6_digest_111 rfl hl (by decide) rfl (fun ls hl => ?_)
        refine kq_loopM2 (A1 := Nat) (A2 := Int64) (fun (k : Nat) (h9 : Int64) => 72 - k) (fun (k : Nat) (h9 : Int64) => (k ≤ 72) ∧ (h9 = n_h4 v (n_h3 v (n_d1 v km) 3) k)) (fun (k : Nat) (h9 : Int64) => [(0, .ref oM), (1, .int (nI k))]) (fun (k : Nat) (h9 : Int64) => [(oM, .inr (6, [.int 0, .ref rz, .ref r2, .int (nI km), .ref rb, .int (nI n), .int t1, .int t2, .int t3, .int t4, .ref rq, .int pm, .int stt, .long h9])), (rz, .inl (cI, 389, .inl z)), (rb, .inl (cI, 60, .inl bf))]) (nL := 3) hK ?_ 0 h9 ⟨(by omega), (by rw [ih1, show r = 3 by omega]; rfl)⟩ hP hD hS _ (lv_sub hl [1, 0] rfl)
        intro k h9 hi_11 ih_10 H locs hP hD hS ls hl
        obtain ⟨ik, ih1⟩ := hi_11
        have hl : lv_has ls 3 [(0, .ref oM), (1, .int (nI k))] := hl
        have hP : va_P (dC, dI) vwCl [(oM, .inr (6, [.int 0, .ref rz, .ref r2, .int (nI km), .ref rb, .int (nI n), .int t1, .int t2, .int t3, .int t4, .ref rq, .int pm, .int stt, .long h9])), (rz, .inl (cI, 389, .inl z)), (rb, .inl (cI, 60, .inl bf))] H := hP
        have hD : va_D A [(oM, .inr (6, [.int 0, .ref rz, .ref r2, .int (nI km), .ref rb, .int (nI n), .int t1, .int t2, .int t3, .int t4, .ref rq, .int pm, .int stt, .long h9])), (rz, .inl (cI, 389, .inl z)), (rb, .inl (cI, 60, .inl bf))] := hD
        refine lv_iload_n hx hb dX6_digest_112 rfl (lv_at hl 1 rfl) ?_
        refine lv_bipush (v := 72) hx hb dX6_digest_113 (by decide) ?_
        refine lv_icmp_ge (tgt := 162) hx hb dX6_digest_115 (by decide) (fun c_12 => ?_) (fun c_12 => ?_)
        · skip
          have c_12 := kq_leN (a := 72) (b := k) c_12 (by omega) (by omega)
          refine lv_aload_n hx hb dX6_digest_162 rfl (lv_at hl 0 rfl) ?_
          refine kq_callMv (wr := [(rb, .inl (cI, 60, .inl bf))]) (va_runV (As := []) (rest := []) ⟨hx, hb, hml, hown, hts⟩ (c_X6_mixFigures l dC dI cI H.size oM rz r2 rb rq km n 0 t1 t2 t3 t4 pm stt h9 z v (by first | assumption | omega) (by first | assumption | omega)) (cwV 0 hts gX6_digest_X6_mixFigures rfl rfl rfl (by decide +kernel) ⟨Nat.le_of_ble_eq_true rfl, Nat.le_of_ble_eq_true rfl⟩) (kq_preV (ci := 6) (q0 := 0) (hP.sub [0, 1] rfl) (hD.sub [0, 1] (by decide) rfl) hK rfl rfl) rfl rfl hl.1 rfl (lv_room (Nat.le_of_ble_eq_true rfl)) dX6_digest_163 ⟨Nat.le_of_ble_eq_true rfl, Nat.le_of_ble_eq_true rfl⟩) hP hD hS hA [0, 1] [2] rfl rfl (by decide) (by decide) (fun u_14 H locs hw_15 hP hD hS => ?_)
          obtain ⟨t1_16, t2_17, t3_18, t4_19⟩ := u_14
          have hP : va_P (dC, dI) vwCl [(rb, .inl (cI, 60, .inl bf)), (oM, .inr (6, [.int 0, .ref rz, .ref r2, .int (nI km), .ref rb, .int (nI n), .int t1_16, .int t2_17, .int t3_18, .int t4_19, .ref rq, .int pm, .int stt, .long (n_h5 v h9 4)])), (rz, .inl (cI, 389, .inl z))] H := hP
          have hD : va_D A [(rb, .inl (cI, 60, .inl bf)), (oM, .inr (6, [.int 0, .ref rz, .ref r2, .int (nI km), .ref rb, .int (nI n), .int t1_16, .int t2_17, .int t3_18, .int t4_19, .ref rq, .int pm, .int stt, .long (n_h5 v h9 4)])), (rz, .inl (cI, 389, .inl z))] := hD
          try dsimp only at hw_15
          refine lv_aload_n hx hb dX6_digest_166 rfl (lv_at hl 0 rfl) ?_
          refine lv_aload_n hx hb dX6_digest_167 rfl (lv_at hl 0 rfl) ?_
          refine kq_cV (As := []) (rest := [.ref oM]) ⟨hx, hb, hml, hown, hts⟩ (c_X6_pitch l dC dI cI oM rz r2 rb rq km n 0 t1_16 t2_17 t3_18 t4_19 pm stt (n_h5 v h9 4) z v (by first | assumption | omega) (by first | assumption | omega)) (cwV 0 hts gX6_digest_X6_pitch rfl rfl rfl (by decide +kernel) ⟨Nat.le_of_ble_eq_true rfl, Nat.le_of_ble_eq_true rfl⟩) (hP.sub [1, 2] rfl) hK (ci := 6) (q0 := 0) rfl rfl rfl rfl hl.1 rfl (Nat.le_of_ble_eq_true rfl) dX6_digest_168 ⟨Nat.le_of_ble_eq_true rfl, Nat.le_of_ble_eq_true rfl⟩ ?_
          refine lv_i2l (v := (nI (n_pit v 18)).toInt64) hx hb dX6_digest_171 rfl ?_
          refine kq_callMv (wr := [(rb, .inl (cI, 60, .inl bf)), (rz, .inl (cI, 389, .inl z))]) (va_runV (As := [.long ((nI (n_pit v 18)).toInt64)]) (rest := []) ⟨hx, hb, hml, hown, hts⟩ (c_X6_mix l dC dI cI H.size oM rz r2 rb rq km n 0 t1_16 t2_17 t3_18 t4_19 pm stt (n_h5 v h9 4) z v ((nI (n_pit v 18)).toInt64) ) (cwV 1 hts gX6_digest_X6_mix rfl rfl rfl (by decide +kernel) ⟨Nat.le_of_ble_eq_true rfl, Nat.le_of_ble_eq_true rfl⟩) (kq_preV (ci := 6) (q0 := 0) (hP.sub [1] rfl) (hD.sub [1] (by decide) rfl) hK rfl rfl) rfl rfl hl.1 rfl (lv_room (Nat.le_of_ble_eq_true rfl)) dX6_digest_172 ⟨Nat.le_of_ble_eq_true rfl, Nat.le_of_ble_eq_true rfl⟩) hP hD hS hA [1] [0, 2] rfl rfl (by decide) (by decide) (fun u_21 H locs hw_22 hP hD hS => ?_)
          have hP : va_P (dC, dI) vwCl [(rb, .inl (cI, 60, .inl bf)), (rz, .inl (cI, 389, .inl z)), (oM, .inr (6, [.int 0, .ref rz, .ref r2, .int (nI km), .ref rb, .int (nI n), .int t1_16, .int t2_17, .int t3_18, .int t4_19, .ref rq, .int pm, .int stt, .long (31 * (n_h5 v h9 4) + ((nI (n_pit v 18)).toInt64))]))] H := hP
          have hD : va_D A [(rb, .inl (cI, 60, .inl bf)), (rz, .inl (cI, 389, .inl z)), (oM, .inr (6, [.int 0, .ref rz, .ref r2, .int (nI km), .ref rb, .int (nI n), .int t1_16, .int t2_17, .int t3_18, .int t4_19, .ref rq, .int pm, .int stt, .long (31 * (n_h5 v h9 4) + ((nI (n_pit v 18)).toInt64))]))] := hD
          refine lv_iconst (v := 0) hx hb dX6_digest_175 (by decide) ?_
          refine lv_istore_n (lv' := [(1, .int 0), (0, .ref oM)]) hx hb dX6_digest_176 rfl hl (by decide) rfl (fun ls hl => ?_)
          refine kq_loopM6 (A1 := Nat) (A2 := Int64) (A3 := Int32) (A4 := Int32) (A5 := Int32) (A6 := Int32) (fun (k : Nat) (h9 : Int64) (t1 : Int32) (t2 : Int32) (t3 : Int32) (t4 : Int32) => 3 - k) (fun (k : Nat) (h9 : Int64) (t1 : Int32) (t2 : Int32) (t3 : Int32) (t4 : Int32) => (k ≤ 3) ∧ (h9 = n_hf (n_so v 2 3) (n_mx (n_d2 v km) (nI (n_pit v 18))) k)) (fun (k : Nat) (h9 : Int64) (t1 : Int32) (t2 : Int32) (t3 : Int32) (t4 : Int32) => [(0, .ref oM), (1, .int (nI k))]) (fun (k : Nat) (h9 : Int64) (t1 : Int32) (t2 : Int32) (t3 : Int32) (t4 : Int32) => [(rb, .inl (cI, 60, .inl bf)), (rz, .inl (cI, 389, .inl z)), (oM, .inr (6, [.int 0, .ref rz, .ref r2, .int (nI km), .ref rb, .int (nI n), .int t1, .int t2, .int t3, .int t4, .ref rq, .int pm, .int stt, .long h9]))]) (nL := 3) hK ?_ 0 (31 * (n_h5 v h9 4) + ((nI (n_pit v 18)).toInt64)) t1_16 t2_17 t3_18 t4_19 ⟨(by omega), (by rw [ih1, show k = 72 by omega]; rfl)⟩ hP hD hS _ (lv_sub hl [1, 0] rfl)
          intro k h9 t1 t2 t3 t4 hi_24 ih_23 H locs hP hD hS ls hl
          obtain ⟨ik, ih1⟩ := hi_24
          have hl : lv_has ls 3 [(0, .ref oM), (1, .int (nI k))] := hl
          have hP : va_P (dC, dI) vwCl [(rb, .inl (cI, 60, .inl bf)), (rz, .inl (cI, 389, .inl z)), (oM, .inr (6, [.int 0, .ref rz, .ref r2, .int (nI km), .ref rb, .int (nI n), .int t1, .int t2, .int t3, .int t4, .ref rq, .int pm, .int stt, .long h9]))] H := hP
          have hD : va_D A [(rb, .inl (cI, 60, .inl bf)), (rz, .inl (cI, 389, .inl z)), (oM, .inr (6, [.int 0, .ref rz, .ref r2, .int (nI km), .ref rb, .int (nI n), .int t1, .int t2, .int t3, .int t4, .ref rq, .int pm, .int stt, .long h9]))] := hD
          refine lv_iload_n hx hb dX6_digest_177 rfl (lv_at hl 1 rfl) ?_
          refine lv_iconst (v := 2) hx hb dX6_digest_178 (by decide) ?_
          refine lv_icmp_gt (tgt := 200) hx hb dX6_digest_179 (by decide) (fun c_25 => ?_) (fun c_25 => ?_)
          · skip
            have c_25 := kq_ltN (a := 2) (b := k) c_25 (by omega) (by omega)
            refine lv_aload_n hx hb dX6_digest_200 rfl (lv_at hl 0 rfl) ?_
            refine lv_aload_n hx hb dX6_digest_201 rfl (lv_at hl 0 rfl) ?_
            refine kq_callMd (wr := [(rb, .inl (cI, 60, .inl bf))]) (va_runV (As := []) (rest := [.ref oM]) ⟨hx, hb, hml, hown, hts⟩ (c_X6_share l dC dI cI H.size oM rz r2 rb rq km n 0 t1 t2 t3 t4 pm stt h9 z v (by first | assumption | omega) (by first | assumption | omega)) (cwV 0 hts gX6_digest_X6_share rfl rfl rfl (by decide +kernel) ⟨Nat.le_of_ble_eq_true rfl, Nat.le_of_ble_eq_true rfl⟩) (kq_preV (ci := 6) (q0 := 0) (hP.sub [2, 1] rfl) (hD.sub [2, 1] (by decide) rfl) hK rfl rfl) rfl rfl hl.1 rfl (lv_room (Nat.le_of_ble_eq_true rfl)) dX6_digest_202 ⟨Nat.le_of_ble_eq_true rfl, Nat.le_of_ble_eq_true rfl⟩) hP hD hS hA [2, 1] [0] rfl rfl (by decide) (by decide) (fun r_26 u_27 H locs hw_28 hP hD hS => ?_)
            obtain ⟨t1_29, t2_30, t3_31, t4_32⟩ := u_27
            have hP : va_P (dC, dI) vwCl [(rb, .inl (cI, 60, .inl bf)), (oM, .inr (6, [.int 0, .ref rz, .ref r2, .int (nI km), .ref rb, .int (nI n), .int t1_29, .int t2_30, .int t3_31, .int t4_32, .ref rq, .int pm, .int stt, .long h9])), (rz, .inl (cI, 389, .inl z))] H := hP
            have hD : va_D A [(rb, .inl (cI, 60, .inl bf)), (oM, .inr (6, [.int 0, .ref rz, .ref r2, .int (nI km), .ref rb, .int (nI n), .int t1_29, .int t2_30, .int t3_31, .int t4_32, .ref rq, .int pm, .int stt, .long h9])), (rz, .inl (cI, 389, .inl z))] := hD
            obtain rfl := hw_28
            refine kq_callMl (wr := [(rb, .inl (cI, 60, .inl bf)), (oM, .inr (6, [.int 0, .ref rz, .ref r2, .int (nI km), .ref rb, .int (nI n), .int t1_29, .int t2_30, .int t3_31, .int t4_32, .ref rq, .int pm, .int stt, .long h9])), (rz, .inl (cI, 389, .inl z))]) (va_runS (As := [.double (n_gn v)]) (rest := [.ref oM]) ⟨hx, hb, hml, hown, hts⟩ (c_X6_bitsOf_b l dC dI cI H.size v ) (va_cwS 1 hts gX6_digest_X6_bitsOf rfl rfl rfl (by decide +kernel) ⟨Nat.le_of_ble_eq_true rfl, Nat.le_of_ble_eq_true rfl⟩) (kq_preS (hP.sub [] rfl) (hD.sub [] (by decide) rfl) hK) rfl rfl hl.1 rfl (lv_room (Nat.le_of_ble_eq_true rfl)) dX6_digest_205 ⟨Nat.le_of_ble_eq_true rfl, Nat.le_of_ble_eq_true rfl⟩) hP hD hS hA [] [0, 1, 2] rfl rfl (by decide) (by decide) (fun r_33 u_34 H locs hw_35 hP hD hS => ?_)
            have hP : va_P (dC, dI) vwCl [(rb, .inl (cI, 60, .inl bf)), (oM, .inr (6, [.int 0, .ref rz, .ref r2, .int (nI km), .ref rb, .int (nI n), .int t1_29, .int t2_30, .int t3_31, .int t4_32, .ref rq, .int pm, .int stt, .long h9])), (rz, .inl (cI, 389, .inl z))] H := hP
            have hD : va_D A [(rb, .inl (cI, 60, .inl bf)), (oM, .inr (6, [.int 0, .ref rz, .ref r2, .int (nI km), .ref rb, .int (nI n), .int t1_29, .int t2_30, .int t3_31, .int t4_32, .ref rq, .int pm, .int stt, .long h9])), (rz, .inl (cI, 389, .inl z))] := hD
            obtain rfl := hw_35
            refine kq_callMv (wr := [(rb, .inl (cI, 60, .inl bf)), (rz, .inl (cI, 389, .inl z))]) (va_runV (As := [.long (n_bs (n_gn v))]) (rest := []) ⟨hx, hb, hml, hown, hts⟩ (c_X6_mix l dC dI cI H.size oM rz r2 rb rq km n 0 t1_29 t2_30 t3_31 t4_32 pm stt h9 z v (n_bs (n_gn v)) ) (cwV 1 hts gX6_digest_X6_mix rfl rfl rfl (by decide +kernel) ⟨Nat.le_of_ble_eq_true rfl, Nat.le_of_ble_eq_true rfl⟩) (kq_preV (ci := 6) (q0 := 0) (hP.sub [1] rfl) (hD.sub [1] (by decide) rfl) hK rfl rfl) rfl rfl hl.1 rfl (lv_room (Nat.le_of_ble_eq_true rfl)) dX6_digest_208 ⟨Nat.le_of_ble_eq_true rfl, Nat.le_of_ble_eq_true rfl⟩) hP hD hS hA [1] [0, 2] rfl rfl (by decide) (by decide) (fun u_37 H locs hw_38 hP hD hS => ?_)
            have hP : va_P (dC, dI) vwCl [(rb, .inl (cI, 60, .inl bf)), (rz, .inl (cI, 389, .inl z)), (oM, .inr (6, [.int 0, .ref rz, .ref r2, .int (nI km), .ref rb, .int (nI n), .int t1_29, .int t2_30, .int t3_31, .int t4_32, .ref rq, .int pm, .int stt, .long (31 * h9 + (n_bs (n_gn v)))]))] H := hP
            have hD : va_D A [(rb, .inl (cI, 60, .inl bf)), (rz, .inl (cI, 389, .inl z)), (oM, .inr (6, [.int 0, .ref rz, .ref r2, .int (nI km), .ref rb, .int (nI n), .int t1_29, .int t2_30, .int t3_31, .int t4_32, .ref rq, .int pm, .int stt, .long (31 * h9 + (n_bs (n_gn v)))]))] := hD
            refine lv_aload_n hx hb dX6_digest_211 rfl (lv_at hl 0 rfl) ?_
            refine lv_aload_n hx hb dX6_digest_212 rfl (lv_at hl 0 rfl) ?_
            refine va_get (D := (dC, dI)) (ci := 6) (v := .int (nI n)) (C := RX6) (T := TX6) (N := 14) hx hb hts (by decide +kernel) hown hK.1 hP 2 rfl rfl 5 (by decide) (hts (.fieldLink RX6 126 "NoteWatermarksModel" "typed" "I") (by decide +kernel)) (fun _ h9 => h9) rfl dX6_digest_213 ?_
            refine lv_i2l (v := (nI n).toInt64) hx hb dX6_digest_216 rfl ?_
            refine kq_callMv (wr := [(rb, .inl (cI, 60, .inl bf)), (rz, .inl (cI, 389, .inl z))]) (va_runV (As := [.long ((nI n).toInt64)]) (rest := []) ⟨hx, hb, hml, hown, hts⟩ (c_X6_mix l dC dI cI H.size oM rz r2 rb rq km n 0 t1_29 t2_30 t3_31 t4_32 pm stt (31 * h9 + (n_bs (n_gn v))) z v ((nI n).toInt64) ) (cwV 1 hts gX6_digest_X6_mix rfl rfl rfl (by decide +kernel) ⟨Nat.le_of_ble_eq_true rfl, Nat.le_of_ble_eq_true rfl⟩) (kq_preV (ci := 6) (q0 := 0) (hP.sub [2] rfl) (hD.sub [2] (by decide) rfl) hK rfl rfl) rfl rfl hl.1 rfl (lv_room (Nat.le_of_ble_eq_true rfl)) dX6_digest_217 ⟨Nat.le_of_ble_eq_true rfl, Nat.le_of_ble_eq_true rfl⟩) hP hD hS hA [2] [0, 1] rfl rfl (by decide) (by decide) (fun u_40 H locs hw_41 hP hD hS => ?_)
            have hP : va_P (dC, dI) vwCl [(rb, .inl (cI, 60, .inl bf)), (rz, .inl (cI, 389, .inl z)), (oM, .inr (6, [.int 0, .ref rz, .ref r2, .int (nI km), .ref rb, .int (nI n), .int t1_29, .int t2_30, .int t3_31, .int t4_32, .ref rq, .int pm, .int stt, .long (31 * (31 * h9 + (n_bs (n_gn v))) + ((nI n).toInt64))]))] H := hP
            have hD : va_D A [(rb, .inl (cI, 60, .inl bf)), (rz, .inl (cI, 389, .inl z)), (oM, .inr (6, [.int 0, .ref rz, .ref r2, .int (nI km), .ref rb, .int (nI n), .int t1_29, .int t2_30, .int t3_31, .int t4_32, .ref rq, .int pm, .int stt, .long (31 * (31 * h9 + (n_bs (n_gn v))) + ((nI n).toInt64))]))] := hD
            refine lv_iconst (v := 0) hx hb dX6_digest_220 (by decide) ?_
            refine lv_istore_n (lv' := [(1, .int 0), (0, .ref oM)]) hx hb dX6_digest_221 rfl hl (by decide) rfl (fun ls hl => ?_)
            refine kq_loopM6 (A1 := Nat) (A2 := Int64) (A3 := Int32) (A4 := Int32) (A5 := Int32) (A6 := Int32) (fun (k : Nat) (h9 : Int64) (t1 : Int32) (t2 : Int32) (t3 : Int32) (t4 : Int32) => n - k) (fun (k : Nat) (h9 : Int64) (t1 : Int32) (t2 : Int32) (t3 : Int32) (t4 : Int32) => (k ≤ n) ∧ (h9 = n_hf bf (n_d4 v km n) k)) (fun (k : Nat) (h9 : Int64) (t1 : Int32) (t2 : Int32) (t3 : Int32) (t4 : Int32) => [(0, .ref oM), (1, .int (nI k))]) (fun (k : Nat) (h9 : Int64) (t1 : Int32) (t2 : Int32) (t3 : Int32) (t4 : Int32) => [(rb, .inl (cI, 60, .inl bf)), (rz, .inl (cI, 389, .inl z)), (oM, .inr (6, [.int 0, .ref rz, .ref r2, .int (nI km), .ref rb, .int (nI n), .int t1, .int t2, .int t3, .int t4, .ref rq, .int pm, .int stt, .long h9]))]) (nL := 3) hK ?_ 0 (31 * (31 * h9 + (n_bs (n_gn v))) + ((nI n).toInt64)) t1_29 t2_30 t3_31 t4_32 ⟨(by omega), (by rw [ih1, show k = 3 by omega]; rfl)⟩ hP hD hS _ (lv_sub hl [1, 0] rfl)
            intro k h9 t1 t2 t3 t4 hi_43 ih_42 H locs hP hD hS ls hl
            obtain ⟨ik, ih1⟩ := hi_43
            have hl : lv_has ls 3 [(0, .ref oM), (1, .int (nI k))] := hl
            have hP : va_P (dC, dI) vwCl [(rb, .inl (cI, 60, .inl bf)), (rz, .inl (cI, 389, .inl z)), (oM, .inr (6, [.int 0, .ref rz, .ref r2, .int (nI km), .ref rb, .int (nI n), .int t1, .int t2, .int t3, .int t4, .ref rq, .int pm, .int stt, .long h9]))] H := hP
            have hD : va_D A [(rb, .inl (cI, 60, .inl bf)), (rz, .inl (cI, 389, .inl z)), (oM, .inr (6, [.int 0, .ref rz, .ref r2, .int (nI km), .ref rb, .int (nI n), .int t1, .int t2, .int t3, .int t4, .ref rq, .int pm, .int stt, .long h9]))] := hD
            refine lv_iload_n hx hb dX6_digest_222 rfl (lv_at hl 1 rfl) ?_
            refine lv_aload_n hx hb dX6_digest_223 rfl (lv_at hl 0 rfl) ?_
            refine va_get (D := (dC, dI)) (ci := 6) (v := .int (nI n)) (C := RX6) (T := TX6) (N := 14) hx hb hts (by decide +kernel) hown hK.1 hP 2 rfl rfl 5 (by decide) (hts (.fieldLink RX6 126 "NoteWatermarksModel" "typed" "I") (by decide +kernel)) (fun _ h9 => h9) rfl dX6_digest_224 ?_
            refine lv_icmp_ge (tgt := 247) hx hb dX6_digest_227 (by decide) (fun c_44 => ?_) (fun c_44 => ?_)
            · skip
              have c_44 := kq_leN (a := n) (b := k) c_44 (by omega) (by omega)
              refine lv_aload_n hx hb dX6_digest_247 rfl (lv_at hl 0 rfl) ?_
              refine va_get (D := (dC, dI)) (ci := 6) (v := .long h9) (C := RX6) (T := TX6) (N := 14) hx hb hts (by decide +kernel) hown hK.1 hP 2 rfl rfl 13 (by decide) (hts (.fieldLink RX6 246 "NoteWatermarksModel" "hash" "J") (by decide +kernel)) (fun _ h9 => h9) rfl dX6_digest_248 ?_
              exact kq_retMl (t1, t2, t3, t4, h9) hx hb hr hlocks (hP.sub [2, 1, 0] rfl) (hD.sub [2, 1, 0] (by decide) rfl) hS dX6_digest_251 (by rw [ih1, show k = n by omega]; rfl)
            · skip
              have c_44 := kq_nleN (a := n) (b := k) c_44 (by omega) (by omega)
              refine lv_aload_n hx hb dX6_digest_230 rfl (lv_at hl 0 rfl) ?_
              refine lv_aload_n hx hb dX6_digest_231 rfl (lv_at hl 0 rfl) ?_
              refine va_get (D := (dC, dI)) (ci := 6) (v := .ref rb) (C := RX6) (T := TX6) (N := 14) hx hb hts (by decide +kernel) hown hK.1 hP 2 rfl rfl 4 (by decide) (hts (.fieldLink RX6 16 "NoteWatermarksModel" "buffer" "[I") (by decide +kernel)) (fun _ h9 => h9) rfl dX6_digest_232 ?_
              refine lv_iload_n hx hb dX6_digest_235 rfl (lv_at hl 1 rfl) ?_
              refine va_iald hx hb hK.1 hP 0 0 rfl rfl (vp_in_nI (show k < 60 from by omega) (by omega)) dX6_digest_236 ?_
              refine kq_top (z := bf k) (congrArg bf (nI_clamp (Nat.lt_trans (show k < 60 from by omega) (by omega)))) ?_
              refine lv_i2l (v := (bf k).toInt64) hx hb dX6_digest_237 rfl ?_
              refine kq_callMv (wr := [(rb, .inl (cI, 60, .inl bf)), (rz, .inl (cI, 389, .inl z))]) (va_runV (As := [.long ((bf k).toInt64)]) (rest := []) ⟨hx, hb, hml, hown, hts⟩ (c_X6_mix l dC dI cI H.size oM rz r2 rb rq km n 0 t1 t2 t3 t4 pm stt h9 z v ((bf k).toInt64) ) (cwV 1 hts gX6_digest_X6_mix rfl rfl rfl (by decide +kernel) ⟨Nat.le_of_ble_eq_true rfl, Nat.le_of_ble_eq_true rfl⟩) (kq_preV (ci := 6) (q0 := 0) (hP.sub [2] rfl) (hD.sub [2] (by decide) rfl) hK rfl rfl) rfl rfl hl.1 rfl (lv_room (Nat.le_of_ble_eq_true rfl)) dX6_digest_238 ⟨Nat.le_of_ble_eq_true rfl, Nat.le_of_ble_eq_true rfl⟩) hP hD hS hA [2] [0, 1] rfl rfl (by decide) (by decide) (fun u_46 H locs hw_47 hP hD hS => ?_)
              have hP : va_P (dC, dI) vwCl [(rb, .inl (cI, 60, .inl bf)), (rz, .inl (cI, 389, .inl z)), (oM, .inr (6, [.int 0, .ref rz, .ref r2, .int (nI km), .ref rb, .int (nI n), .int t1, .int t2, .int t3, .int t4, .ref rq, .int pm, .int stt, .long (31 * h9 + ((bf k).toInt64))]))] H := hP
              have hD : va_D A [(rb, .inl (cI, 60, .inl bf)), (rz, .inl (cI, 389, .inl z)), (oM, .inr (6, [.int 0, .ref rz, .ref r2, .int (nI km), .ref rb, .int (nI n), .int t1, .int t2, .int t3, .int t4, .ref rq, .int pm, .int stt, .long (31 * h9 + ((bf k).toInt64))]))] := hD
              refine lv_iinc (v := nI (k + 1)) (lv' := [(1, .int (nI (k + 1))), (0, .ref oM)]) hx hb dX6_digest_241 hl (k := 1) rfl (nI_1 k) (by decide) rfl (fun ls hl => ?_)
              refine lv_goto (tgt := 222) hx hb dX6_digest_244 (by decide) ?_
              exact ih_42 (k + 1) (31 * h9 + ((bf k).toInt64)) t1 t2 t3 t4 ⟨(by omega), (by rw [n_hf, ← ih1]; rfl)⟩ (by show n - (k + 1) < n - k; omega) _ _ hP hD hS _ (lv_sub hl [1, 0] rfl)
          · skip
            have c_25 := kq_nltN (a := 2) (b := k) c_25 (by omega) (by omega)
            refine lv_aload_n hx hb dX6_digest_182 rfl (lv_at hl 0 rfl) ?_
            refine lv_aload_n hx hb dX6_digest_183 rfl (lv_at hl 0 rfl) ?_
            refine lv_iconst (v := 2) hx hb dX6_digest_184 (by decide) ?_
            refine lv_iconst (v := 3) hx hb dX6_digest_185 (by decide) ?_
            refine lv_iload_n hx hb dX6_digest_186 rfl (lv_at hl 1 rfl) ?_
            refine kq_callMi (wr := [(rb, .inl (cI, 60, .inl bf))]) (va_runV (As := [.int 2, .int 3, .int (nI k)]) (rest := [.ref oM]) ⟨hx, hb, hml, hown, hts⟩ (c_X6_standing l dC dI cI H.size oM rz r2 rb rq km n 0 t1 t2 t3 t4 pm stt h9 z v 2 3 k (by first | assumption | omega) (by first | assumption | omega) (by first | assumption | omega) (by first | assumption | omega) (by first | assumption | omega)) (cwV 3 hts gX6_digest_X6_standing rfl rfl rfl (by decide +kernel) ⟨Nat.le_of_ble_eq_true rfl, Nat.le_of_ble_eq_true rfl⟩) (kq_preV (ci := 6) (q0 := 0) (hP.sub [2, 1] rfl) (hD.sub [2, 1] (by decide) rfl) hK rfl rfl) rfl rfl hl.1 rfl (lv_room (Nat.le_of_ble_eq_true rfl)) dX6_digest_187 ⟨Nat.le_of_ble_eq_true rfl, Nat.le_of_ble_eq_true rfl⟩) hP hD hS hA [2, 1] [0] rfl rfl (by decide) (by decide) (fun r_48 u_49 H locs hw_50 hP hD hS => ?_)
            obtain ⟨t1_51, t2_52, t3_53, t4_54⟩ := u_49
            have hP : va_P (dC, dI) vwCl [(rb, .inl (cI, 60, .inl bf)), (oM, .inr (6, [.int 0, .ref rz, .ref r2, .int (nI km), .ref rb, .int (nI n), .int t1_51, .int t2_52, .int t3_53, .int t4_54, .ref rq, .int pm, .int stt, .long h9])), (rz, .inl (cI, 389, .inl z))] H := hP
            have hD : va_D A [(rb, .inl (cI, 60, .inl bf)), (oM, .inr (6, [.int 0, .ref rz, .ref r2, .int (nI km), .ref rb, .int (nI n), .int t1_51, .int t2_52, .int t3_53, .int t4_54, .ref rq, .int pm, .int stt, .long h9])), (rz, .inl (cI, 389, .inl z))] := hD
            obtain rfl := hw_50
            refine lv_i2l (v := (n_so v 2 3 k).toInt64) hx hb dX6_digest_190 rfl ?_
            refine kq_callMv (wr := [(rb, .inl (cI, 60, .inl bf)), (rz, .inl (cI, 389, .inl z))]) (va_runV (As := [.long ((n_so v 2 3 k).toInt64)]) (rest := []) ⟨hx, hb, hml, hown, hts⟩ (c_X6_mix l dC dI cI H.size oM rz r2 rb rq km n 0 t1_51 t2_52 t3_53 t4_54 pm stt h9 z v ((n_so v 2 3 k).toInt64) ) (cwV 1 hts gX6_digest_X6_mix rfl rfl rfl (by decide +kernel) ⟨Nat.le_of_ble_eq_true rfl, Nat.le_of_ble_eq_true rfl⟩) (kq_preV (ci := 6) (q0 := 0) (hP.sub [1] rfl) (hD.sub [1] (by decide) rfl) hK rfl rfl) rfl rfl hl.1 rfl (lv_room (Nat.le_of_ble_eq_true rfl)) dX6_digest_191 ⟨Nat.le_of_ble_eq_true rfl, Nat.le_of_ble_eq_true rfl⟩) hP hD hS hA [1] [0, 2] rfl rfl (by decide) (by decide) (fun u_56 H locs hw_57 hP hD hS => ?_)
            have hP : va_P (dC, dI) vwCl [(rb, .inl (cI, 60, .inl bf)), (rz, .inl (cI, 389, .inl z)), (oM, .inr (6, [.int 0, .ref rz, .ref r2, .int (nI km), .ref rb, .int (nI n), .int t1_51, .int t2_52, .int t3_53, .int t4_54, .ref rq, .int pm, .int stt, .long (31 * h9 + ((n_so v 2 3 k).toInt64))]))] H := hP
            have hD : va_D A [(rb, .inl (cI, 60, .inl bf)), (rz, .inl (cI, 389, .inl z)), (oM, .inr (6, [.int 0, .ref rz, .ref r2, .int (nI km), .ref rb, .int (nI n), .int t1_51, .int t2_52, .int t3_53, .int t4_54, .ref rq, .int pm, .int stt, .long (31 * h9 + ((n_so v 2 3 k).toInt64))]))] := hD
            refine lv_iinc (v := nI (k + 1)) (lv' := [(1, .int (nI (k + 1))), (0, .ref oM)]) hx hb dX6_digest_194 hl (k := 1) rfl (nI_1 k) (by decide) rfl (fun ls hl => ?_)
            refine lv_goto (tgt := 177) hx hb dX6_digest_197 (by decide) ?_
            exact ih_23 (k + 1) (31 * h9 + ((n_so v 2 3 k).toInt64)) t1_51 t2_52 t3_53 t4_54 ⟨(by omega), (by rw [n_hf, ← ih1]; rfl)⟩ (by show 3 - (k + 1) < 3 - k; omega) _ _ hP hD hS _ (lv_sub hl [1, 0] rfl)
        · skip
          have c_12 := kq_nleN (a := 72) (b := k) c_12 (by omega) (by omega)
          refine lv_aload_n hx hb dX6_digest_118 rfl (lv_at hl 0 rfl) ?_
          refine lv_aload_n hx hb dX6_digest_119 rfl (lv_at hl 0 rfl) ?_
          refine lv_iconst (v := 1) hx hb dX6_digest_120 (by decide) ?_
          refine lv_iload_n hx hb dX6_digest_121 rfl (lv_at hl 1 rfl) ?_
          refine lv_bipush (v := 12) hx hb dX6_digest_122 (by decide) ?_
          refine lv_idiv hx hb dX6_digest_124 (nI_ne0 (n := 12) (by omega) (by omega)) ?_
          refine kq_top (z := nI (k / 12)) (pk_div (a := k) (d := 12) (by omega) (by omega) (by omega)) ?_
          refine lv_iload_n hx hb dX6_digest_125 rfl (lv_at hl 1 rfl) ?_
          refine lv_bipush (v := 12) hx hb dX6_digest_126 (by decide) ?_
          refine lv_irem hx hb dX6_digest_128 (nI_ne0 (n := 12) (by omega) (by omega)) ?_
          refine kq_top (z := nI (k % 12)) (pk_rem (a := k) (d := 12) (by omega) (by omega) (by omega)) ?_
          refine lv_iconst (v := 0) hx hb dX6_digest_129 (by decide) ?_
          refine kq_cV (As := [.int 1, .int (nI (k / 12)), .int (nI (k % 12)), .int 0]) (rest := [.ref oM]) ⟨hx, hb, hml, hown, hts⟩ (c_X6_toldCell l dC dI cI oM rz r2 rb rq km n 0 t1 t2 t3 t4 pm stt h9 z v 1 (k / 12) (k % 12) 0 (by first | assumption | omega) (by first | assumption | omega) (by first | assumption | omega) (by first | assumption | omega) (by first | assumption | omega) (by first | assumption | omega)) (cwV 4 hts gX6_digest_X6_toldCell rfl rfl rfl (by decide +kernel) ⟨Nat.le_of_ble_eq_true rfl, Nat.le_of_ble_eq_true rfl⟩) (hP.sub [0, 1] rfl) hK (ci := 6) (q0 := 0) rfl rfl rfl rfl hl.1 rfl (Nat.le_of_ble_eq_true rfl) dX6_digest_130 ⟨Nat.le_of_ble_eq_true rfl, Nat.le_of_ble_eq_true rfl⟩ ?_
          refine lv_i2l (v := (n_cell v 1 (k / 12) (k % 12) 0).toInt64) hx hb dX6_digest_133 rfl ?_
          refine kq_callMv (wr := [(rz, .inl (cI, 389, .inl z)), (rb, .inl (cI, 60, .inl bf))]) (va_runV (As := [.long ((n_cell v 1 (k / 12) (k % 12) 0).toInt64)]) (rest := []) ⟨hx, hb, hml, hown, hts⟩ (c_X6_mix l dC dI cI H.size oM rz r2 rb rq km n 0 t1 t2 t3 t4 pm stt h9 z v ((n_cell v 1 (k / 12) (k % 12) 0).toInt64) ) (cwV 1 hts gX6_digest_X6_mix rfl rfl rfl (by decide +kernel) ⟨Nat.le_of_ble_eq_true rfl, Nat.le_of_ble_eq_true rfl⟩) (kq_preV (ci := 6) (q0 := 0) (hP.sub [0] rfl) (hD.sub [0] (by decide) rfl) hK rfl rfl) rfl rfl hl.1 rfl (lv_room (Nat.le_of_ble_eq_true rfl)) dX6_digest_134 ⟨Nat.le_of_ble_eq_true rfl, Nat.le_of_ble_eq_true rfl⟩) hP hD hS hA [0] [1, 2] rfl rfl (by decide) (by decide) (fun u_59 H locs hw_60 hP hD hS => ?_)
          have hP : va_P (dC, dI) vwCl [(rz, .inl (cI, 389, .inl z)), (rb, .inl (cI, 60, .inl bf)), (oM, .inr (6, [.int 0, .ref rz, .ref r2, .int (nI km), .ref rb, .int (nI n), .int t1, .int t2, .int t3, .int t4, .ref rq, .int pm, .int stt, .long (31 * h9 + ((n_cell v 1 (k / 12) (k % 12) 0).toInt64))]))] H := hP
          have hD : va_D A [(rz, .inl (cI, 389, .inl z)), (rb, .inl (cI, 60, .inl bf)), (oM, .inr (6, [.int 0, .ref rz, .ref r2, .int (nI km), .ref rb, .int (nI n), .int t1, .int t2, .int t3, .int t4, .ref rq, .int pm, .int stt, .long (31 * h9 + ((n_cell v 1 (k / 12) (k % 12) 0).toInt64))]))] := hD
          refine lv_aload_n hx hb dX6_digest_137 rfl (lv_at hl 0 rfl) ?_
          refine lv_aload_n hx hb dX6_digest_138 rfl (lv_at hl 0 rfl) ?_
          refine lv_iconst (v := 1) hx hb dX6_digest_139 (by decide) ?_
          refine lv_iload_n hx hb dX6_digest_140 rfl (lv_at hl 1 rfl) ?_
          refine lv_bipush (v := 12) hx hb dX6_digest_141 (by decide) ?_
          refine lv_idiv hx hb dX6_digest_143 (nI_ne0 (n := 12) (by omega) (by omega)) ?_
          refine kq_top (z := nI (k / 12)) (pk_div (a := k) (d := 12) (by omega) (by omega) (by omega)) ?_
          refine lv_iload_n hx hb dX6_digest_144 rfl (lv_at hl 1 rfl) ?_
          refine lv_bipush (v := 12) hx hb dX6_digest_145 (by decide) ?_
          refine lv_irem hx hb dX6_digest_147 (nI_ne0 (n := 12) (by omega) (by omega)) ?_
          refine kq_top (z := nI (k % 12)) (pk_rem (a := k) (d := 12) (by omega) (by omega) (by omega)) ?_
          refine lv_iconst (v := 2) hx hb dX6_digest_148 (by decide) ?_
          refine kq_cV (As := [.int 1, .int (nI (k / 12)), .int (nI (k % 12)), .int 2]) (rest := [.ref oM]) ⟨hx, hb, hml, hown, hts⟩ (c_X6_toldCell l dC dI cI oM rz r2 rb rq km n 0 t1 t2 t3 t4 pm stt (31 * h9 + ((n_cell v 1 (k / 12) (k % 12) 0).toInt64)) z v 1 (k / 12) (k % 12) 2 (by first | assumption | omega) (by first | assumption | omega) (by first | assumption | omega) (by first | assumption | omega) (by first | assumption | omega) (by first | assumption | omega)) (cwV 4 hts gX6_digest_X6_toldCell rfl rfl rfl (by decide +kernel) ⟨Nat.le_of_ble_eq_true rfl, Nat.le_of_ble_eq_true rfl⟩) (hP.sub [2, 0] rfl) hK (ci := 6) (q0 := 0) rfl rfl rfl rfl hl.1 rfl (Nat.le_of_ble_eq_true rfl) dX6_digest_149 ⟨Nat.le_of_ble_eq_true rfl, Nat.le_of_ble_eq_true rfl⟩ ?_
          refine lv_i2l (v := (n_cell v 1 (k / 12) (k % 12) 2).toInt64) hx hb dX6_digest_152 rfl ?_
          refine kq_callMv (wr := [(rz, .inl (cI, 389, .inl z)), (rb, .inl (cI, 60, .inl bf))]) (va_runV (As := [.long ((n_cell v 1 (k / 12) (k % 12) 2).toInt64)]) (rest := []) ⟨hx, hb, hml, hown, hts⟩ (c_X6_mix l dC dI cI H.size oM rz r2 rb rq km n 0 t1 t2 t3 t4 pm stt (31 * h9 + ((n_cell v 1 (k / 12) (k % 12) 0).toInt64)) z v ((n_cell v 1 (k / 12) (k % 12) 2).toInt64) ) (cwV 1 hts gX6_digest_X6_mix rfl rfl rfl (by decide +kernel) ⟨Nat.le_of_ble_eq_true rfl, Nat.le_of_ble_eq_true rfl⟩) (kq_preV (ci := 6) (q0 := 0) (hP.sub [2] rfl) (hD.sub [2] (by decide) rfl) hK rfl rfl) rfl rfl hl.1 rfl (lv_room (Nat.le_of_ble_eq_true rfl)) dX6_digest_153 ⟨Nat.le_of_ble_eq_true rfl, Nat.le_of_ble_eq_true rfl⟩) hP hD hS hA [2] [0, 1] rfl rfl (by decide) (by decide) (fun u_62 H locs hw_63 hP hD hS => ?_)
          have hP : va_P (dC, dI) vwCl [(rz, .inl (cI, 389, .inl z)), (rb, .inl (cI, 60, .inl bf)), (oM, .inr (6, [.int 0, .ref rz, .ref r2, .int (nI km), .ref rb, .int (nI n), .int t1, .int t2, .int t3, .int t4, .ref rq, .int pm, .int stt, .long (31 * (31 * h9 + ((n_cell v 1 (k / 12) (k % 12) 0).toInt64)) + ((n_cell v 1 (k / 12) (k % 12) 2).toInt64))]))] H := hP
          have hD : va_D A [(rz, .inl (cI, 389, .inl z)), (rb, .inl (cI, 60, .inl bf)), (oM, .inr (6, [.int 0, .ref rz, .ref r2, .int (nI km), .ref rb, .int (nI n), .int t1, .int t2, .int t3, .int t4, .ref rq, .int pm, .int stt, .long (31 * (31 * h9 + ((n_cell v 1 (k / 12) (k % 12) 0).toInt64)) + ((n_cell v 1 (k / 12) (k % 12) 2).toInt64))]))] := hD
          refine lv_iinc (v := nI (k + 1)) (lv' := [(1, .int (nI (k + 1))), (0, .ref oM)]) hx hb dX6_digest_156 hl (k := 1) rfl (nI_1 k) (by decide) rfl (fun ls hl => ?_)
          refine lv_goto (tgt := 112) hx hb dX6_digest_159 (by decide) ?_
          exact ih_10 (k + 1) (31 * (31 * h9 + ((n_cell v 1 (k / 12) (k % 12) 0).toInt64)) + ((n_cell v 1 (k / 12) (k % 12) 2).toInt64)) ⟨(by omega), (by rw [n_h4, ← ih1]; rfl)⟩ (by show 72 - (k + 1) < 72 - k; omega) _ _ (hP.sub [2, 0, 1] rfl) (hD.sub [2, 0, 1] (by decide) rfl) hS _ (lv_sub hl [1, 0] rfl)
      · skip
        have c_9 := kq_nleN (a := 3) (b := r) c_9 (by omega) (by omega)
        refine lv_iconst (v := 0) hx hb dX6_digest_69 (by decide) ?_
        refine lv_istore_n (lv' := [(2, .int 0), (0, .ref oM), (1, .int (nI r))]) hx hb dX6_digest_70 rfl hl (by decide) rfl (fun ls hl => ?_)
        refine kq_loopM2 (A1 := Nat) (A2 := Int64) (fun (k : Nat) (h9 : Int64) => 5 - k) (fun (k : Nat) (h9 : Int64) => (k ≤ 5) ∧ (h9 = n_hf (n_roll v r) (n_h3 v (n_d1 v km) r) k)) (fun (k : Nat) (h9 : Int64) => [(0, .ref oM), (1, .int (nI r)), (2, .int (nI k))]) (fun (k : Nat) (h9 : Int64) => [(oM, .inr (6, [.int 0, .ref rz, .ref r2, .int (nI km), .ref rb, .int (nI n), .int t1, .int t2, .int t3, .int t4, .ref rq, .int pm, .int stt, .long h9])), (rz, .inl (cI, 389, .inl z)), (rb, .inl (cI, 60, .inl bf))]) (nL := 3) hK ?_ 0 h9 ⟨(by omega), (by rw [ih1]; rfl)⟩ hP hD hS _ (lv_sub hl [1, 2, 0] rfl)
        intro k h9 hi_65 ih_64 H locs hP hD hS ls hl
        obtain ⟨ik, ih1⟩ := hi_65
        have hl : lv_has ls 3 [(0, .ref oM), (1, .int (nI r)), (2, .int (nI k))] := hl
        have hP : va_P (dC, dI) vwCl [(oM, .inr (6, [.int 0, .ref rz, .ref r2, .int (nI km), .ref rb, .int (nI n), .int t1, .int t2, .int t3, .int t4, .ref rq, .int pm, .int stt, .long h9])), (rz, .inl (cI, 389, .inl z)), (rb, .inl (cI, 60, .inl bf))] H := hP
        have hD : va_D A [(oM, .inr (6, [.int 0, .ref rz, .ref r2, .int (nI km), .ref rb, .int (nI n), .int t1, .int t2, .int t3, .int t4, .ref rq, .int pm, .int stt, .long h9])), (rz, .inl (cI, 389, .inl z)), (rb, .inl (cI, 60, .inl bf))] := hD
        refine lv_iload_n hx hb dX6_digest_71 rfl (lv_at hl 2 rfl) ?_
        refine lv_iconst (v := 4) hx hb dX6_digest_72 (by decide) ?_
        refine lv_icmp_gt (tgt := 93) hx hb dX6_digest_73 (by decide) (fun c_66 => ?_) (fun c_66 => ?_)
        · skip
          have c_66 := kq_ltN (a := 4) (b := k) c_66 (by omega) (by omega)
          refine lv_aload_n hx hb dX6_digest_93 rfl (lv_at hl 0 rfl) ?_
          refine lv_aload_n hx hb dX6_digest_94 rfl (lv_at hl 0 rfl) ?_
          refine lv_iload_n hx hb dX6_digest_95 rfl (lv_at hl 1 rfl) ?_
          refine lv_iconst (v := 0) hx hb dX6_digest_96 (by decide) ?_
          refine kq_callMi (wr := [(rb, .inl (cI, 60, .inl bf))]) (va_runV (As := [.int (nI r), .int 0]) (rest := [.ref oM]) ⟨hx, hb, hml, hown, hts⟩ (c_X6_phaseFor l dC dI cI H.size oM rz r2 rb rq km n 0 t1 t2 t3 t4 pm stt h9 z v r 0 (by first | assumption | omega) (by first | assumption | omega) (by first | assumption | omega) (by first | assumption | omega)) (cwV 2 hts gX6_digest_X6_phaseFor rfl rfl rfl (by decide +kernel) ⟨Nat.le_of_ble_eq_true rfl, Nat.le_of_ble_eq_true rfl⟩) (kq_preV (ci := 6) (q0 := 0) (hP.sub [0, 1] rfl) (hD.sub [0, 1] (by decide) rfl) hK rfl rfl) rfl rfl hl.1 rfl (lv_room (Nat.le_of_ble_eq_true rfl)) dX6_digest_97 ⟨Nat.le_of_ble_eq_true rfl, Nat.le_of_ble_eq_true rfl⟩) hP hD hS hA [0, 1] [2] rfl rfl (by decide) (by decide) (fun r_67 u_68 H locs hw_69 hP hD hS => ?_)
          obtain ⟨t1_70, t2_71, t3_72, t4_73⟩ := u_68
          have hP : va_P (dC, dI) vwCl [(rb, .inl (cI, 60, .inl bf)), (oM, .inr (6, [.int 0, .ref rz, .ref r2, .int (nI km), .ref rb, .int (nI n), .int t1_70, .int t2_71, .int t3_72, .int t4_73, .ref rq, .int pm, .int stt, .long h9])), (rz, .inl (cI, 389, .inl z))] H := hP
          have hD : va_D A [(rb, .inl (cI, 60, .inl bf)), (oM, .inr (6, [.int 0, .ref rz, .ref r2, .int (nI km), .ref rb, .int (nI n), .int t1_70, .int t2_71, .int t3_72, .int t4_73, .ref rq, .int pm, .int stt, .long h9])), (rz, .inl (cI, 389, .inl z))] := hD
          obtain rfl := hw_69
          refine lv_i2l (v := (n_bph v r 0).toInt64) hx hb dX6_digest_100 rfl ?_
          refine kq_callMv (wr := [(rb, .inl (cI, 60, .inl bf)), (rz, .inl (cI, 389, .inl z))]) (va_runV (As := [.long ((n_bph v r 0).toInt64)]) (rest := []) ⟨hx, hb, hml, hown, hts⟩ (c_X6_mix l dC dI cI H.size oM rz r2 rb rq km n 0 t1_70 t2_71 t3_72 t4_73 pm stt h9 z v ((n_bph v r 0).toInt64) ) (cwV 1 hts gX6_digest_X6_mix rfl rfl rfl (by decide +kernel) ⟨Nat.le_of_ble_eq_true rfl, Nat.le_of_ble_eq_true rfl⟩) (kq_preV (ci := 6) (q0 := 0) (hP.sub [1] rfl) (hD.sub [1] (by decide) rfl) hK rfl rfl) rfl rfl hl.1 rfl (lv_room (Nat.le_of_ble_eq_true rfl)) dX6_digest_101 ⟨Nat.le_of_ble_eq_true rfl, Nat.le_of_ble_eq_true rfl⟩) hP hD hS hA [1] [0, 2] rfl rfl (by decide) (by decide) (fun u_75 H locs hw_76 hP hD hS => ?_)
          have hP : va_P (dC, dI) vwCl [(rb, .inl (cI, 60, .inl bf)), (rz, .inl (cI, 389, .inl z)), (oM, .inr (6, [.int 0, .ref rz, .ref r2, .int (nI km), .ref rb, .int (nI n), .int t1_70, .int t2_71, .int t3_72, .int t4_73, .ref rq, .int pm, .int stt, .long (31 * h9 + ((n_bph v r 0).toInt64))]))] H := hP
          have hD : va_D A [(rb, .inl (cI, 60, .inl bf)), (rz, .inl (cI, 389, .inl z)), (oM, .inr (6, [.int 0, .ref rz, .ref r2, .int (nI km), .ref rb, .int (nI n), .int t1_70, .int t2_71, .int t3_72, .int t4_73, .ref rq, .int pm, .int stt, .long (31 * h9 + ((n_bph v r 0).toInt64))]))] := hD
          refine lv_iinc (v := nI (r + 1)) (lv' := [(1, .int (nI (r + 1))), (0, .ref oM), (2, .int (nI k))]) hx hb dX6_digest_104 hl (k := 1) rfl (nI_1 r) (by decide) rfl (fun ls hl => ?_)
          refine lv_goto (tgt := 64) hx hb dX6_digest_107 (by decide) ?_
          exact ih_7 (r + 1) (31 * h9 + ((n_bph v r 0).toInt64)) t1_70 t2_71 t3_72 t4_73 ⟨(by omega), (by rw [ih1, show k = 5 by omega]; rfl)⟩ (by show 3 - (r + 1) < 3 - r; omega) _ _ (hP.sub [2, 1, 0] rfl) (hD.sub [2, 1, 0] (by decide) rfl) hS _ (lv_sub hl [1, 0] rfl)
        · skip
          have c_66 := kq_nltN (a := 4) (b := k) c_66 (by omega) (by omega)
          refine lv_aload_n hx hb dX6_digest_76 rfl (lv_at hl 0 rfl) ?_
          refine lv_aload_n hx hb dX6_digest_77 rfl (lv_at hl 0 rfl) ?_
          refine lv_iload_n hx hb dX6_digest_78 rfl (lv_at hl 1 rfl) ?_
          refine lv_iload_n hx hb dX6_digest_79 rfl (lv_at hl 2 rfl) ?_
          refine kq_cV (As := [.int (nI r), .int (nI k)]) (rest := [.ref oM]) ⟨hx, hb, hml, hown, hts⟩ (c_X6_toldRoll l dC dI cI oM rz r2 rb rq km n 0 t1 t2 t3 t4 pm stt h9 z v r k (by first | assumption | omega) (by first | assumption | omega) (by first | assumption | omega) (by first | assumption | omega)) (cwV 2 hts gX6_digest_X6_toldRoll rfl rfl rfl (by decide +kernel) ⟨Nat.le_of_ble_eq_true rfl, Nat.le_of_ble_eq_true rfl⟩) (hP.sub [0, 1] rfl) hK (ci := 6) (q0 := 0) rfl rfl rfl rfl hl.1 rfl (Nat.le_of_ble_eq_true rfl) dX6_digest_80 ⟨Nat.le_of_ble_eq_true rfl, Nat.le_of_ble_eq_true rfl⟩ ?_
          refine lv_i2l (v := (n_roll v r k).toInt64) hx hb dX6_digest_83 rfl ?_
          refine kq_callMv (wr := [(rz, .inl (cI, 389, .inl z)), (rb, .inl (cI, 60, .inl bf))]) (va_runV (As := [.long ((n_roll v r k).toInt64)]) (rest := []) ⟨hx, hb, hml, hown, hts⟩ (c_X6_mix l dC dI cI H.size oM rz r2 rb rq km n 0 t1 t2 t3 t4 pm stt h9 z v ((n_roll v r k).toInt64) ) (cwV 1 hts gX6_digest_X6_mix rfl rfl rfl (by decide +kernel) ⟨Nat.le_of_ble_eq_true rfl, Nat.le_of_ble_eq_true rfl⟩) (kq_preV (ci := 6) (q0 := 0) (hP.sub [0] rfl) (hD.sub [0] (by decide) rfl) hK rfl rfl) rfl rfl hl.1 rfl (lv_room (Nat.le_of_ble_eq_true rfl)) dX6_digest_84 ⟨Nat.le_of_ble_eq_true rfl, Nat.le_of_ble_eq_true rfl⟩) hP hD hS hA [0] [1, 2] rfl rfl (by decide) (by decide) (fun u_78 H locs hw_79 hP hD hS => ?_)
          have hP : va_P (dC, dI) vwCl [(rz, .inl (cI, 389, .inl z)), (rb, .inl (cI, 60, .inl bf)), (oM, .inr (6, [.int 0, .ref rz, .ref r2, .int (nI km), .ref rb, .int (nI n), .int t1, .int t2, .int t3, .int t4, .ref rq, .int pm, .int stt, .long (31 * h9 + ((n_roll v r k).toInt64))]))] H := hP
          have hD : va_D A [(rz, .inl (cI, 389, .inl z)), (rb, .inl (cI, 60, .inl bf)), (oM, .inr (6, [.int 0, .ref rz, .ref r2, .int (nI km), .ref rb, .int (nI n), .int t1, .int t2, .int t3, .int t4, .ref rq, .int pm, .int stt, .long (31 * h9 + ((n_roll v r k).toInt64))]))] := hD
          refine lv_iinc (v := nI (k + 1)) (lv' := [(2, .int (nI (k + 1))), (0, .ref oM), (1, .int (nI r))]) hx hb dX6_digest_87 hl (k := 2) rfl (nI_1 k) (by decide) rfl (fun ls hl => ?_)
          refine lv_goto (tgt := 71) hx hb dX6_digest_90 (by decide) ?_
          exact ih_64 (k + 1) (31 * h9 + ((n_roll v r k).toInt64)) ⟨(by omega), (by rw [n_hf, ← ih1]; rfl)⟩ (by show 5 - (k + 1) < 5 - k; omega) _ _ (hP.sub [2, 0, 1] rfl) (hD.sub [2, 0, 1] (by decide) rfl) hS _ (lv_sub hl [1, 2, 0] rfl)
    · skip
      have c_6 := kq_nltN (a := 2) (b := k) c_6 (by omega) (by omega)
      refine lv_aload_n hx hb dX6_digest_43 rfl (lv_at hl 0 rfl) ?_
      refine lv_aload_n hx hb dX6_digest_44 rfl (lv_at hl 0 rfl) ?_
      refine va_get (D := (dC, dI)) (ci := 6) (v := .ref rz) (C := RX6) (T := TX6) (N := 14) hx hb hts (by decide +kernel) hown hK.1 hP 0 rfl rfl 1 (by decide) (hts (.fieldLink RX6 7 "NoteWatermarksModel" "z" "[I") (by decide +kernel)) (fun _ h9 => h9) rfl dX6_digest_45 ?_
      refine lv_iconst (v := 0) hx hb dX6_digest_48 (by decide) ?_
      refine lv_iload_n hx hb dX6_digest_49 rfl (lv_at hl 1 rfl) ?_
      refine lv_iadd hx hb dX6_digest_50 ?_
      refine kq_top (z := nI (0 + k)) (nI_add 0 k) ?_
      refine va_iald hx hb hK.1 hP 1 0 rfl rfl (vp_in_nI (show 0 + k < 389 from by omega) (by omega)) dX6_digest_51 ?_
      refine kq_top (z := z (0 + k)) (congrArg z (nI_clamp (Nat.lt_trans (show 0 + k < 389 from by omega) (by omega)))) ?_
      refine kq_top (z := v (382 + k)) ((congrArg z (Nat.zero_add k)).trans (hz.1 k (by omega))) ?_
      refine lv_i2l (v := (v (382 + k)).toInt64) hx hb dX6_digest_52 rfl ?_
      refine kq_callMv (wr := [(rz, .inl (cI, 389, .inl z)), (rb, .inl (cI, 60, .inl bf))]) (va_runV (As := [.long ((v (382 + k)).toInt64)]) (rest := []) ⟨hx, hb, hml, hown, hts⟩ (c_X6_mix l dC dI cI H.size oM rz r2 rb rq km n 0 t1 t2 t3 t4 pm stt h9 z v ((v (382 + k)).toInt64) ) (cwV 1 hts gX6_digest_X6_mix rfl rfl rfl (by decide +kernel) ⟨Nat.le_of_ble_eq_true rfl, Nat.le_of_ble_eq_true rfl⟩) (kq_preV (ci := 6) (q0 := 0) (hP.sub [0] rfl) (hD.sub [0] (by decide) rfl) hK rfl rfl) rfl rfl hl.1 rfl (lv_room (Nat.le_of_ble_eq_true rfl)) dX6_digest_53 ⟨Nat.le_of_ble_eq_true rfl, Nat.le_of_ble_eq_true rfl⟩) hP hD hS hA [0] [1, 2] rfl rfl (by decide) (by decide) (fun u_81 H locs hw_82 hP hD hS => ?_)
      have hP : va_P (dC, dI) vwCl [(rz, .inl (cI, 389, .inl z)), (rb, .inl (cI, 60, .inl bf)), (oM, .inr (6, [.int 0, .ref rz, .ref r2, .int (nI km), .ref rb, .int (nI n), .int t1, .int t2, .int t3, .int t4, .ref rq, .int pm, .int stt, .long (31 * h9 + ((v (382 + k)).toInt64))]))] H := hP
      have hD : va_D A [(rz, .inl (cI, 389, .inl z)), (rb, .inl (cI, 60, .inl bf)), (oM, .inr (6, [.int 0, .ref rz, .ref r2, .int (nI km), .ref rb, .int (nI n), .int t1, .int t2, .int t3, .int t4, .ref rq, .int pm, .int stt, .long (31 * h9 + ((v (382 + k)).toInt64))]))] := hD
      refine lv_iinc (v := nI (k + 1)) (lv' := [(1, .int (nI (k + 1))), (0, .ref oM)]) hx hb dX6_digest_56 hl (k := 1) rfl (nI_1 k) (by decide) rfl (fun ls hl => ?_)
      refine lv_goto (tgt := 38) hx hb dX6_digest_59 (by decide) ?_
      exact ih_4 (k + 1) (31 * h9 + ((v (382 + k)).toInt64)) ⟨(by omega), (by rw [n_hf, ← ih1]; rfl)⟩ (by show 3 - (k + 1) < 3 - k; omega) _ _ (hP.sub [2, 0, 1] rfl) (hD.sub [2, 0, 1] (by decide) rfl) hS _ (lv_sub hl [1, 0] rfl)
  · skip
    have c_3 := kq_nltN (a := 8) (b := k) c_3 (by omega) (by omega)
    refine lv_aload_n hx hb dX6_digest_20 rfl (lv_at hl 0 rfl) ?_
    refine lv_aload_n hx hb dX6_digest_21 rfl (lv_at hl 0 rfl) ?_
    refine lv_iload_n hx hb dX6_digest_22 rfl (lv_at hl 1 rfl) ?_
    refine kq_callMi (wr := [(rb, .inl (cI, 60, .inl bf))]) (va_runV (As := [.int (nI k)]) (rest := [.ref oM]) ⟨hx, hb, hml, hown, hts⟩ (c_X6_counted l dC dI cI H.size oM rz r2 rb rq km n 0 t1 t2 t3 t4 pm stt h9 z v k (by first | assumption | omega) (by first | assumption | omega) (by first | assumption | omega)) (cwV 1 hts gX6_digest_X6_counted rfl rfl rfl (by decide +kernel) ⟨Nat.le_of_ble_eq_true rfl, Nat.le_of_ble_eq_true rfl⟩) (kq_preV (ci := 6) (q0 := 0) (hP.sub [0, 1] rfl) (hD.sub [0, 1] (by decide) rfl) hK rfl rfl) rfl rfl hl.1 rfl (lv_room (Nat.le_of_ble_eq_true rfl)) dX6_digest_23 ⟨Nat.le_of_ble_eq_true rfl, Nat.le_of_ble_eq_true rfl⟩) hP hD hS hA [0, 1] [2] rfl rfl (by decide) (by decide) (fun r_83 u_84 H locs hw_85 hP hD hS => ?_)
    obtain ⟨t1_86, t2_87, t3_88, t4_89⟩ := u_84
    have hP : va_P (dC, dI) vwCl [(rb, .inl (cI, 60, .inl bf)), (oM, .inr (6, [.int 0, .ref rz, .ref r2, .int (nI km), .ref rb, .int (nI n), .int t1_86, .int t2_87, .int t3_88, .int t4_89, .ref rq, .int pm, .int stt, .long h9])), (rz, .inl (cI, 389, .inl z))] H := hP
    have hD : va_D A [(rb, .inl (cI, 60, .inl bf)), (oM, .inr (6, [.int 0, .ref rz, .ref r2, .int (nI km), .ref rb, .int (nI n), .int t1_86, .int t2_87, .int t3_88, .int t4_89, .ref rq, .int pm, .int stt, .long h9])), (rz, .inl (cI, 389, .inl z))] := hD
    obtain rfl := hw_85
    refine lv_i2l (v := (n_cnt v km k).toInt64) hx hb dX6_digest_26 rfl ?_
    refine kq_callMv (wr := [(rb, .inl (cI, 60, .inl bf)), (rz, .inl (cI, 389, .inl z))]) (va_runV (As := [.long ((n_cnt v km k).toInt64)]) (rest := []) ⟨hx, hb, hml, hown, hts⟩ (c_X6_mix l dC dI cI H.size oM rz r2 rb rq km n 0 t1_86 t2_87 t3_88 t4_89 pm stt h9 z v ((n_cnt v km k).toInt64) ) (cwV 1 hts gX6_digest_X6_mix rfl rfl rfl (by decide +kernel) ⟨Nat.le_of_ble_eq_true rfl, Nat.le_of_ble_eq_true rfl⟩) (kq_preV (ci := 6) (q0 := 0) (hP.sub [1] rfl) (hD.sub [1] (by decide) rfl) hK rfl rfl) rfl rfl hl.1 rfl (lv_room (Nat.le_of_ble_eq_true rfl)) dX6_digest_27 ⟨Nat.le_of_ble_eq_true rfl, Nat.le_of_ble_eq_true rfl⟩) hP hD hS hA [1] [0, 2] rfl rfl (by decide) (by decide) (fun u_91 H locs hw_92 hP hD hS => ?_)
    have hP : va_P (dC, dI) vwCl [(rb, .inl (cI, 60, .inl bf)), (rz, .inl (cI, 389, .inl z)), (oM, .inr (6, [.int 0, .ref rz, .ref r2, .int (nI km), .ref rb, .int (nI n), .int t1_86, .int t2_87, .int t3_88, .int t4_89, .ref rq, .int pm, .int stt, .long (31 * h9 + ((n_cnt v km k).toInt64))]))] H := hP
    have hD : va_D A [(rb, .inl (cI, 60, .inl bf)), (rz, .inl (cI, 389, .inl z)), (oM, .inr (6, [.int 0, .ref rz, .ref r2, .int (nI km), .ref rb, .int (nI n), .int t1_86, .int t2_87, .int t3_88, .int t4_89, .ref rq, .int pm, .int stt, .long (31 * h9 + ((n_cnt v km k).toInt64))]))] := hD
    refine lv_iinc (v := nI (k + 1)) (lv' := [(1, .int (nI (k + 1))), (0, .ref oM)]) hx hb dX6_digest_30 hl (k := 1) rfl (nI_1 k) (by decide) rfl (fun ls hl => ?_)
    refine lv_goto (tgt := 14) hx hb dX6_digest_33 (by decide) ?_
    exact ih_1 (k + 1) (31 * h9 + ((n_cnt v km k).toInt64)) t1_86 t2_87 t3_88 t4_89 ⟨(by omega), (by rw [n_hf, ← ih1]; rfl)⟩ (by show 9 - (k + 1) < 9 - k; omega) _ _ (hP.sub [2, 1, 0] rfl) (hD.sub [2, 1, 0] (by decide) rfl) hS _ (lv_sub hl [1, 0] rfl)
