/-! What is told of the whole. -/
set_option maxHeartbeats 8000000 in
set_option maxRecDepth 100000 in
theorem c_L_tells (l : Launch) (dC : Nat → ClassId) (dI : Nat → Nat → Nat) (cI : ClassId) (sb sL : Nat) (xs : Nat → Int32) (sz : Nat) (oX : Nat) (oS : Nat) (oR : Nat) (oN : Nat) (o2 : Nat) (oF : Nat) (oT : Nat) (rv : Nat) (rs : Nat) (kc : Nat) (rp : Nat) (rt : Nat) (rl : Nat) (q1 : Nat) (q2 : Nat) (q3 : Nat) (v : Nat → Int32) (fp : Nat → Int32) (ft : Nat → Int32) (fl : Nat → Int32) (z1 : Nat → Int32) (z2 : Nat → Int32) (z3 : Nat → Int32) (pa : Nat) (pf : Nat → Int32) (h9 : Int32) (hI : n_I v) (hW : n_ww sL xs v) (hp : n_pp v pf) (hL : sL ≤ 260) : Met l yL_tells wsL_tells ({ frames := 7, cells := 0, slots := 0, locals := 168 }) (kq_MX dC dI cI sb sL xs [.ref oX, .ref sb, .ref pa, .int h9] sz [(oX, .inr (5, [.ref oS, .ref oR, .ref oN, .ref o2, .ref oF, .ref oT])), (oS, .inr (3, [.ref rv, .ref rs, .int (nI kc)])), (rv, .inl (cI, 385, .inl v)), (oR, .inr (2, [.ref oS])), (oF, .inr (0, [.ref oS, .ref oN])), (oN, .inr (1, [.ref oS, .ref rp, .ref rt, .ref rl])), (rp, .inl (cI, 72, .inl fp)), (rt, .inl (cI, 72, .inl ft)), (rl, .inl (cI, 72, .inl fl)), (o2, .inr (1, [.ref oS, .ref q1, .ref q2, .ref q3])), (q1, .inl (cI, 72, .inl z1)), (q2, .inl (cI, 72, .inl z2)), (q3, .inl (cI, 72, .inl z3)), (pa, .inl (cI, 8, .inl pf))]) (va_Qi (fun (r : Int32) (u : (Nat → Int32) × (Nat → Int32) × (Nat → Int32) × (Nat → Int32) × (Nat → Int32) × (Nat → Int32)) => r = 1) (kq_B dC dI (va_A [(oX, .inr (5, [.ref oS, .ref oR, .ref oN, .ref o2, .ref oF, .ref oT])), (oS, .inr (3, [.ref rv, .ref rs, .int (nI kc)])), (rv, .inl (cI, 385, .inl v)), (oR, .inr (2, [.ref oS])), (oF, .inr (0, [.ref oS, .ref oN])), (oN, .inr (1, [.ref oS, .ref rp, .ref rt, .ref rl])), (rp, .inl (cI, 72, .inl fp)), (rt, .inl (cI, 72, .inl ft)), (rl, .inl (cI, 72, .inl fl)), (o2, .inr (1, [.ref oS, .ref q1, .ref q2, .ref q3])), (q1, .inl (cI, 72, .inl z1)), (q2, .inl (cI, 72, .inl z2)), (q3, .inl (cI, 72, .inl z3)), (pa, .inl (cI, 8, .inl pf))] sz) (fun u : (Nat → Int32) × (Nat → Int32) × (Nat → Int32) × (Nat → Int32) × (Nat → Int32) × (Nat → Int32) => [(oX, .inr (5, [.ref oS, .ref oR, .ref oN, .ref o2, .ref oF, .ref oT])), (oS, .inr (3, [.ref rv, .ref rs, .int (nI kc)])), (rv, .inl (cI, 385, .inl v)), (oR, .inr (2, [.ref oS])), (oF, .inr (0, [.ref oS, .ref oN])), (oN, .inr (1, [.ref oS, .ref rp, .ref rt, .ref rl])), (rp, .inl (cI, 72, .inl u.1)), (rt, .inl (cI, 72, .inl u.2.1)), (rl, .inl (cI, 72, .inl u.2.2.1)), (o2, .inr (1, [.ref oS, .ref q1, .ref q2, .ref q3])), (q1, .inl (cI, 72, .inl u.2.2.2.1)), (q2, .inl (cI, 72, .inl u.2.2.2.2.1)), (q3, .inl (cI, 72, .inl u.2.2.2.2.2)), (pa, .inl (cI, 8, .inl pf))])) (va_A [(oX, .inr (5, [.ref oS, .ref oR, .ref oN, .ref o2, .ref oF, .ref oT])), (oS, .inr (3, [.ref rv, .ref rs, .int (nI kc)])), (rv, .inl (cI, 385, .inl v)), (oR, .inr (2, [.ref oS])), (oF, .inr (0, [.ref oS, .ref oN])), (oN, .inr (1, [.ref oS, .ref rp, .ref rt, .ref rl])), (rp, .inl (cI, 72, .inl fp)), (rt, .inl (cI, 72, .inl ft)), (rl, .inl (cI, 72, .inl fl)), (o2, .inr (1, [.ref oS, .ref q1, .ref q2, .ref q3])), (q1, .inl (cI, 72, .inl z1)), (q2, .inl (cI, 72, .inl z2)), (q3, .inl (cI, 72, .inl z3)), (pa, .inl (cI, 8, .inl pf))] sz)) 0 0 (va_A [(oX, .inr (5, [.ref oS, .ref oR, .ref oN, .ref o2, .ref oF, .ref oT])), (oS, .inr (3, [.ref rv, .ref rs, .int (nI kc)])), (rv, .inl (cI, 385, .inl v)), (oR, .inr (2, [.ref oS])), (oF, .inr (0, [.ref oS, .ref oN])), (oN, .inr (1, [.ref oS, .ref rp, .ref rt, .ref rl])), (rp, .inl (cI, 72, .inl fp)), (rt, .inl (cI, 72, .inl ft)), (rl, .inl (cI, 72, .inl fl)), (o2, .inr (1, [.ref oS, .ref q1, .ref q2, .ref q3])), (q1, .inl (cI, 72, .inl z1)), (q2, .inl (cI, 72, .inl z2)), (q3, .inl (cI, 72, .inl z3)), (pa, .inl (cI, 8, .inl pf))] sz) := by
  refine kq_startMX (cc := cL_tells) (maxL := 12) (ret := (some .boolean)) (by decide) rfl (Nat.le_of_ble_eq_true rfl) ?_
  intro p e s m below meth c hx hb hr hml hown hlocks hts hsz hA hP hD hS hK hnm hX hbl hbA ls hl
  subst hsz
  generalize hAe : va_A [(oX, .inr (5, [.ref oS, .ref oR, .ref oN, .ref o2, .ref oF, .ref oT])), (oS, .inr (3, [.ref rv, .ref rs, .int (nI kc)])), (rv, .inl (cI, 385, .inl v)), (oR, .inr (2, [.ref oS])), (oF, .inr (0, [.ref oS, .ref oN])), (oN, .inr (1, [.ref oS, .ref rp, .ref rt, .ref rl])), (rp, .inl (cI, 72, .inl fp)), (rt, .inl (cI, 72, .inl ft)), (rl, .inl (cI, 72, .inl fl)), (o2, .inr (1, [.ref oS, .ref q1, .ref q2, .ref q3])), (q1, .inl (cI, 72, .inl z1)), (q2, .inl (cI, 72, .inl z2)), (q3, .inl (cI, 72, .inl z3)), (pa, .inl (cI, 8, .inl pf))] s.heap.size = A at hA hD hS hbA ⊢
  have hown : s.vm.findClass RL = some m.cls := hown
  have hl : lv_has ls 12 [(0, .ref oX), (1, .ref sb), (2, .ref pa), (3, .int h9)] := hl
  refine lv_aload_n hx hb dL_tells_0 rfl (lv_at hl 0 rfl) ?_
  refine lv_aload_n hx hb dL_tells_1 rfl (lv_at hl 2 rfl) ?_
  refine kq_callMi (wr := []) (va_runS (As := [.ref oX, .ref pa]) (rest := []) ⟨hx, hb, hml, hown, hts⟩ (c_L_rounds l dC dI cI s.heap.size oX oS oR oN o2 oF oT rv rs kc rp rt rl q1 q2 q3 v fp ft fl z1 z2 z3 pa pf (by first | assumption | omega) (by first | assumption | omega)) (va_cwS 2 hts gL_tells_L_rounds rfl rfl rfl (by decide +kernel) ⟨Nat.le_of_ble_eq_true rfl, Nat.le_of_ble_eq_true rfl⟩) (kq_preS (hP.sub [0, 1, 2, 3, 4, 5, 6, 7, 8, 9, 10, 11, 12, 13] rfl) (hD.sub [0, 1, 2, 3, 4, 5, 6, 7, 8, 9, 10, 11, 12, 13] (by decide) rfl) hK) rfl rfl hl.1 rfl (lv_room (Nat.le_of_ble_eq_true rfl)) dL_tells_2 ⟨Nat.le_of_ble_eq_true rfl, Nat.le_of_ble_eq_true rfl⟩) hP hD hS hA [0, 1, 2, 3, 4, 5, 6, 7, 8, 9, 10, 11, 12, 13] [] rfl rfl (by decide) (by decide) (fun r_1 u_2 H locs hw_3 hP hD hS => ?_)
  obtain ⟨gp_4, gt_5, gl_6, y1_7, y2_8, y3_9⟩ := u_2
  have hP : va_P (dC, dI) vwCl [(oX, .inr (5, [.ref oS, .ref oR, .ref oN, .ref o2, .ref oF, .ref oT])), (oS, .inr (3, [.ref rv, .ref rs, .int (nI kc)])), (rv, .inl (cI, 385, .inl v)), (oR, .inr (2, [.ref oS])), (oF, .inr (0, [.ref oS, .ref oN])), (oN, .inr (1, [.ref oS, .ref rp, .ref rt, .ref rl])), (rp, .inl (cI, 72, .inl gp_4)), (rt, .inl (cI, 72, .inl gt_5)), (rl, .inl (cI, 72, .inl gl_6)), (o2, .inr (1, [.ref oS, .ref q1, .ref q2, .ref q3])), (q1, .inl (cI, 72, .inl y1_7)), (q2, .inl (cI, 72, .inl y2_8)), (q3, .inl (cI, 72, .inl y3_9)), (pa, .inl (cI, 8, .inl pf))] H := hP
  have hD : va_D A [(oX, .inr (5, [.ref oS, .ref oR, .ref oN, .ref o2, .ref oF, .ref oT])), (oS, .inr (3, [.ref rv, .ref rs, .int (nI kc)])), (rv, .inl (cI, 385, .inl v)), (oR, .inr (2, [.ref oS])), (oF, .inr (0, [.ref oS, .ref oN])), (oN, .inr (1, [.ref oS, .ref rp, .ref rt, .ref rl])), (rp, .inl (cI, 72, .inl gp_4)), (rt, .inl (cI, 72, .inl gt_5)), (rl, .inl (cI, 72, .inl gl_6)), (o2, .inr (1, [.ref oS, .ref q1, .ref q2, .ref q3])), (q1, .inl (cI, 72, .inl y1_7)), (q2, .inl (cI, 72, .inl y2_8)), (q3, .inl (cI, 72, .inl y3_9)), (pa, .inl (cI, 8, .inl pf))] := hD
  obtain rfl := hw_3
  refine lv_if_eq (tgt := 36) hx hb dL_tells_5 (by decide) (fun q => absurd q (by decide)) (fun _ => ?_)
  refine lv_aload_n hx hb dL_tells_8 rfl (lv_at hl 0 rfl) ?_
  refine lv_iconst (v := 0) hx hb dL_tells_9 (by decide) ?_
  refine kq_callMi (wr := [(oR, .inr (2, [.ref oS])), (oF, .inr (0, [.ref oS, .ref oN])), (oN, .inr (1, [.ref oS, .ref rp, .ref rt, .ref rl])), (rp, .inl (cI, 72, .inl gp_4)), (rt, .inl (cI, 72, .inl gt_5)), (rl, .inl (cI, 72, .inl gl_6)), (o2, .inr (1, [.ref oS, .ref q1, .ref q2, .ref q3])), (q1, .inl (cI, 72, .inl y1_7)), (q2, .inl (cI, 72, .inl y2_8)), (q3, .inl (cI, 72, .inl y3_9)), (pa, .inl (cI, 8, .inl pf))]) (va_runV (As := [.int 0]) (rest := []) ⟨hx, hb, hml, hown, hts⟩ (c_X5_setting l dC dI cI H.size oX oS oR oN o2 oF oT rv rs kc v 0 (by first | assumption | omega)) (cwV 1 hts gL_tells_X5_setting rfl rfl rfl (by decide +kernel) ⟨Nat.le_of_ble_eq_true rfl, Nat.le_of_ble_eq_true rfl⟩) (kq_preV (ci := 5) (q0 := 0) (hP.sub [0, 1, 2] rfl) (hD.sub [0, 1, 2] (by decide) rfl) hK rfl rfl) rfl rfl hl.1 rfl (lv_room (Nat.le_of_ble_eq_true rfl)) dL_tells_10 ⟨Nat.le_of_ble_eq_true rfl, Nat.le_of_ble_eq_true rfl⟩) hP hD hS hA [0, 1, 2] [3, 4, 5, 6, 7, 8, 9, 10, 11, 12, 13] rfl rfl (by decide) (by decide) (fun r_11 u_12 H locs hw_13 hP hD hS => ?_)
  have hP : va_P (dC, dI) vwCl [(oR, .inr (2, [.ref oS])), (oF, .inr (0, [.ref oS, .ref oN])), (oN, .inr (1, [.ref oS, .ref rp, .ref rt, .ref rl])), (rp, .inl (cI, 72, .inl gp_4)), (rt, .inl (cI, 72, .inl gt_5)), (rl, .inl (cI, 72, .inl gl_6)), (o2, .inr (1, [.ref oS, .ref q1, .ref q2, .ref q3])), (q1, .inl (cI, 72, .inl y1_7)), (q2, .inl (cI, 72, .inl y2_8)), (q3, .inl (cI, 72, .inl y3_9)), (pa, .inl (cI, 8, .inl pf)), (oX, .inr (5, [.ref oS, .ref oR, .ref oN, .ref o2, .ref oF, .ref oT])), (oS, .inr (3, [.ref rv, .ref rs, .int (nI kc)])), (rv, .inl (cI, 385, .inl v))] H := hP
  have hD : va_D A [(oR, .inr (2, [.ref oS])), (oF, .inr (0, [.ref oS, .ref oN])), (oN, .inr (1, [.ref oS, .ref rp, .ref rt, .ref rl])), (rp, .inl (cI, 72, .inl gp_4)), (rt, .inl (cI, 72, .inl gt_5)), (rl, .inl (cI, 72, .inl gl_6)), (o2, .inr (1, [.ref oS, .ref q1, .ref q2, .ref q3])), (q1, .inl (cI, 72, .inl y1_7)), (q2, .inl (cI, 72, .inl y2_8)), (q3, .inl (cI, 72, .inl y3_9)), (pa, .inl (cI, 8, .inl pf)), (oX, .inr (5, [.ref oS, .ref oR, .ref oN, .ref o2, .ref oF, .ref oT])), (oS, .inr (3, [.ref rv, .ref rs, .int (nI kc)])), (rv, .inl (cI, 385, .inl v))] := hD
  obtain rfl := hw_13
  refine lv_aload_n hx hb dL_tells_13 rfl (lv_at hl 2 rfl) ?_
  refine lv_bipush (v := 6) hx hb dL_tells_14 (by decide) ?_
  refine va_iald hx hb hK.1 hP 10 0 rfl rfl (vp_in_nI (show 6 < 8 from by omega) (by omega)) dL_tells_16 ?_
  refine kq_top (z := pf 6) (congrArg pf (nI_clamp (Nat.lt_trans (show 6 < 8 from by omega) (by omega)))) ?_
  refine lv_icmp_ne (tgt := 36) hx hb dL_tells_17 (by decide) (fun c_14 => ?_) (fun c_14 => ?_)
  · skip
    exact absurd (show v (382 + 0) = pf 6 from hp.2.1.symm) c_14
  · skip
    refine lv_aload_n hx hb dL_tells_20 rfl (lv_at hl 0 rfl) ?_
    refine lv_iconst (v := 1) hx hb dL_tells_21 (by decide) ?_
    refine kq_callMi (wr := [(oR, .inr (2, [.ref oS])), (oF, .inr (0, [.ref oS, .ref oN])), (oN, .inr (1, [.ref oS, .ref rp, .ref rt, .ref rl])), (rp, .inl (cI, 72, .inl gp_4)), (rt, .inl (cI, 72, .inl gt_5)), (rl, .inl (cI, 72, .inl gl_6)), (o2, .inr (1, [.ref oS, .ref q1, .ref q2, .ref q3])), (q1, .inl (cI, 72, .inl y1_7)), (q2, .inl (cI, 72, .inl y2_8)), (q3, .inl (cI, 72, .inl y3_9)), (pa, .inl (cI, 8, .inl pf))]) (va_runV (As := [.int 1]) (rest := []) ⟨hx, hb, hml, hown, hts⟩ (c_X5_setting l dC dI cI H.size oX oS oR oN o2 oF oT rv rs kc v 1 (by first | assumption | omega)) (cwV 1 hts gL_tells_X5_setting rfl rfl rfl (by decide +kernel) ⟨Nat.le_of_ble_eq_true rfl, Nat.le_of_ble_eq_true rfl⟩) (kq_preV (ci := 5) (q0 := 0) (hP.sub [11, 12, 13] rfl) (hD.sub [11, 12, 13] (by decide) rfl) hK rfl rfl) rfl rfl hl.1 rfl (lv_room (Nat.le_of_ble_eq_true rfl)) dL_tells_22 ⟨Nat.le_of_ble_eq_true rfl, Nat.le_of_ble_eq_true rfl⟩) hP hD hS hA [11, 12, 13] [0, 1, 2, 3, 4, 5, 6, 7, 8, 9, 10] rfl rfl (by decide) (by decide) (fun r_15 u_16 H locs hw_17 hP hD hS => ?_)
    have hP : va_P (dC, dI) vwCl [(oR, .inr (2, [.ref oS])), (oF, .inr (0, [.ref oS, .ref oN])), (oN, .inr (1, [.ref oS, .ref rp, .ref rt, .ref rl])), (rp, .inl (cI, 72, .inl gp_4)), (rt, .inl (cI, 72, .inl gt_5)), (rl, .inl (cI, 72, .inl gl_6)), (o2, .inr (1, [.ref oS, .ref q1, .ref q2, .ref q3])), (q1, .inl (cI, 72, .inl y1_7)), (q2, .inl (cI, 72, .inl y2_8)), (q3, .inl (cI, 72, .inl y3_9)), (pa, .inl (cI, 8, .inl pf)), (oX, .inr (5, [.ref oS, .ref oR, .ref oN, .ref o2, .ref oF, .ref oT])), (oS, .inr (3, [.ref rv, .ref rs, .int (nI kc)])), (rv, .inl (cI, 385, .inl v))] H := hP
    have hD : va_D A [(oR, .inr (2, [.ref oS])), (oF, .inr (0, [.ref oS, .ref oN])), (oN, .inr (1, [.ref oS, .ref rp, .ref rt, .ref rl])), (rp, .inl (cI, 72, .inl gp_4)), (rt, .inl (cI, 72, .inl gt_5)), (rl, .inl (cI, 72, .inl gl_6)), (o2, .inr (1, [.ref oS, .ref q1, .ref q2, .ref q3])), (q1, .inl (cI, 72, .inl y1_7)), (q2, .inl (cI, 72, .inl y2_8)), (q3, .inl (cI, 72, .inl y3_9)), (pa, .inl (cI, 8, .inl pf)), (oX, .inr (5, [.ref oS, .ref oR, .ref oN, .ref o2, .ref oF, .ref oT])), (oS, .inr (3, [.ref rv, .ref rs, .int (nI kc)])), (rv, .inl (cI, 385, .inl v))] := hD
    obtain rfl := hw_17
    refine lv_aload_n hx hb dL_tells_25 rfl (lv_at hl 2 rfl) ?_
    refine lv_bipush (v := 7) hx hb dL_tells_26 (by decide) ?_
    refine va_iald hx hb hK.1 hP 10 0 rfl rfl (vp_in_nI (show 7 < 8 from by omega) (by omega)) dL_tells_28 ?_
    refine kq_top (z := pf 7) (congrArg pf (nI_clamp (Nat.lt_trans (show 7 < 8 from by omega) (by omega)))) ?_
    refine lv_icmp_ne (tgt := 36) hx hb dL_tells_29 (by decide) (fun c_18 => ?_) (fun c_18 => ?_)
    · skip
      exact absurd (show v (382 + 1) = pf 7 from hp.2.2.symm) c_18
    · skip
      refine lv_iconst (v := 1) hx hb dL_tells_32 (by decide) ?_
      refine lv_goto (tgt := 37) hx hb dL_tells_33 (by decide) ?_
      refine lv_istore (lv' := [(4, .int 1), (0, .ref oX), (1, .ref sb), (2, .ref pa), (3, .int h9)]) hx hb dL_tells_37 hl (by decide) rfl (fun ls hl => ?_)
      refine lv_iconst (v := 0) hx hb dL_tells_39 (by decide) ?_
      refine lv_istore (lv' := [(5, .int 0), (4, .int 1), (0, .ref oX), (1, .ref sb), (2, .ref pa), (3, .int h9)]) hx hb dL_tells_40 hl (by decide) rfl (fun ls hl => ?_)
      refine kq_loopM4 (A1 := Nat) (A2 := Nat → Int32) (A3 := Nat → Int32) (A4 := Nat → Int32) (fun (k : Nat) (fp : Nat → Int32) (ft : Nat → Int32) (fl : Nat → Int32) => 4 - k) (fun (k : Nat) (fp : Nat → Int32) (ft : Nat → Int32) (fl : Nat → Int32) => (k ≤ 4)) (fun (k : Nat) (fp : Nat → Int32) (ft : Nat → Int32) (fl : Nat → Int32) => [(0, .ref oX), (1, .ref sb), (2, .ref pa), (3, .int h9), (4, .int 1), (5, .int (nI k))]) (fun (k : Nat) (fp : Nat → Int32) (ft : Nat → Int32) (fl : Nat → Int32) => [(oR, .inr (2, [.ref oS])), (oF, .inr (0, [.ref oS, .ref oN])), (oN, .inr (1, [.ref oS, .ref rp, .ref rt, .ref rl])), (rp, .inl (cI, 72, .inl fp)), (rt, .inl (cI, 72, .inl ft)), (rl, .inl (cI, 72, .inl fl)), (o2, .inr (1, [.ref oS, .ref q1, .ref q2, .ref q3])), (q1, .inl (cI, 72, .inl y1_7)), (q2, .inl (cI, 72, .inl y2_8)), (q3, .inl (cI, 72, .inl y3_9)), (pa, .inl (cI, 8, .inl pf)), (oX, .inr (5, [.ref oS, .ref oR, .ref oN, .ref o2, .ref oF, .ref oT])), (oS, .inr (3, [.ref rv, .ref rs, .int (nI kc)])), (rv, .inl (cI, 385, .inl v))]) (nL := 12) hK ?_ 0 gp_4 gt_5 gl_6 (by omega) hP hD hS _ (lv_sub hl [2, 3, 4, 5, 1, 0] rfl)
      intro k fp ft fl hi_20 ih_19 H locs hP hD hS ls hl
      have ik : k ≤ 4 := hi_20
      have hl : lv_has ls 12 [(0, .ref oX), (1, .ref sb), (2, .ref pa), (3, .int h9), (4, .int 1), (5, .int (nI k))] := hl
      have hP : va_P (dC, dI) vwCl [(oR, .inr (2, [.ref oS])), (oF, .inr (0, [.ref oS, .ref oN])), (oN, .inr (1, [.ref oS, .ref rp, .ref rt, .ref rl])), (rp, .inl (cI, 72, .inl fp)), (rt, .inl (cI, 72, .inl ft)), (rl, .inl (cI, 72, .inl fl)), (o2, .inr (1, [.ref oS, .ref q1, .ref q2, .ref q3])), (q1, .inl (cI, 72, .inl y1_7)), (q2, .inl (cI, 72, .inl y2_8)), (q3, .inl (cI, 72, .inl y3_9)), (pa, .inl (cI, 8, .inl pf)), (oX, .inr (5, [.ref oS, .ref oR, .ref oN, .ref o2, .ref oF, .ref oT])), (oS, .inr (3, [.ref rv, .ref rs, .int (nI kc)])), (rv, .inl (cI, 385, .inl v))] H := hP
      have hD : va_D A [(oR, .inr (2, [.ref oS])), (oF, .inr (0, [.ref oS, .ref oN])), (oN, .inr (1, [.ref oS, .ref rp, .ref rt, .ref rl])), (rp, .inl (cI, 72, .inl fp)), (rt, .inl (cI, 72, .inl ft)), (rl, .inl (cI, 72, .inl fl)), (o2, .inr (1, [.ref oS, .ref q1, .ref q2, .ref q3])), (q1, .inl (cI, 72, .inl y1_7)), (q2, .inl (cI, 72, .inl y2_8)), (q3, .inl (cI, 72, .inl y3_9)), (pa, .inl (cI, 8, .inl pf)), (oX, .inr (5, [.ref oS, .ref oR, .ref oN, .ref o2, .ref oF, .ref oT])), (oS, .inr (3, [.ref rv, .ref rs, .int (nI kc)])), (rv, .inl (cI, 385, .inl v))] := hD
      refine lv_iload hx hb dL_tells_42 (lv_at hl 5 rfl) ?_
      refine lv_iconst (v := 4) hx hb dL_tells_44 (by decide) ?_
      refine lv_icmp_ge (tgt := 90) hx hb dL_tells_45 (by decide) (fun c_21 => ?_) (fun c_21 => ?_)
      · skip
        have c_21 := kq_leN (a := 4) (b := k) c_21 (by omega) (by omega)
        refine lv_bipush (v := 19) hx hb dL_tells_90 (by decide) ?_
        refine lv_istore (lv' := [(5, .int 19), (0, .ref oX), (1, .ref sb), (2, .ref pa), (3, .int h9), (4, .int 1)]) hx hb dL_tells_92 hl (by decide) rfl (fun ls hl => ?_)
        refine lv_iconst (v := 0) hx hb dL_tells_94 (by decide) ?_
        refine lv_istore (lv' := [(6, .int 0), (5, .int 19), (0, .ref oX), (1, .ref sb), (2, .ref pa), (3, .int h9), (4, .int 1)]) hx hb dL_tells_95 hl (by decide) rfl (fun ls hl => ?_)
        refine lv_iconst (v := 0) hx hb dL_tells_97 (by decide) ?_
        refine lv_istore (lv' := [(7, .int 0), (6, .int 0), (5, .int 19), (0, .ref oX), (1, .ref sb), (2, .ref pa), (3, .int h9), (4, .int 1)]) hx hb dL_tells_98 hl (by decide) rfl (fun ls hl => ?_)
        refine kq_loopM3 (A1 := Nat) (A2 := Int32) (A3 := Int32) (fun (k : Nat) (x1 : Int32) (x2 : Int32) => 72 - k) (fun (k : Nat) (x1 : Int32) (x2 : Int32) => (k ≤ 72) ∧ (x1 = n_min (fun k => n_to v 0 (k / 12) (k % 12)) k) ∧ (x2 = n_max (fun k => n_to v 0 (k / 12) (k % 12)) k)) (fun (k : Nat) (x1 : Int32) (x2 : Int32) => [(0, .ref oX), (1, .ref sb), (2, .ref pa), (4, .int 1), (5, .int x1), (6, .int x2), (7, .int (nI k))]) (fun (k : Nat) (x1 : Int32) (x2 : Int32) => [(oR, .inr (2, [.ref oS])), (oF, .inr (0, [.ref oS, .ref oN])), (oN, .inr (1, [.ref oS, .ref rp, .ref rt, .ref rl])), (rp, .inl (cI, 72, .inl fp)), (rt, .inl (cI, 72, .inl ft)), (rl, .inl (cI, 72, .inl fl)), (o2, .inr (1, [.ref oS, .ref q1, .ref q2, .ref q3])), (q1, .inl (cI, 72, .inl y1_7)), (q2, .inl (cI, 72, .inl y2_8)), (q3, .inl (cI, 72, .inl y3_9)), (pa, .inl (cI, 8, .inl pf)), (oX, .inr (5, [.ref oS, .ref oR, .ref oN, .ref o2, .ref oF, .ref oT])), (oS, .inr (3, [.ref rv, .ref rs, .int (nI kc)])), (rv, .inl (cI, 385, .inl v))]) (nL := 12) hK ?_ 0 19 0 ⟨(by omega), (by rfl), (by rfl)⟩ hP hD hS _ (lv_sub hl [3, 4, 5, 7, 2, 1, 0] rfl)
        intro k x1 x2 hi_23 ih_22 H locs hP hD hS ls hl
        obtain ⟨ik2, i1, i2⟩ := hi_23
        have hl : lv_has ls 12 [(0, .ref oX), (1, .ref sb), (2, .ref pa), (4, .int 1), (5, .int x1), (6, .int x2), (7, .int (nI k))] := hl
        have hP : va_P (dC, dI) vwCl [(oR, .inr (2, [.ref oS])), (oF, .inr (0, [.ref oS, .ref oN])), (oN, .inr (1, [.ref oS, .ref rp, .ref rt, .ref rl])), (rp, .inl (cI, 72, .inl fp)), (rt, .inl (cI, 72, .inl ft)), (rl, .inl (cI, 72, .inl fl)), (o2, .inr (1, [.ref oS, .ref q1, .ref q2, .ref q3])), (q1, .inl (cI, 72, .inl y1_7)), (q2, .inl (cI, 72, .inl y2_8)), (q3, .inl (cI, 72, .inl y3_9)), (pa, .inl (cI, 8, .inl pf)), (oX, .inr (5, [.ref oS, .ref oR, .ref oN, .ref o2, .ref oF, .ref oT])), (oS, .inr (3, [.ref rv, .ref rs, .int (nI kc)])), (rv, .inl (cI, 385, .inl v))] H := hP
        have hD : va_D A [(oR, .inr (2, [.ref oS])), (oF, .inr (0, [.ref oS, .ref oN])), (oN, .inr (1, [.ref oS, .ref rp, .ref rt, .ref rl])), (rp, .inl (cI, 72, .inl fp)), (rt, .inl (cI, 72, .inl ft)), (rl, .inl (cI, 72, .inl fl)), (o2, .inr (1, [.ref oS, .ref q1, .ref q2, .ref q3])), (q1, .inl (cI, 72, .inl y1_7)), (q2, .inl (cI, 72, .inl y2_8)), (q3, .inl (cI, 72, .inl y3_9)), (pa, .inl (cI, 8, .inl pf)), (oX, .inr (5, [.ref oS, .ref oR, .ref oN, .ref o2, .ref oF, .ref oT])), (oS, .inr (3, [.ref rv, .ref rs, .int (nI kc)])), (rv, .inl (cI, 385, .inl v))] := hD
        refine lv_iload hx hb dL_tells_100 (lv_at hl 6 rfl) ?_
        refine lv_bipush (v := 72) hx hb dL_tells_102 (by decide) ?_
        refine lv_icmp_ge (tgt := 163) hx hb dL_tells_104 (by decide) (fun c_24 => ?_) (fun c_24 => ?_)
        · skip
          have c_24 := kq_leN (a := 72) (b := k) c_24 (by omega) (by omega)
          have hk72 : k = 72 := by omega
          rw [hk72] at i1 i2
          refine lv_iconst (v := 0) hx hb dL_tells_163 (by decide) ?_
          refine lv_istore (lv' := [(7, .int 0), (0, .ref oX), (1, .ref sb), (2, .ref pa), (4, .int 1), (5, .int x1), (6, .int x2)]) hx hb dL_tells_164 hl (by decide) rfl (fun ls hl => ?_)
          refine kq_loopM1 (A1 := Nat) (fun (r : Nat) => 3 - r) (fun (r : Nat) => (r ≤ 3)) (fun (r : Nat) => [(0, .ref oX), (1, .ref sb), (2, .ref pa), (4, .int 1), (5, .int x1), (6, .int x2), (7, .int (nI r))]) (fun (r : Nat) => [(oR, .inr (2, [.ref oS])), (oF, .inr (0, [.ref oS, .ref oN])), (oN, .inr (1, [.ref oS, .ref rp, .ref rt, .ref rl])), (rp, .inl (cI, 72, .inl fp)), (rt, .inl (cI, 72, .inl ft)), (rl, .inl (cI, 72, .inl fl)), (o2, .inr (1, [.ref oS, .ref q1, .ref q2, .ref q3])), (q1, .inl (cI, 72, .inl y1_7)), (q2, .inl (cI, 72, .inl y2_8)), (q3, .inl (cI, 72, .inl y3_9)), (pa, .inl (cI, 8, .inl pf)), (oX, .inr (5, [.ref oS, .ref oR, .ref oN, .ref o2, .ref oF, .ref oT])), (oS, .inr (3, [.ref rv, .ref rs, .int (nI kc)])), (rv, .inl (cI, 385, .inl v))]) (nL := 12) hK ?_ 0 (by omega) hP hD hS _ (lv_sub hl [1, 2, 3, 4, 5, 6, 0] rfl)
          intro r hi_26 ih_25 H locs hP hD hS ls hl
          have ir : r ≤ 3 := hi_26
          have hl : lv_has ls 12 [(0, .ref oX), (1, .ref sb), (2, .ref pa), (4, .int 1), (5, .int x1), (6, .int x2), (7, .int (nI r))] := hl
          have hP : va_P (dC, dI) vwCl [(oR, .inr (2, [.ref oS])), (oF, .inr (0, [.ref oS, .ref oN])), (oN, .inr (1, [.ref oS, .ref rp, .ref rt, .ref rl])), (rp, .inl (cI, 72, .inl fp)), (rt, .inl (cI, 72, .inl ft)), (rl, .inl (cI, 72, .inl fl)), (o2, .inr (1, [.ref oS, .ref q1, .ref q2, .ref q3])), (q1, .inl (cI, 72, .inl y1_7)), (q2, .inl (cI, 72, .inl y2_8)), (q3, .inl (cI, 72, .inl y3_9)), (pa, .inl (cI, 8, .inl pf)), (oX, .inr (5, [.ref oS, .ref oR, .ref oN, .ref o2, .ref oF, .ref oT])), (oS, .inr (3, [.ref rv, .ref rs, .int (nI kc)])), (rv, .inl (cI, 385, .inl v))] H := hP
          have hD : va_D A [(oR, .inr (2, [.ref oS])), (oF, .inr (0, [.ref oS, .ref oN])), (oN, .inr (1, [.ref oS, .ref rp, .ref rt, .ref rl])), (rp, .inl (cI, 72, .inl fp)), (rt, .inl (cI, 72, .inl ft)), (rl, .inl (cI, 72, .inl fl)), (o2, .inr (1, [.ref oS, .ref q1, .ref q2, .ref q3])), (q1, .inl (cI, 72, .inl y1_7)), (q2, .inl (cI, 72, .inl y2_8)), (q3, .inl (cI, 72, .inl y3_9)), (pa, .inl (cI, 8, .inl pf)), (oX, .inr (5, [.ref oS, .ref oR, .ref oN, .ref o2, .ref oF, .ref oT])), (oS, .inr (3, [.ref rv, .ref rs, .int (nI kc)])), (rv, .inl (cI, 385, .inl v))] := hD
          refine lv_iload hx hb dL_tells_166 (lv_at hl 6 rfl) ?_
          refine lv_iconst (v := 3) hx hb dL_tells_168 (by decide) ?_
          refine lv_icmp_ge (tgt := 289) hx hb dL_tells_169 (by decide) (fun c_27 => ?_) (fun c_27 => ?_)
          · skip
            have c_27 := kq_leN (a := 3) (b := r) c_27 (by omega) (by omega)
            have h69 : n_cnt v kc 6 = x1 := by rw [n_cnt_6]; exact i1.symm
            have h79 : n_cnt v kc 7 = x2 := by rw [n_cnt_7]; exact i2.symm
            refine lv_iload hx hb dL_tells_289 (lv_at hl 3 rfl) ?_
            refine lv_if_eq (tgt := 320) hx hb dL_tells_291 (by decide) (fun q => absurd q (by decide)) (fun _ => ?_)
            refine lv_aload_n hx hb dL_tells_294 rfl (lv_at hl 0 rfl) ?_
            refine lv_bipush (v := 6) hx hb dL_tells_295 (by decide) ?_
            refine kq_callMi (wr := [(pa, .inl (cI, 8, .inl pf))]) (va_runV (As := [.int 6]) (rest := []) ⟨hx, hb, hml, hown, hts⟩ (c_X5_count l dC dI cI H.size oX oS oR oN o2 oF oT rv rs kc rp rt rl q1 q2 q3 v fp ft fl y1_7 y2_8 y3_9 6 (by first | assumption | omega) (by first | assumption | omega)) (cwV 1 hts gL_tells_X5_count rfl rfl rfl (by decide +kernel) ⟨Nat.le_of_ble_eq_true rfl, Nat.le_of_ble_eq_true rfl⟩) (kq_preV (ci := 5) (q0 := 0) (hP.sub [11, 12, 13, 0, 1, 2, 3, 4, 5, 6, 7, 8, 9] rfl) (hD.sub [11, 12, 13, 0, 1, 2, 3, 4, 5, 6, 7, 8, 9] (by decide) rfl) hK rfl rfl) rfl rfl hl.1 rfl (lv_room (Nat.le_of_ble_eq_true rfl)) dL_tells_297 ⟨Nat.le_of_ble_eq_true rfl, Nat.le_of_ble_eq_true rfl⟩) hP hD hS hA [11, 12, 13, 0, 1, 2, 3, 4, 5, 6, 7, 8, 9] [10] rfl rfl (by decide) (by decide) (fun r_29 u_30 H locs hw_31 hP hD hS => ?_)
            obtain ⟨gp_32, gt_33, gl_34, y1_35, y2_36, y3_37⟩ := u_30
            have hP : va_P (dC, dI) vwCl [(pa, .inl (cI, 8, .inl pf)), (oX, .inr (5, [.ref oS, .ref oR, .ref oN, .ref o2, .ref oF, .ref oT])), (oS, .inr (3, [.ref rv, .ref rs, .int (nI kc)])), (rv, .inl (cI, 385, .inl v)), (oR, .inr (2, [.ref oS])), (oF, .inr (0, [.ref oS, .ref oN])), (oN, .inr (1, [.ref oS, .ref rp, .ref rt, .ref rl])), (rp, .inl (cI, 72, .inl gp_32)), (rt, .inl (cI, 72, .inl gt_33)), (rl, .inl (cI, 72, .inl gl_34)), (o2, .inr (1, [.ref oS, .ref q1, .ref q2, .ref q3])), (q1, .inl (cI, 72, .inl y1_35)), (q2, .inl (cI, 72, .inl y2_36)), (q3, .inl (cI, 72, .inl y3_37))] H := hP
            have hD : va_D A [(pa, .inl (cI, 8, .inl pf)), (oX, .inr (5, [.ref oS, .ref oR, .ref oN, .ref o2, .ref oF, .ref oT])), (oS, .inr (3, [.ref rv, .ref rs, .int (nI kc)])), (rv, .inl (cI, 385, .inl v)), (oR, .inr (2, [.ref oS])), (oF, .inr (0, [.ref oS, .ref oN])), (oN, .inr (1, [.ref oS, .ref rp, .ref rt, .ref rl])), (rp, .inl (cI, 72, .inl gp_32)), (rt, .inl (cI, 72, .inl gt_33)), (rl, .inl (cI, 72, .inl gl_34)), (o2, .inr (1, [.ref oS, .ref q1, .ref q2, .ref q3])), (q1, .inl (cI, 72, .inl y1_35)), (q2, .inl (cI, 72, .inl y2_36)), (q3, .inl (cI, 72, .inl y3_37))] := hD
            have h6c := hw_31
            refine lv_iload hx hb dL_tells_300 (lv_at hl 4 rfl) ?_
            refine lv_icmp_ne (tgt := 320) hx hb dL_tells_302 (by decide) (fun c_38 => ?_) (fun c_38 => ?_)
            · skip
              exact absurd (h6c.trans h69) c_38
            · skip
              refine lv_aload_n hx hb dL_tells_305 rfl (lv_at hl 0 rfl) ?_
              refine lv_bipush (v := 7) hx hb dL_tells_306 (by decide) ?_
              refine kq_callMi (wr := [(pa, .inl (cI, 8, .inl pf))]) (va_runV (As := [.int 7]) (rest := []) ⟨hx, hb, hml, hown, hts⟩ (c_X5_count l dC dI cI H.size oX oS oR oN o2 oF oT rv rs kc rp rt rl q1 q2 q3 v gp_32 gt_33 gl_34 y1_35 y2_36 y3_37 7 (by first | assumption | omega) (by first | assumption | omega)) (cwV 1 hts gL_tells_X5_count rfl rfl rfl (by decide +kernel) ⟨Nat.le_of_ble_eq_true rfl, Nat.le_of_ble_eq_true rfl⟩) (kq_preV (ci := 5) (q0 := 0) (hP.sub [1, 2, 3, 4, 5, 6, 7, 8, 9, 10, 11, 12, 13] rfl) (hD.sub [1, 2, 3, 4, 5, 6, 7, 8, 9, 10, 11, 12, 13] (by decide) rfl) hK rfl rfl) rfl rfl hl.1 rfl (lv_room (Nat.le_of_ble_eq_true rfl)) dL_tells_308 ⟨Nat.le_of_ble_eq_true rfl, Nat.le_of_ble_eq_true rfl⟩) hP hD hS hA [1, 2, 3, 4, 5, 6, 7, 8, 9, 10, 11, 12, 13] [0] rfl rfl (by decide) (by decide) (fun r_39 u_40 H locs hw_41 hP hD hS => ?_)
              obtain ⟨gp_42, gt_43, gl_44, y1_45, y2_46, y3_47⟩ := u_40
              have hP : va_P (dC, dI) vwCl [(pa, .inl (cI, 8, .inl pf)), (oX, .inr (5, [.ref oS, .ref oR, .ref oN, .ref o2, .ref oF, .ref oT])), (oS, .inr (3, [.ref rv, .ref rs, .int (nI kc)])), (rv, .inl (cI, 385, .inl v)), (oR, .inr (2, [.ref oS])), (oF, .inr (0, [.ref oS, .ref oN])), (oN, .inr (1, [.ref oS, .ref rp, .ref rt, .ref rl])), (rp, .inl (cI, 72, .inl gp_42)), (rt, .inl (cI, 72, .inl gt_43)), (rl, .inl (cI, 72, .inl gl_44)), (o2, .inr (1, [.ref oS, .ref q1, .ref q2, .ref q3])), (q1, .inl (cI, 72, .inl y1_45)), (q2, .inl (cI, 72, .inl y2_46)), (q3, .inl (cI, 72, .inl y3_47))] H := hP
              have hD : va_D A [(pa, .inl (cI, 8, .inl pf)), (oX, .inr (5, [.ref oS, .ref oR, .ref oN, .ref o2, .ref oF, .ref oT])), (oS, .inr (3, [.ref rv, .ref rs, .int (nI kc)])), (rv, .inl (cI, 385, .inl v)), (oR, .inr (2, [.ref oS])), (oF, .inr (0, [.ref oS, .ref oN])), (oN, .inr (1, [.ref oS, .ref rp, .ref rt, .ref rl])), (rp, .inl (cI, 72, .inl gp_42)), (rt, .inl (cI, 72, .inl gt_43)), (rl, .inl (cI, 72, .inl gl_44)), (o2, .inr (1, [.ref oS, .ref q1, .ref q2, .ref q3])), (q1, .inl (cI, 72, .inl y1_45)), (q2, .inl (cI, 72, .inl y2_46)), (q3, .inl (cI, 72, .inl y3_47))] := hD
              have h7c := hw_41
              refine lv_iload hx hb dL_tells_311 (lv_at hl 5 rfl) ?_
              refine lv_icmp_ne (tgt := 320) hx hb dL_tells_313 (by decide) (fun c_48 => ?_) (fun c_48 => ?_)
              · skip
                exact absurd (h7c.trans h79) c_48
              · skip
                refine lv_iconst (v := 1) hx hb dL_tells_316 (by decide) ?_
                refine lv_goto (tgt := 321) hx hb dL_tells_317 (by decide) ?_
                exact kq_retMz (gp_42, gt_43, gl_44, y1_45, y2_46, y3_47) hx hb hr hlocks (hP.sub [1, 2, 3, 4, 5, 6, 7, 8, 9, 10, 11, 12, 13, 0] rfl) (hD.sub [1, 2, 3, 4, 5, 6, 7, 8, 9, 10, 11, 12, 13, 0] (by decide) rfl) hS dL_tells_321 (Or.inr rfl) (by rfl)
          · skip
            have c_27 := kq_nleN (a := 3) (b := r) c_27 (by omega) (by omega)
            have hrr : r < 3 := by omega
            have h4 := n_I_c4 hI hrr
            have h16 := n_I_c16 hI hrr
            refine lv_iconst (v := 0) hx hb dL_tells_172 (by decide) ?_
            refine lv_istore (lv' := [(8, .int 0), (0, .ref oX), (1, .ref sb), (2, .ref pa), (4, .int 1), (5, .int x1), (6, .int x2), (7, .int (nI r))]) hx hb dL_tells_173 hl (by decide) rfl (fun ls hl => ?_)
            refine lv_iconst (v := 0) hx hb dL_tells_175 (by decide) ?_
            refine lv_istore (lv' := [(9, .int 0), (8, .int 0), (0, .ref oX), (1, .ref sb), (2, .ref pa), (4, .int 1), (5, .int x1), (6, .int x2), (7, .int (nI r))]) hx hb dL_tells_176 hl (by decide) rfl (fun ls hl => ?_)
            refine lv_iconst (v := 0) hx hb dL_tells_178 (by decide) ?_
            refine lv_istore (lv' := [(10, .int 0), (9, .int 0), (8, .int 0), (0, .ref oX), (1, .ref sb), (2, .ref pa), (4, .int 1), (5, .int x1), (6, .int x2), (7, .int (nI r))]) hx hb dL_tells_179 hl (by decide) rfl (fun ls hl => ?_)
            refine kq_loopM3 (A1 := Nat) (A2 := Int32) (A3 := Int32) (fun (k : Nat) (x8 : Int32) (x9 : Int32) => 6 * n_c v r - k) (fun (k : Nat) (x8 : Int32) (x9 : Int32) => (k ≤ 6 * n_c v r) ∧ (x8 = n_sum (fun k => if v ((r * 6 + k / n_c v r) * 16 + k % n_c v r) = 0 then 0 else 1) k) ∧ (x9 = n_sum (fun k => v ((r * 6 + k / n_c v r) * 16 + k % n_c v r)) k)) (fun (k : Nat) (x8 : Int32) (x9 : Int32) => [(0, .ref oX), (1, .ref sb), (2, .ref pa), (4, .int 1), (5, .int x1), (6, .int x2), (7, .int (nI r)), (8, .int x8), (9, .int x9), (10, .int (nI k))]) (fun (k : Nat) (x8 : Int32) (x9 : Int32) => [(oR, .inr (2, [.ref oS])), (oF, .inr (0, [.ref oS, .ref oN])), (oN, .inr (1, [.ref oS, .ref rp, .ref rt, .ref rl])), (rp, .inl (cI, 72, .inl fp)), (rt, .inl (cI, 72, .inl ft)), (rl, .inl (cI, 72, .inl fl)), (o2, .inr (1, [.ref oS, .ref q1, .ref q2, .ref q3])), (q1, .inl (cI, 72, .inl y1_7)), (q2, .inl (cI, 72, .inl y2_8)), (q3, .inl (cI, 72, .inl y3_9)), (pa, .inl (cI, 8, .inl pf)), (oX, .inr (5, [.ref oS, .ref oR, .ref oN, .ref o2, .ref oF, .ref oT])), (oS, .inr (3, [.ref rv, .ref rs, .int (nI kc)])), (rv, .inl (cI, 385, .inl v))]) (nL := 12) hK ?_ 0 0 0 ⟨(by omega), (by rfl), (by rfl)⟩ hP hD hS _ (lv_sub hl [3, 4, 5, 6, 7, 8, 9, 2, 1, 0] rfl)
            intro k x8 x9 hi_50 ih_49 H locs hP hD hS ls hl
            obtain ⟨ik3, i8, i9⟩ := hi_50
            have hl : lv_has ls 12 [(0, .ref oX), (1, .ref sb), (2, .ref pa), (4, .int 1), (5, .int x1), (6, .int x2), (7, .int (nI r)), (8, .int x8), (9, .int x9), (10, .int (nI k))] := hl
            have hP : va_P (dC, dI) vwCl [(oR, .inr (2, [.ref oS])), (oF, .inr (0, [.ref oS, .ref oN])), (oN, .inr (1, [.ref oS, .ref rp, .ref rt, .ref rl])), (rp, .inl (cI, 72, .inl fp)), (rt, .inl (cI, 72, .inl ft)), (rl, .inl (cI, 72, .inl fl)), (o2, .inr (1, [.ref oS, .ref q1, .ref q2, .ref q3])), (q1, .inl (cI, 72, .inl y1_7)), (q2, .inl (cI, 72, .inl y2_8)), (q3, .inl (cI, 72, .inl y3_9)), (pa, .inl (cI, 8, .inl pf)), (oX, .inr (5, [.ref oS, .ref oR, .ref oN, .ref o2, .ref oF, .ref oT])), (oS, .inr (3, [.ref rv, .ref rs, .int (nI kc)])), (rv, .inl (cI, 385, .inl v))] H := hP
            have hD : va_D A [(oR, .inr (2, [.ref oS])), (oF, .inr (0, [.ref oS, .ref oN])), (oN, .inr (1, [.ref oS, .ref rp, .ref rt, .ref rl])), (rp, .inl (cI, 72, .inl fp)), (rt, .inl (cI, 72, .inl ft)), (rl, .inl (cI, 72, .inl fl)), (o2, .inr (1, [.ref oS, .ref q1, .ref q2, .ref q3])), (q1, .inl (cI, 72, .inl y1_7)), (q2, .inl (cI, 72, .inl y2_8)), (q3, .inl (cI, 72, .inl y3_9)), (pa, .inl (cI, 8, .inl pf)), (oX, .inr (5, [.ref oS, .ref oR, .ref oN, .ref o2, .ref oF, .ref oT])), (oS, .inr (3, [.ref rv, .ref rs, .int (nI kc)])), (rv, .inl (cI, 385, .inl v))] := hD
            refine lv_iload hx hb dL_tells_181 (lv_at hl 9 rfl) ?_
            refine lv_bipush (v := 6) hx hb dL_tells_183 (by decide) ?_
            refine lv_aload_n hx hb dL_tells_185 rfl (lv_at hl 2 rfl) ?_
            refine lv_iload hx hb dL_tells_186 (lv_at hl 6 rfl) ?_
            refine va_iald hx hb hK.1 hP 10 0 rfl rfl (vp_in_nI (show r < 8 from by omega) (by omega)) dL_tells_188 ?_
            refine kq_top (z := pf r) (congrArg pf (nI_clamp (Nat.lt_trans (show r < 8 from by omega) (by omega)))) ?_
            refine kq_top (z := nI (n_c v r)) ((hp.1 r hrr).1.trans (n_I_c hI hrr)) ?_
            refine lv_imul hx hb dL_tells_189 ?_
            refine kq_top (z := nI (6 * (n_c v r))) (pk_mul 6 (n_c v r)) ?_
            refine lv_icmp_ge (tgt := 243) hx hb dL_tells_190 (by decide) (fun c_51 => ?_) (fun c_51 => ?_)
            · skip
              have c_51 := kq_leN (a := (6 * (n_c v r))) (b := k) c_51 (by omega) (by omega)
              have hk6 : k = 6 * n_c v r := by omega
              rw [hk6] at i8 i9
              have e8 := i8.trans (n_cw_f (v := v) (a := r) (by omega)).symm
              have e9 := i9.trans (n_hw_f (v := v) (a := r) (by omega)).symm
              refine lv_iload hx hb dL_tells_243 (lv_at hl 3 rfl) ?_
              refine lv_if_eq (tgt := 280) hx hb dL_tells_245 (by decide) (fun q => absurd q (by decide)) (fun _ => ?_)
              refine lv_aload_n hx hb dL_tells_248 rfl (lv_at hl 0 rfl) ?_
              refine lv_iload hx hb dL_tells_249 (lv_at hl 6 rfl) ?_
              refine lv_iconst (v := 2) hx hb dL_tells_251 (by decide) ?_
              refine kq_callMi (wr := [(oF, .inr (0, [.ref oS, .ref oN])), (oN, .inr (1, [.ref oS, .ref rp, .ref rt, .ref rl])), (rp, .inl (cI, 72, .inl fp)), (rt, .inl (cI, 72, .inl ft)), (rl, .inl (cI, 72, .inl fl)), (o2, .inr (1, [.ref oS, .ref q1, .ref q2, .ref q3])), (q1, .inl (cI, 72, .inl y1_7)), (q2, .inl (cI, 72, .inl y2_8)), (q3, .inl (cI, 72, .inl y3_9)), (pa, .inl (cI, 8, .inl pf))]) (va_runV (As := [.int (nI r), .int 2]) (rest := []) ⟨hx, hb, hml, hown, hts⟩ (c_X5_roll l dC dI cI H.size oX oS oR oN o2 oF oT rv rs kc v r 2 (by first | assumption | omega) (by first | assumption | omega) (by first | assumption | omega)) (cwV 2 hts gL_tells_X5_roll rfl rfl rfl (by decide +kernel) ⟨Nat.le_of_ble_eq_true rfl, Nat.le_of_ble_eq_true rfl⟩) (kq_preV (ci := 5) (q0 := 0) (hP.sub [11, 12, 13, 0] rfl) (hD.sub [11, 12, 13, 0] (by decide) rfl) hK rfl rfl) rfl rfl hl.1 rfl (lv_room (Nat.le_of_ble_eq_true rfl)) dL_tells_252 ⟨Nat.le_of_ble_eq_true rfl, Nat.le_of_ble_eq_true rfl⟩) hP hD hS hA [11, 12, 13, 0] [1, 2, 3, 4, 5, 6, 7, 8, 9, 10] rfl rfl (by decide) (by decide) (fun r_53 u_54 H locs hw_55 hP hD hS => ?_)
              have hP : va_P (dC, dI) vwCl [(oF, .inr (0, [.ref oS, .ref oN])), (oN, .inr (1, [.ref oS, .ref rp, .ref rt, .ref rl])), (rp, .inl (cI, 72, .inl fp)), (rt, .inl (cI, 72, .inl ft)), (rl, .inl (cI, 72, .inl fl)), (o2, .inr (1, [.ref oS, .ref q1, .ref q2, .ref q3])), (q1, .inl (cI, 72, .inl y1_7)), (q2, .inl (cI, 72, .inl y2_8)), (q3, .inl (cI, 72, .inl y3_9)), (pa, .inl (cI, 8, .inl pf)), (oX, .inr (5, [.ref oS, .ref oR, .ref oN, .ref o2, .ref oF, .ref oT])), (oS, .inr (3, [.ref rv, .ref rs, .int (nI kc)])), (rv, .inl (cI, 385, .inl v)), (oR, .inr (2, [.ref oS]))] H := hP
              have hD : va_D A [(oF, .inr (0, [.ref oS, .ref oN])), (oN, .inr (1, [.ref oS, .ref rp, .ref rt, .ref rl])), (rp, .inl (cI, 72, .inl fp)), (rt, .inl (cI, 72, .inl ft)), (rl, .inl (cI, 72, .inl fl)), (o2, .inr (1, [.ref oS, .ref q1, .ref q2, .ref q3])), (q1, .inl (cI, 72, .inl y1_7)), (q2, .inl (cI, 72, .inl y2_8)), (q3, .inl (cI, 72, .inl y3_9)), (pa, .inl (cI, 8, .inl pf)), (oX, .inr (5, [.ref oS, .ref oR, .ref oN, .ref o2, .ref oF, .ref oT])), (oS, .inr (3, [.ref rv, .ref rs, .int (nI kc)])), (rv, .inl (cI, 385, .inl v)), (oR, .inr (2, [.ref oS]))] := hD
              obtain rfl := hw_55
              refine lv_iload hx hb dL_tells_255 (lv_at hl 7 rfl) ?_
              refine lv_icmp_ne (tgt := 280) hx hb dL_tells_257 (by decide) (fun c_56 => ?_) (fun c_56 => ?_)
              · skip
                exact absurd (n_roll_2.trans e8.symm) c_56
              · skip
                refine lv_aload_n hx hb dL_tells_260 rfl (lv_at hl 0 rfl) ?_
                refine lv_iload hx hb dL_tells_261 (lv_at hl 6 rfl) ?_
                refine lv_iconst (v := 3) hx hb dL_tells_263 (by decide) ?_
                refine kq_callMi (wr := [(oF, .inr (0, [.ref oS, .ref oN])), (oN, .inr (1, [.ref oS, .ref rp, .ref rt, .ref rl])), (rp, .inl (cI, 72, .inl fp)), (rt, .inl (cI, 72, .inl ft)), (rl, .inl (cI, 72, .inl fl)), (o2, .inr (1, [.ref oS, .ref q1, .ref q2, .ref q3])), (q1, .inl (cI, 72, .inl y1_7)), (q2, .inl (cI, 72, .inl y2_8)), (q3, .inl (cI, 72, .inl y3_9)), (pa, .inl (cI, 8, .inl pf))]) (va_runV (As := [.int (nI r), .int 3]) (rest := []) ⟨hx, hb, hml, hown, hts⟩ (c_X5_roll l dC dI cI H.size oX oS oR oN o2 oF oT rv rs kc v r 3 (by first | assumption | omega) (by first | assumption | omega) (by first | assumption | omega)) (cwV 2 hts gL_tells_X5_roll rfl rfl rfl (by decide +kernel) ⟨Nat.le_of_ble_eq_true rfl, Nat.le_of_ble_eq_true rfl⟩) (kq_preV (ci := 5) (q0 := 0) (hP.sub [10, 11, 12, 13] rfl) (hD.sub [10, 11, 12, 13] (by decide) rfl) hK rfl rfl) rfl rfl hl.1 rfl (lv_room (Nat.le_of_ble_eq_true rfl)) dL_tells_264 ⟨Nat.le_of_ble_eq_true rfl, Nat.le_of_ble_eq_true rfl⟩) hP hD hS hA [10, 11, 12, 13] [0, 1, 2, 3, 4, 5, 6, 7, 8, 9] rfl rfl (by decide) (by decide) (fun r_57 u_58 H locs hw_59 hP hD hS => ?_)
                have hP : va_P (dC, dI) vwCl [(oF, .inr (0, [.ref oS, .ref oN])), (oN, .inr (1, [.ref oS, .ref rp, .ref rt, .ref rl])), (rp, .inl (cI, 72, .inl fp)), (rt, .inl (cI, 72, .inl ft)), (rl, .inl (cI, 72, .inl fl)), (o2, .inr (1, [.ref oS, .ref q1, .ref q2, .ref q3])), (q1, .inl (cI, 72, .inl y1_7)), (q2, .inl (cI, 72, .inl y2_8)), (q3, .inl (cI, 72, .inl y3_9)), (pa, .inl (cI, 8, .inl pf)), (oX, .inr (5, [.ref oS, .ref oR, .ref oN, .ref o2, .ref oF, .ref oT])), (oS, .inr (3, [.ref rv, .ref rs, .int (nI kc)])), (rv, .inl (cI, 385, .inl v)), (oR, .inr (2, [.ref oS]))] H := hP
                have hD : va_D A [(oF, .inr (0, [.ref oS, .ref oN])), (oN, .inr (1, [.ref oS, .ref rp, .ref rt, .ref rl])), (rp, .inl (cI, 72, .inl fp)), (rt, .inl (cI, 72, .inl ft)), (rl, .inl (cI, 72, .inl fl)), (o2, .inr (1, [.ref oS, .ref q1, .ref q2, .ref q3])), (q1, .inl (cI, 72, .inl y1_7)), (q2, .inl (cI, 72, .inl y2_8)), (q3, .inl (cI, 72, .inl y3_9)), (pa, .inl (cI, 8, .inl pf)), (oX, .inr (5, [.ref oS, .ref oR, .ref oN, .ref o2, .ref oF, .ref oT])), (oS, .inr (3, [.ref rv, .ref rs, .int (nI kc)])), (rv, .inl (cI, 385, .inl v)), (oR, .inr (2, [.ref oS]))] := hD
                obtain rfl := hw_59
                refine lv_iload hx hb dL_tells_267 (lv_at hl 8 rfl) ?_
                refine lv_sipush (v := 1000) hx hb dL_tells_269 (by decide) ?_
                refine lv_iadd hx hb dL_tells_272 ?_
                refine lv_icmp_ne (tgt := 280) hx hb dL_tells_273 (by decide) (fun c_60 => ?_) (fun c_60 => ?_)
                · skip
                  exact absurd (n_roll_3.trans (congrArg (· + 1000) e9.symm)) c_60
                · skip
                  refine lv_iconst (v := 1) hx hb dL_tells_276 (by decide) ?_
                  refine lv_goto (tgt := 281) hx hb dL_tells_277 (by decide) ?_
                  refine lv_istore (lv' := [(4, .int 1), (0, .ref oX), (1, .ref sb), (2, .ref pa), (5, .int x1), (6, .int x2), (7, .int (nI r)), (8, .int x8), (9, .int x9), (10, .int (nI k))]) hx hb dL_tells_281 hl (by decide) rfl (fun ls hl => ?_)
                  refine lv_iinc (v := nI (r + 1)) (lv' := [(7, .int (nI (r + 1))), (4, .int 1), (0, .ref oX), (1, .ref sb), (2, .ref pa), (5, .int x1), (6, .int x2), (8, .int x8), (9, .int x9), (10, .int (nI k))]) hx hb dL_tells_283 hl (k := 6) rfl (nI_1 r) (by decide) rfl (fun ls hl => ?_)
                  refine lv_goto (tgt := 166) hx hb dL_tells_286 (by decide) ?_
                  exact ih_25 (r + 1) (by omega) (by show 3 - (r + 1) < 3 - r; omega) _ _ (hP.sub [13, 0, 1, 2, 3, 4, 5, 6, 7, 8, 9, 10, 11, 12] rfl) (hD.sub [13, 0, 1, 2, 3, 4, 5, 6, 7, 8, 9, 10, 11, 12] (by decide) rfl) hS _ (lv_sub hl [2, 3, 4, 1, 5, 6, 0] rfl)
            · skip
              have c_51 := kq_nleN (a := (6 * (n_c v r))) (b := k) c_51 (by omega) (by omega)
              have hd6 : k / n_c v r < 6 := Nat.div_lt_of_lt_mul (by rw [Nat.mul_comm]; omega)
              have hm6 := Nat.mod_lt k (show 0 < n_c v r by omega)
              refine lv_aload_n hx hb dL_tells_193 rfl (lv_at hl 1 rfl) ?_
              refine lv_iload hx hb dL_tells_194 (lv_at hl 6 rfl) ?_
              refine lv_iload hx hb dL_tells_196 (lv_at hl 9 rfl) ?_
              refine lv_aload_n hx hb dL_tells_198 rfl (lv_at hl 2 rfl) ?_
              refine lv_iload hx hb dL_tells_199 (lv_at hl 6 rfl) ?_
              refine va_iald hx hb hK.1 hP 10 0 rfl rfl (vp_in_nI (show r < 8 from by omega) (by omega)) dL_tells_201 ?_
              refine kq_top (z := pf r) (congrArg pf (nI_clamp (Nat.lt_trans (show r < 8 from by omega) (by omega)))) ?_
              refine kq_top (z := nI (n_c v r)) ((hp.1 r hrr).1.trans (n_I_c hI hrr)) ?_
              refine lv_idiv hx hb dL_tells_202 (nI_ne0 (n := (n_c v r)) (by omega) (by omega)) ?_
              refine kq_top (z := nI (k / (n_c v r))) (pk_div (a := k) (d := (n_c v r)) (by omega) (by omega) (by omega)) ?_
              refine lv_iload hx hb dL_tells_203 (lv_at hl 9 rfl) ?_
              refine lv_aload_n hx hb dL_tells_205 rfl (lv_at hl 2 rfl) ?_
              refine lv_iload hx hb dL_tells_206 (lv_at hl 6 rfl) ?_
              refine va_iald hx hb hK.1 hP 10 0 rfl rfl (vp_in_nI (show r < 8 from by omega) (by omega)) dL_tells_208 ?_
              refine kq_top (z := pf r) (congrArg pf (nI_clamp (Nat.lt_trans (show r < 8 from by omega) (by omega)))) ?_
              refine kq_top (z := nI (n_c v r)) ((hp.1 r hrr).1.trans (n_I_c hI hrr)) ?_
              refine lv_irem hx hb dL_tells_209 (nI_ne0 (n := (n_c v r)) (by omega) (by omega)) ?_
              refine kq_top (z := nI (k % (n_c v r))) (pk_rem (a := k) (d := (n_c v r)) (by omega) (by omega) (by omega)) ?_
              refine kq_cSX (As := [.ref sb, .int (nI r), .int (nI (k / (n_c v r))), .int (nI (k % (n_c v r)))]) (rest := []) ⟨hx, hb, hml, hown, hts⟩ (c_L_height l dC dI cI sb sL xs r (k / (n_c v r)) (k % (n_c v r)) (by first | assumption | omega) (by first | assumption | omega) (by first | assumption | omega) (by first | assumption | omega)) (va_cwS 4 hts gL_tells_L_height rfl rfl rfl (by decide +kernel) ⟨Nat.le_of_ble_eq_true rfl, Nat.le_of_ble_eq_true rfl⟩) (hP.sub [] rfl) (kq_xk hX hbl hbA hS) hK rfl hl.1 rfl (Nat.le_of_ble_eq_true rfl) dL_tells_210 ⟨Nat.le_of_ble_eq_true rfl, Nat.le_of_ble_eq_true rfl⟩ ?_
              refine kq_top (z := v ((r * 6 + k / n_c v r) * 16 + k % n_c v r)) ((hW _ (by omega)).symm) ?_
              refine lv_istore (lv' := [(11, .int (v ((r * 6 + k / n_c v r) * 16 + k % n_c v r))), (0, .ref oX), (1, .ref sb), (2, .ref pa), (4, .int 1), (5, .int x1), (6, .int x2), (7, .int (nI r)), (8, .int x8), (9, .int x9), (10, .int (nI k))]) hx hb dL_tells_213 hl (by decide) rfl (fun ls hl => ?_)
              refine lv_iload hx hb dL_tells_215 (lv_at hl 8 rfl) ?_
              refine lv_iload hx hb dL_tells_217 (lv_at hl 0 rfl) ?_
              refine lv_if_ne (tgt := 226) hx hb dL_tells_219 (by decide) (fun c_61 => ?_) (fun c_61 => ?_)
              · skip
                have hz9 := c_61
                refine lv_iconst (v := 1) hx hb dL_tells_226 (by decide) ?_
                refine lv_iadd hx hb dL_tells_227 ?_
                refine lv_istore (lv' := [(8, .int (x8 + 1)), (11, .int (v ((r * 6 + k / n_c v r) * 16 + k % n_c v r))), (0, .ref oX), (1, .ref sb), (2, .ref pa), (4, .int 1), (5, .int x1), (6, .int x2), (7, .int (nI r)), (9, .int x9), (10, .int (nI k))]) hx hb dL_tells_228 hl (by decide) rfl (fun ls hl => ?_)
                refine lv_iload hx hb dL_tells_230 (lv_at hl 9 rfl) ?_
                refine lv_iload hx hb dL_tells_232 (lv_at hl 1 rfl) ?_
                refine lv_iadd hx hb dL_tells_234 ?_
                refine lv_istore (lv' := [(9, .int (x9 + (v ((r * 6 + k / n_c v r) * 16 + k % n_c v r)))), (8, .int (x8 + 1)), (11, .int (v ((r * 6 + k / n_c v r) * 16 + k % n_c v r))), (0, .ref oX), (1, .ref sb), (2, .ref pa), (4, .int 1), (5, .int x1), (6, .int x2), (7, .int (nI r)), (10, .int (nI k))]) hx hb dL_tells_235 hl (by decide) rfl (fun ls hl => ?_)
                refine lv_iinc (v := nI (k + 1)) (lv' := [(10, .int (nI (k + 1))), (9, .int (x9 + (v ((r * 6 + k / n_c v r) * 16 + k % n_c v r)))), (8, .int (x8 + 1)), (11, .int (v ((r * 6 + k / n_c v r) * 16 + k % n_c v r))), (0, .ref oX), (1, .ref sb), (2, .ref pa), (4, .int 1), (5, .int x1), (6, .int x2), (7, .int (nI r))]) hx hb dL_tells_237 hl (k := 10) rfl (nI_1 k) (by decide) rfl (fun ls hl => ?_)
                refine lv_goto (tgt := 181) hx hb dL_tells_240 (by decide) ?_
                exact ih_49 (k + 1) (x8 + 1) (x9 + (v ((r * 6 + k / n_c v r) * 16 + k % n_c v r))) ⟨(by omega), (by rw [n_sum, ← i8]; first | rw [if_pos hz9] | rw [if_neg hz9]), (by rw [n_sum, ← i9])⟩ (by show 6 * n_c v r - (k + 1) < 6 * n_c v r - k; omega) _ _ hP hD hS _ (lv_sub hl [4, 5, 6, 7, 8, 9, 10, 2, 1, 0] rfl)
              · skip
                have hz9 := c_61
                refine lv_iconst (v := 0) hx hb dL_tells_222 (by decide) ?_
                refine lv_goto (tgt := 227) hx hb dL_tells_223 (by decide) ?_
                refine lv_iadd hx hb dL_tells_227 ?_
                refine lv_istore (lv' := [(8, .int (x8 + 0)), (11, .int (v ((r * 6 + k / n_c v r) * 16 + k % n_c v r))), (0, .ref oX), (1, .ref sb), (2, .ref pa), (4, .int 1), (5, .int x1), (6, .int x2), (7, .int (nI r)), (9, .int x9), (10, .int (nI k))]) hx hb dL_tells_228 hl (by decide) rfl (fun ls hl => ?_)
                refine lv_iload hx hb dL_tells_230 (lv_at hl 9 rfl) ?_
                refine lv_iload hx hb dL_tells_232 (lv_at hl 1 rfl) ?_
                refine lv_iadd hx hb dL_tells_234 ?_
                refine lv_istore (lv' := [(9, .int (x9 + (v ((r * 6 + k / n_c v r) * 16 + k % n_c v r)))), (8, .int (x8 + 0)), (11, .int (v ((r * 6 + k / n_c v r) * 16 + k % n_c v r))), (0, .ref oX), (1, .ref sb), (2, .ref pa), (4, .int 1), (5, .int x1), (6, .int x2), (7, .int (nI r)), (10, .int (nI k))]) hx hb dL_tells_235 hl (by decide) rfl (fun ls hl => ?_)
                refine lv_iinc (v := nI (k + 1)) (lv' := [(10, .int (nI (k + 1))), (9, .int (x9 + (v ((r * 6 + k / n_c v r) * 16 + k % n_c v r)))), (8, .int (x8 + 0)), (11, .int (v ((r * 6 + k / n_c v r) * 16 + k % n_c v r))), (0, .ref oX), (1, .ref sb), (2, .ref pa), (4, .int 1), (5, .int x1), (6, .int x2), (7, .int (nI r))]) hx hb dL_tells_237 hl (k := 10) rfl (nI_1 k) (by decide) rfl (fun ls hl => ?_)
                refine lv_goto (tgt := 181) hx hb dL_tells_240 (by decide) ?_
                exact ih_49 (k + 1) (x8 + 0) (x9 + (v ((r * 6 + k / n_c v r) * 16 + k % n_c v r))) ⟨(by omega), (by rw [n_sum, ← i8]; first | rw [if_pos hz9] | rw [if_neg hz9]), (by rw [n_sum, ← i9])⟩ (by show 6 * n_c v r - (k + 1) < 6 * n_c v r - k; omega) _ _ hP hD hS _ (lv_sub hl [4, 5, 6, 7, 8, 9, 10, 2, 1, 0] rfl)
        · skip
          have c_24 := kq_nleN (a := 72) (b := k) c_24 (by omega) (by omega)
          refine lv_aload_n hx hb dL_tells_107 rfl (lv_at hl 1 rfl) ?_
          refine lv_aload_n hx hb dL_tells_108 rfl (lv_at hl 2 rfl) ?_
          refine lv_iconst (v := 0) hx hb dL_tells_109 (by decide) ?_
          refine lv_iload hx hb dL_tells_110 (lv_at hl 6 rfl) ?_
          refine lv_bipush (v := 12) hx hb dL_tells_112 (by decide) ?_
          refine lv_idiv hx hb dL_tells_114 (nI_ne0 (n := 12) (by omega) (by omega)) ?_
          refine kq_top (z := nI (k / 12)) (pk_div (a := k) (d := 12) (by omega) (by omega) (by omega)) ?_
          refine lv_iload hx hb dL_tells_115 (lv_at hl 6 rfl) ?_
          refine lv_bipush (v := 12) hx hb dL_tells_117 (by decide) ?_
          refine lv_irem hx hb dL_tells_119 (nI_ne0 (n := 12) (by omega) (by omega)) ?_
          refine kq_top (z := nI (k % 12)) (pk_rem (a := k) (d := 12) (by omega) (by omega) (by omega)) ?_
          refine kq_cSX (As := [.ref sb, .ref pa, .int 0, .int (nI (k / 12)), .int (nI (k % 12))]) (rest := []) ⟨hx, hb, hml, hown, hts⟩ (c_L_tone l dC dI cI sb sL xs pa v pf 0 (k / 12) (k % 12) (by first | assumption | omega) (by first | assumption | omega) (by first | assumption | omega) (by first | assumption | omega) (by first | assumption | omega) (by first | assumption | omega) (by first | assumption | omega)) (va_cwS 5 hts gL_tells_L_tone rfl rfl rfl (by decide +kernel) ⟨Nat.le_of_ble_eq_true rfl, Nat.le_of_ble_eq_true rfl⟩) (hP.sub [10] rfl) (kq_xk hX hbl hbA hS) hK rfl hl.1 rfl (Nat.le_of_ble_eq_true rfl) dL_tells_120 ⟨Nat.le_of_ble_eq_true rfl, Nat.le_of_ble_eq_true rfl⟩ ?_
          refine lv_istore (lv' := [(8, .int (n_to v 0 (k / 12) (k % 12))), (0, .ref oX), (1, .ref sb), (2, .ref pa), (4, .int 1), (5, .int x1), (6, .int x2), (7, .int (nI k))]) hx hb dL_tells_123 hl (by decide) rfl (fun ls hl => ?_)
          refine lv_iload hx hb dL_tells_125 (lv_at hl 0 rfl) ?_
          refine lv_iload hx hb dL_tells_127 (lv_at hl 5 rfl) ?_
          refine lv_icmp_ge (tgt := 137) hx hb dL_tells_129 (by decide) (fun c_62 => ?_) (fun c_62 => ?_)
          · skip
            have hl1 : ¬ n_to v 0 (k / 12) (k % 12) < x1 := Int32.not_lt.mpr c_62
            refine lv_iload hx hb dL_tells_137 (lv_at hl 5 rfl) ?_
            refine lv_istore (lv' := [(5, .int x1), (8, .int (n_to v 0 (k / 12) (k % 12))), (0, .ref oX), (1, .ref sb), (2, .ref pa), (4, .int 1), (6, .int x2), (7, .int (nI k))]) hx hb dL_tells_139 hl (by decide) rfl (fun ls hl => ?_)
            refine lv_iload hx hb dL_tells_141 (lv_at hl 1 rfl) ?_
            refine lv_iload hx hb dL_tells_143 (lv_at hl 6 rfl) ?_
            refine lv_icmp_le (tgt := 153) hx hb dL_tells_145 (by decide) (fun c_63 => ?_) (fun c_63 => ?_)
            · skip
              have hl2 : ¬ x2 < n_to v 0 (k / 12) (k % 12) := Int32.not_lt.mpr c_63
              refine lv_iload hx hb dL_tells_153 (lv_at hl 6 rfl) ?_
              refine lv_istore (lv' := [(6, .int x2), (5, .int x1), (8, .int (n_to v 0 (k / 12) (k % 12))), (0, .ref oX), (1, .ref sb), (2, .ref pa), (4, .int 1), (7, .int (nI k))]) hx hb dL_tells_155 hl (by decide) rfl (fun ls hl => ?_)
              refine lv_iinc (v := nI (k + 1)) (lv' := [(7, .int (nI (k + 1))), (6, .int x2), (5, .int x1), (8, .int (n_to v 0 (k / 12) (k % 12))), (0, .ref oX), (1, .ref sb), (2, .ref pa), (4, .int 1)]) hx hb dL_tells_157 hl (k := 7) rfl (nI_1 k) (by decide) rfl (fun ls hl => ?_)
              refine lv_goto (tgt := 100) hx hb dL_tells_160 (by decide) ?_
              exact ih_22 (k + 1) x1 x2 ⟨(by omega), (by rw [n_min, ← i1]; first | rw [if_pos hl1] | rw [if_neg hl1]), (by rw [n_max, ← i2]; first | rw [if_pos hl2] | rw [if_neg hl2])⟩ (by show 72 - (k + 1) < 72 - k; omega) _ _ hP hD hS _ (lv_sub hl [4, 5, 6, 7, 2, 1, 0] rfl)
            · skip
              have hl2 : x2 < n_to v 0 (k / 12) (k % 12) := Int32.not_le.mp c_63
              refine lv_iload hx hb dL_tells_148 (lv_at hl 1 rfl) ?_
              refine lv_goto (tgt := 155) hx hb dL_tells_150 (by decide) ?_
              refine lv_istore (lv' := [(6, .int (n_to v 0 (k / 12) (k % 12))), (5, .int x1), (8, .int (n_to v 0 (k / 12) (k % 12))), (0, .ref oX), (1, .ref sb), (2, .ref pa), (4, .int 1), (7, .int (nI k))]) hx hb dL_tells_155 hl (by decide) rfl (fun ls hl => ?_)
              refine lv_iinc (v := nI (k + 1)) (lv' := [(7, .int (nI (k + 1))), (6, .int (n_to v 0 (k / 12) (k % 12))), (5, .int x1), (8, .int (n_to v 0 (k / 12) (k % 12))), (0, .ref oX), (1, .ref sb), (2, .ref pa), (4, .int 1)]) hx hb dL_tells_157 hl (k := 7) rfl (nI_1 k) (by decide) rfl (fun ls hl => ?_)
              refine lv_goto (tgt := 100) hx hb dL_tells_160 (by decide) ?_
              exact ih_22 (k + 1) x1 (n_to v 0 (k / 12) (k % 12)) ⟨(by omega), (by rw [n_min, ← i1]; first | rw [if_pos hl1] | rw [if_neg hl1]), (by rw [n_max, ← i2]; first | rw [if_pos hl2] | rw [if_neg hl2])⟩ (by show 72 - (k + 1) < 72 - k; omega) _ _ hP hD hS _ (lv_sub hl [4, 5, 6, 7, 2, 1, 0] rfl)
          · skip
            have hl1 : n_to v 0 (k / 12) (k % 12) < x1 := Int32.not_le.mp c_62
            refine lv_iload hx hb dL_tells_132 (lv_at hl 0 rfl) ?_
            refine lv_goto (tgt := 139) hx hb dL_tells_134 (by decide) ?_
            refine lv_istore (lv' := [(5, .int (n_to v 0 (k / 12) (k % 12))), (8, .int (n_to v 0 (k / 12) (k % 12))), (0, .ref oX), (1, .ref sb), (2, .ref pa), (4, .int 1), (6, .int x2), (7, .int (nI k))]) hx hb dL_tells_139 hl (by decide) rfl (fun ls hl => ?_)
            refine lv_iload hx hb dL_tells_141 (lv_at hl 1 rfl) ?_
            refine lv_iload hx hb dL_tells_143 (lv_at hl 6 rfl) ?_
            refine lv_icmp_le (tgt := 153) hx hb dL_tells_145 (by decide) (fun c_64 => ?_) (fun c_64 => ?_)
            · skip
              have hl2 : ¬ x2 < n_to v 0 (k / 12) (k % 12) := Int32.not_lt.mpr c_64
              refine lv_iload hx hb dL_tells_153 (lv_at hl 6 rfl) ?_
              refine lv_istore (lv' := [(6, .int x2), (5, .int (n_to v 0 (k / 12) (k % 12))), (8, .int (n_to v 0 (k / 12) (k % 12))), (0, .ref oX), (1, .ref sb), (2, .ref pa), (4, .int 1), (7, .int (nI k))]) hx hb dL_tells_155 hl (by decide) rfl (fun ls hl => ?_)
              refine lv_iinc (v := nI (k + 1)) (lv' := [(7, .int (nI (k + 1))), (6, .int x2), (5, .int (n_to v 0 (k / 12) (k % 12))), (8, .int (n_to v 0 (k / 12) (k % 12))), (0, .ref oX), (1, .ref sb), (2, .ref pa), (4, .int 1)]) hx hb dL_tells_157 hl (k := 7) rfl (nI_1 k) (by decide) rfl (fun ls hl => ?_)
              refine lv_goto (tgt := 100) hx hb dL_tells_160 (by decide) ?_
              exact ih_22 (k + 1) (n_to v 0 (k / 12) (k % 12)) x2 ⟨(by omega), (by rw [n_min, ← i1]; first | rw [if_pos hl1] | rw [if_neg hl1]), (by rw [n_max, ← i2]; first | rw [if_pos hl2] | rw [if_neg hl2])⟩ (by show 72 - (k + 1) < 72 - k; omega) _ _ hP hD hS _ (lv_sub hl [4, 5, 6, 7, 2, 1, 0] rfl)
            · skip
              have hl2 : x2 < n_to v 0 (k / 12) (k % 12) := Int32.not_le.mp c_64
              refine lv_iload hx hb dL_tells_148 (lv_at hl 1 rfl) ?_
              refine lv_goto (tgt := 155) hx hb dL_tells_150 (by decide) ?_
              refine lv_istore (lv' := [(6, .int (n_to v 0 (k / 12) (k % 12))), (5, .int (n_to v 0 (k / 12) (k % 12))), (8, .int (n_to v 0 (k / 12) (k % 12))), (0, .ref oX), (1, .ref sb), (2, .ref pa), (4, .int 1), (7, .int (nI k))]) hx hb dL_tells_155 hl (by decide) rfl (fun ls hl => ?_)
              refine lv_iinc (v := nI (k + 1)) (lv' := [(7, .int (nI (k + 1))), (6, .int (n_to v 0 (k / 12) (k % 12))), (5, .int (n_to v 0 (k / 12) (k % 12))), (8, .int (n_to v 0 (k / 12) (k % 12))), (0, .ref oX), (1, .ref sb), (2, .ref pa), (4, .int 1)]) hx hb dL_tells_157 hl (k := 7) rfl (nI_1 k) (by decide) rfl (fun ls hl => ?_)
              refine lv_goto (tgt := 100) hx hb dL_tells_160 (by decide) ?_
              exact ih_22 (k + 1) (n_to v 0 (k / 12) (k % 12)) (n_to v 0 (k / 12) (k % 12)) ⟨(by omega), (by rw [n_min, ← i1]; first | rw [if_pos hl1] | rw [if_neg hl1]), (by rw [n_max, ← i2]; first | rw [if_pos hl2] | rw [if_neg hl2])⟩ (by show 72 - (k + 1) < 72 - k; omega) _ _ hP hD hS _ (lv_sub hl [4, 5, 6, 7, 2, 1, 0] rfl)
      · skip
        have c_21 := kq_nleN (a := 4) (b := k) c_21 (by omega) (by omega)
        refine lv_iload hx hb dL_tells_48 (lv_at hl 4 rfl) ?_
        refine lv_if_eq (tgt := 90) hx hb dL_tells_50 (by decide) (fun q => absurd q (by decide)) (fun _ => ?_)
        refine lv_aload_n hx hb dL_tells_53 rfl (lv_at hl 0 rfl) ?_
        refine lv_aload_n hx hb dL_tells_54 rfl (lv_at hl 1 rfl) ?_
        refine lv_aload_n hx hb dL_tells_55 rfl (lv_at hl 2 rfl) ?_
        refine lv_iload_n hx hb dL_tells_56 rfl (lv_at hl 3 rfl) ?_
        refine lv_iconst (v := 5) hx hb dL_tells_57 (by decide) ?_
        refine lv_iload hx hb dL_tells_58 (lv_at hl 5 rfl) ?_
        refine lv_imul hx hb dL_tells_60 ?_
        refine kq_top (z := nI (5 * k)) (pk_mul 5 k) ?_
        refine lv_ishr hx hb dL_tells_61 ?_
        refine lv_sipush (v := 1000) hx hb dL_tells_62 (by decide) ?_
        refine kq_cS (As := [.int (h9 >>> ((nI (5 * k)) &&& 31)), .int 1000]) (rest := [.ref pa, .ref sb, .ref oX]) ⟨hx, hb, hml, hown, hts⟩ (c_L_low l dC dI cI (h9 >>> ((nI (5 * k)) &&& 31)) 1000 (by first | assumption | omega) (by first | assumption | omega)) (va_cwS 2 hts gL_tells_L_low rfl rfl rfl (by decide +kernel) ⟨Nat.le_of_ble_eq_true rfl, Nat.le_of_ble_eq_true rfl⟩) (hP.sub [] rfl) hK rfl hl.1 rfl (Nat.le_of_ble_eq_true rfl) dL_tells_65 ⟨Nat.le_of_ble_eq_true rfl, Nat.le_of_ble_eq_true rfl⟩ ?_
        refine lv_iload_n hx hb dL_tells_68 rfl (lv_at hl 3 rfl) ?_
        refine lv_iconst (v := 3) hx hb dL_tells_69 (by decide) ?_
        refine lv_iload hx hb dL_tells_70 (lv_at hl 5 rfl) ?_
        refine lv_imul hx hb dL_tells_72 ?_
        refine kq_top (z := nI (3 * k)) (pk_mul 3 k) ?_
        refine lv_ishr hx hb dL_tells_73 ?_
        refine lv_bipush (v := 6) hx hb dL_tells_74 (by decide) ?_
        refine kq_cS (As := [.int (h9 >>> ((nI (3 * k)) &&& 31)), .int 6]) (rest := [.int (nI (n_lw (h9 >>> ((nI (5 * k)) &&& 31)) 1000)), .ref pa, .ref sb, .ref oX]) ⟨hx, hb, hml, hown, hts⟩ (c_L_low l dC dI cI (h9 >>> ((nI (3 * k)) &&& 31)) 6 (by first | assumption | omega) (by first | assumption | omega)) (va_cwS 2 hts gL_tells_L_low rfl rfl rfl (by decide +kernel) ⟨Nat.le_of_ble_eq_true rfl, Nat.le_of_ble_eq_true rfl⟩) (hP.sub [] rfl) hK rfl hl.1 rfl (Nat.le_of_ble_eq_true rfl) dL_tells_76 ⟨Nat.le_of_ble_eq_true rfl, Nat.le_of_ble_eq_true rfl⟩ ?_
        refine kq_callMi (wr := [(oR, .inr (2, [.ref oS])), (oF, .inr (0, [.ref oS, .ref oN])), (o2, .inr (1, [.ref oS, .ref q1, .ref q2, .ref q3])), (q1, .inl (cI, 72, .inl y1_7)), (q2, .inl (cI, 72, .inl y2_8)), (q3, .inl (cI, 72, .inl y3_9))]) (va_runS (As := [.ref oX, .ref sb, .ref pa, .int (nI (n_lw (h9 >>> ((nI (5 * k)) &&& 31)) 1000)), .int (nI (n_lw (h9 >>> ((nI (3 * k)) &&& 31)) 6))]) (rest := []) ⟨hx, hb, hml, hown, hts⟩ (c_L_isRow l dC dI cI sb sL xs H.size oX oS oR oN o2 oF oT rv rs kc rp rt rl v fp ft fl pa pf (n_lw (h9 >>> ((nI (5 * k)) &&& 31)) 1000) (n_lw (h9 >>> ((nI (3 * k)) &&& 31)) 6) (by first | assumption | omega) (by first | assumption | omega) (by first | assumption | omega) (n_lw_lt (by decide)) (n_lw_lt (by decide)) (by first | assumption | omega)) (va_cwS 5 hts gL_tells_L_isRow rfl rfl rfl (by decide +kernel) ⟨Nat.le_of_ble_eq_true rfl, Nat.le_of_ble_eq_true rfl⟩) (kq_preSX (hP.sub [11, 12, 13, 2, 3, 4, 5, 10] rfl) (hD.sub [11, 12, 13, 2, 3, 4, 5, 10] (by decide) rfl) hK (kq_xk hX hbl hbA hS) (fun q => hbA (va_free (wc := [(oX, .inr (5, [.ref oS, .ref oR, .ref oN, .ref o2, .ref oF, .ref oT])), (oS, .inr (3, [.ref rv, .ref rs, .int (nI kc)])), (rv, .inl (cI, 385, .inl v)), (oN, .inr (1, [.ref oS, .ref rp, .ref rt, .ref rl])), (rp, .inl (cI, 72, .inl fp)), (rt, .inl (cI, 72, .inl ft)), (rl, .inl (cI, 72, .inl fl)), (pa, .inl (cI, 8, .inl pf))]) hD hS hA [11, 12, 13, 2, 3, 4, 5, 10] rfl _ q))) rfl rfl hl.1 rfl (lv_room (Nat.le_of_ble_eq_true rfl)) dL_tells_79 ⟨Nat.le_of_ble_eq_true rfl, Nat.le_of_ble_eq_true rfl⟩) hP hD hS hA [11, 12, 13, 2, 3, 4, 5, 10] [0, 1, 6, 7, 8, 9] rfl rfl (by decide) (by decide) (fun r_66 u_67 H locs hw_68 hP hD hS => ?_)
        obtain ⟨gp_69, gt_70, gl_71⟩ := u_67
        have hP : va_P (dC, dI) vwCl [(oR, .inr (2, [.ref oS])), (oF, .inr (0, [.ref oS, .ref oN])), (o2, .inr (1, [.ref oS, .ref q1, .ref q2, .ref q3])), (q1, .inl (cI, 72, .inl y1_7)), (q2, .inl (cI, 72, .inl y2_8)), (q3, .inl (cI, 72, .inl y3_9)), (oX, .inr (5, [.ref oS, .ref oR, .ref oN, .ref o2, .ref oF, .ref oT])), (oS, .inr (3, [.ref rv, .ref rs, .int (nI kc)])), (rv, .inl (cI, 385, .inl v)), (oN, .inr (1, [.ref oS, .ref rp, .ref rt, .ref rl])), (rp, .inl (cI, 72, .inl gp_69)), (rt, .inl (cI, 72, .inl gt_70)), (rl, .inl (cI, 72, .inl gl_71)), (pa, .inl (cI, 8, .inl pf))] H := hP
        have hD : va_D A [(oR, .inr (2, [.ref oS])), (oF, .inr (0, [.ref oS, .ref oN])), (o2, .inr (1, [.ref oS, .ref q1, .ref q2, .ref q3])), (q1, .inl (cI, 72, .inl y1_7)), (q2, .inl (cI, 72, .inl y2_8)), (q3, .inl (cI, 72, .inl y3_9)), (oX, .inr (5, [.ref oS, .ref oR, .ref oN, .ref o2, .ref oF, .ref oT])), (oS, .inr (3, [.ref rv, .ref rs, .int (nI kc)])), (rv, .inl (cI, 385, .inl v)), (oN, .inr (1, [.ref oS, .ref rp, .ref rt, .ref rl])), (rp, .inl (cI, 72, .inl gp_69)), (rt, .inl (cI, 72, .inl gt_70)), (rl, .inl (cI, 72, .inl gl_71)), (pa, .inl (cI, 8, .inl pf))] := hD
        obtain rfl := hw_68
        refine lv_istore (lv' := [(4, .int 1), (0, .ref oX), (1, .ref sb), (2, .ref pa), (3, .int h9), (5, .int (nI k))]) hx hb dL_tells_82 hl (by decide) rfl (fun ls hl => ?_)
        refine lv_iinc (v := nI (k + 1)) (lv' := [(5, .int (nI (k + 1))), (4, .int 1), (0, .ref oX), (1, .ref sb), (2, .ref pa), (3, .int h9)]) hx hb dL_tells_84 hl (k := 5) rfl (nI_1 k) (by decide) rfl (fun ls hl => ?_)
        refine lv_goto (tgt := 42) hx hb dL_tells_87 (by decide) ?_
        exact ih_19 (k + 1) gp_69 gt_70 gl_71 (by omega) (by show 4 - (k + 1) < 4 - k; omega) _ _ (hP.sub [0, 1, 9, 10, 11, 12, 2, 3, 4, 5, 13, 6, 7, 8] rfl) (hD.sub [0, 1, 9, 10, 11, 12, 2, 3, 4, 5, 13, 6, 7, 8] (by decide) rfl) hS _ (lv_sub hl [2, 3, 4, 5, 1, 0] rfl)
