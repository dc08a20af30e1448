/-! What is told of a figure. -/
theorem nI_m1 {a : Nat} (h : a < 2 ^ 30) : ¬ nI a = -1 := by
  intro q
  have e := congrArg Int32.toInt q
  rw [nI_toInt (by omega)] at e
  have e1 : (-1 : Int32).toInt = -1 := by decide
  rw [e1] at e
  omega
theorem n_fo_0 {v : Nat → Int32} {f : Nat} (h : 0 < n_f v f 2) : n_fo v f 0 = nI (n_f v f 2 * n_f v f 3) := by rw [n_fo, if_pos h, n_fo1]
theorem n_fo_1 {v : Nat → Int32} {f : Nat} (h : 0 < n_f v f 2) : n_fo v f 1 = nI (n_fr (n_f v f 0) (n_f v f 1) (n_f v f 2) (n_f v f 3)) := by rw [n_fo, if_pos h, n_fo1]
theorem n_fo_2 {v : Nat → Int32} {f : Nat} (h : 0 < n_f v f 2) : n_fo v f 2 = if n_hid v f then 1 else 0 := by rw [n_fo, if_pos h, n_fo1]
theorem n_fo_3 {v : Nat → Int32} {f : Nat} (h : 0 < n_f v f 2) : n_fo v f 3 = n_ff (n_seen v f) 100 := by rw [n_fo, if_pos h, n_fo1]
theorem n_fo_4 {v : Nat → Int32} {f : Nat} (h : 0 < n_f v f 2) : n_fo v f 4 = n_gd v f 100 := by rw [n_fo, if_pos h]; simp [n_fo1]
theorem n_gd_0 {v : Nat → Int32} {f : Nat} (h : ¬ n_hid v f = true) : n_gd v f 100 = 0 := by rw [n_gd, if_neg h]
theorem n_cn_p {v : Nat → Int32} {f n : Nat} (h : 0 < n_f v f 2) : n_cn v f n = n_ct v f n + 1000 := by rw [n_cn, if_pos h]

set_option maxHeartbeats 16000000 in
set_option maxRecDepth 100000 in
theorem c_L_isFigure (l : Launch) (dC : Nat → ClassId) (dI : Nat → Nat → Nat) (cI : ClassId) (sb sL : Nat) (xs : Nat → Int32) (sz : Nat) (oX : Nat) (oS : Nat) (oR : Nat) (oN : Nat) (o2 : Nat) (oF : Nat) (oT : Nat) (rv : Nat) (rs : Nat) (kc : Nat) (rp : Nat) (rt : Nat) (rl : Nat) (v : Nat → Int32) (fp : Nat → Int32) (ft : Nat → Int32) (fl : Nat → Int32) (pa : Nat) (pf : Nat → Int32) (qa : Nat) (f : Nat) (qf : Nat → Int32) (h9 : Int32) (hI : n_I v) (hW : n_ww sL xs v) (hp : n_pp v pf) (hf : f < 4) (ht : 0 < n_f v f 2) (hq : n_qq qf (n_f v f 0) (n_f v f 1) (n_f v f 2) (n_f v f 3)) (hL : sL ≤ 260) : Met l yL_isFigure wsL_isFigure ({ frames := 6, cells := 0, slots := 0, locals := 143 }) (kq_MX dC dI cI sb sL xs [.ref oX, .ref sb, .ref pa, .int (nI f), .ref qa, .int h9] sz [(oX, .inr (5, [.ref oS, .ref oR, .ref oN, .ref o2, .ref oF, .ref oT])), (oS, .inr (3, [.ref rv, .ref rs, .int (nI kc)])), (rv, .inl (cI, 385, .inl v)), (oF, .inr (0, [.ref oS, .ref oN])), (oN, .inr (1, [.ref oS, .ref rp, .ref rt, .ref rl])), (rp, .inl (cI, 72, .inl fp)), (rt, .inl (cI, 72, .inl ft)), (rl, .inl (cI, 72, .inl fl)), (pa, .inl (cI, 8, .inl pf)), (qa, .inl (cI, 4, .inl qf))]) (va_Qi (fun (r : Int32) (u : (Nat → Int32) × (Nat → Int32) × (Nat → Int32)) => r = 1) (kq_B dC dI (va_A [(oX, .inr (5, [.ref oS, .ref oR, .ref oN, .ref o2, .ref oF, .ref oT])), (oS, .inr (3, [.ref rv, .ref rs, .int (nI kc)])), (rv, .inl (cI, 385, .inl v)), (oF, .inr (0, [.ref oS, .ref oN])), (oN, .inr (1, [.ref oS, .ref rp, .ref rt, .ref rl])), (rp, .inl (cI, 72, .inl fp)), (rt, .inl (cI, 72, .inl ft)), (rl, .inl (cI, 72, .inl fl)), (pa, .inl (cI, 8, .inl pf)), (qa, .inl (cI, 4, .inl qf))] sz) (fun u : (Nat → Int32) × (Nat → Int32) × (Nat → Int32) => [(oX, .inr (5, [.ref oS, .ref oR, .ref oN, .ref o2, .ref oF, .ref oT])), (oS, .inr (3, [.ref rv, .ref rs, .int (nI kc)])), (rv, .inl (cI, 385, .inl v)), (oF, .inr (0, [.ref oS, .ref oN])), (oN, .inr (1, [.ref oS, .ref rp, .ref rt, .ref rl])), (rp, .inl (cI, 72, .inl u.1)), (rt, .inl (cI, 72, .inl u.2.1)), (rl, .inl (cI, 72, .inl u.2.2)), (pa, .inl (cI, 8, .inl pf)), (qa, .inl (cI, 4, .inl qf))])) (va_A [(oX, .inr (5, [.ref oS, .ref oR, .ref oN, .ref o2, .ref oF, .ref oT])), (oS, .inr (3, [.ref rv, .ref rs, .int (nI kc)])), (rv, .inl (cI, 385, .inl v)), (oF, .inr (0, [.ref oS, .ref oN])), (oN, .inr (1, [.ref oS, .ref rp, .ref rt, .ref rl])), (rp, .inl (cI, 72, .inl fp)), (rt, .inl (cI, 72, .inl ft)), (rl, .inl (cI, 72, .inl fl)), (pa, .inl (cI, 8, .inl pf)), (qa, .inl (cI, 4, .inl qf))] sz)) 0 0 (va_A [(oX, .inr (5, [.ref oS, .ref oR, .ref oN, .ref o2, .ref oF, .ref oT])), (oS, .inr (3, [.ref rv, .ref rs, .int (nI kc)])), (rv, .inl (cI, 385, .inl v)), (oF, .inr (0, [.ref oS, .ref oN])), (oN, .inr (1, [.ref oS, .ref rp, .ref rt, .ref rl])), (rp, .inl (cI, 72, .inl fp)), (rt, .inl (cI, 72, .inl ft)), (rl, .inl (cI, 72, .inl fl)), (pa, .inl (cI, 8, .inl pf)), (qa, .inl (cI, 4, .inl qf))] sz) := by
  refine kq_startMX (cc := cL_isFigure) (maxL := 14) (ret := (some .boolean)) (by decide) rfl (Nat.le_of_ble_eq_true rfl) ?_
  intro p e s m below meth c hx hb hr hml hown hlocks hts hsz hA hP hD hS hK hnm hX hbl hbA ls hl
  subst hsz
  generalize hAe : va_A [(oX, .inr (5, [.ref oS, .ref oR, .ref oN, .ref o2, .ref oF, .ref oT])), (oS, .inr (3, [.ref rv, .ref rs, .int (nI kc)])), (rv, .inl (cI, 385, .inl v)), (oF, .inr (0, [.ref oS, .ref oN])), (oN, .inr (1, [.ref oS, .ref rp, .ref rt, .ref rl])), (rp, .inl (cI, 72, .inl fp)), (rt, .inl (cI, 72, .inl ft)), (rl, .inl (cI, 72, .inl fl)), (pa, .inl (cI, 8, .inl pf)), (qa, .inl (cI, 4, .inl qf))] s.heap.size = A at hA hD hS hbA ⊢
  have hown : s.vm.findClass RL = some m.cls := hown
  have hl : lv_has ls 14 [(0, .ref oX), (1, .ref sb), (2, .ref pa), (3, .int (nI f)), (4, .ref qa), (5, .int h9)] := hl
  obtain ⟨hfa, hfb, hfc, hfd⟩ := n_I_fr hI hf
  have hw0 := hfb ht
  have hce9 : n_f v f 2 * n_f v f 3 ≤ 6 * 12 := Nat.mul_le_mul (by omega) (by omega)
  refine lv_aload_n hx hb dL_isFigure_0 rfl (lv_at hl 0 rfl) ?_
  refine lv_aload hx hb dL_isFigure_1 (lv_at hl 4 rfl) ?_
  refine kq_callMi (wr := [(oF, .inr (0, [.ref oS, .ref oN])), (pa, .inl (cI, 8, .inl pf))]) (va_runS (As := [.ref oX, .ref qa]) (rest := []) ⟨hx, hb, hml, hown, hts⟩ (c_L_isHidden l dC dI cI s.heap.size oX oS oR oN o2 oF oT rv rs kc rp rt rl v fp ft fl qa f qf (by first | assumption | omega) (by first | assumption | omega) (by first | assumption | omega) (by first | assumption | omega)) (va_cwS 2 hts gL_isFigure_L_isHidden rfl rfl rfl (by decide +kernel) ⟨Nat.le_of_ble_eq_true rfl, Nat.le_of_ble_eq_true rfl⟩) (kq_preS (hP.sub [0, 1, 2, 4, 5, 6, 7, 9] rfl) (hD.sub [0, 1, 2, 4, 5, 6, 7, 9] (by decide) rfl) hK) rfl rfl hl.1 rfl (lv_room (Nat.le_of_ble_eq_true rfl)) dL_isFigure_3 ⟨Nat.le_of_ble_eq_true rfl, Nat.le_of_ble_eq_true rfl⟩) hP hD hS hA [0, 1, 2, 4, 5, 6, 7, 9] [3, 8] rfl rfl (by decide) (by decide) (fun r_1 u_2 H locs hw_3 hP hD hS => ?_)
  obtain ⟨gp_4, gt_5, gl_6⟩ := u_2
  have hP : va_P (dC, dI) vwCl [(oF, .inr (0, [.ref oS, .ref oN])), (pa, .inl (cI, 8, .inl pf)), (oX, .inr (5, [.ref oS, .ref oR, .ref oN, .ref o2, .ref oF, .ref oT])), (oS, .inr (3, [.ref rv, .ref rs, .int (nI kc)])), (rv, .inl (cI, 385, .inl v)), (oN, .inr (1, [.ref oS, .ref rp, .ref rt, .ref rl])), (rp, .inl (cI, 72, .inl gp_4)), (rt, .inl (cI, 72, .inl gt_5)), (rl, .inl (cI, 72, .inl gl_6)), (qa, .inl (cI, 4, .inl qf))] H := hP
  have hD : va_D A [(oF, .inr (0, [.ref oS, .ref oN])), (pa, .inl (cI, 8, .inl pf)), (oX, .inr (5, [.ref oS, .ref oR, .ref oN, .ref o2, .ref oF, .ref oT])), (oS, .inr (3, [.ref rv, .ref rs, .int (nI kc)])), (rv, .inl (cI, 385, .inl v)), (oN, .inr (1, [.ref oS, .ref rp, .ref rt, .ref rl])), (rp, .inl (cI, 72, .inl gp_4)), (rt, .inl (cI, 72, .inl gt_5)), (rl, .inl (cI, 72, .inl gl_6)), (qa, .inl (cI, 4, .inl qf))] := hD
  obtain rfl := hw_3
  by_cases hhd : n_hid v f = true
  · skip
    refine kq_top (z := 1) (if_pos hhd) ?_
    refine lv_istore (lv' := [(6, .int 1), (0, .ref oX), (1, .ref sb), (2, .ref pa), (3, .int (nI f)), (4, .ref qa), (5, .int h9)]) hx hb dL_isFigure_6 hl (by decide) rfl (fun ls hl => ?_)
    refine lv_aload_n hx hb dL_isFigure_8 rfl (lv_at hl 1 rfl) ?_
    refine lv_iload_n hx hb dL_isFigure_9 rfl (lv_at hl 4 rfl) ?_
    refine lv_iconst (v := 3) hx hb dL_isFigure_10 (by decide) ?_
    refine kq_callMi (wr := [(pa, .inl (cI, 8, .inl pf)), (qa, .inl (cI, 4, .inl qf))]) (va_runV (As := [.int (nI f), .int 3]) (rest := []) ⟨hx, hb, hml, hown, hts⟩ (c_X5_figureOf l dC dI cI H.size oX oS oR oN o2 oF oT rv rs kc rp rt rl v gp_4 gt_5 gl_6 f 3 (by first | assumption | omega) (by first | assumption | omega) (by first | assumption | omega)) (cwV 2 hts gL_isFigure_X5_figureOf rfl rfl rfl (by decide +kernel) ⟨Nat.le_of_ble_eq_true rfl, Nat.le_of_ble_eq_true rfl⟩) (kq_preV (ci := 5) (q0 := 0) (hP.sub [2, 3, 4, 0, 5, 6, 7, 8] rfl) (hD.sub [2, 3, 4, 0, 5, 6, 7, 8] (by decide) rfl) hK rfl rfl) rfl rfl hl.1 rfl (lv_room (Nat.le_of_ble_eq_true rfl)) dL_isFigure_11 ⟨Nat.le_of_ble_eq_true rfl, Nat.le_of_ble_eq_true rfl⟩) hP hD hS hA [2, 3, 4, 0, 5, 6, 7, 8] [1, 9] rfl rfl (by decide) (by decide) (fun r_7 u_8 H locs hw_9 hP hD hS => ?_)
    obtain ⟨gp_10, gt_11, gl_12⟩ := u_8
    have hP : va_P (dC, dI) vwCl [(pa, .inl (cI, 8, .inl pf)), (qa, .inl (cI, 4, .inl qf)), (oX, .inr (5, [.ref oS, .ref oR, .ref oN, .ref o2, .ref oF, .ref oT])), (oS, .inr (3, [.ref rv, .ref rs, .int (nI kc)])), (rv, .inl (cI, 385, .inl v)), (oF, .inr (0, [.ref oS, .ref oN])), (oN, .inr (1, [.ref oS, .ref rp, .ref rt, .ref rl])), (rp, .inl (cI, 72, .inl gp_10)), (rt, .inl (cI, 72, .inl gt_11)), (rl, .inl (cI, 72, .inl gl_12))] H := hP
    have hD : va_D A [(pa, .inl (cI, 8, .inl pf)), (qa, .inl (cI, 4, .inl qf)), (oX, .inr (5, [.ref oS, .ref oR, .ref oN, .ref o2, .ref oF, .ref oT])), (oS, .inr (3, [.ref rv, .ref rs, .int (nI kc)])), (rv, .inl (cI, 385, .inl v)), (oF, .inr (0, [.ref oS, .ref oN])), (oN, .inr (1, [.ref oS, .ref rp, .ref rt, .ref rl])), (rp, .inl (cI, 72, .inl gp_10)), (rt, .inl (cI, 72, .inl gt_11)), (rl, .inl (cI, 72, .inl gl_12))] := hD
    obtain rfl := hw_9
    rcases n_ff_spec (n_seen v f) with ⟨hs1, hs2⟩ | ⟨sn, hs0, hs1, hs2, hs3⟩
    · skip
      refine kq_top (z := (-1)) ((n_fo_3 ht).trans hs1) ?_
      refine lv_istore (lv' := [(7, .int (-1)), (6, .int 1), (0, .ref oX), (1, .ref sb), (2, .ref pa), (3, .int (nI f)), (4, .ref qa), (5, .int h9)]) hx hb dL_isFigure_14 hl (by decide) rfl (fun ls hl => ?_)
      refine lv_aload_n hx hb dL_isFigure_16 rfl (lv_at hl 2 rfl) ?_
      refine lv_iload_n hx hb dL_isFigure_17 rfl (lv_at hl 5 rfl) ?_
      refine lv_iconst (v := 4) hx hb dL_isFigure_18 (by decide) ?_
      refine kq_callMi (wr := [(pa, .inl (cI, 8, .inl pf)), (qa, .inl (cI, 4, .inl qf))]) (va_runV (As := [.int (nI f), .int 4]) (rest := []) ⟨hx, hb, hml, hown, hts⟩ (c_X5_figureOf l dC dI cI H.size oX oS oR oN o2 oF oT rv rs kc rp rt rl v gp_10 gt_11 gl_12 f 4 (by first | assumption | omega) (by first | assumption | omega) (by first | assumption | omega)) (cwV 2 hts gL_isFigure_X5_figureOf rfl rfl rfl (by decide +kernel) ⟨Nat.le_of_ble_eq_true rfl, Nat.le_of_ble_eq_true rfl⟩) (kq_preV (ci := 5) (q0 := 0) (hP.sub [2, 3, 4, 5, 6, 7, 8, 9] rfl) (hD.sub [2, 3, 4, 5, 6, 7, 8, 9] (by decide) rfl) hK rfl rfl) rfl rfl hl.1 rfl (lv_room (Nat.le_of_ble_eq_true rfl)) dL_isFigure_19 ⟨Nat.le_of_ble_eq_true rfl, Nat.le_of_ble_eq_true rfl⟩) hP hD hS hA [2, 3, 4, 5, 6, 7, 8, 9] [0, 1] rfl rfl (by decide) (by decide) (fun r_13 u_14 H locs hw_15 hP hD hS => ?_)
      obtain ⟨gp_16, gt_17, gl_18⟩ := u_14
      have hP : va_P (dC, dI) vwCl [(pa, .inl (cI, 8, .inl pf)), (qa, .inl (cI, 4, .inl qf)), (oX, .inr (5, [.ref oS, .ref oR, .ref oN, .ref o2, .ref oF, .ref oT])), (oS, .inr (3, [.ref rv, .ref rs, .int (nI kc)])), (rv, .inl (cI, 385, .inl v)), (oF, .inr (0, [.ref oS, .ref oN])), (oN, .inr (1, [.ref oS, .ref rp, .ref rt, .ref rl])), (rp, .inl (cI, 72, .inl gp_16)), (rt, .inl (cI, 72, .inl gt_17)), (rl, .inl (cI, 72, .inl gl_18))] H := hP
      have hD : va_D A [(pa, .inl (cI, 8, .inl pf)), (qa, .inl (cI, 4, .inl qf)), (oX, .inr (5, [.ref oS, .ref oR, .ref oN, .ref o2, .ref oF, .ref oT])), (oS, .inr (3, [.ref rv, .ref rs, .int (nI kc)])), (rv, .inl (cI, 385, .inl v)), (oF, .inr (0, [.ref oS, .ref oN])), (oN, .inr (1, [.ref oS, .ref rp, .ref rt, .ref rl])), (rp, .inl (cI, 72, .inl gp_16)), (rt, .inl (cI, 72, .inl gt_17)), (rl, .inl (cI, 72, .inl gl_18))] := hD
      obtain rfl := hw_15
      obtain ⟨gc, hg0, hg1, hg2⟩ := n_gd_h hhd
      refine kq_top (z := nI gc) ((n_fo_4 ht).trans hg1) ?_
      refine lv_istore (lv' := [(8, .int (nI gc)), (7, .int (-1)), (6, .int 1), (0, .ref oX), (1, .ref sb), (2, .ref pa), (3, .int (nI f)), (4, .ref qa), (5, .int h9)]) hx hb dL_isFigure_22 hl (by decide) rfl (fun ls hl => ?_)
      refine lv_aload_n hx hb dL_isFigure_24 rfl (lv_at hl 3 rfl) ?_
      refine lv_iload_n hx hb dL_isFigure_25 rfl (lv_at hl 6 rfl) ?_
      refine lv_iconst (v := 0) hx hb dL_isFigure_26 (by decide) ?_
      refine kq_callMi (wr := [(pa, .inl (cI, 8, .inl pf)), (qa, .inl (cI, 4, .inl qf))]) (va_runV (As := [.int (nI f), .int 0]) (rest := []) ⟨hx, hb, hml, hown, hts⟩ (c_X5_figureOf l dC dI cI H.size oX oS oR oN o2 oF oT rv rs kc rp rt rl v gp_16 gt_17 gl_18 f 0 (by first | assumption | omega) (by first | assumption | omega) (by first | assumption | omega)) (cwV 2 hts gL_isFigure_X5_figureOf rfl rfl rfl (by decide +kernel) ⟨Nat.le_of_ble_eq_true rfl, Nat.le_of_ble_eq_true rfl⟩) (kq_preV (ci := 5) (q0 := 0) (hP.sub [2, 3, 4, 5, 6, 7, 8, 9] rfl) (hD.sub [2, 3, 4, 5, 6, 7, 8, 9] (by decide) rfl) hK rfl rfl) rfl rfl hl.1 rfl (lv_room (Nat.le_of_ble_eq_true rfl)) dL_isFigure_27 ⟨Nat.le_of_ble_eq_true rfl, Nat.le_of_ble_eq_true rfl⟩) hP hD hS hA [2, 3, 4, 5, 6, 7, 8, 9] [0, 1] rfl rfl (by decide) (by decide) (fun r_19 u_20 H locs hw_21 hP hD hS => ?_)
      obtain ⟨gp_22, gt_23, gl_24⟩ := u_20
      have hP : va_P (dC, dI) vwCl [(pa, .inl (cI, 8, .inl pf)), (qa, .inl (cI, 4, .inl qf)), (oX, .inr (5, [.ref oS, .ref oR, .ref oN, .ref o2, .ref oF, .ref oT])), (oS, .inr (3, [.ref rv, .ref rs, .int (nI kc)])), (rv, .inl (cI, 385, .inl v)), (oF, .inr (0, [.ref oS, .ref oN])), (oN, .inr (1, [.ref oS, .ref rp, .ref rt, .ref rl])), (rp, .inl (cI, 72, .inl gp_22)), (rt, .inl (cI, 72, .inl gt_23)), (rl, .inl (cI, 72, .inl gl_24))] H := hP
      have hD : va_D A [(pa, .inl (cI, 8, .inl pf)), (qa, .inl (cI, 4, .inl qf)), (oX, .inr (5, [.ref oS, .ref oR, .ref oN, .ref o2, .ref oF, .ref oT])), (oS, .inr (3, [.ref rv, .ref rs, .int (nI kc)])), (rv, .inl (cI, 385, .inl v)), (oF, .inr (0, [.ref oS, .ref oN])), (oN, .inr (1, [.ref oS, .ref rp, .ref rt, .ref rl])), (rp, .inl (cI, 72, .inl gp_22)), (rt, .inl (cI, 72, .inl gt_23)), (rl, .inl (cI, 72, .inl gl_24))] := hD
      obtain rfl := hw_21
      refine lv_aload hx hb dL_isFigure_30 (lv_at hl 7 rfl) ?_
      refine lv_iconst (v := 2) hx hb dL_isFigure_32 (by decide) ?_
      refine va_iald hx hb hK.1 hP 1 0 rfl rfl (vp_in_nI (show 2 < 4 from by omega) (by omega)) dL_isFigure_33 ?_
      refine kq_top (z := qf 2) (congrArg qf (nI_clamp (Nat.lt_trans (show 2 < 4 from by omega) (by omega)))) ?_
      refine kq_top (z := nI (n_f v f 2)) (hq.2.2.1) ?_
      refine lv_aload hx hb dL_isFigure_34 (lv_at hl 7 rfl) ?_
      refine lv_iconst (v := 3) hx hb dL_isFigure_36 (by decide) ?_
      refine va_iald hx hb hK.1 hP 1 0 rfl rfl (vp_in_nI (show 3 < 4 from by omega) (by omega)) dL_isFigure_37 ?_
      refine kq_top (z := qf 3) (congrArg qf (nI_clamp (Nat.lt_trans (show 3 < 4 from by omega) (by omega)))) ?_
      refine kq_top (z := nI (n_f v f 3)) (hq.2.2.2) ?_
      refine lv_imul hx hb dL_isFigure_38 ?_
      refine kq_top (z := nI ((n_f v f 2) * (n_f v f 3))) (pk_mul (n_f v f 2) (n_f v f 3)) ?_
      refine lv_icmp_ne (tgt := 101) hx hb dL_isFigure_39 (by decide) (fun c_25 => ?_) (fun c_25 => ?_)
      · skip
        exact absurd (n_fo_0 ht) c_25
      · skip
        refine lv_aload_n hx hb dL_isFigure_42 rfl (lv_at hl 3 rfl) ?_
        refine lv_iload_n hx hb dL_isFigure_43 rfl (lv_at hl 6 rfl) ?_
        refine lv_iconst (v := 1) hx hb dL_isFigure_44 (by decide) ?_
        refine kq_callMi (wr := [(pa, .inl (cI, 8, .inl pf)), (qa, .inl (cI, 4, .inl qf))]) (va_runV (As := [.int (nI f), .int 1]) (rest := []) ⟨hx, hb, hml, hown, hts⟩ (c_X5_figureOf l dC dI cI H.size oX oS oR oN o2 oF oT rv rs kc rp rt rl v gp_22 gt_23 gl_24 f 1 (by first | assumption | omega) (by first | assumption | omega) (by first | assumption | omega)) (cwV 2 hts gL_isFigure_X5_figureOf rfl rfl rfl (by decide +kernel) ⟨Nat.le_of_ble_eq_true rfl, Nat.le_of_ble_eq_true rfl⟩) (kq_preV (ci := 5) (q0 := 0) (hP.sub [2, 3, 4, 5, 6, 7, 8, 9] rfl) (hD.sub [2, 3, 4, 5, 6, 7, 8, 9] (by decide) rfl) hK rfl rfl) rfl rfl hl.1 rfl (lv_room (Nat.le_of_ble_eq_true rfl)) dL_isFigure_45 ⟨Nat.le_of_ble_eq_true rfl, Nat.le_of_ble_eq_true rfl⟩) hP hD hS hA [2, 3, 4, 5, 6, 7, 8, 9] [0, 1] rfl rfl (by decide) (by decide) (fun r_26 u_27 H locs hw_28 hP hD hS => ?_)
        obtain ⟨gp_29, gt_30, gl_31⟩ := u_27
        have hP : va_P (dC, dI) vwCl [(pa, .inl (cI, 8, .inl pf)), (qa, .inl (cI, 4, .inl qf)), (oX, .inr (5, [.ref oS, .ref oR, .ref oN, .ref o2, .ref oF, .ref oT])), (oS, .inr (3, [.ref rv, .ref rs, .int (nI kc)])), (rv, .inl (cI, 385, .inl v)), (oF, .inr (0, [.ref oS, .ref oN])), (oN, .inr (1, [.ref oS, .ref rp, .ref rt, .ref rl])), (rp, .inl (cI, 72, .inl gp_29)), (rt, .inl (cI, 72, .inl gt_30)), (rl, .inl (cI, 72, .inl gl_31))] H := hP
        have hD : va_D A [(pa, .inl (cI, 8, .inl pf)), (qa, .inl (cI, 4, .inl qf)), (oX, .inr (5, [.ref oS, .ref oR, .ref oN, .ref o2, .ref oF, .ref oT])), (oS, .inr (3, [.ref rv, .ref rs, .int (nI kc)])), (rv, .inl (cI, 385, .inl v)), (oF, .inr (0, [.ref oS, .ref oN])), (oN, .inr (1, [.ref oS, .ref rp, .ref rt, .ref rl])), (rp, .inl (cI, 72, .inl gp_29)), (rt, .inl (cI, 72, .inl gt_30)), (rl, .inl (cI, 72, .inl gl_31))] := hD
        obtain rfl := hw_28
        refine lv_aload hx hb dL_isFigure_48 (lv_at hl 7 rfl) ?_
        refine kq_cS (As := [.ref qa]) (rest := [.int (n_fo v f 1)]) ⟨hx, hb, hml, hown, hts⟩ (c_L_frame l dC dI cI qa qf (n_f v f 0) (n_f v f 1) (n_f v f 2) (n_f v f 3) (by first | assumption | omega) (by first | assumption | omega) (by first | assumption | omega) (by first | assumption | omega) (by first | assumption | omega)) (va_cwS 1 hts gL_isFigure_L_frame rfl rfl rfl (by decide +kernel) ⟨Nat.le_of_ble_eq_true rfl, Nat.le_of_ble_eq_true rfl⟩) (hP.sub [1] rfl) hK rfl hl.1 rfl (Nat.le_of_ble_eq_true rfl) dL_isFigure_50 ⟨Nat.le_of_ble_eq_true rfl, Nat.le_of_ble_eq_true rfl⟩ ?_
        refine lv_icmp_ne (tgt := 101) hx hb dL_isFigure_53 (by decide) (fun c_32 => ?_) (fun c_32 => ?_)
        · skip
          exact absurd (n_fo_1 ht) c_32
        · skip
          refine lv_aload_n hx hb dL_isFigure_56 rfl (lv_at hl 3 rfl) ?_
          refine lv_iload_n hx hb dL_isFigure_57 rfl (lv_at hl 6 rfl) ?_
          refine lv_iconst (v := 2) hx hb dL_isFigure_58 (by decide) ?_
          refine kq_callMi (wr := [(pa, .inl (cI, 8, .inl pf)), (qa, .inl (cI, 4, .inl qf))]) (va_runV (As := [.int (nI f), .int 2]) (rest := []) ⟨hx, hb, hml, hown, hts⟩ (c_X5_figureOf l dC dI cI H.size oX oS oR oN o2 oF oT rv rs kc rp rt rl v gp_29 gt_30 gl_31 f 2 (by first | assumption | omega) (by first | assumption | omega) (by first | assumption | omega)) (cwV 2 hts gL_isFigure_X5_figureOf rfl rfl rfl (by decide +kernel) ⟨Nat.le_of_ble_eq_true rfl, Nat.le_of_ble_eq_true rfl⟩) (kq_preV (ci := 5) (q0 := 0) (hP.sub [2, 3, 4, 5, 6, 7, 8, 9] rfl) (hD.sub [2, 3, 4, 5, 6, 7, 8, 9] (by decide) rfl) hK rfl rfl) rfl rfl hl.1 rfl (lv_room (Nat.le_of_ble_eq_true rfl)) dL_isFigure_59 ⟨Nat.le_of_ble_eq_true rfl, Nat.le_of_ble_eq_true rfl⟩) hP hD hS hA [2, 3, 4, 5, 6, 7, 8, 9] [0, 1] rfl rfl (by decide) (by decide) (fun r_33 u_34 H locs hw_35 hP hD hS => ?_)
          obtain ⟨gp_36, gt_37, gl_38⟩ := u_34
          have hP : va_P (dC, dI) vwCl [(pa, .inl (cI, 8, .inl pf)), (qa, .inl (cI, 4, .inl qf)), (oX, .inr (5, [.ref oS, .ref oR, .ref oN, .ref o2, .ref oF, .ref oT])), (oS, .inr (3, [.ref rv, .ref rs, .int (nI kc)])), (rv, .inl (cI, 385, .inl v)), (oF, .inr (0, [.ref oS, .ref oN])), (oN, .inr (1, [.ref oS, .ref rp, .ref rt, .ref rl])), (rp, .inl (cI, 72, .inl gp_36)), (rt, .inl (cI, 72, .inl gt_37)), (rl, .inl (cI, 72, .inl gl_38))] H := hP
          have hD : va_D A [(pa, .inl (cI, 8, .inl pf)), (qa, .inl (cI, 4, .inl qf)), (oX, .inr (5, [.ref oS, .ref oR, .ref oN, .ref o2, .ref oF, .ref oT])), (oS, .inr (3, [.ref rv, .ref rs, .int (nI kc)])), (rv, .inl (cI, 385, .inl v)), (oF, .inr (0, [.ref oS, .ref oN])), (oN, .inr (1, [.ref oS, .ref rp, .ref rt, .ref rl])), (rp, .inl (cI, 72, .inl gp_36)), (rt, .inl (cI, 72, .inl gt_37)), (rl, .inl (cI, 72, .inl gl_38))] := hD
          obtain rfl := hw_35
          refine lv_iload hx hb dL_isFigure_62 (lv_at hl 2 rfl) ?_
          refine lv_if_eq (tgt := 71) hx hb dL_isFigure_64 (by decide) (fun q => absurd q (by decide)) (fun _ => ?_)
          refine lv_iconst (v := 1) hx hb dL_isFigure_67 (by decide) ?_
          refine lv_goto (tgt := 72) hx hb dL_isFigure_68 (by decide) ?_
          refine lv_icmp_ne (tgt := 101) hx hb dL_isFigure_72 (by decide) (fun c_40 => ?_) (fun c_40 => ?_)
          · skip
            first | exact absurd ((n_fo_2 ht).trans (if_pos hhd)) c_40 | exact absurd ((n_fo_2 ht).trans (if_neg hhd)) c_40
          · skip
            refine lv_iload hx hb dL_isFigure_75 (lv_at hl 2 rfl) ?_
            refine lv_if_ne (tgt := 85) hx hb dL_isFigure_77 (by decide) (fun _ => ?_) (fun q => absurd q (by decide))
            refine lv_iload hx hb dL_isFigure_85 (lv_at hl 0 rfl) ?_
            refine lv_if_lt (tgt := 101) hx hb dL_isFigure_87 (by decide) (fun c_42 => ?_) (fun c_42 => ?_)
            · skip
              have c_42 := kq_ltN (a := gc) (b := 0) c_42 (by omega) (by omega)
              exact absurd c_42 (by omega)
            · skip
              have c_42 := kq_nltN (a := gc) (b := 0) c_42 (by omega) (by omega)
              refine lv_iload hx hb dL_isFigure_90 (lv_at hl 0 rfl) ?_
              refine lv_bipush (v := 100) hx hb dL_isFigure_92 (by decide) ?_
              refine lv_icmp_gt (tgt := 101) hx hb dL_isFigure_94 (by decide) (fun c_43 => ?_) (fun c_43 => ?_)
              · skip
                have c_43 := kq_ltN (a := 100) (b := gc) c_43 (by omega) (by omega)
                exact absurd c_43 (by omega)
              · skip
                have c_43 := kq_nltN (a := 100) (b := gc) c_43 (by omega) (by omega)
                refine lv_iconst (v := 1) hx hb dL_isFigure_97 (by decide) ?_
                refine lv_goto (tgt := 102) hx hb dL_isFigure_98 (by decide) ?_
                refine lv_istore (lv' := [(9, .int 1), (8, .int (nI gc)), (7, .int (-1)), (6, .int 1), (0, .ref oX), (1, .ref sb), (2, .ref pa), (3, .int (nI f)), (4, .ref qa), (5, .int h9)]) hx hb dL_isFigure_102 hl (by decide) rfl (fun ls hl => ?_)
                refine lv_iconst (v := 0) hx hb dL_isFigure_104 (by decide) ?_
                refine lv_istore (lv' := [(10, .int 0), (9, .int 1), (8, .int (nI gc)), (7, .int (-1)), (6, .int 1), (0, .ref oX), (1, .ref sb), (2, .ref pa), (3, .int (nI f)), (4, .ref qa), (5, .int h9)]) hx hb dL_isFigure_105 hl (by decide) rfl (fun ls hl => ?_)
                refine kq_loopM4 (A1 := Nat) (A2 := Nat → Int32) (A3 := Nat → Int32) (A4 := Nat → Int32) (fun (k : Nat) (fp : Nat → Int32) (ft : Nat → Int32) (fl : Nat → Int32) => 4 - k) (fun (k : Nat) (fp : Nat → Int32) (ft : Nat → Int32) (fl : Nat → Int32) => (k ≤ 4)) (fun (k : Nat) (fp : Nat → Int32) (ft : Nat → Int32) (fl : Nat → Int32) => [(0, .ref oX), (1, .ref sb), (2, .ref pa), (3, .int (nI f)), (4, .ref qa), (5, .int h9), (6, .int 1), (7, .int (-1)), (8, .int (nI gc)), (9, .int 1), (10, .int (nI k))]) (fun (k : Nat) (fp : Nat → Int32) (ft : Nat → Int32) (fl : Nat → Int32) => [(pa, .inl (cI, 8, .inl pf)), (qa, .inl (cI, 4, .inl qf)), (oX, .inr (5, [.ref oS, .ref oR, .ref oN, .ref o2, .ref oF, .ref oT])), (oS, .inr (3, [.ref rv, .ref rs, .int (nI kc)])), (rv, .inl (cI, 385, .inl v)), (oF, .inr (0, [.ref oS, .ref oN])), (oN, .inr (1, [.ref oS, .ref rp, .ref rt, .ref rl])), (rp, .inl (cI, 72, .inl fp)), (rt, .inl (cI, 72, .inl ft)), (rl, .inl (cI, 72, .inl fl))]) (nL := 14) hK ?_ 0 gp_36 gt_37 gl_38 (by omega) hP hD hS _ (lv_sub hl [5, 6, 7, 8, 9, 10, 4, 3, 2, 1, 0] rfl)
                intro k fp ft fl hi_45 ih_44 H locs hP hD hS ls hl
                have ik : k ≤ 4 := hi_45
                have hl : lv_has ls 14 [(0, .ref oX), (1, .ref sb), (2, .ref pa), (3, .int (nI f)), (4, .ref qa), (5, .int h9), (6, .int 1), (7, .int (-1)), (8, .int (nI gc)), (9, .int 1), (10, .int (nI k))] := hl
                have hP : va_P (dC, dI) vwCl [(pa, .inl (cI, 8, .inl pf)), (qa, .inl (cI, 4, .inl qf)), (oX, .inr (5, [.ref oS, .ref oR, .ref oN, .ref o2, .ref oF, .ref oT])), (oS, .inr (3, [.ref rv, .ref rs, .int (nI kc)])), (rv, .inl (cI, 385, .inl v)), (oF, .inr (0, [.ref oS, .ref oN])), (oN, .inr (1, [.ref oS, .ref rp, .ref rt, .ref rl])), (rp, .inl (cI, 72, .inl fp)), (rt, .inl (cI, 72, .inl ft)), (rl, .inl (cI, 72, .inl fl))] H := hP
                have hD : va_D A [(pa, .inl (cI, 8, .inl pf)), (qa, .inl (cI, 4, .inl qf)), (oX, .inr (5, [.ref oS, .ref oR, .ref oN, .ref o2, .ref oF, .ref oT])), (oS, .inr (3, [.ref rv, .ref rs, .int (nI kc)])), (rv, .inl (cI, 385, .inl v)), (oF, .inr (0, [.ref oS, .ref oN])), (oN, .inr (1, [.ref oS, .ref rp, .ref rt, .ref rl])), (rp, .inl (cI, 72, .inl fp)), (rt, .inl (cI, 72, .inl ft)), (rl, .inl (cI, 72, .inl fl))] := hD
                refine lv_iload hx hb dL_isFigure_107 (lv_at hl 10 rfl) ?_
                refine lv_iconst (v := 4) hx hb dL_isFigure_109 (by decide) ?_
                refine lv_icmp_ge (tgt := 261) hx hb dL_isFigure_110 (by decide) (fun c_46 => ?_) (fun c_46 => ?_)
                · skip
                  have c_46 := kq_leN (a := 4) (b := k) c_46 (by omega) (by omega)
                  refine lv_iload hx hb dL_isFigure_261 (lv_at hl 9 rfl) ?_
                  exact kq_retMz (fp, ft, fl) hx hb hr hlocks (hP.sub [2, 3, 4, 5, 6, 7, 8, 9, 0, 1] rfl) (hD.sub [2, 3, 4, 5, 6, 7, 8, 9, 0, 1] (by decide) rfl) hS dL_isFigure_263 (Or.inr rfl) (by rfl)
                · skip
                  have c_46 := kq_nleN (a := 4) (b := k) c_46 (by omega) (by omega)
                  refine lv_iload hx hb dL_isFigure_113 (lv_at hl 10 rfl) ?_
                  refine lv_if_ne (tgt := 128) hx hb dL_isFigure_115 (by decide) (fun c_47 => ?_) (fun c_47 => ?_)
                  · skip
                    have c_47 := kq_neN (a := k) (b := 0) c_47 (by omega) (by omega)
                    refine lv_iload hx hb dL_isFigure_128 (lv_at hl 5 rfl) ?_
                    refine lv_bipush (v := 7) hx hb dL_isFigure_130 (by decide) ?_
                    refine lv_iload hx hb dL_isFigure_132 (lv_at hl 10 rfl) ?_
                    refine lv_imul hx hb dL_isFigure_134 ?_
                    refine kq_top (z := nI (7 * k)) (pk_mul 7 k) ?_
                    refine lv_ishr hx hb dL_isFigure_135 ?_
                    refine lv_bipush (v := 100) hx hb dL_isFigure_136 (by decide) ?_
                    refine kq_cS (As := [.int (h9 >>> ((nI (7 * k)) &&& 31)), .int 100]) (rest := []) ⟨hx, hb, hml, hown, hts⟩ (c_L_low l dC dI cI (h9 >>> ((nI (7 * k)) &&& 31)) 100 (by first | assumption | omega) (by first | assumption | omega)) (va_cwS 2 hts gL_isFigure_L_low rfl rfl rfl (by decide +kernel) ⟨Nat.le_of_ble_eq_true rfl, Nat.le_of_ble_eq_true rfl⟩) (hP.sub [] rfl) hK rfl hl.1 rfl (Nat.le_of_ble_eq_true rfl) dL_isFigure_138 ⟨Nat.le_of_ble_eq_true rfl, Nat.le_of_ble_eq_true rfl⟩ ?_
                    have hnb : n_lw (h9 >>> ((nI (7 * k)) &&& 31)) 100 < 100 := by first | omega | exact n_lw_lt (by decide)
                    refine lv_istore (lv' := [(11, .int (nI (n_lw (h9 >>> ((nI (7 * k)) &&& 31)) 100))), (0, .ref oX), (1, .ref sb), (2, .ref pa), (3, .int (nI f)), (4, .ref qa), (5, .int h9), (6, .int 1), (7, .int (-1)), (8, .int (nI gc)), (9, .int 1), (10, .int (nI k))]) hx hb dL_isFigure_141 hl (by decide) rfl (fun ls hl => ?_)
                    refine lv_aload_n hx hb dL_isFigure_143 rfl (lv_at hl 1 rfl) ?_
                    refine lv_aload_n hx hb dL_isFigure_144 rfl (lv_at hl 2 rfl) ?_
                    refine lv_aload_n hx hb dL_isFigure_145 rfl (lv_at hl 3 rfl) ?_
                    refine lv_aload hx hb dL_isFigure_146 (lv_at hl 5 rfl) ?_
                    refine lv_iload hx hb dL_isFigure_148 (lv_at hl 0 rfl) ?_
                    refine kq_callMi (wr := [(oF, .inr (0, [.ref oS, .ref oN]))]) (va_runS (As := [.ref oX, .ref sb, .ref pa, .ref qa, .int (nI (n_lw (h9 >>> ((nI (7 * k)) &&& 31)) 100))]) (rest := []) ⟨hx, hb, hml, hown, hts⟩ (c_L_contrast l dC dI cI sb sL xs H.size oX oS oR oN o2 oF oT rv rs kc rp rt rl v fp ft fl pa pf qa f (n_lw (h9 >>> ((nI (7 * k)) &&& 31)) 100) qf (by first | assumption | omega) (by first | assumption | omega) (by first | assumption | omega) (by first | assumption | omega) (by first | assumption | omega) (by first | assumption | omega) (by first | assumption | omega) (by first | assumption | omega)) (va_cwS 5 hts gL_isFigure_L_contrast rfl rfl rfl (by decide +kernel) ⟨Nat.le_of_ble_eq_true rfl, Nat.le_of_ble_eq_true rfl⟩) (kq_preSX (hP.sub [2, 3, 4, 6, 7, 8, 9, 0, 1] rfl) (hD.sub [2, 3, 4, 6, 7, 8, 9, 0, 1] (by decide) rfl) hK (kq_xk hX hbl hbA hS) (fun q => hbA (va_free (wc := [(oX, .inr (5, [.ref oS, .ref oR, .ref oN, .ref o2, .ref oF, .ref oT])), (oS, .inr (3, [.ref rv, .ref rs, .int (nI kc)])), (rv, .inl (cI, 385, .inl v)), (oN, .inr (1, [.ref oS, .ref rp, .ref rt, .ref rl])), (rp, .inl (cI, 72, .inl fp)), (rt, .inl (cI, 72, .inl ft)), (rl, .inl (cI, 72, .inl fl)), (pa, .inl (cI, 8, .inl pf)), (qa, .inl (cI, 4, .inl qf))]) hD hS hA [2, 3, 4, 6, 7, 8, 9, 0, 1] rfl _ q))) rfl rfl hl.1 rfl (lv_room (Nat.le_of_ble_eq_true rfl)) dL_isFigure_150 ⟨Nat.le_of_ble_eq_true rfl, Nat.le_of_ble_eq_true rfl⟩) hP hD hS hA [2, 3, 4, 6, 7, 8, 9, 0, 1] [5] rfl rfl (by decide) (by decide) (fun r_48 u_49 H locs hw_50 hP hD hS => ?_)
                    obtain ⟨gp_51, gt_52, gl_53⟩ := u_49
                    have hP : va_P (dC, dI) vwCl [(oF, .inr (0, [.ref oS, .ref oN])), (oX, .inr (5, [.ref oS, .ref oR, .ref oN, .ref o2, .ref oF, .ref oT])), (oS, .inr (3, [.ref rv, .ref rs, .int (nI kc)])), (rv, .inl (cI, 385, .inl v)), (oN, .inr (1, [.ref oS, .ref rp, .ref rt, .ref rl])), (rp, .inl (cI, 72, .inl gp_51)), (rt, .inl (cI, 72, .inl gt_52)), (rl, .inl (cI, 72, .inl gl_53)), (pa, .inl (cI, 8, .inl pf)), (qa, .inl (cI, 4, .inl qf))] H := hP
                    have hD : va_D A [(oF, .inr (0, [.ref oS, .ref oN])), (oX, .inr (5, [.ref oS, .ref oR, .ref oN, .ref o2, .ref oF, .ref oT])), (oS, .inr (3, [.ref rv, .ref rs, .int (nI kc)])), (rv, .inl (cI, 385, .inl v)), (oN, .inr (1, [.ref oS, .ref rp, .ref rt, .ref rl])), (rp, .inl (cI, 72, .inl gp_51)), (rt, .inl (cI, 72, .inl gt_52)), (rl, .inl (cI, 72, .inl gl_53)), (pa, .inl (cI, 8, .inl pf)), (qa, .inl (cI, 4, .inl qf))] := hD
                    obtain rfl := hw_50
                    refine lv_istore (lv' := [(12, .int (n_ct v f (n_lw (h9 >>> ((nI (7 * k)) &&& 31)) 100))), (11, .int (nI (n_lw (h9 >>> ((nI (7 * k)) &&& 31)) 100))), (0, .ref oX), (1, .ref sb), (2, .ref pa), (3, .int (nI f)), (4, .ref qa), (5, .int h9), (6, .int 1), (7, .int (-1)), (8, .int (nI gc)), (9, .int 1), (10, .int (nI k))]) hx hb dL_isFigure_153 hl (by decide) rfl (fun ls hl => ?_)
                    refine kq_join (nL := 14) (L := [(12, .int (n_ct v f (n_lw (h9 >>> ((nI (7 * k)) &&& 31)) 100))), (11, .int (nI (n_lw (h9 >>> ((nI (7 * k)) &&& 31)) 100))), (0, .ref oX), (1, .ref sb), (2, .ref pa), (3, .int (nI f)), (4, .ref qa), (5, .int h9), (6, .int 1), (7, .int (-1)), (8, .int (nI gc)), (9, .int 1), (10, .int (nI k))]) (st := [.int (n_abs (n_ct v f (n_lw (h9 >>> ((nI (7 * k)) &&& 31)) 100)))]) (J := 168) ?_ (fun hJ_54 => ?_)
                    · intro ls hl
                      have hl : lv_has ls 14 [(12, .int (n_ct v f (n_lw (h9 >>> ((nI (7 * k)) &&& 31)) 100))), (11, .int (nI (n_lw (h9 >>> ((nI (7 * k)) &&& 31)) 100))), (0, .ref oX), (1, .ref sb), (2, .ref pa), (3, .int (nI f)), (4, .ref qa), (5, .int h9), (6, .int 1), (7, .int (-1)), (8, .int (nI gc)), (9, .int 1), (10, .int (nI k))] := hl
                      refine lv_aload_n hx hb dL_isFigure_168 rfl (lv_at hl 2 rfl) ?_
                      refine lv_iconst (v := 2) hx hb dL_isFigure_169 (by decide) ?_
                      refine kq_callMi (wr := [(oF, .inr (0, [.ref oS, .ref oN])), (oN, .inr (1, [.ref oS, .ref rp, .ref rt, .ref rl])), (rp, .inl (cI, 72, .inl gp_51)), (rt, .inl (cI, 72, .inl gt_52)), (rl, .inl (cI, 72, .inl gl_53)), (pa, .inl (cI, 8, .inl pf)), (qa, .inl (cI, 4, .inl qf))]) (va_runV (As := [.int 2]) (rest := [.int (n_abs (n_ct v f (n_lw (h9 >>> ((nI (7 * k)) &&& 31)) 100)))]) ⟨hx, hb, hml, hown, hts⟩ (c_X5_setting l dC dI cI H.size oX oS oR oN o2 oF oT rv rs kc v 2 (by first | assumption | omega)) (cwV 1 hts gL_isFigure_X5_setting rfl rfl rfl (by decide +kernel) ⟨Nat.le_of_ble_eq_true rfl, Nat.le_of_ble_eq_true rfl⟩) (kq_preV (ci := 5) (q0 := 0) (hP.sub [1, 2, 3] rfl) (hD.sub [1, 2, 3] (by decide) rfl) hK rfl rfl) rfl rfl hl.1 rfl (lv_room (Nat.le_of_ble_eq_true rfl)) dL_isFigure_170 ⟨Nat.le_of_ble_eq_true rfl, Nat.le_of_ble_eq_true rfl⟩) hP hD hS hA [1, 2, 3] [0, 4, 5, 6, 7, 8, 9] rfl rfl (by decide) (by decide) (fun r_55 u_56 H locs hw_57 hP hD hS => ?_)
                      have hP : va_P (dC, dI) vwCl [(oF, .inr (0, [.ref oS, .ref oN])), (oN, .inr (1, [.ref oS, .ref rp, .ref rt, .ref rl])), (rp, .inl (cI, 72, .inl gp_51)), (rt, .inl (cI, 72, .inl gt_52)), (rl, .inl (cI, 72, .inl gl_53)), (pa, .inl (cI, 8, .inl pf)), (qa, .inl (cI, 4, .inl qf)), (oX, .inr (5, [.ref oS, .ref oR, .ref oN, .ref o2, .ref oF, .ref oT])), (oS, .inr (3, [.ref rv, .ref rs, .int (nI kc)])), (rv, .inl (cI, 385, .inl v))] H := hP
                      have hD : va_D A [(oF, .inr (0, [.ref oS, .ref oN])), (oN, .inr (1, [.ref oS, .ref rp, .ref rt, .ref rl])), (rp, .inl (cI, 72, .inl gp_51)), (rt, .inl (cI, 72, .inl gt_52)), (rl, .inl (cI, 72, .inl gl_53)), (pa, .inl (cI, 8, .inl pf)), (qa, .inl (cI, 4, .inl qf)), (oX, .inr (5, [.ref oS, .ref oR, .ref oN, .ref o2, .ref oF, .ref oT])), (oS, .inr (3, [.ref rv, .ref rs, .int (nI kc)])), (rv, .inl (cI, 385, .inl v))] := hD
                      obtain rfl := hw_57
                      refine kq_top (z := nI (n_s v 2)) ((n_I_s hI).2.2.2.2.2.1) ?_
                      refine lv_icmp_lt (tgt := 180) hx hb dL_isFigure_173 (by decide) (fun c_58 => ?_) (fun c_58 => ?_)
                      · skip
                        have hsv := n_sn_f (Int32.not_le.mpr c_58)
                        refine lv_iconst (v := 0) hx hb dL_isFigure_180 (by decide) ?_
                        refine lv_istore (lv' := [(13, .int 0), (12, .int (n_ct v f (n_lw (h9 >>> ((nI (7 * k)) &&& 31)) 100))), (11, .int (nI (n_lw (h9 >>> ((nI (7 * k)) &&& 31)) 100))), (0, .ref oX), (1, .ref sb), (2, .ref pa), (3, .int (nI f)), (4, .ref qa), (5, .int h9), (6, .int 1), (7, .int (-1)), (8, .int (nI gc)), (9, .int 1), (10, .int (nI k))]) hx hb dL_isFigure_181 hl (by decide) rfl (fun ls hl => ?_)
                        refine lv_iload hx hb dL_isFigure_183 (lv_at hl 12 rfl) ?_
                        refine lv_if_eq (tgt := 252) hx hb dL_isFigure_185 (by decide) (fun q => absurd q (by decide)) (fun _ => ?_)
                        refine lv_aload_n hx hb dL_isFigure_188 rfl (lv_at hl 3 rfl) ?_
                        refine lv_iload_n hx hb dL_isFigure_189 rfl (lv_at hl 6 rfl) ?_
                        refine lv_iload hx hb dL_isFigure_190 (lv_at hl 2 rfl) ?_
                        refine kq_callMi (wr := [(pa, .inl (cI, 8, .inl pf)), (qa, .inl (cI, 4, .inl qf))]) (va_runV (As := [.int (nI f), .int (nI (n_lw (h9 >>> ((nI (7 * k)) &&& 31)) 100))]) (rest := []) ⟨hx, hb, hml, hown, hts⟩ (c_X5_contrast l dC dI cI H.size oX oS oR oN o2 oF oT rv rs kc rp rt rl v gp_51 gt_52 gl_53 f (n_lw (h9 >>> ((nI (7 * k)) &&& 31)) 100) (by first | assumption | omega) (by first | assumption | omega) (by first | assumption | omega)) (cwV 2 hts gL_isFigure_X5_contrast rfl rfl rfl (by decide +kernel) ⟨Nat.le_of_ble_eq_true rfl, Nat.le_of_ble_eq_true rfl⟩) (kq_preV (ci := 5) (q0 := 0) (hP.sub [7, 8, 9, 0, 1, 2, 3, 4] rfl) (hD.sub [7, 8, 9, 0, 1, 2, 3, 4] (by decide) rfl) hK rfl rfl) rfl rfl hl.1 rfl (lv_room (Nat.le_of_ble_eq_true rfl)) dL_isFigure_192 ⟨Nat.le_of_ble_eq_true rfl, Nat.le_of_ble_eq_true rfl⟩) hP hD hS hA [7, 8, 9, 0, 1, 2, 3, 4] [5, 6] rfl rfl (by decide) (by decide) (fun r_60 u_61 H locs hw_62 hP hD hS => ?_)
                        obtain ⟨gp_63, gt_64, gl_65⟩ := u_61
                        have hP : va_P (dC, dI) vwCl [(pa, .inl (cI, 8, .inl pf)), (qa, .inl (cI, 4, .inl qf)), (oX, .inr (5, [.ref oS, .ref oR, .ref oN, .ref o2, .ref oF, .ref oT])), (oS, .inr (3, [.ref rv, .ref rs, .int (nI kc)])), (rv, .inl (cI, 385, .inl v)), (oF, .inr (0, [.ref oS, .ref oN])), (oN, .inr (1, [.ref oS, .ref rp, .ref rt, .ref rl])), (rp, .inl (cI, 72, .inl gp_63)), (rt, .inl (cI, 72, .inl gt_64)), (rl, .inl (cI, 72, .inl gl_65))] H := hP
                        have hD : va_D A [(pa, .inl (cI, 8, .inl pf)), (qa, .inl (cI, 4, .inl qf)), (oX, .inr (5, [.ref oS, .ref oR, .ref oN, .ref o2, .ref oF, .ref oT])), (oS, .inr (3, [.ref rv, .ref rs, .int (nI kc)])), (rv, .inl (cI, 385, .inl v)), (oF, .inr (0, [.ref oS, .ref oN])), (oN, .inr (1, [.ref oS, .ref rp, .ref rt, .ref rl])), (rp, .inl (cI, 72, .inl gp_63)), (rt, .inl (cI, 72, .inl gt_64)), (rl, .inl (cI, 72, .inl gl_65))] := hD
                        obtain rfl := hw_62
                        refine lv_iload hx hb dL_isFigure_195 (lv_at hl 1 rfl) ?_
                        refine lv_sipush (v := 1000) hx hb dL_isFigure_197 (by decide) ?_
                        refine lv_iadd hx hb dL_isFigure_200 ?_
                        refine lv_icmp_ne (tgt := 252) hx hb dL_isFigure_201 (by decide) (fun c_66 => ?_) (fun c_66 => ?_)
                        · skip
                          exact absurd (n_cn_p ht) c_66
                        · skip
                          refine lv_iload hx hb dL_isFigure_204 (lv_at hl 0 rfl) ?_
                          refine lv_if_eq (tgt := 221) hx hb dL_isFigure_206 (by decide) (fun _ => ?_) (fun q => absurd q (by decide))
                          refine lv_iload hx hb dL_isFigure_221 (lv_at hl 2 rfl) ?_
                          refine lv_iload hx hb dL_isFigure_223 (lv_at hl 10 rfl) ?_
                          refine lv_icmp_ne (tgt := 233) hx hb dL_isFigure_225 (by decide) (fun c_68 => ?_) (fun c_68 => ?_)
                          · skip
                            refine lv_iload hx hb dL_isFigure_233 (lv_at hl 0 rfl) ?_
                            refine lv_if_eq (tgt := 248) hx hb dL_isFigure_235 (by decide) (fun _ => ?_) (fun q => absurd q (by decide))
                            refine lv_iconst (v := 1) hx hb dL_isFigure_248 (by decide) ?_
                            refine lv_goto (tgt := 253) hx hb dL_isFigure_249 (by decide) ?_
                            refine lv_istore (lv' := [(9, .int 1), (13, .int 0), (12, .int (n_ct v f (n_lw (h9 >>> ((nI (7 * k)) &&& 31)) 100))), (11, .int (nI (n_lw (h9 >>> ((nI (7 * k)) &&& 31)) 100))), (0, .ref oX), (1, .ref sb), (2, .ref pa), (3, .int (nI f)), (4, .ref qa), (5, .int h9), (6, .int 1), (7, .int (-1)), (8, .int (nI gc)), (10, .int (nI k))]) hx hb dL_isFigure_253 hl (by decide) rfl (fun ls hl => ?_)
                            refine lv_iinc (v := nI (k + 1)) (lv' := [(10, .int (nI (k + 1))), (9, .int 1), (13, .int 0), (12, .int (n_ct v f (n_lw (h9 >>> ((nI (7 * k)) &&& 31)) 100))), (11, .int (nI (n_lw (h9 >>> ((nI (7 * k)) &&& 31)) 100))), (0, .ref oX), (1, .ref sb), (2, .ref pa), (3, .int (nI f)), (4, .ref qa), (5, .int h9), (6, .int 1), (7, .int (-1)), (8, .int (nI gc))]) hx hb dL_isFigure_255 hl (k := 13) rfl (nI_1 k) (by decide) rfl (fun ls hl => ?_)
                            refine lv_goto (tgt := 107) hx hb dL_isFigure_258 (by decide) ?_
                            exact ih_44 (k + 1) gp_63 gt_64 gl_65 (by omega) (by show 4 - (k + 1) < 4 - k; omega) _ _ hP hD hS _ (lv_sub hl [5, 6, 7, 8, 9, 10, 11, 12, 13, 1, 0] rfl)
                          · skip
                            have hcs := c_68
                            exact absurd c_68 (nI_m1 (by omega))
                      · skip
                        have hsv := n_sn_t (Int32.not_lt.mp c_58)
                        refine lv_iconst (v := 1) hx hb dL_isFigure_176 (by decide) ?_
                        refine lv_goto (tgt := 181) hx hb dL_isFigure_177 (by decide) ?_
                        refine lv_istore (lv' := [(13, .int 1), (12, .int (n_ct v f (n_lw (h9 >>> ((nI (7 * k)) &&& 31)) 100))), (11, .int (nI (n_lw (h9 >>> ((nI (7 * k)) &&& 31)) 100))), (0, .ref oX), (1, .ref sb), (2, .ref pa), (3, .int (nI f)), (4, .ref qa), (5, .int h9), (6, .int 1), (7, .int (-1)), (8, .int (nI gc)), (9, .int 1), (10, .int (nI k))]) hx hb dL_isFigure_181 hl (by decide) rfl (fun ls hl => ?_)
                        refine lv_iload hx hb dL_isFigure_183 (lv_at hl 12 rfl) ?_
                        refine lv_if_eq (tgt := 252) hx hb dL_isFigure_185 (by decide) (fun q => absurd q (by decide)) (fun _ => ?_)
                        refine lv_aload_n hx hb dL_isFigure_188 rfl (lv_at hl 3 rfl) ?_
                        refine lv_iload_n hx hb dL_isFigure_189 rfl (lv_at hl 6 rfl) ?_
                        refine lv_iload hx hb dL_isFigure_190 (lv_at hl 2 rfl) ?_
                        refine kq_callMi (wr := [(pa, .inl (cI, 8, .inl pf)), (qa, .inl (cI, 4, .inl qf))]) (va_runV (As := [.int (nI f), .int (nI (n_lw (h9 >>> ((nI (7 * k)) &&& 31)) 100))]) (rest := []) ⟨hx, hb, hml, hown, hts⟩ (c_X5_contrast l dC dI cI H.size oX oS oR oN o2 oF oT rv rs kc rp rt rl v gp_51 gt_52 gl_53 f (n_lw (h9 >>> ((nI (7 * k)) &&& 31)) 100) (by first | assumption | omega) (by first | assumption | omega) (by first | assumption | omega)) (cwV 2 hts gL_isFigure_X5_contrast rfl rfl rfl (by decide +kernel) ⟨Nat.le_of_ble_eq_true rfl, Nat.le_of_ble_eq_true rfl⟩) (kq_preV (ci := 5) (q0 := 0) (hP.sub [7, 8, 9, 0, 1, 2, 3, 4] rfl) (hD.sub [7, 8, 9, 0, 1, 2, 3, 4] (by decide) rfl) hK rfl rfl) rfl rfl hl.1 rfl (lv_room (Nat.le_of_ble_eq_true rfl)) dL_isFigure_192 ⟨Nat.le_of_ble_eq_true rfl, Nat.le_of_ble_eq_true rfl⟩) hP hD hS hA [7, 8, 9, 0, 1, 2, 3, 4] [5, 6] rfl rfl (by decide) (by decide) (fun r_71 u_72 H locs hw_73 hP hD hS => ?_)
                        obtain ⟨gp_74, gt_75, gl_76⟩ := u_72
                        have hP : va_P (dC, dI) vwCl [(pa, .inl (cI, 8, .inl pf)), (qa, .inl (cI, 4, .inl qf)), (oX, .inr (5, [.ref oS, .ref oR, .ref oN, .ref o2, .ref oF, .ref oT])), (oS, .inr (3, [.ref rv, .ref rs, .int (nI kc)])), (rv, .inl (cI, 385, .inl v)), (oF, .inr (0, [.ref oS, .ref oN])), (oN, .inr (1, [.ref oS, .ref rp, .ref rt, .ref rl])), (rp, .inl (cI, 72, .inl gp_74)), (rt, .inl (cI, 72, .inl gt_75)), (rl, .inl (cI, 72, .inl gl_76))] H := hP
                        have hD : va_D A [(pa, .inl (cI, 8, .inl pf)), (qa, .inl (cI, 4, .inl qf)), (oX, .inr (5, [.ref oS, .ref oR, .ref oN, .ref o2, .ref oF, .ref oT])), (oS, .inr (3, [.ref rv, .ref rs, .int (nI kc)])), (rv, .inl (cI, 385, .inl v)), (oF, .inr (0, [.ref oS, .ref oN])), (oN, .inr (1, [.ref oS, .ref rp, .ref rt, .ref rl])), (rp, .inl (cI, 72, .inl gp_74)), (rt, .inl (cI, 72, .inl gt_75)), (rl, .inl (cI, 72, .inl gl_76))] := hD
                        obtain rfl := hw_73
                        refine lv_iload hx hb dL_isFigure_195 (lv_at hl 1 rfl) ?_
                        refine lv_sipush (v := 1000) hx hb dL_isFigure_197 (by decide) ?_
                        refine lv_iadd hx hb dL_isFigure_200 ?_
                        refine lv_icmp_ne (tgt := 252) hx hb dL_isFigure_201 (by decide) (fun c_77 => ?_) (fun c_77 => ?_)
                        · skip
                          exact absurd (n_cn_p ht) c_77
                        · skip
                          refine lv_iload hx hb dL_isFigure_204 (lv_at hl 0 rfl) ?_
                          refine lv_if_eq (tgt := 221) hx hb dL_isFigure_206 (by decide) (fun q => absurd q (by decide)) (fun _ => ?_)
                          refine lv_iload hx hb dL_isFigure_209 (lv_at hl 10 rfl) ?_
                          refine lv_if_lt (tgt := 252) hx hb dL_isFigure_211 (by decide) (fun _ => ?_) (fun q => absurd q (by decide))
                          first | exact absurd hsv (by rw [hs2 _ (by omega)]; decide) | exact absurd hs2 (by rw [← hcs, hsv]; decide)
                    · skip
                      refine lv_iload hx hb dL_isFigure_155 (lv_at hl 0 rfl) ?_
                      refine lv_if_ge (tgt := 166) hx hb dL_isFigure_157 (by decide) (fun c_80 => ?_) (fun c_80 => ?_)
                      · skip
                        refine lv_iload hx hb dL_isFigure_166 (lv_at hl 0 rfl) ?_
                        refine kq_top (z := n_abs (n_ct v f (n_lw (h9 >>> ((nI (7 * k)) &&& 31)) 100))) (by unfold n_abs; first | rw [if_pos (by assumption)] | rw [if_neg (by assumption)]) ?_
                        exact hJ_54 _ (lv_sub hl [0, 1, 2, 3, 4, 5, 6, 7, 8, 9, 10, 11, 12] rfl)
                      · skip
                        refine lv_iload hx hb dL_isFigure_160 (lv_at hl 0 rfl) ?_
                        refine lv_ineg hx hb dL_isFigure_162 ?_
                        refine kq_top (z := 0 - (n_ct v f (n_lw (h9 >>> ((nI (7 * k)) &&& 31)) 100))) (n_ineg (n_ct v f (n_lw (h9 >>> ((nI (7 * k)) &&& 31)) 100))) ?_
                        refine lv_goto (tgt := 168) hx hb dL_isFigure_163 (by decide) ?_
                        refine kq_top (z := n_abs (n_ct v f (n_lw (h9 >>> ((nI (7 * k)) &&& 31)) 100))) (by unfold n_abs; first | rw [if_pos (by assumption)] | rw [if_neg (by assumption)]) ?_
                        exact hJ_54 _ (lv_sub hl [0, 1, 2, 3, 4, 5, 6, 7, 8, 9, 10, 11, 12] rfl)
                  · skip
                    have c_47 := kq_eqN (a := k) (b := 0) c_47 (by omega) (by omega)
                    refine lv_iload hx hb dL_isFigure_118 (lv_at hl 7 rfl) ?_
                    refine lv_if_lt (tgt := 128) hx hb dL_isFigure_120 (by decide) (fun _ => ?_) (fun q => absurd q (by decide))
                    refine lv_iload hx hb dL_isFigure_128 (lv_at hl 5 rfl) ?_
                    refine lv_bipush (v := 7) hx hb dL_isFigure_130 (by decide) ?_
                    refine lv_iload hx hb dL_isFigure_132 (lv_at hl 10 rfl) ?_
                    refine lv_imul hx hb dL_isFigure_134 ?_
                    refine kq_top (z := nI (7 * k)) (pk_mul 7 k) ?_
                    refine lv_ishr hx hb dL_isFigure_135 ?_
                    refine lv_bipush (v := 100) hx hb dL_isFigure_136 (by decide) ?_
                    refine kq_cS (As := [.int (h9 >>> ((nI (7 * k)) &&& 31)), .int 100]) (rest := []) ⟨hx, hb, hml, hown, hts⟩ (c_L_low l dC dI cI (h9 >>> ((nI (7 * k)) &&& 31)) 100 (by first | assumption | omega) (by first | assumption | omega)) (va_cwS 2 hts gL_isFigure_L_low rfl rfl rfl (by decide +kernel) ⟨Nat.le_of_ble_eq_true rfl, Nat.le_of_ble_eq_true rfl⟩) (hP.sub [] rfl) hK rfl hl.1 rfl (Nat.le_of_ble_eq_true rfl) dL_isFigure_138 ⟨Nat.le_of_ble_eq_true rfl, Nat.le_of_ble_eq_true rfl⟩ ?_
                    have hnb : n_lw (h9 >>> ((nI (7 * k)) &&& 31)) 100 < 100 := by first | omega | exact n_lw_lt (by decide)
                    refine lv_istore (lv' := [(11, .int (nI (n_lw (h9 >>> ((nI (7 * k)) &&& 31)) 100))), (0, .ref oX), (1, .ref sb), (2, .ref pa), (3, .int (nI f)), (4, .ref qa), (5, .int h9), (6, .int 1), (7, .int (-1)), (8, .int (nI gc)), (9, .int 1), (10, .int (nI k))]) hx hb dL_isFigure_141 hl (by decide) rfl (fun ls hl => ?_)
                    refine lv_aload_n hx hb dL_isFigure_143 rfl (lv_at hl 1 rfl) ?_
                    refine lv_aload_n hx hb dL_isFigure_144 rfl (lv_at hl 2 rfl) ?_
                    refine lv_aload_n hx hb dL_isFigure_145 rfl (lv_at hl 3 rfl) ?_
                    refine lv_aload hx hb dL_isFigure_146 (lv_at hl 5 rfl) ?_
                    refine lv_iload hx hb dL_isFigure_148 (lv_at hl 0 rfl) ?_
                    refine kq_callMi (wr := [(oF, .inr (0, [.ref oS, .ref oN]))]) (va_runS (As := [.ref oX, .ref sb, .ref pa, .ref qa, .int (nI (n_lw (h9 >>> ((nI (7 * k)) &&& 31)) 100))]) (rest := []) ⟨hx, hb, hml, hown, hts⟩ (c_L_contrast l dC dI cI sb sL xs H.size oX oS oR oN o2 oF oT rv rs kc rp rt rl v fp ft fl pa pf qa f (n_lw (h9 >>> ((nI (7 * k)) &&& 31)) 100) qf (by first | assumption | omega) (by first | assumption | omega) (by first | assumption | omega) (by first | assumption | omega) (by first | assumption | omega) (by first | assumption | omega) (by first | assumption | omega) (by first | assumption | omega)) (va_cwS 5 hts gL_isFigure_L_contrast rfl rfl rfl (by decide +kernel) ⟨Nat.le_of_ble_eq_true rfl, Nat.le_of_ble_eq_true rfl⟩) (kq_preSX (hP.sub [2, 3, 4, 6, 7, 8, 9, 0, 1] rfl) (hD.sub [2, 3, 4, 6, 7, 8, 9, 0, 1] (by decide) rfl) hK (kq_xk hX hbl hbA hS) (fun q => hbA (va_free (wc := [(oX, .inr (5, [.ref oS, .ref oR, .ref oN, .ref o2, .ref oF, .ref oT])), (oS, .inr (3, [.ref rv, .ref rs, .int (nI kc)])), (rv, .inl (cI, 385, .inl v)), (oN, .inr (1, [.ref oS, .ref rp, .ref rt, .ref rl])), (rp, .inl (cI, 72, .inl fp)), (rt, .inl (cI, 72, .inl ft)), (rl, .inl (cI, 72, .inl fl)), (pa, .inl (cI, 8, .inl pf)), (qa, .inl (cI, 4, .inl qf))]) hD hS hA [2, 3, 4, 6, 7, 8, 9, 0, 1] rfl _ q))) rfl rfl hl.1 rfl (lv_room (Nat.le_of_ble_eq_true rfl)) dL_isFigure_150 ⟨Nat.le_of_ble_eq_true rfl, Nat.le_of_ble_eq_true rfl⟩) hP hD hS hA [2, 3, 4, 6, 7, 8, 9, 0, 1] [5] rfl rfl (by decide) (by decide) (fun r_82 u_83 H locs hw_84 hP hD hS => ?_)
                    obtain ⟨gp_85, gt_86, gl_87⟩ := u_83
                    have hP : va_P (dC, dI) vwCl [(oF, .inr (0, [.ref oS, .ref oN])), (oX, .inr (5, [.ref oS, .ref oR, .ref oN, .ref o2, .ref oF, .ref oT])), (oS, .inr (3, [.ref rv, .ref rs, .int (nI kc)])), (rv, .inl (cI, 385, .inl v)), (oN, .inr (1, [.ref oS, .ref rp, .ref rt, .ref rl])), (rp, .inl (cI, 72, .inl gp_85)), (rt, .inl (cI, 72, .inl gt_86)), (rl, .inl (cI, 72, .inl gl_87)), (pa, .inl (cI, 8, .inl pf)), (qa, .inl (cI, 4, .inl qf))] H := hP
                    have hD : va_D A [(oF, .inr (0, [.ref oS, .ref oN])), (oX, .inr (5, [.ref oS, .ref oR, .ref oN, .ref o2, .ref oF, .ref oT])), (oS, .inr (3, [.ref rv, .ref rs, .int (nI kc)])), (rv, .inl (cI, 385, .inl v)), (oN, .inr (1, [.ref oS, .ref rp, .ref rt, .ref rl])), (rp, .inl (cI, 72, .inl gp_85)), (rt, .inl (cI, 72, .inl gt_86)), (rl, .inl (cI, 72, .inl gl_87)), (pa, .inl (cI, 8, .inl pf)), (qa, .inl (cI, 4, .inl qf))] := hD
                    obtain rfl := hw_84
                    refine lv_istore (lv' := [(12, .int (n_ct v f (n_lw (h9 >>> ((nI (7 * k)) &&& 31)) 100))), (11, .int (nI (n_lw (h9 >>> ((nI (7 * k)) &&& 31)) 100))), (0, .ref oX), (1, .ref sb), (2, .ref pa), (3, .int (nI f)), (4, .ref qa), (5, .int h9), (6, .int 1), (7, .int (-1)), (8, .int (nI gc)), (9, .int 1), (10, .int (nI k))]) hx hb dL_isFigure_153 hl (by decide) rfl (fun ls hl => ?_)
                    refine kq_join (nL := 14) (L := [(12, .int (n_ct v f (n_lw (h9 >>> ((nI (7 * k)) &&& 31)) 100))), (11, .int (nI (n_lw (h9 >>> ((nI (7 * k)) &&& 31)) 100))), (0, .ref oX), (1, .ref sb), (2, .ref pa), (3, .int (nI f)), (4, .ref qa), (5, .int h9), (6, .int 1), (7, .int (-1)), (8, .int (nI gc)), (9, .int 1), (10, .int (nI k))]) (st := [.int (n_abs (n_ct v f (n_lw (h9 >>> ((nI (7 * k)) &&& 31)) 100)))]) (J := 168) ?_ (fun hJ_88 => ?_)
                    · intro ls hl
                      have hl : lv_has ls 14 [(12, .int (n_ct v f (n_lw (h9 >>> ((nI (7 * k)) &&& 31)) 100))), (11, .int (nI (n_lw (h9 >>> ((nI (7 * k)) &&& 31)) 100))), (0, .ref oX), (1, .ref sb), (2, .ref pa), (3, .int (nI f)), (4, .ref qa), (5, .int h9), (6, .int 1), (7, .int (-1)), (8, .int (nI gc)), (9, .int 1), (10, .int (nI k))] := hl
                      refine lv_aload_n hx hb dL_isFigure_168 rfl (lv_at hl 2 rfl) ?_
                      refine lv_iconst (v := 2) hx hb dL_isFigure_169 (by decide) ?_
                      refine kq_callMi (wr := [(oF, .inr (0, [.ref oS, .ref oN])), (oN, .inr (1, [.ref oS, .ref rp, .ref rt, .ref rl])), (rp, .inl (cI, 72, .inl gp_85)), (rt, .inl (cI, 72, .inl gt_86)), (rl, .inl (cI, 72, .inl gl_87)), (pa, .inl (cI, 8, .inl pf)), (qa, .inl (cI, 4, .inl qf))]) (va_runV (As := [.int 2]) (rest := [.int (n_abs (n_ct v f (n_lw (h9 >>> ((nI (7 * k)) &&& 31)) 100)))]) ⟨hx, hb, hml, hown, hts⟩ (c_X5_setting l dC dI cI H.size oX oS oR oN o2 oF oT rv rs kc v 2 (by first | assumption | omega)) (cwV 1 hts gL_isFigure_X5_setting rfl rfl rfl (by decide +kernel) ⟨Nat.le_of_ble_eq_true rfl, Nat.le_of_ble_eq_true rfl⟩) (kq_preV (ci := 5) (q0 := 0) (hP.sub [1, 2, 3] rfl) (hD.sub [1, 2, 3] (by decide) rfl) hK rfl rfl) rfl rfl hl.1 rfl (lv_room (Nat.le_of_ble_eq_true rfl)) dL_isFigure_170 ⟨Nat.le_of_ble_eq_true rfl, Nat.le_of_ble_eq_true rfl⟩) hP hD hS hA [1, 2, 3] [0, 4, 5, 6, 7, 8, 9] rfl rfl (by decide) (by decide) (fun r_89 u_90 H locs hw_91 hP hD hS => ?_)
                      have hP : va_P (dC, dI) vwCl [(oF, .inr (0, [.ref oS, .ref oN])), (oN, .inr (1, [.ref oS, .ref rp, .ref rt, .ref rl])), (rp, .inl (cI, 72, .inl gp_85)), (rt, .inl (cI, 72, .inl gt_86)), (rl, .inl (cI, 72, .inl gl_87)), (pa, .inl (cI, 8, .inl pf)), (qa, .inl (cI, 4, .inl qf)), (oX, .inr (5, [.ref oS, .ref oR, .ref oN, .ref o2, .ref oF, .ref oT])), (oS, .inr (3, [.ref rv, .ref rs, .int (nI kc)])), (rv, .inl (cI, 385, .inl v))] H := hP
                      have hD : va_D A [(oF, .inr (0, [.ref oS, .ref oN])), (oN, .inr (1, [.ref oS, .ref rp, .ref rt, .ref rl])), (rp, .inl (cI, 72, .inl gp_85)), (rt, .inl (cI, 72, .inl gt_86)), (rl, .inl (cI, 72, .inl gl_87)), (pa, .inl (cI, 8, .inl pf)), (qa, .inl (cI, 4, .inl qf)), (oX, .inr (5, [.ref oS, .ref oR, .ref oN, .ref o2, .ref oF, .ref oT])), (oS, .inr (3, [.ref rv, .ref rs, .int (nI kc)])), (rv, .inl (cI, 385, .inl v))] := hD
                      obtain rfl := hw_91
                      refine kq_top (z := nI (n_s v 2)) ((n_I_s hI).2.2.2.2.2.1) ?_
                      refine lv_icmp_lt (tgt := 180) hx hb dL_isFigure_173 (by decide) (fun c_92 => ?_) (fun c_92 => ?_)
                      · skip
                        have hsv := n_sn_f (Int32.not_le.mpr c_92)
                        refine lv_iconst (v := 0) hx hb dL_isFigure_180 (by decide) ?_
                        refine lv_istore (lv' := [(13, .int 0), (12, .int (n_ct v f (n_lw (h9 >>> ((nI (7 * k)) &&& 31)) 100))), (11, .int (nI (n_lw (h9 >>> ((nI (7 * k)) &&& 31)) 100))), (0, .ref oX), (1, .ref sb), (2, .ref pa), (3, .int (nI f)), (4, .ref qa), (5, .int h9), (6, .int 1), (7, .int (-1)), (8, .int (nI gc)), (9, .int 1), (10, .int (nI k))]) hx hb dL_isFigure_181 hl (by decide) rfl (fun ls hl => ?_)
                        refine lv_iload hx hb dL_isFigure_183 (lv_at hl 12 rfl) ?_
                        refine lv_if_eq (tgt := 252) hx hb dL_isFigure_185 (by decide) (fun q => absurd q (by decide)) (fun _ => ?_)
                        refine lv_aload_n hx hb dL_isFigure_188 rfl (lv_at hl 3 rfl) ?_
                        refine lv_iload_n hx hb dL_isFigure_189 rfl (lv_at hl 6 rfl) ?_
                        refine lv_iload hx hb dL_isFigure_190 (lv_at hl 2 rfl) ?_
                        refine kq_callMi (wr := [(pa, .inl (cI, 8, .inl pf)), (qa, .inl (cI, 4, .inl qf))]) (va_runV (As := [.int (nI f), .int (nI (n_lw (h9 >>> ((nI (7 * k)) &&& 31)) 100))]) (rest := []) ⟨hx, hb, hml, hown, hts⟩ (c_X5_contrast l dC dI cI H.size oX oS oR oN o2 oF oT rv rs kc rp rt rl v gp_85 gt_86 gl_87 f (n_lw (h9 >>> ((nI (7 * k)) &&& 31)) 100) (by first | assumption | omega) (by first | assumption | omega) (by first | assumption | omega)) (cwV 2 hts gL_isFigure_X5_contrast rfl rfl rfl (by decide +kernel) ⟨Nat.le_of_ble_eq_true rfl, Nat.le_of_ble_eq_true rfl⟩) (kq_preV (ci := 5) (q0 := 0) (hP.sub [7, 8, 9, 0, 1, 2, 3, 4] rfl) (hD.sub [7, 8, 9, 0, 1, 2, 3, 4] (by decide) rfl) hK rfl rfl) rfl rfl hl.1 rfl (lv_room (Nat.le_of_ble_eq_true rfl)) dL_isFigure_192 ⟨Nat.le_of_ble_eq_true rfl, Nat.le_of_ble_eq_true rfl⟩) hP hD hS hA [7, 8, 9, 0, 1, 2, 3, 4] [5, 6] rfl rfl (by decide) (by decide) (fun r_94 u_95 H locs hw_96 hP hD hS => ?_)
                        obtain ⟨gp_97, gt_98, gl_99⟩ := u_95
                        have hP : va_P (dC, dI) vwCl [(pa, .inl (cI, 8, .inl pf)), (qa, .inl (cI, 4, .inl qf)), (oX, .inr (5, [.ref oS, .ref oR, .ref oN, .ref o2, .ref oF, .ref oT])), (oS, .inr (3, [.ref rv, .ref rs, .int (nI kc)])), (rv, .inl (cI, 385, .inl v)), (oF, .inr (0, [.ref oS, .ref oN])), (oN, .inr (1, [.ref oS, .ref rp, .ref rt, .ref rl])), (rp, .inl (cI, 72, .inl gp_97)), (rt, .inl (cI, 72, .inl gt_98)), (rl, .inl (cI, 72, .inl gl_99))] H := hP
                        have hD : va_D A [(pa, .inl (cI, 8, .inl pf)), (qa, .inl (cI, 4, .inl qf)), (oX, .inr (5, [.ref oS, .ref oR, .ref oN, .ref o2, .ref oF, .ref oT])), (oS, .inr (3, [.ref rv, .ref rs, .int (nI kc)])), (rv, .inl (cI, 385, .inl v)), (oF, .inr (0, [.ref oS, .ref oN])), (oN, .inr (1, [.ref oS, .ref rp, .ref rt, .ref rl])), (rp, .inl (cI, 72, .inl gp_97)), (rt, .inl (cI, 72, .inl gt_98)), (rl, .inl (cI, 72, .inl gl_99))] := hD
                        obtain rfl := hw_96
                        refine lv_iload hx hb dL_isFigure_195 (lv_at hl 1 rfl) ?_
                        refine lv_sipush (v := 1000) hx hb dL_isFigure_197 (by decide) ?_
                        refine lv_iadd hx hb dL_isFigure_200 ?_
                        refine lv_icmp_ne (tgt := 252) hx hb dL_isFigure_201 (by decide) (fun c_100 => ?_) (fun c_100 => ?_)
                        · skip
                          exact absurd (n_cn_p ht) c_100
                        · skip
                          refine lv_iload hx hb dL_isFigure_204 (lv_at hl 0 rfl) ?_
                          refine lv_if_eq (tgt := 221) hx hb dL_isFigure_206 (by decide) (fun _ => ?_) (fun q => absurd q (by decide))
                          refine lv_iload hx hb dL_isFigure_221 (lv_at hl 2 rfl) ?_
                          refine lv_iload hx hb dL_isFigure_223 (lv_at hl 10 rfl) ?_
                          refine lv_icmp_ne (tgt := 233) hx hb dL_isFigure_225 (by decide) (fun c_102 => ?_) (fun c_102 => ?_)
                          · skip
                            refine lv_iload hx hb dL_isFigure_233 (lv_at hl 0 rfl) ?_
                            refine lv_if_eq (tgt := 248) hx hb dL_isFigure_235 (by decide) (fun _ => ?_) (fun q => absurd q (by decide))
                            refine lv_iconst (v := 1) hx hb dL_isFigure_248 (by decide) ?_
                            refine lv_goto (tgt := 253) hx hb dL_isFigure_249 (by decide) ?_
                            refine lv_istore (lv' := [(9, .int 1), (13, .int 0), (12, .int (n_ct v f (n_lw (h9 >>> ((nI (7 * k)) &&& 31)) 100))), (11, .int (nI (n_lw (h9 >>> ((nI (7 * k)) &&& 31)) 100))), (0, .ref oX), (1, .ref sb), (2, .ref pa), (3, .int (nI f)), (4, .ref qa), (5, .int h9), (6, .int 1), (7, .int (-1)), (8, .int (nI gc)), (10, .int (nI k))]) hx hb dL_isFigure_253 hl (by decide) rfl (fun ls hl => ?_)
                            refine lv_iinc (v := nI (k + 1)) (lv' := [(10, .int (nI (k + 1))), (9, .int 1), (13, .int 0), (12, .int (n_ct v f (n_lw (h9 >>> ((nI (7 * k)) &&& 31)) 100))), (11, .int (nI (n_lw (h9 >>> ((nI (7 * k)) &&& 31)) 100))), (0, .ref oX), (1, .ref sb), (2, .ref pa), (3, .int (nI f)), (4, .ref qa), (5, .int h9), (6, .int 1), (7, .int (-1)), (8, .int (nI gc))]) hx hb dL_isFigure_255 hl (k := 13) rfl (nI_1 k) (by decide) rfl (fun ls hl => ?_)
                            refine lv_goto (tgt := 107) hx hb dL_isFigure_258 (by decide) ?_
                            exact ih_44 (k + 1) gp_97 gt_98 gl_99 (by omega) (by show 4 - (k + 1) < 4 - k; omega) _ _ hP hD hS _ (lv_sub hl [5, 6, 7, 8, 9, 10, 11, 12, 13, 1, 0] rfl)
                          · skip
                            have hcs := c_102
                            exact absurd c_102 (nI_m1 (by omega))
                      · skip
                        have hsv := n_sn_t (Int32.not_lt.mp c_92)
                        refine lv_iconst (v := 1) hx hb dL_isFigure_176 (by decide) ?_
                        refine lv_goto (tgt := 181) hx hb dL_isFigure_177 (by decide) ?_
                        refine lv_istore (lv' := [(13, .int 1), (12, .int (n_ct v f (n_lw (h9 >>> ((nI (7 * k)) &&& 31)) 100))), (11, .int (nI (n_lw (h9 >>> ((nI (7 * k)) &&& 31)) 100))), (0, .ref oX), (1, .ref sb), (2, .ref pa), (3, .int (nI f)), (4, .ref qa), (5, .int h9), (6, .int 1), (7, .int (-1)), (8, .int (nI gc)), (9, .int 1), (10, .int (nI k))]) hx hb dL_isFigure_181 hl (by decide) rfl (fun ls hl => ?_)
                        refine lv_iload hx hb dL_isFigure_183 (lv_at hl 12 rfl) ?_
                        refine lv_if_eq (tgt := 252) hx hb dL_isFigure_185 (by decide) (fun q => absurd q (by decide)) (fun _ => ?_)
                        refine lv_aload_n hx hb dL_isFigure_188 rfl (lv_at hl 3 rfl) ?_
                        refine lv_iload_n hx hb dL_isFigure_189 rfl (lv_at hl 6 rfl) ?_
                        refine lv_iload hx hb dL_isFigure_190 (lv_at hl 2 rfl) ?_
                        refine kq_callMi (wr := [(pa, .inl (cI, 8, .inl pf)), (qa, .inl (cI, 4, .inl qf))]) (va_runV (As := [.int (nI f), .int (nI (n_lw (h9 >>> ((nI (7 * k)) &&& 31)) 100))]) (rest := []) ⟨hx, hb, hml, hown, hts⟩ (c_X5_contrast l dC dI cI H.size oX oS oR oN o2 oF oT rv rs kc rp rt rl v gp_85 gt_86 gl_87 f (n_lw (h9 >>> ((nI (7 * k)) &&& 31)) 100) (by first | assumption | omega) (by first | assumption | omega) (by first | assumption | omega)) (cwV 2 hts gL_isFigure_X5_contrast rfl rfl rfl (by decide +kernel) ⟨Nat.le_of_ble_eq_true rfl, Nat.le_of_ble_eq_true rfl⟩) (kq_preV (ci := 5) (q0 := 0) (hP.sub [7, 8, 9, 0, 1, 2, 3, 4] rfl) (hD.sub [7, 8, 9, 0, 1, 2, 3, 4] (by decide) rfl) hK rfl rfl) rfl rfl hl.1 rfl (lv_room (Nat.le_of_ble_eq_true rfl)) dL_isFigure_192 ⟨Nat.le_of_ble_eq_true rfl, Nat.le_of_ble_eq_true rfl⟩) hP hD hS hA [7, 8, 9, 0, 1, 2, 3, 4] [5, 6] rfl rfl (by decide) (by decide) (fun r_105 u_106 H locs hw_107 hP hD hS => ?_)
                        obtain ⟨gp_108, gt_109, gl_110⟩ := u_106
                        have hP : va_P (dC, dI) vwCl [(pa, .inl (cI, 8, .inl pf)), (qa, .inl (cI, 4, .inl qf)), (oX, .inr (5, [.ref oS, .ref oR, .ref oN, .ref o2, .ref oF, .ref oT])), (oS, .inr (3, [.ref rv, .ref rs, .int (nI kc)])), (rv, .inl (cI, 385, .inl v)), (oF, .inr (0, [.ref oS, .ref oN])), (oN, .inr (1, [.ref oS, .ref rp, .ref rt, .ref rl])), (rp, .inl (cI, 72, .inl gp_108)), (rt, .inl (cI, 72, .inl gt_109)), (rl, .inl (cI, 72, .inl gl_110))] H := hP
                        have hD : va_D A [(pa, .inl (cI, 8, .inl pf)), (qa, .inl (cI, 4, .inl qf)), (oX, .inr (5, [.ref oS, .ref oR, .ref oN, .ref o2, .ref oF, .ref oT])), (oS, .inr (3, [.ref rv, .ref rs, .int (nI kc)])), (rv, .inl (cI, 385, .inl v)), (oF, .inr (0, [.ref oS, .ref oN])), (oN, .inr (1, [.ref oS, .ref rp, .ref rt, .ref rl])), (rp, .inl (cI, 72, .inl gp_108)), (rt, .inl (cI, 72, .inl gt_109)), (rl, .inl (cI, 72, .inl gl_110))] := hD
                        obtain rfl := hw_107
                        refine lv_iload hx hb dL_isFigure_195 (lv_at hl 1 rfl) ?_
                        refine lv_sipush (v := 1000) hx hb dL_isFigure_197 (by decide) ?_
                        refine lv_iadd hx hb dL_isFigure_200 ?_
                        refine lv_icmp_ne (tgt := 252) hx hb dL_isFigure_201 (by decide) (fun c_111 => ?_) (fun c_111 => ?_)
                        · skip
                          exact absurd (n_cn_p ht) c_111
                        · skip
                          refine lv_iload hx hb dL_isFigure_204 (lv_at hl 0 rfl) ?_
                          refine lv_if_eq (tgt := 221) hx hb dL_isFigure_206 (by decide) (fun q => absurd q (by decide)) (fun _ => ?_)
                          refine lv_iload hx hb dL_isFigure_209 (lv_at hl 10 rfl) ?_
                          refine lv_if_lt (tgt := 252) hx hb dL_isFigure_211 (by decide) (fun _ => ?_) (fun q => absurd q (by decide))
                          first | exact absurd hsv (by rw [hs2 _ (by omega)]; decide) | exact absurd hs2 (by rw [← hcs, hsv]; decide)
                    · skip
                      refine lv_iload hx hb dL_isFigure_155 (lv_at hl 0 rfl) ?_
                      refine lv_if_ge (tgt := 166) hx hb dL_isFigure_157 (by decide) (fun c_114 => ?_) (fun c_114 => ?_)
                      · skip
                        refine lv_iload hx hb dL_isFigure_166 (lv_at hl 0 rfl) ?_
                        refine kq_top (z := n_abs (n_ct v f (n_lw (h9 >>> ((nI (7 * k)) &&& 31)) 100))) (by unfold n_abs; first | rw [if_pos (by assumption)] | rw [if_neg (by assumption)]) ?_
                        exact hJ_88 _ (lv_sub hl [0, 1, 2, 3, 4, 5, 6, 7, 8, 9, 10, 11, 12] rfl)
                      · skip
                        refine lv_iload hx hb dL_isFigure_160 (lv_at hl 0 rfl) ?_
                        refine lv_ineg hx hb dL_isFigure_162 ?_
                        refine kq_top (z := 0 - (n_ct v f (n_lw (h9 >>> ((nI (7 * k)) &&& 31)) 100))) (n_ineg (n_ct v f (n_lw (h9 >>> ((nI (7 * k)) &&& 31)) 100))) ?_
                        refine lv_goto (tgt := 168) hx hb dL_isFigure_163 (by decide) ?_
                        refine kq_top (z := n_abs (n_ct v f (n_lw (h9 >>> ((nI (7 * k)) &&& 31)) 100))) (by unfold n_abs; first | rw [if_pos (by assumption)] | rw [if_neg (by assumption)]) ?_
                        exact hJ_88 _ (lv_sub hl [0, 1, 2, 3, 4, 5, 6, 7, 8, 9, 10, 11, 12] rfl)
    · skip
      refine kq_top (z := nI sn) ((n_fo_3 ht).trans hs1) ?_
      refine lv_istore (lv' := [(7, .int (nI sn)), (6, .int 1), (0, .ref oX), (1, .ref sb), (2, .ref pa), (3, .int (nI f)), (4, .ref qa), (5, .int h9)]) hx hb dL_isFigure_14 hl (by decide) rfl (fun ls hl => ?_)
      refine lv_aload_n hx hb dL_isFigure_16 rfl (lv_at hl 2 rfl) ?_
      refine lv_iload_n hx hb dL_isFigure_17 rfl (lv_at hl 5 rfl) ?_
      refine lv_iconst (v := 4) hx hb dL_isFigure_18 (by decide) ?_
      refine kq_callMi (wr := [(pa, .inl (cI, 8, .inl pf)), (qa, .inl (cI, 4, .inl qf))]) (va_runV (As := [.int (nI f), .int 4]) (rest := []) ⟨hx, hb, hml, hown, hts⟩ (c_X5_figureOf l dC dI cI H.size oX oS oR oN o2 oF oT rv rs kc rp rt rl v gp_10 gt_11 gl_12 f 4 (by first | assumption | omega) (by first | assumption | omega) (by first | assumption | omega)) (cwV 2 hts gL_isFigure_X5_figureOf rfl rfl rfl (by decide +kernel) ⟨Nat.le_of_ble_eq_true rfl, Nat.le_of_ble_eq_true rfl⟩) (kq_preV (ci := 5) (q0 := 0) (hP.sub [2, 3, 4, 5, 6, 7, 8, 9] rfl) (hD.sub [2, 3, 4, 5, 6, 7, 8, 9] (by decide) rfl) hK rfl rfl) rfl rfl hl.1 rfl (lv_room (Nat.le_of_ble_eq_true rfl)) dL_isFigure_19 ⟨Nat.le_of_ble_eq_true rfl, Nat.le_of_ble_eq_true rfl⟩) hP hD hS hA [2, 3, 4, 5, 6, 7, 8, 9] [0, 1] rfl rfl (by decide) (by decide) (fun r_115 u_116 H locs hw_117 hP hD hS => ?_)
      obtain ⟨gp_118, gt_119, gl_120⟩ := u_116
      have hP : va_P (dC, dI) vwCl [(pa, .inl (cI, 8, .inl pf)), (qa, .inl (cI, 4, .inl qf)), (oX, .inr (5, [.ref oS, .ref oR, .ref oN, .ref o2, .ref oF, .ref oT])), (oS, .inr (3, [.ref rv, .ref rs, .int (nI kc)])), (rv, .inl (cI, 385, .inl v)), (oF, .inr (0, [.ref oS, .ref oN])), (oN, .inr (1, [.ref oS, .ref rp, .ref rt, .ref rl])), (rp, .inl (cI, 72, .inl gp_118)), (rt, .inl (cI, 72, .inl gt_119)), (rl, .inl (cI, 72, .inl gl_120))] H := hP
      have hD : va_D A [(pa, .inl (cI, 8, .inl pf)), (qa, .inl (cI, 4, .inl qf)), (oX, .inr (5, [.ref oS, .ref oR, .ref oN, .ref o2, .ref oF, .ref oT])), (oS, .inr (3, [.ref rv, .ref rs, .int (nI kc)])), (rv, .inl (cI, 385, .inl v)), (oF, .inr (0, [.ref oS, .ref oN])), (oN, .inr (1, [.ref oS, .ref rp, .ref rt, .ref rl])), (rp, .inl (cI, 72, .inl gp_118)), (rt, .inl (cI, 72, .inl gt_119)), (rl, .inl (cI, 72, .inl gl_120))] := hD
      obtain rfl := hw_117
      obtain ⟨gc, hg0, hg1, hg2⟩ := n_gd_h hhd
      refine kq_top (z := nI gc) ((n_fo_4 ht).trans hg1) ?_
      refine lv_istore (lv' := [(8, .int (nI gc)), (7, .int (nI sn)), (6, .int 1), (0, .ref oX), (1, .ref sb), (2, .ref pa), (3, .int (nI f)), (4, .ref qa), (5, .int h9)]) hx hb dL_isFigure_22 hl (by decide) rfl (fun ls hl => ?_)
      refine lv_aload_n hx hb dL_isFigure_24 rfl (lv_at hl 3 rfl) ?_
      refine lv_iload_n hx hb dL_isFigure_25 rfl (lv_at hl 6 rfl) ?_
      refine lv_iconst (v := 0) hx hb dL_isFigure_26 (by decide) ?_
      refine kq_callMi (wr := [(pa, .inl (cI, 8, .inl pf)), (qa, .inl (cI, 4, .inl qf))]) (va_runV (As := [.int (nI f), .int 0]) (rest := []) ⟨hx, hb, hml, hown, hts⟩ (c_X5_figureOf l dC dI cI H.size oX oS oR oN o2 oF oT rv rs kc rp rt rl v gp_118 gt_119 gl_120 f 0 (by first | assumption | omega) (by first | assumption | omega) (by first | assumption | omega)) (cwV 2 hts gL_isFigure_X5_figureOf rfl rfl rfl (by decide +kernel) ⟨Nat.le_of_ble_eq_true rfl, Nat.le_of_ble_eq_true rfl⟩) (kq_preV (ci := 5) (q0 := 0) (hP.sub [2, 3, 4, 5, 6, 7, 8, 9] rfl) (hD.sub [2, 3, 4, 5, 6, 7, 8, 9] (by decide) rfl) hK rfl rfl) rfl rfl hl.1 rfl (lv_room (Nat.le_of_ble_eq_true rfl)) dL_isFigure_27 ⟨Nat.le_of_ble_eq_true rfl, Nat.le_of_ble_eq_true rfl⟩) hP hD hS hA [2, 3, 4, 5, 6, 7, 8, 9] [0, 1] rfl rfl (by decide) (by decide) (fun r_121 u_122 H locs hw_123 hP hD hS => ?_)
      obtain ⟨gp_124, gt_125, gl_126⟩ := u_122
      have hP : va_P (dC, dI) vwCl [(pa, .inl (cI, 8, .inl pf)), (qa, .inl (cI, 4, .inl qf)), (oX, .inr (5, [.ref oS, .ref oR, .ref oN, .ref o2, .ref oF, .ref oT])), (oS, .inr (3, [.ref rv, .ref rs, .int (nI kc)])), (rv, .inl (cI, 385, .inl v)), (oF, .inr (0, [.ref oS, .ref oN])), (oN, .inr (1, [.ref oS, .ref rp, .ref rt, .ref rl])), (rp, .inl (cI, 72, .inl gp_124)), (rt, .inl (cI, 72, .inl gt_125)), (rl, .inl (cI, 72, .inl gl_126))] H := hP
      have hD : va_D A [(pa, .inl (cI, 8, .inl pf)), (qa, .inl (cI, 4, .inl qf)), (oX, .inr (5, [.ref oS, .ref oR, .ref oN, .ref o2, .ref oF, .ref oT])), (oS, .inr (3, [.ref rv, .ref rs, .int (nI kc)])), (rv, .inl (cI, 385, .inl v)), (oF, .inr (0, [.ref oS, .ref oN])), (oN, .inr (1, [.ref oS, .ref rp, .ref rt, .ref rl])), (rp, .inl (cI, 72, .inl gp_124)), (rt, .inl (cI, 72, .inl gt_125)), (rl, .inl (cI, 72, .inl gl_126))] := hD
      obtain rfl := hw_123
      refine lv_aload hx hb dL_isFigure_30 (lv_at hl 7 rfl) ?_
      refine lv_iconst (v := 2) hx hb dL_isFigure_32 (by decide) ?_
      refine va_iald hx hb hK.1 hP 1 0 rfl rfl (vp_in_nI (show 2 < 4 from by omega) (by omega)) dL_isFigure_33 ?_
      refine kq_top (z := qf 2) (congrArg qf (nI_clamp (Nat.lt_trans (show 2 < 4 from by omega) (by omega)))) ?_
      refine kq_top (z := nI (n_f v f 2)) (hq.2.2.1) ?_
      refine lv_aload hx hb dL_isFigure_34 (lv_at hl 7 rfl) ?_
      refine lv_iconst (v := 3) hx hb dL_isFigure_36 (by decide) ?_
      refine va_iald hx hb hK.1 hP 1 0 rfl rfl (vp_in_nI (show 3 < 4 from by omega) (by omega)) dL_isFigure_37 ?_
      refine kq_top (z := qf 3) (congrArg qf (nI_clamp (Nat.lt_trans (show 3 < 4 from by omega) (by omega)))) ?_
      refine kq_top (z := nI (n_f v f 3)) (hq.2.2.2) ?_
      refine lv_imul hx hb dL_isFigure_38 ?_
      refine kq_top (z := nI ((n_f v f 2) * (n_f v f 3))) (pk_mul (n_f v f 2) (n_f v f 3)) ?_
      refine lv_icmp_ne (tgt := 101) hx hb dL_isFigure_39 (by decide) (fun c_127 => ?_) (fun c_127 => ?_)
      · skip
        exact absurd (n_fo_0 ht) c_127
      · skip
        refine lv_aload_n hx hb dL_isFigure_42 rfl (lv_at hl 3 rfl) ?_
        refine lv_iload_n hx hb dL_isFigure_43 rfl (lv_at hl 6 rfl) ?_
        refine lv_iconst (v := 1) hx hb dL_isFigure_44 (by decide) ?_
        refine kq_callMi (wr := [(pa, .inl (cI, 8, .inl pf)), (qa, .inl (cI, 4, .inl qf))]) (va_runV (As := [.int (nI f), .int 1]) (rest := []) ⟨hx, hb, hml, hown, hts⟩ (c_X5_figureOf l dC dI cI H.size oX oS oR oN o2 oF oT rv rs kc rp rt rl v gp_124 gt_125 gl_126 f 1 (by first | assumption | omega) (by first | assumption | omega) (by first | assumption | omega)) (cwV 2 hts gL_isFigure_X5_figureOf rfl rfl rfl (by decide +kernel) ⟨Nat.le_of_ble_eq_true rfl, Nat.le_of_ble_eq_true rfl⟩) (kq_preV (ci := 5) (q0 := 0) (hP.sub [2, 3, 4, 5, 6, 7, 8, 9] rfl) (hD.sub [2, 3, 4, 5, 6, 7, 8, 9] (by decide) rfl) hK rfl rfl) rfl rfl hl.1 rfl (lv_room (Nat.le_of_ble_eq_true rfl)) dL_isFigure_45 ⟨Nat.le_of_ble_eq_true rfl, Nat.le_of_ble_eq_true rfl⟩) hP hD hS hA [2, 3, 4, 5, 6, 7, 8, 9] [0, 1] rfl rfl (by decide) (by decide) (fun r_128 u_129 H locs hw_130 hP hD hS => ?_)
        obtain ⟨gp_131, gt_132, gl_133⟩ := u_129
        have hP : va_P (dC, dI) vwCl [(pa, .inl (cI, 8, .inl pf)), (qa, .inl (cI, 4, .inl qf)), (oX, .inr (5, [.ref oS, .ref oR, .ref oN, .ref o2, .ref oF, .ref oT])), (oS, .inr (3, [.ref rv, .ref rs, .int (nI kc)])), (rv, .inl (cI, 385, .inl v)), (oF, .inr (0, [.ref oS, .ref oN])), (oN, .inr (1, [.ref oS, .ref rp, .ref rt, .ref rl])), (rp, .inl (cI, 72, .inl gp_131)), (rt, .inl (cI, 72, .inl gt_132)), (rl, .inl (cI, 72, .inl gl_133))] H := hP
        have hD : va_D A [(pa, .inl (cI, 8, .inl pf)), (qa, .inl (cI, 4, .inl qf)), (oX, .inr (5, [.ref oS, .ref oR, .ref oN, .ref o2, .ref oF, .ref oT])), (oS, .inr (3, [.ref rv, .ref rs, .int (nI kc)])), (rv, .inl (cI, 385, .inl v)), (oF, .inr (0, [.ref oS, .ref oN])), (oN, .inr (1, [.ref oS, .ref rp, .ref rt, .ref rl])), (rp, .inl (cI, 72, .inl gp_131)), (rt, .inl (cI, 72, .inl gt_132)), (rl, .inl (cI, 72, .inl gl_133))] := hD
        obtain rfl := hw_130
        refine lv_aload hx hb dL_isFigure_48 (lv_at hl 7 rfl) ?_
        refine kq_cS (As := [.ref qa]) (rest := [.int (n_fo v f 1)]) ⟨hx, hb, hml, hown, hts⟩ (c_L_frame l dC dI cI qa qf (n_f v f 0) (n_f v f 1) (n_f v f 2) (n_f v f 3) (by first | assumption | omega) (by first | assumption | omega) (by first | assumption | omega) (by first | assumption | omega) (by first | assumption | omega)) (va_cwS 1 hts gL_isFigure_L_frame rfl rfl rfl (by decide +kernel) ⟨Nat.le_of_ble_eq_true rfl, Nat.le_of_ble_eq_true rfl⟩) (hP.sub [1] rfl) hK rfl hl.1 rfl (Nat.le_of_ble_eq_true rfl) dL_isFigure_50 ⟨Nat.le_of_ble_eq_true rfl, Nat.le_of_ble_eq_true rfl⟩ ?_
        refine lv_icmp_ne (tgt := 101) hx hb dL_isFigure_53 (by decide) (fun c_134 => ?_) (fun c_134 => ?_)
        · skip
          exact absurd (n_fo_1 ht) c_134
        · skip
          refine lv_aload_n hx hb dL_isFigure_56 rfl (lv_at hl 3 rfl) ?_
          refine lv_iload_n hx hb dL_isFigure_57 rfl (lv_at hl 6 rfl) ?_
          refine lv_iconst (v := 2) hx hb dL_isFigure_58 (by decide) ?_
          refine kq_callMi (wr := [(pa, .inl (cI, 8, .inl pf)), (qa, .inl (cI, 4, .inl qf))]) (va_runV (As := [.int (nI f), .int 2]) (rest := []) ⟨hx, hb, hml, hown, hts⟩ (c_X5_figureOf l dC dI cI H.size oX oS oR oN o2 oF oT rv rs kc rp rt rl v gp_131 gt_132 gl_133 f 2 (by first | assumption | omega) (by first | assumption | omega) (by first | assumption | omega)) (cwV 2 hts gL_isFigure_X5_figureOf rfl rfl rfl (by decide +kernel) ⟨Nat.le_of_ble_eq_true rfl, Nat.le_of_ble_eq_true rfl⟩) (kq_preV (ci := 5) (q0 := 0) (hP.sub [2, 3, 4, 5, 6, 7, 8, 9] rfl) (hD.sub [2, 3, 4, 5, 6, 7, 8, 9] (by decide) rfl) hK rfl rfl) rfl rfl hl.1 rfl (lv_room (Nat.le_of_ble_eq_true rfl)) dL_isFigure_59 ⟨Nat.le_of_ble_eq_true rfl, Nat.le_of_ble_eq_true rfl⟩) hP hD hS hA [2, 3, 4, 5, 6, 7, 8, 9] [0, 1] rfl rfl (by decide) (by decide) (fun r_135 u_136 H locs hw_137 hP hD hS => ?_)
          obtain ⟨gp_138, gt_139, gl_140⟩ := u_136
          have hP : va_P (dC, dI) vwCl [(pa, .inl (cI, 8, .inl pf)), (qa, .inl (cI, 4, .inl qf)), (oX, .inr (5, [.ref oS, .ref oR, .ref oN, .ref o2, .ref oF, .ref oT])), (oS, .inr (3, [.ref rv, .ref rs, .int (nI kc)])), (rv, .inl (cI, 385, .inl v)), (oF, .inr (0, [.ref oS, .ref oN])), (oN, .inr (1, [.ref oS, .ref rp, .ref rt, .ref rl])), (rp, .inl (cI, 72, .inl gp_138)), (rt, .inl (cI, 72, .inl gt_139)), (rl, .inl (cI, 72, .inl gl_140))] H := hP
          have hD : va_D A [(pa, .inl (cI, 8, .inl pf)), (qa, .inl (cI, 4, .inl qf)), (oX, .inr (5, [.ref oS, .ref oR, .ref oN, .ref o2, .ref oF, .ref oT])), (oS, .inr (3, [.ref rv, .ref rs, .int (nI kc)])), (rv, .inl (cI, 385, .inl v)), (oF, .inr (0, [.ref oS, .ref oN])), (oN, .inr (1, [.ref oS, .ref rp, .ref rt, .ref rl])), (rp, .inl (cI, 72, .inl gp_138)), (rt, .inl (cI, 72, .inl gt_139)), (rl, .inl (cI, 72, .inl gl_140))] := hD
          obtain rfl := hw_137
          refine lv_iload hx hb dL_isFigure_62 (lv_at hl 2 rfl) ?_
          refine lv_if_eq (tgt := 71) hx hb dL_isFigure_64 (by decide) (fun q => absurd q (by decide)) (fun _ => ?_)
          refine lv_iconst (v := 1) hx hb dL_isFigure_67 (by decide) ?_
          refine lv_goto (tgt := 72) hx hb dL_isFigure_68 (by decide) ?_
          refine lv_icmp_ne (tgt := 101) hx hb dL_isFigure_72 (by decide) (fun c_142 => ?_) (fun c_142 => ?_)
          · skip
            first | exact absurd ((n_fo_2 ht).trans (if_pos hhd)) c_142 | exact absurd ((n_fo_2 ht).trans (if_neg hhd)) c_142
          · skip
            refine lv_iload hx hb dL_isFigure_75 (lv_at hl 2 rfl) ?_
            refine lv_if_ne (tgt := 85) hx hb dL_isFigure_77 (by decide) (fun _ => ?_) (fun q => absurd q (by decide))
            refine lv_iload hx hb dL_isFigure_85 (lv_at hl 0 rfl) ?_
            refine lv_if_lt (tgt := 101) hx hb dL_isFigure_87 (by decide) (fun c_144 => ?_) (fun c_144 => ?_)
            · skip
              have c_144 := kq_ltN (a := gc) (b := 0) c_144 (by omega) (by omega)
              exact absurd c_144 (by omega)
            · skip
              have c_144 := kq_nltN (a := gc) (b := 0) c_144 (by omega) (by omega)
              refine lv_iload hx hb dL_isFigure_90 (lv_at hl 0 rfl) ?_
              refine lv_bipush (v := 100) hx hb dL_isFigure_92 (by decide) ?_
              refine lv_icmp_gt (tgt := 101) hx hb dL_isFigure_94 (by decide) (fun c_145 => ?_) (fun c_145 => ?_)
              · skip
                have c_145 := kq_ltN (a := 100) (b := gc) c_145 (by omega) (by omega)
                exact absurd c_145 (by omega)
              · skip
                have c_145 := kq_nltN (a := 100) (b := gc) c_145 (by omega) (by omega)
                refine lv_iconst (v := 1) hx hb dL_isFigure_97 (by decide) ?_
                refine lv_goto (tgt := 102) hx hb dL_isFigure_98 (by decide) ?_
                refine lv_istore (lv' := [(9, .int 1), (8, .int (nI gc)), (7, .int (nI sn)), (6, .int 1), (0, .ref oX), (1, .ref sb), (2, .ref pa), (3, .int (nI f)), (4, .ref qa), (5, .int h9)]) hx hb dL_isFigure_102 hl (by decide) rfl (fun ls hl => ?_)
                refine lv_iconst (v := 0) hx hb dL_isFigure_104 (by decide) ?_
                refine lv_istore (lv' := [(10, .int 0), (9, .int 1), (8, .int (nI gc)), (7, .int (nI sn)), (6, .int 1), (0, .ref oX), (1, .ref sb), (2, .ref pa), (3, .int (nI f)), (4, .ref qa), (5, .int h9)]) hx hb dL_isFigure_105 hl (by decide) rfl (fun ls hl => ?_)
                refine kq_loopM4 (A1 := Nat) (A2 := Nat → Int32) (A3 := Nat → Int32) (A4 := Nat → Int32) (fun (k : Nat) (fp : Nat → Int32) (ft : Nat → Int32) (fl : Nat → Int32) => 4 - k) (fun (k : Nat) (fp : Nat → Int32) (ft : Nat → Int32) (fl : Nat → Int32) => (k ≤ 4)) (fun (k : Nat) (fp : Nat → Int32) (ft : Nat → Int32) (fl : Nat → Int32) => [(0, .ref oX), (1, .ref sb), (2, .ref pa), (3, .int (nI f)), (4, .ref qa), (5, .int h9), (6, .int 1), (7, .int (nI sn)), (8, .int (nI gc)), (9, .int 1), (10, .int (nI k))]) (fun (k : Nat) (fp : Nat → Int32) (ft : Nat → Int32) (fl : Nat → Int32) => [(pa, .inl (cI, 8, .inl pf)), (qa, .inl (cI, 4, .inl qf)), (oX, .inr (5, [.ref oS, .ref oR, .ref oN, .ref o2, .ref oF, .ref oT])), (oS, .inr (3, [.ref rv, .ref rs, .int (nI kc)])), (rv, .inl (cI, 385, .inl v)), (oF, .inr (0, [.ref oS, .ref oN])), (oN, .inr (1, [.ref oS, .ref rp, .ref rt, .ref rl])), (rp, .inl (cI, 72, .inl fp)), (rt, .inl (cI, 72, .inl ft)), (rl, .inl (cI, 72, .inl fl))]) (nL := 14) hK ?_ 0 gp_138 gt_139 gl_140 (by omega) hP hD hS _ (lv_sub hl [5, 6, 7, 8, 9, 10, 4, 3, 2, 1, 0] rfl)
                intro k fp ft fl hi_147 ih_146 H locs hP hD hS ls hl
                have ik : k ≤ 4 := hi_147
                have hl : lv_has ls 14 [(0, .ref oX), (1, .ref sb), (2, .ref pa), (3, .int (nI f)), (4, .ref qa), (5, .int h9), (6, .int 1), (7, .int (nI sn)), (8, .int (nI gc)), (9, .int 1), (10, .int (nI k))] := hl
                have hP : va_P (dC, dI) vwCl [(pa, .inl (cI, 8, .inl pf)), (qa, .inl (cI, 4, .inl qf)), (oX, .inr (5, [.ref oS, .ref oR, .ref oN, .ref o2, .ref oF, .ref oT])), (oS, .inr (3, [.ref rv, .ref rs, .int (nI kc)])), (rv, .inl (cI, 385, .inl v)), (oF, .inr (0, [.ref oS, .ref oN])), (oN, .inr (1, [.ref oS, .ref rp, .ref rt, .ref rl])), (rp, .inl (cI, 72, .inl fp)), (rt, .inl (cI, 72, .inl ft)), (rl, .inl (cI, 72, .inl fl))] H := hP
                have hD : va_D A [(pa, .inl (cI, 8, .inl pf)), (qa, .inl (cI, 4, .inl qf)), (oX, .inr (5, [.ref oS, .ref oR, .ref oN, .ref o2, .ref oF, .ref oT])), (oS, .inr (3, [.ref rv, .ref rs, .int (nI kc)])), (rv, .inl (cI, 385, .inl v)), (oF, .inr (0, [.ref oS, .ref oN])), (oN, .inr (1, [.ref oS, .ref rp, .ref rt, .ref rl])), (rp, .inl (cI, 72, .inl fp)), (rt, .inl (cI, 72, .inl ft)), (rl, .inl (cI, 72, .inl fl))] := hD
                refine lv_iload hx hb dL_isFigure_107 (lv_at hl 10 rfl) ?_
                refine lv_iconst (v := 4) hx hb dL_isFigure_109 (by decide) ?_
                refine lv_icmp_ge (tgt := 261) hx hb dL_isFigure_110 (by decide) (fun c_148 => ?_) (fun c_148 => ?_)
                · skip
                  have c_148 := kq_leN (a := 4) (b := k) c_148 (by omega) (by omega)
                  refine lv_iload hx hb dL_isFigure_261 (lv_at hl 9 rfl) ?_
                  exact kq_retMz (fp, ft, fl) hx hb hr hlocks (hP.sub [2, 3, 4, 5, 6, 7, 8, 9, 0, 1] rfl) (hD.sub [2, 3, 4, 5, 6, 7, 8, 9, 0, 1] (by decide) rfl) hS dL_isFigure_263 (Or.inr rfl) (by rfl)
                · skip
                  have c_148 := kq_nleN (a := 4) (b := k) c_148 (by omega) (by omega)
                  refine lv_iload hx hb dL_isFigure_113 (lv_at hl 10 rfl) ?_
                  refine lv_if_ne (tgt := 128) hx hb dL_isFigure_115 (by decide) (fun c_149 => ?_) (fun c_149 => ?_)
                  · skip
                    have c_149 := kq_neN (a := k) (b := 0) c_149 (by omega) (by omega)
                    refine lv_iload hx hb dL_isFigure_128 (lv_at hl 5 rfl) ?_
                    refine lv_bipush (v := 7) hx hb dL_isFigure_130 (by decide) ?_
                    refine lv_iload hx hb dL_isFigure_132 (lv_at hl 10 rfl) ?_
                    refine lv_imul hx hb dL_isFigure_134 ?_
                    refine kq_top (z := nI (7 * k)) (pk_mul 7 k) ?_
                    refine lv_ishr hx hb dL_isFigure_135 ?_
                    refine lv_bipush (v := 100) hx hb dL_isFigure_136 (by decide) ?_
                    refine kq_cS (As := [.int (h9 >>> ((nI (7 * k)) &&& 31)), .int 100]) (rest := []) ⟨hx, hb, hml, hown, hts⟩ (c_L_low l dC dI cI (h9 >>> ((nI (7 * k)) &&& 31)) 100 (by first | assumption | omega) (by first | assumption | omega)) (va_cwS 2 hts gL_isFigure_L_low rfl rfl rfl (by decide +kernel) ⟨Nat.le_of_ble_eq_true rfl, Nat.le_of_ble_eq_true rfl⟩) (hP.sub [] rfl) hK rfl hl.1 rfl (Nat.le_of_ble_eq_true rfl) dL_isFigure_138 ⟨Nat.le_of_ble_eq_true rfl, Nat.le_of_ble_eq_true rfl⟩ ?_
                    have hnb : n_lw (h9 >>> ((nI (7 * k)) &&& 31)) 100 < 100 := by first | omega | exact n_lw_lt (by decide)
                    refine lv_istore (lv' := [(11, .int (nI (n_lw (h9 >>> ((nI (7 * k)) &&& 31)) 100))), (0, .ref oX), (1, .ref sb), (2, .ref pa), (3, .int (nI f)), (4, .ref qa), (5, .int h9), (6, .int 1), (7, .int (nI sn)), (8, .int (nI gc)), (9, .int 1), (10, .int (nI k))]) hx hb dL_isFigure_141 hl (by decide) rfl (fun ls hl => ?_)
                    refine lv_aload_n hx hb dL_isFigure_143 rfl (lv_at hl 1 rfl) ?_
                    refine lv_aload_n hx hb dL_isFigure_144 rfl (lv_at hl 2 rfl) ?_
                    refine lv_aload_n hx hb dL_isFigure_145 rfl (lv_at hl 3 rfl) ?_
                    refine lv_aload hx hb dL_isFigure_146 (lv_at hl 5 rfl) ?_
                    refine lv_iload hx hb dL_isFigure_148 (lv_at hl 0 rfl) ?_
                    refine kq_callMi (wr := [(oF, .inr (0, [.ref oS, .ref oN]))]) (va_runS (As := [.ref oX, .ref sb, .ref pa, .ref qa, .int (nI (n_lw (h9 >>> ((nI (7 * k)) &&& 31)) 100))]) (rest := []) ⟨hx, hb, hml, hown, hts⟩ (c_L_contrast l dC dI cI sb sL xs H.size oX oS oR oN o2 oF oT rv rs kc rp rt rl v fp ft fl pa pf qa f (n_lw (h9 >>> ((nI (7 * k)) &&& 31)) 100) qf (by first | assumption | omega) (by first | assumption | omega) (by first | assumption | omega) (by first | assumption | omega) (by first | assumption | omega) (by first | assumption | omega) (by first | assumption | omega) (by first | assumption | omega)) (va_cwS 5 hts gL_isFigure_L_contrast rfl rfl rfl (by decide +kernel) ⟨Nat.le_of_ble_eq_true rfl, Nat.le_of_ble_eq_true rfl⟩) (kq_preSX (hP.sub [2, 3, 4, 6, 7, 8, 9, 0, 1] rfl) (hD.sub [2, 3, 4, 6, 7, 8, 9, 0, 1] (by decide) rfl) hK (kq_xk hX hbl hbA hS) (fun q => hbA (va_free (wc := [(oX, .inr (5, [.ref oS, .ref oR, .ref oN, .ref o2, .ref oF, .ref oT])), (oS, .inr (3, [.ref rv, .ref rs, .int (nI kc)])), (rv, .inl (cI, 385, .inl v)), (oN, .inr (1, [.ref oS, .ref rp, .ref rt, .ref rl])), (rp, .inl (cI, 72, .inl fp)), (rt, .inl (cI, 72, .inl ft)), (rl, .inl (cI, 72, .inl fl)), (pa, .inl (cI, 8, .inl pf)), (qa, .inl (cI, 4, .inl qf))]) hD hS hA [2, 3, 4, 6, 7, 8, 9, 0, 1] rfl _ q))) rfl rfl hl.1 rfl (lv_room (Nat.le_of_ble_eq_true rfl)) dL_isFigure_150 ⟨Nat.le_of_ble_eq_true rfl, Nat.le_of_ble_eq_true rfl⟩) hP hD hS hA [2, 3, 4, 6, 7, 8, 9, 0, 1] [5] rfl rfl (by decide) (by decide) (fun r_150 u_151 H locs hw_152 hP hD hS => ?_)
                    obtain ⟨gp_153, gt_154, gl_155⟩ := u_151
                    have hP : va_P (dC, dI) vwCl [(oF, .inr (0, [.ref oS, .ref oN])), (oX, .inr (5, [.ref oS, .ref oR, .ref oN, .ref o2, .ref oF, .ref oT])), (oS, .inr (3, [.ref rv, .ref rs, .int (nI kc)])), (rv, .inl (cI, 385, .inl v)), (oN, .inr (1, [.ref oS, .ref rp, .ref rt, .ref rl])), (rp, .inl (cI, 72, .inl gp_153)), (rt, .inl (cI, 72, .inl gt_154)), (rl, .inl (cI, 72, .inl gl_155)), (pa, .inl (cI, 8, .inl pf)), (qa, .inl (cI, 4, .inl qf))] H := hP
                    have hD : va_D A [(oF, .inr (0, [.ref oS, .ref oN])), (oX, .inr (5, [.ref oS, .ref oR, .ref oN, .ref o2, .ref oF, .ref oT])), (oS, .inr (3, [.ref rv, .ref rs, .int (nI kc)])), (rv, .inl (cI, 385, .inl v)), (oN, .inr (1, [.ref oS, .ref rp, .ref rt, .ref rl])), (rp, .inl (cI, 72, .inl gp_153)), (rt, .inl (cI, 72, .inl gt_154)), (rl, .inl (cI, 72, .inl gl_155)), (pa, .inl (cI, 8, .inl pf)), (qa, .inl (cI, 4, .inl qf))] := hD
                    obtain rfl := hw_152
                    refine lv_istore (lv' := [(12, .int (n_ct v f (n_lw (h9 >>> ((nI (7 * k)) &&& 31)) 100))), (11, .int (nI (n_lw (h9 >>> ((nI (7 * k)) &&& 31)) 100))), (0, .ref oX), (1, .ref sb), (2, .ref pa), (3, .int (nI f)), (4, .ref qa), (5, .int h9), (6, .int 1), (7, .int (nI sn)), (8, .int (nI gc)), (9, .int 1), (10, .int (nI k))]) hx hb dL_isFigure_153 hl (by decide) rfl (fun ls hl => ?_)
                    refine kq_join (nL := 14) (L := [(12, .int (n_ct v f (n_lw (h9 >>> ((nI (7 * k)) &&& 31)) 100))), (11, .int (nI (n_lw (h9 >>> ((nI (7 * k)) &&& 31)) 100))), (0, .ref oX), (1, .ref sb), (2, .ref pa), (3, .int (nI f)), (4, .ref qa), (5, .int h9), (6, .int 1), (7, .int (nI sn)), (8, .int (nI gc)), (9, .int 1), (10, .int (nI k))]) (st := [.int (n_abs (n_ct v f (n_lw (h9 >>> ((nI (7 * k)) &&& 31)) 100)))]) (J := 168) ?_ (fun hJ_156 => ?_)
                    · intro ls hl
                      have hl : lv_has ls 14 [(12, .int (n_ct v f (n_lw (h9 >>> ((nI (7 * k)) &&& 31)) 100))), (11, .int (nI (n_lw (h9 >>> ((nI (7 * k)) &&& 31)) 100))), (0, .ref oX), (1, .ref sb), (2, .ref pa), (3, .int (nI f)), (4, .ref qa), (5, .int h9), (6, .int 1), (7, .int (nI sn)), (8, .int (nI gc)), (9, .int 1), (10, .int (nI k))] := hl
                      refine lv_aload_n hx hb dL_isFigure_168 rfl (lv_at hl 2 rfl) ?_
                      refine lv_iconst (v := 2) hx hb dL_isFigure_169 (by decide) ?_
                      refine kq_callMi (wr := [(oF, .inr (0, [.ref oS, .ref oN])), (oN, .inr (1, [.ref oS, .ref rp, .ref rt, .ref rl])), (rp, .inl (cI, 72, .inl gp_153)), (rt, .inl (cI, 72, .inl gt_154)), (rl, .inl (cI, 72, .inl gl_155)), (pa, .inl (cI, 8, .inl pf)), (qa, .inl (cI, 4, .inl qf))]) (va_runV (As := [.int 2]) (rest := [.int (n_abs (n_ct v f (n_lw (h9 >>> ((nI (7 * k)) &&& 31)) 100)))]) ⟨hx, hb, hml, hown, hts⟩ (c_X5_setting l dC dI cI H.size oX oS oR oN o2 oF oT rv rs kc v 2 (by first | assumption | omega)) (cwV 1 hts gL_isFigure_X5_setting rfl rfl rfl (by decide +kernel) ⟨Nat.le_of_ble_eq_true rfl, Nat.le_of_ble_eq_true rfl⟩) (kq_preV (ci := 5) (q0 := 0) (hP.sub [1, 2, 3] rfl) (hD.sub [1, 2, 3] (by decide) rfl) hK rfl rfl) rfl rfl hl.1 rfl (lv_room (Nat.le_of_ble_eq_true rfl)) dL_isFigure_170 ⟨Nat.le_of_ble_eq_true rfl, Nat.le_of_ble_eq_true rfl⟩) hP hD hS hA [1, 2, 3] [0, 4, 5, 6, 7, 8, 9] rfl rfl (by decide) (by decide) (fun r_157 u_158 H locs hw_159 hP hD hS => ?_)
                      have hP : va_P (dC, dI) vwCl [(oF, .inr (0, [.ref oS, .ref oN])), (oN, .inr (1, [.ref oS, .ref rp, .ref rt, .ref rl])), (rp, .inl (cI, 72, .inl gp_153)), (rt, .inl (cI, 72, .inl gt_154)), (rl, .inl (cI, 72, .inl gl_155)), (pa, .inl (cI, 8, .inl pf)), (qa, .inl (cI, 4, .inl qf)), (oX, .inr (5, [.ref oS, .ref oR, .ref oN, .ref o2, .ref oF, .ref oT])), (oS, .inr (3, [.ref rv, .ref rs, .int (nI kc)])), (rv, .inl (cI, 385, .inl v))] H := hP
                      have hD : va_D A [(oF, .inr (0, [.ref oS, .ref oN])), (oN, .inr (1, [.ref oS, .ref rp, .ref rt, .ref rl])), (rp, .inl (cI, 72, .inl gp_153)), (rt, .inl (cI, 72, .inl gt_154)), (rl, .inl (cI, 72, .inl gl_155)), (pa, .inl (cI, 8, .inl pf)), (qa, .inl (cI, 4, .inl qf)), (oX, .inr (5, [.ref oS, .ref oR, .ref oN, .ref o2, .ref oF, .ref oT])), (oS, .inr (3, [.ref rv, .ref rs, .int (nI kc)])), (rv, .inl (cI, 385, .inl v))] := hD
                      obtain rfl := hw_159
                      refine kq_top (z := nI (n_s v 2)) ((n_I_s hI).2.2.2.2.2.1) ?_
                      refine lv_icmp_lt (tgt := 180) hx hb dL_isFigure_173 (by decide) (fun c_160 => ?_) (fun c_160 => ?_)
                      · skip
                        have hsv := n_sn_f (Int32.not_le.mpr c_160)
                        refine lv_iconst (v := 0) hx hb dL_isFigure_180 (by decide) ?_
                        refine lv_istore (lv' := [(13, .int 0), (12, .int (n_ct v f (n_lw (h9 >>> ((nI (7 * k)) &&& 31)) 100))), (11, .int (nI (n_lw (h9 >>> ((nI (7 * k)) &&& 31)) 100))), (0, .ref oX), (1, .ref sb), (2, .ref pa), (3, .int (nI f)), (4, .ref qa), (5, .int h9), (6, .int 1), (7, .int (nI sn)), (8, .int (nI gc)), (9, .int 1), (10, .int (nI k))]) hx hb dL_isFigure_181 hl (by decide) rfl (fun ls hl => ?_)
                        refine lv_iload hx hb dL_isFigure_183 (lv_at hl 12 rfl) ?_
                        refine lv_if_eq (tgt := 252) hx hb dL_isFigure_185 (by decide) (fun q => absurd q (by decide)) (fun _ => ?_)
                        refine lv_aload_n hx hb dL_isFigure_188 rfl (lv_at hl 3 rfl) ?_
                        refine lv_iload_n hx hb dL_isFigure_189 rfl (lv_at hl 6 rfl) ?_
                        refine lv_iload hx hb dL_isFigure_190 (lv_at hl 2 rfl) ?_
                        refine kq_callMi (wr := [(pa, .inl (cI, 8, .inl pf)), (qa, .inl (cI, 4, .inl qf))]) (va_runV (As := [.int (nI f), .int (nI (n_lw (h9 >>> ((nI (7 * k)) &&& 31)) 100))]) (rest := []) ⟨hx, hb, hml, hown, hts⟩ (c_X5_contrast l dC dI cI H.size oX oS oR oN o2 oF oT rv rs kc rp rt rl v gp_153 gt_154 gl_155 f (n_lw (h9 >>> ((nI (7 * k)) &&& 31)) 100) (by first | assumption | omega) (by first | assumption | omega) (by first | assumption | omega)) (cwV 2 hts gL_isFigure_X5_contrast rfl rfl rfl (by decide +kernel) ⟨Nat.le_of_ble_eq_true rfl, Nat.le_of_ble_eq_true rfl⟩) (kq_preV (ci := 5) (q0 := 0) (hP.sub [7, 8, 9, 0, 1, 2, 3, 4] rfl) (hD.sub [7, 8, 9, 0, 1, 2, 3, 4] (by decide) rfl) hK rfl rfl) rfl rfl hl.1 rfl (lv_room (Nat.le_of_ble_eq_true rfl)) dL_isFigure_192 ⟨Nat.le_of_ble_eq_true rfl, Nat.le_of_ble_eq_true rfl⟩) hP hD hS hA [7, 8, 9, 0, 1, 2, 3, 4] [5, 6] rfl rfl (by decide) (by decide) (fun r_162 u_163 H locs hw_164 hP hD hS => ?_)
                        obtain ⟨gp_165, gt_166, gl_167⟩ := u_163
                        have hP : va_P (dC, dI) vwCl [(pa, .inl (cI, 8, .inl pf)), (qa, .inl (cI, 4, .inl qf)), (oX, .inr (5, [.ref oS, .ref oR, .ref oN, .ref o2, .ref oF, .ref oT])), (oS, .inr (3, [.ref rv, .ref rs, .int (nI kc)])), (rv, .inl (cI, 385, .inl v)), (oF, .inr (0, [.ref oS, .ref oN])), (oN, .inr (1, [.ref oS, .ref rp, .ref rt, .ref rl])), (rp, .inl (cI, 72, .inl gp_165)), (rt, .inl (cI, 72, .inl gt_166)), (rl, .inl (cI, 72, .inl gl_167))] H := hP
                        have hD : va_D A [(pa, .inl (cI, 8, .inl pf)), (qa, .inl (cI, 4, .inl qf)), (oX, .inr (5, [.ref oS, .ref oR, .ref oN, .ref o2, .ref oF, .ref oT])), (oS, .inr (3, [.ref rv, .ref rs, .int (nI kc)])), (rv, .inl (cI, 385, .inl v)), (oF, .inr (0, [.ref oS, .ref oN])), (oN, .inr (1, [.ref oS, .ref rp, .ref rt, .ref rl])), (rp, .inl (cI, 72, .inl gp_165)), (rt, .inl (cI, 72, .inl gt_166)), (rl, .inl (cI, 72, .inl gl_167))] := hD
                        obtain rfl := hw_164
                        refine lv_iload hx hb dL_isFigure_195 (lv_at hl 1 rfl) ?_
                        refine lv_sipush (v := 1000) hx hb dL_isFigure_197 (by decide) ?_
                        refine lv_iadd hx hb dL_isFigure_200 ?_
                        refine lv_icmp_ne (tgt := 252) hx hb dL_isFigure_201 (by decide) (fun c_168 => ?_) (fun c_168 => ?_)
                        · skip
                          exact absurd (n_cn_p ht) c_168
                        · skip
                          refine lv_iload hx hb dL_isFigure_204 (lv_at hl 0 rfl) ?_
                          refine lv_if_eq (tgt := 221) hx hb dL_isFigure_206 (by decide) (fun _ => ?_) (fun q => absurd q (by decide))
                          refine lv_iload hx hb dL_isFigure_221 (lv_at hl 2 rfl) ?_
                          refine lv_iload hx hb dL_isFigure_223 (lv_at hl 10 rfl) ?_
                          refine lv_icmp_ne (tgt := 233) hx hb dL_isFigure_225 (by decide) (fun c_170 => ?_) (fun c_170 => ?_)
                          · skip
                            have c_170 := kq_neN (a := (n_lw (h9 >>> ((nI (7 * k)) &&& 31)) 100)) (b := sn) c_170 (by omega) (by omega)
                            refine lv_iload hx hb dL_isFigure_233 (lv_at hl 0 rfl) ?_
                            refine lv_if_eq (tgt := 248) hx hb dL_isFigure_235 (by decide) (fun _ => ?_) (fun q => absurd q (by decide))
                            refine lv_iconst (v := 1) hx hb dL_isFigure_248 (by decide) ?_
                            refine lv_goto (tgt := 253) hx hb dL_isFigure_249 (by decide) ?_
                            refine lv_istore (lv' := [(9, .int 1), (13, .int 0), (12, .int (n_ct v f (n_lw (h9 >>> ((nI (7 * k)) &&& 31)) 100))), (11, .int (nI (n_lw (h9 >>> ((nI (7 * k)) &&& 31)) 100))), (0, .ref oX), (1, .ref sb), (2, .ref pa), (3, .int (nI f)), (4, .ref qa), (5, .int h9), (6, .int 1), (7, .int (nI sn)), (8, .int (nI gc)), (10, .int (nI k))]) hx hb dL_isFigure_253 hl (by decide) rfl (fun ls hl => ?_)
                            refine lv_iinc (v := nI (k + 1)) (lv' := [(10, .int (nI (k + 1))), (9, .int 1), (13, .int 0), (12, .int (n_ct v f (n_lw (h9 >>> ((nI (7 * k)) &&& 31)) 100))), (11, .int (nI (n_lw (h9 >>> ((nI (7 * k)) &&& 31)) 100))), (0, .ref oX), (1, .ref sb), (2, .ref pa), (3, .int (nI f)), (4, .ref qa), (5, .int h9), (6, .int 1), (7, .int (nI sn)), (8, .int (nI gc))]) hx hb dL_isFigure_255 hl (k := 13) rfl (nI_1 k) (by decide) rfl (fun ls hl => ?_)
                            refine lv_goto (tgt := 107) hx hb dL_isFigure_258 (by decide) ?_
                            exact ih_146 (k + 1) gp_165 gt_166 gl_167 (by omega) (by show 4 - (k + 1) < 4 - k; omega) _ _ hP hD hS _ (lv_sub hl [5, 6, 7, 8, 9, 10, 11, 12, 13, 1, 0] rfl)
                          · skip
                            have c_170 := kq_eqN (a := (n_lw (h9 >>> ((nI (7 * k)) &&& 31)) 100)) (b := sn) c_170 (by omega) (by omega)
                            have hcs := c_170
                            refine lv_iload hx hb dL_isFigure_228 (lv_at hl 0 rfl) ?_
                            refine lv_if_eq (tgt := 252) hx hb dL_isFigure_230 (by decide) (fun _ => ?_) (fun q => absurd q (by decide))
                            first | exact absurd hsv (by rw [hs2 _ (by omega)]; decide) | exact absurd hs2 (by rw [← hcs, hsv]; decide)
                      · skip
                        have hsv := n_sn_t (Int32.not_lt.mp c_160)
                        refine lv_iconst (v := 1) hx hb dL_isFigure_176 (by decide) ?_
                        refine lv_goto (tgt := 181) hx hb dL_isFigure_177 (by decide) ?_
                        refine lv_istore (lv' := [(13, .int 1), (12, .int (n_ct v f (n_lw (h9 >>> ((nI (7 * k)) &&& 31)) 100))), (11, .int (nI (n_lw (h9 >>> ((nI (7 * k)) &&& 31)) 100))), (0, .ref oX), (1, .ref sb), (2, .ref pa), (3, .int (nI f)), (4, .ref qa), (5, .int h9), (6, .int 1), (7, .int (nI sn)), (8, .int (nI gc)), (9, .int 1), (10, .int (nI k))]) hx hb dL_isFigure_181 hl (by decide) rfl (fun ls hl => ?_)
                        refine lv_iload hx hb dL_isFigure_183 (lv_at hl 12 rfl) ?_
                        refine lv_if_eq (tgt := 252) hx hb dL_isFigure_185 (by decide) (fun q => absurd q (by decide)) (fun _ => ?_)
                        refine lv_aload_n hx hb dL_isFigure_188 rfl (lv_at hl 3 rfl) ?_
                        refine lv_iload_n hx hb dL_isFigure_189 rfl (lv_at hl 6 rfl) ?_
                        refine lv_iload hx hb dL_isFigure_190 (lv_at hl 2 rfl) ?_
                        refine kq_callMi (wr := [(pa, .inl (cI, 8, .inl pf)), (qa, .inl (cI, 4, .inl qf))]) (va_runV (As := [.int (nI f), .int (nI (n_lw (h9 >>> ((nI (7 * k)) &&& 31)) 100))]) (rest := []) ⟨hx, hb, hml, hown, hts⟩ (c_X5_contrast l dC dI cI H.size oX oS oR oN o2 oF oT rv rs kc rp rt rl v gp_153 gt_154 gl_155 f (n_lw (h9 >>> ((nI (7 * k)) &&& 31)) 100) (by first | assumption | omega) (by first | assumption | omega) (by first | assumption | omega)) (cwV 2 hts gL_isFigure_X5_contrast rfl rfl rfl (by decide +kernel) ⟨Nat.le_of_ble_eq_true rfl, Nat.le_of_ble_eq_true rfl⟩) (kq_preV (ci := 5) (q0 := 0) (hP.sub [7, 8, 9, 0, 1, 2, 3, 4] rfl) (hD.sub [7, 8, 9, 0, 1, 2, 3, 4] (by decide) rfl) hK rfl rfl) rfl rfl hl.1 rfl (lv_room (Nat.le_of_ble_eq_true rfl)) dL_isFigure_192 ⟨Nat.le_of_ble_eq_true rfl, Nat.le_of_ble_eq_true rfl⟩) hP hD hS hA [7, 8, 9, 0, 1, 2, 3, 4] [5, 6] rfl rfl (by decide) (by decide) (fun r_174 u_175 H locs hw_176 hP hD hS => ?_)
                        obtain ⟨gp_177, gt_178, gl_179⟩ := u_175
                        have hP : va_P (dC, dI) vwCl [(pa, .inl (cI, 8, .inl pf)), (qa, .inl (cI, 4, .inl qf)), (oX, .inr (5, [.ref oS, .ref oR, .ref oN, .ref o2, .ref oF, .ref oT])), (oS, .inr (3, [.ref rv, .ref rs, .int (nI kc)])), (rv, .inl (cI, 385, .inl v)), (oF, .inr (0, [.ref oS, .ref oN])), (oN, .inr (1, [.ref oS, .ref rp, .ref rt, .ref rl])), (rp, .inl (cI, 72, .inl gp_177)), (rt, .inl (cI, 72, .inl gt_178)), (rl, .inl (cI, 72, .inl gl_179))] H := hP
                        have hD : va_D A [(pa, .inl (cI, 8, .inl pf)), (qa, .inl (cI, 4, .inl qf)), (oX, .inr (5, [.ref oS, .ref oR, .ref oN, .ref o2, .ref oF, .ref oT])), (oS, .inr (3, [.ref rv, .ref rs, .int (nI kc)])), (rv, .inl (cI, 385, .inl v)), (oF, .inr (0, [.ref oS, .ref oN])), (oN, .inr (1, [.ref oS, .ref rp, .ref rt, .ref rl])), (rp, .inl (cI, 72, .inl gp_177)), (rt, .inl (cI, 72, .inl gt_178)), (rl, .inl (cI, 72, .inl gl_179))] := hD
                        obtain rfl := hw_176
                        refine lv_iload hx hb dL_isFigure_195 (lv_at hl 1 rfl) ?_
                        refine lv_sipush (v := 1000) hx hb dL_isFigure_197 (by decide) ?_
                        refine lv_iadd hx hb dL_isFigure_200 ?_
                        refine lv_icmp_ne (tgt := 252) hx hb dL_isFigure_201 (by decide) (fun c_180 => ?_) (fun c_180 => ?_)
                        · skip
                          exact absurd (n_cn_p ht) c_180
                        · skip
                          refine lv_iload hx hb dL_isFigure_204 (lv_at hl 0 rfl) ?_
                          refine lv_if_eq (tgt := 221) hx hb dL_isFigure_206 (by decide) (fun q => absurd q (by decide)) (fun _ => ?_)
                          refine lv_iload hx hb dL_isFigure_209 (lv_at hl 10 rfl) ?_
                          refine lv_if_lt (tgt := 252) hx hb dL_isFigure_211 (by decide) (fun c_182 => ?_) (fun c_182 => ?_)
                          · skip
                            have c_182 := kq_ltN (a := sn) (b := 0) c_182 (by omega) (by omega)
                            exact absurd c_182 (by omega)
                          · skip
                            have c_182 := kq_nltN (a := sn) (b := 0) c_182 (by omega) (by omega)
                            refine lv_iload hx hb dL_isFigure_214 (lv_at hl 10 rfl) ?_
                            refine lv_iload hx hb dL_isFigure_216 (lv_at hl 2 rfl) ?_
                            refine lv_icmp_gt (tgt := 252) hx hb dL_isFigure_218 (by decide) (fun c_183 => ?_) (fun c_183 => ?_)
                            · skip
                              have c_183 := kq_ltN (a := (n_lw (h9 >>> ((nI (7 * k)) &&& 31)) 100)) (b := sn) c_183 (by omega) (by omega)
                              exact absurd hsv (by rw [hs3 _ c_183]; decide)
                            · skip
                              have c_183 := kq_nltN (a := (n_lw (h9 >>> ((nI (7 * k)) &&& 31)) 100)) (b := sn) c_183 (by omega) (by omega)
                              refine lv_iload hx hb dL_isFigure_221 (lv_at hl 2 rfl) ?_
                              refine lv_iload hx hb dL_isFigure_223 (lv_at hl 10 rfl) ?_
                              refine lv_icmp_ne (tgt := 233) hx hb dL_isFigure_225 (by decide) (fun c_184 => ?_) (fun c_184 => ?_)
                              · skip
                                have c_184 := kq_neN (a := (n_lw (h9 >>> ((nI (7 * k)) &&& 31)) 100)) (b := sn) c_184 (by omega) (by omega)
                                refine lv_iload hx hb dL_isFigure_233 (lv_at hl 0 rfl) ?_
                                refine lv_if_eq (tgt := 248) hx hb dL_isFigure_235 (by decide) (fun q => absurd q (by decide)) (fun _ => ?_)
                                refine lv_iload hx hb dL_isFigure_238 (lv_at hl 9 rfl) ?_
                                refine lv_if_eq (tgt := 248) hx hb dL_isFigure_240 (by decide) (fun q => absurd q (by decide)) (fun _ => ?_)
                                refine lv_iload hx hb dL_isFigure_243 (lv_at hl 11 rfl) ?_
                                refine lv_if_le (tgt := 252) hx hb dL_isFigure_245 (by decide) (fun c_187 => ?_) (fun c_187 => ?_)
                                · skip
                                  have c_187 := kq_leN (a := gc) (b := 0) c_187 (by omega) (by omega)
                                  exact absurd (hg2 _ (by omega) hsv) (by omega)
                                · skip
                                  have c_187 := kq_nleN (a := gc) (b := 0) c_187 (by omega) (by omega)
                                  refine lv_iconst (v := 1) hx hb dL_isFigure_248 (by decide) ?_
                                  refine lv_goto (tgt := 253) hx hb dL_isFigure_249 (by decide) ?_
                                  refine lv_istore (lv' := [(9, .int 1), (13, .int 1), (12, .int (n_ct v f (n_lw (h9 >>> ((nI (7 * k)) &&& 31)) 100))), (11, .int (nI (n_lw (h9 >>> ((nI (7 * k)) &&& 31)) 100))), (0, .ref oX), (1, .ref sb), (2, .ref pa), (3, .int (nI f)), (4, .ref qa), (5, .int h9), (6, .int 1), (7, .int (nI sn)), (8, .int (nI gc)), (10, .int (nI k))]) hx hb dL_isFigure_253 hl (by decide) rfl (fun ls hl => ?_)
                                  refine lv_iinc (v := nI (k + 1)) (lv' := [(10, .int (nI (k + 1))), (9, .int 1), (13, .int 1), (12, .int (n_ct v f (n_lw (h9 >>> ((nI (7 * k)) &&& 31)) 100))), (11, .int (nI (n_lw (h9 >>> ((nI (7 * k)) &&& 31)) 100))), (0, .ref oX), (1, .ref sb), (2, .ref pa), (3, .int (nI f)), (4, .ref qa), (5, .int h9), (6, .int 1), (7, .int (nI sn)), (8, .int (nI gc))]) hx hb dL_isFigure_255 hl (k := 13) rfl (nI_1 k) (by decide) rfl (fun ls hl => ?_)
                                  refine lv_goto (tgt := 107) hx hb dL_isFigure_258 (by decide) ?_
                                  exact ih_146 (k + 1) gp_177 gt_178 gl_179 (by omega) (by show 4 - (k + 1) < 4 - k; omega) _ _ hP hD hS _ (lv_sub hl [5, 6, 7, 8, 9, 10, 11, 12, 13, 1, 0] rfl)
                              · skip
                                have c_184 := kq_eqN (a := (n_lw (h9 >>> ((nI (7 * k)) &&& 31)) 100)) (b := sn) c_184 (by omega) (by omega)
                                have hcs := c_184
                                refine lv_iload hx hb dL_isFigure_228 (lv_at hl 0 rfl) ?_
                                refine lv_if_eq (tgt := 252) hx hb dL_isFigure_230 (by decide) (fun q => absurd q (by decide)) (fun _ => ?_)
                                refine lv_iload hx hb dL_isFigure_233 (lv_at hl 0 rfl) ?_
                                refine lv_if_eq (tgt := 248) hx hb dL_isFigure_235 (by decide) (fun q => absurd q (by decide)) (fun _ => ?_)
                                refine lv_iload hx hb dL_isFigure_238 (lv_at hl 9 rfl) ?_
                                refine lv_if_eq (tgt := 248) hx hb dL_isFigure_240 (by decide) (fun q => absurd q (by decide)) (fun _ => ?_)
                                refine lv_iload hx hb dL_isFigure_243 (lv_at hl 11 rfl) ?_
                                refine lv_if_le (tgt := 252) hx hb dL_isFigure_245 (by decide) (fun c_191 => ?_) (fun c_191 => ?_)
                                · skip
                                  have c_191 := kq_leN (a := gc) (b := 0) c_191 (by omega) (by omega)
                                  exact absurd (hg2 _ (by omega) hsv) (by omega)
                                · skip
                                  have c_191 := kq_nleN (a := gc) (b := 0) c_191 (by omega) (by omega)
                                  refine lv_iconst (v := 1) hx hb dL_isFigure_248 (by decide) ?_
                                  refine lv_goto (tgt := 253) hx hb dL_isFigure_249 (by decide) ?_
                                  refine lv_istore (lv' := [(9, .int 1), (13, .int 1), (12, .int (n_ct v f (n_lw (h9 >>> ((nI (7 * k)) &&& 31)) 100))), (11, .int (nI (n_lw (h9 >>> ((nI (7 * k)) &&& 31)) 100))), (0, .ref oX), (1, .ref sb), (2, .ref pa), (3, .int (nI f)), (4, .ref qa), (5, .int h9), (6, .int 1), (7, .int (nI sn)), (8, .int (nI gc)), (10, .int (nI k))]) hx hb dL_isFigure_253 hl (by decide) rfl (fun ls hl => ?_)
                                  refine lv_iinc (v := nI (k + 1)) (lv' := [(10, .int (nI (k + 1))), (9, .int 1), (13, .int 1), (12, .int (n_ct v f (n_lw (h9 >>> ((nI (7 * k)) &&& 31)) 100))), (11, .int (nI (n_lw (h9 >>> ((nI (7 * k)) &&& 31)) 100))), (0, .ref oX), (1, .ref sb), (2, .ref pa), (3, .int (nI f)), (4, .ref qa), (5, .int h9), (6, .int 1), (7, .int (nI sn)), (8, .int (nI gc))]) hx hb dL_isFigure_255 hl (k := 13) rfl (nI_1 k) (by decide) rfl (fun ls hl => ?_)
                                  refine lv_goto (tgt := 107) hx hb dL_isFigure_258 (by decide) ?_
                                  exact ih_146 (k + 1) gp_177 gt_178 gl_179 (by omega) (by show 4 - (k + 1) < 4 - k; omega) _ _ hP hD hS _ (lv_sub hl [5, 6, 7, 8, 9, 10, 11, 12, 13, 1, 0] rfl)
                    · skip
                      refine lv_iload hx hb dL_isFigure_155 (lv_at hl 0 rfl) ?_
                      refine lv_if_ge (tgt := 166) hx hb dL_isFigure_157 (by decide) (fun c_192 => ?_) (fun c_192 => ?_)
                      · skip
                        refine lv_iload hx hb dL_isFigure_166 (lv_at hl 0 rfl) ?_
                        refine kq_top (z := n_abs (n_ct v f (n_lw (h9 >>> ((nI (7 * k)) &&& 31)) 100))) (by unfold n_abs; first | rw [if_pos (by assumption)] | rw [if_neg (by assumption)]) ?_
                        exact hJ_156 _ (lv_sub hl [0, 1, 2, 3, 4, 5, 6, 7, 8, 9, 10, 11, 12] rfl)
                      · skip
                        refine lv_iload hx hb dL_isFigure_160 (lv_at hl 0 rfl) ?_
                        refine lv_ineg hx hb dL_isFigure_162 ?_
                        refine kq_top (z := 0 - (n_ct v f (n_lw (h9 >>> ((nI (7 * k)) &&& 31)) 100))) (n_ineg (n_ct v f (n_lw (h9 >>> ((nI (7 * k)) &&& 31)) 100))) ?_
                        refine lv_goto (tgt := 168) hx hb dL_isFigure_163 (by decide) ?_
                        refine kq_top (z := n_abs (n_ct v f (n_lw (h9 >>> ((nI (7 * k)) &&& 31)) 100))) (by unfold n_abs; first | rw [if_pos (by assumption)] | rw [if_neg (by assumption)]) ?_
                        exact hJ_156 _ (lv_sub hl [0, 1, 2, 3, 4, 5, 6, 7, 8, 9, 10, 11, 12] rfl)
                  · skip
                    have c_149 := kq_eqN (a := k) (b := 0) c_149 (by omega) (by omega)
                    refine lv_iload hx hb dL_isFigure_118 (lv_at hl 7 rfl) ?_
                    refine lv_if_lt (tgt := 128) hx hb dL_isFigure_120 (by decide) (fun c_193 => ?_) (fun c_193 => ?_)
                    · skip
                      have c_193 := kq_ltN (a := sn) (b := 0) c_193 (by omega) (by omega)
                      exact absurd c_193 (by omega)
                    · skip
                      have c_193 := kq_nltN (a := sn) (b := 0) c_193 (by omega) (by omega)
                      refine lv_iload hx hb dL_isFigure_123 (lv_at hl 7 rfl) ?_
                      refine lv_goto (tgt := 141) hx hb dL_isFigure_125 (by decide) ?_
                      have hnb : sn < 100 := by first | omega | exact n_lw_lt (by decide)
                      refine lv_istore (lv' := [(11, .int (nI sn)), (0, .ref oX), (1, .ref sb), (2, .ref pa), (3, .int (nI f)), (4, .ref qa), (5, .int h9), (6, .int 1), (7, .int (nI sn)), (8, .int (nI gc)), (9, .int 1), (10, .int (nI k))]) hx hb dL_isFigure_141 hl (by decide) rfl (fun ls hl => ?_)
                      refine lv_aload_n hx hb dL_isFigure_143 rfl (lv_at hl 1 rfl) ?_
                      refine lv_aload_n hx hb dL_isFigure_144 rfl (lv_at hl 2 rfl) ?_
                      refine lv_aload_n hx hb dL_isFigure_145 rfl (lv_at hl 3 rfl) ?_
                      refine lv_aload hx hb dL_isFigure_146 (lv_at hl 5 rfl) ?_
                      refine lv_iload hx hb dL_isFigure_148 (lv_at hl 0 rfl) ?_
                      refine kq_callMi (wr := [(oF, .inr (0, [.ref oS, .ref oN]))]) (va_runS (As := [.ref oX, .ref sb, .ref pa, .ref qa, .int (nI sn)]) (rest := []) ⟨hx, hb, hml, hown, hts⟩ (c_L_contrast l dC dI cI sb sL xs H.size oX oS oR oN o2 oF oT rv rs kc rp rt rl v fp ft fl pa pf qa f sn qf (by first | assumption | omega) (by first | assumption | omega) (by first | assumption | omega) (by first | assumption | omega) (by first | assumption | omega) (by first | assumption | omega) (by first | assumption | omega) (by first | assumption | omega)) (va_cwS 5 hts gL_isFigure_L_contrast rfl rfl rfl (by decide +kernel) ⟨Nat.le_of_ble_eq_true rfl, Nat.le_of_ble_eq_true rfl⟩) (kq_preSX (hP.sub [2, 3, 4, 6, 7, 8, 9, 0, 1] rfl) (hD.sub [2, 3, 4, 6, 7, 8, 9, 0, 1] (by decide) rfl) hK (kq_xk hX hbl hbA hS) (fun q => hbA (va_free (wc := [(oX, .inr (5, [.ref oS, .ref oR, .ref oN, .ref o2, .ref oF, .ref oT])), (oS, .inr (3, [.ref rv, .ref rs, .int (nI kc)])), (rv, .inl (cI, 385, .inl v)), (oN, .inr (1, [.ref oS, .ref rp, .ref rt, .ref rl])), (rp, .inl (cI, 72, .inl fp)), (rt, .inl (cI, 72, .inl ft)), (rl, .inl (cI, 72, .inl fl)), (pa, .inl (cI, 8, .inl pf)), (qa, .inl (cI, 4, .inl qf))]) hD hS hA [2, 3, 4, 6, 7, 8, 9, 0, 1] rfl _ q))) rfl rfl hl.1 rfl (lv_room (Nat.le_of_ble_eq_true rfl)) dL_isFigure_150 ⟨Nat.le_of_ble_eq_true rfl, Nat.le_of_ble_eq_true rfl⟩) hP hD hS hA [2, 3, 4, 6, 7, 8, 9, 0, 1] [5] rfl rfl (by decide) (by decide) (fun r_194 u_195 H locs hw_196 hP hD hS => ?_)
                      obtain ⟨gp_197, gt_198, gl_199⟩ := u_195
                      have hP : va_P (dC, dI) vwCl [(oF, .inr (0, [.ref oS, .ref oN])), (oX, .inr (5, [.ref oS, .ref oR, .ref oN, .ref o2, .ref oF, .ref oT])), (oS, .inr (3, [.ref rv, .ref rs, .int (nI kc)])), (rv, .inl (cI, 385, .inl v)), (oN, .inr (1, [.ref oS, .ref rp, .ref rt, .ref rl])), (rp, .inl (cI, 72, .inl gp_197)), (rt, .inl (cI, 72, .inl gt_198)), (rl, .inl (cI, 72, .inl gl_199)), (pa, .inl (cI, 8, .inl pf)), (qa, .inl (cI, 4, .inl qf))] H := hP
                      have hD : va_D A [(oF, .inr (0, [.ref oS, .ref oN])), (oX, .inr (5, [.ref oS, .ref oR, .ref oN, .ref o2, .ref oF, .ref oT])), (oS, .inr (3, [.ref rv, .ref rs, .int (nI kc)])), (rv, .inl (cI, 385, .inl v)), (oN, .inr (1, [.ref oS, .ref rp, .ref rt, .ref rl])), (rp, .inl (cI, 72, .inl gp_197)), (rt, .inl (cI, 72, .inl gt_198)), (rl, .inl (cI, 72, .inl gl_199)), (pa, .inl (cI, 8, .inl pf)), (qa, .inl (cI, 4, .inl qf))] := hD
                      obtain rfl := hw_196
                      refine lv_istore (lv' := [(12, .int (n_ct v f sn)), (11, .int (nI sn)), (0, .ref oX), (1, .ref sb), (2, .ref pa), (3, .int (nI f)), (4, .ref qa), (5, .int h9), (6, .int 1), (7, .int (nI sn)), (8, .int (nI gc)), (9, .int 1), (10, .int (nI k))]) hx hb dL_isFigure_153 hl (by decide) rfl (fun ls hl => ?_)
                      refine kq_join (nL := 14) (L := [(12, .int (n_ct v f sn)), (11, .int (nI sn)), (0, .ref oX), (1, .ref sb), (2, .ref pa), (3, .int (nI f)), (4, .ref qa), (5, .int h9), (6, .int 1), (7, .int (nI sn)), (8, .int (nI gc)), (9, .int 1), (10, .int (nI k))]) (st := [.int (n_abs (n_ct v f sn))]) (J := 168) ?_ (fun hJ_200 => ?_)
                      · intro ls hl
                        have hl : lv_has ls 14 [(12, .int (n_ct v f sn)), (11, .int (nI sn)), (0, .ref oX), (1, .ref sb), (2, .ref pa), (3, .int (nI f)), (4, .ref qa), (5, .int h9), (6, .int 1), (7, .int (nI sn)), (8, .int (nI gc)), (9, .int 1), (10, .int (nI k))] := hl
                        refine lv_aload_n hx hb dL_isFigure_168 rfl (lv_at hl 2 rfl) ?_
                        refine lv_iconst (v := 2) hx hb dL_isFigure_169 (by decide) ?_
                        refine kq_callMi (wr := [(oF, .inr (0, [.ref oS, .ref oN])), (oN, .inr (1, [.ref oS, .ref rp, .ref rt, .ref rl])), (rp, .inl (cI, 72, .inl gp_197)), (rt, .inl (cI, 72, .inl gt_198)), (rl, .inl (cI, 72, .inl gl_199)), (pa, .inl (cI, 8, .inl pf)), (qa, .inl (cI, 4, .inl qf))]) (va_runV (As := [.int 2]) (rest := [.int (n_abs (n_ct v f sn))]) ⟨hx, hb, hml, hown, hts⟩ (c_X5_setting l dC dI cI H.size oX oS oR oN o2 oF oT rv rs kc v 2 (by first | assumption | omega)) (cwV 1 hts gL_isFigure_X5_setting rfl rfl rfl (by decide +kernel) ⟨Nat.le_of_ble_eq_true rfl, Nat.le_of_ble_eq_true rfl⟩) (kq_preV (ci := 5) (q0 := 0) (hP.sub [1, 2, 3] rfl) (hD.sub [1, 2, 3] (by decide) rfl) hK rfl rfl) rfl rfl hl.1 rfl (lv_room (Nat.le_of_ble_eq_true rfl)) dL_isFigure_170 ⟨Nat.le_of_ble_eq_true rfl, Nat.le_of_ble_eq_true rfl⟩) hP hD hS hA [1, 2, 3] [0, 4, 5, 6, 7, 8, 9] rfl rfl (by decide) (by decide) (fun r_201 u_202 H locs hw_203 hP hD hS => ?_)
                        have hP : va_P (dC, dI) vwCl [(oF, .inr (0, [.ref oS, .ref oN])), (oN, .inr (1, [.ref oS, .ref rp, .ref rt, .ref rl])), (rp, .inl (cI, 72, .inl gp_197)), (rt, .inl (cI, 72, .inl gt_198)), (rl, .inl (cI, 72, .inl gl_199)), (pa, .inl (cI, 8, .inl pf)), (qa, .inl (cI, 4, .inl qf)), (oX, .inr (5, [.ref oS, .ref oR, .ref oN, .ref o2, .ref oF, .ref oT])), (oS, .inr (3, [.ref rv, .ref rs, .int (nI kc)])), (rv, .inl (cI, 385, .inl v))] H := hP
                        have hD : va_D A [(oF, .inr (0, [.ref oS, .ref oN])), (oN, .inr (1, [.ref oS, .ref rp, .ref rt, .ref rl])), (rp, .inl (cI, 72, .inl gp_197)), (rt, .inl (cI, 72, .inl gt_198)), (rl, .inl (cI, 72, .inl gl_199)), (pa, .inl (cI, 8, .inl pf)), (qa, .inl (cI, 4, .inl qf)), (oX, .inr (5, [.ref oS, .ref oR, .ref oN, .ref o2, .ref oF, .ref oT])), (oS, .inr (3, [.ref rv, .ref rs, .int (nI kc)])), (rv, .inl (cI, 385, .inl v))] := hD
                        obtain rfl := hw_203
                        refine kq_top (z := nI (n_s v 2)) ((n_I_s hI).2.2.2.2.2.1) ?_
                        refine lv_icmp_lt (tgt := 180) hx hb dL_isFigure_173 (by decide) (fun c_204 => ?_) (fun c_204 => ?_)
                        · skip
                          have hsv := n_sn_f (Int32.not_le.mpr c_204)
                          refine lv_iconst (v := 0) hx hb dL_isFigure_180 (by decide) ?_
                          refine lv_istore (lv' := [(13, .int 0), (12, .int (n_ct v f sn)), (11, .int (nI sn)), (0, .ref oX), (1, .ref sb), (2, .ref pa), (3, .int (nI f)), (4, .ref qa), (5, .int h9), (6, .int 1), (7, .int (nI sn)), (8, .int (nI gc)), (9, .int 1), (10, .int (nI k))]) hx hb dL_isFigure_181 hl (by decide) rfl (fun ls hl => ?_)
                          refine lv_iload hx hb dL_isFigure_183 (lv_at hl 12 rfl) ?_
                          refine lv_if_eq (tgt := 252) hx hb dL_isFigure_185 (by decide) (fun q => absurd q (by decide)) (fun _ => ?_)
                          refine lv_aload_n hx hb dL_isFigure_188 rfl (lv_at hl 3 rfl) ?_
                          refine lv_iload_n hx hb dL_isFigure_189 rfl (lv_at hl 6 rfl) ?_
                          refine lv_iload hx hb dL_isFigure_190 (lv_at hl 2 rfl) ?_
                          refine kq_callMi (wr := [(pa, .inl (cI, 8, .inl pf)), (qa, .inl (cI, 4, .inl qf))]) (va_runV (As := [.int (nI f), .int (nI sn)]) (rest := []) ⟨hx, hb, hml, hown, hts⟩ (c_X5_contrast l dC dI cI H.size oX oS oR oN o2 oF oT rv rs kc rp rt rl v gp_197 gt_198 gl_199 f sn (by first | assumption | omega) (by first | assumption | omega) (by first | assumption | omega)) (cwV 2 hts gL_isFigure_X5_contrast rfl rfl rfl (by decide +kernel) ⟨Nat.le_of_ble_eq_true rfl, Nat.le_of_ble_eq_true rfl⟩) (kq_preV (ci := 5) (q0 := 0) (hP.sub [7, 8, 9, 0, 1, 2, 3, 4] rfl) (hD.sub [7, 8, 9, 0, 1, 2, 3, 4] (by decide) rfl) hK rfl rfl) rfl rfl hl.1 rfl (lv_room (Nat.le_of_ble_eq_true rfl)) dL_isFigure_192 ⟨Nat.le_of_ble_eq_true rfl, Nat.le_of_ble_eq_true rfl⟩) hP hD hS hA [7, 8, 9, 0, 1, 2, 3, 4] [5, 6] rfl rfl (by decide) (by decide) (fun r_206 u_207 H locs hw_208 hP hD hS => ?_)
                          obtain ⟨gp_209, gt_210, gl_211⟩ := u_207
                          have hP : va_P (dC, dI) vwCl [(pa, .inl (cI, 8, .inl pf)), (qa, .inl (cI, 4, .inl qf)), (oX, .inr (5, [.ref oS, .ref oR, .ref oN, .ref o2, .ref oF, .ref oT])), (oS, .inr (3, [.ref rv, .ref rs, .int (nI kc)])), (rv, .inl (cI, 385, .inl v)), (oF, .inr (0, [.ref oS, .ref oN])), (oN, .inr (1, [.ref oS, .ref rp, .ref rt, .ref rl])), (rp, .inl (cI, 72, .inl gp_209)), (rt, .inl (cI, 72, .inl gt_210)), (rl, .inl (cI, 72, .inl gl_211))] H := hP
                          have hD : va_D A [(pa, .inl (cI, 8, .inl pf)), (qa, .inl (cI, 4, .inl qf)), (oX, .inr (5, [.ref oS, .ref oR, .ref oN, .ref o2, .ref oF, .ref oT])), (oS, .inr (3, [.ref rv, .ref rs, .int (nI kc)])), (rv, .inl (cI, 385, .inl v)), (oF, .inr (0, [.ref oS, .ref oN])), (oN, .inr (1, [.ref oS, .ref rp, .ref rt, .ref rl])), (rp, .inl (cI, 72, .inl gp_209)), (rt, .inl (cI, 72, .inl gt_210)), (rl, .inl (cI, 72, .inl gl_211))] := hD
                          obtain rfl := hw_208
                          refine lv_iload hx hb dL_isFigure_195 (lv_at hl 1 rfl) ?_
                          refine lv_sipush (v := 1000) hx hb dL_isFigure_197 (by decide) ?_
                          refine lv_iadd hx hb dL_isFigure_200 ?_
                          refine lv_icmp_ne (tgt := 252) hx hb dL_isFigure_201 (by decide) (fun c_212 => ?_) (fun c_212 => ?_)
                          · skip
                            exact absurd (n_cn_p ht) c_212
                          · skip
                            refine lv_iload hx hb dL_isFigure_204 (lv_at hl 0 rfl) ?_
                            refine lv_if_eq (tgt := 221) hx hb dL_isFigure_206 (by decide) (fun _ => ?_) (fun q => absurd q (by decide))
                            refine lv_iload hx hb dL_isFigure_221 (lv_at hl 2 rfl) ?_
                            refine lv_iload hx hb dL_isFigure_223 (lv_at hl 10 rfl) ?_
                            refine lv_icmp_ne (tgt := 233) hx hb dL_isFigure_225 (by decide) (fun c_214 => ?_) (fun c_214 => ?_)
                            · skip
                              have c_214 := kq_neN (a := sn) (b := sn) c_214 (by omega) (by omega)
                              refine lv_iload hx hb dL_isFigure_233 (lv_at hl 0 rfl) ?_
                              refine lv_if_eq (tgt := 248) hx hb dL_isFigure_235 (by decide) (fun _ => ?_) (fun q => absurd q (by decide))
                              refine lv_iconst (v := 1) hx hb dL_isFigure_248 (by decide) ?_
                              refine lv_goto (tgt := 253) hx hb dL_isFigure_249 (by decide) ?_
                              refine lv_istore (lv' := [(9, .int 1), (13, .int 0), (12, .int (n_ct v f sn)), (11, .int (nI sn)), (0, .ref oX), (1, .ref sb), (2, .ref pa), (3, .int (nI f)), (4, .ref qa), (5, .int h9), (6, .int 1), (7, .int (nI sn)), (8, .int (nI gc)), (10, .int (nI k))]) hx hb dL_isFigure_253 hl (by decide) rfl (fun ls hl => ?_)
                              refine lv_iinc (v := nI (k + 1)) (lv' := [(10, .int (nI (k + 1))), (9, .int 1), (13, .int 0), (12, .int (n_ct v f sn)), (11, .int (nI sn)), (0, .ref oX), (1, .ref sb), (2, .ref pa), (3, .int (nI f)), (4, .ref qa), (5, .int h9), (6, .int 1), (7, .int (nI sn)), (8, .int (nI gc))]) hx hb dL_isFigure_255 hl (k := 13) rfl (nI_1 k) (by decide) rfl (fun ls hl => ?_)
                              refine lv_goto (tgt := 107) hx hb dL_isFigure_258 (by decide) ?_
                              exact ih_146 (k + 1) gp_209 gt_210 gl_211 (by omega) (by show 4 - (k + 1) < 4 - k; omega) _ _ hP hD hS _ (lv_sub hl [5, 6, 7, 8, 9, 10, 11, 12, 13, 1, 0] rfl)
                            · skip
                              have c_214 := kq_eqN (a := sn) (b := sn) c_214 (by omega) (by omega)
                              have hcs := c_214
                              refine lv_iload hx hb dL_isFigure_228 (lv_at hl 0 rfl) ?_
                              refine lv_if_eq (tgt := 252) hx hb dL_isFigure_230 (by decide) (fun _ => ?_) (fun q => absurd q (by decide))
                              first | exact absurd hsv (by rw [hs2 _ (by omega)]; decide) | exact absurd hs2 (by rw [← hcs, hsv]; decide)
                        · skip
                          have hsv := n_sn_t (Int32.not_lt.mp c_204)
                          refine lv_iconst (v := 1) hx hb dL_isFigure_176 (by decide) ?_
                          refine lv_goto (tgt := 181) hx hb dL_isFigure_177 (by decide) ?_
                          refine lv_istore (lv' := [(13, .int 1), (12, .int (n_ct v f sn)), (11, .int (nI sn)), (0, .ref oX), (1, .ref sb), (2, .ref pa), (3, .int (nI f)), (4, .ref qa), (5, .int h9), (6, .int 1), (7, .int (nI sn)), (8, .int (nI gc)), (9, .int 1), (10, .int (nI k))]) hx hb dL_isFigure_181 hl (by decide) rfl (fun ls hl => ?_)
                          refine lv_iload hx hb dL_isFigure_183 (lv_at hl 12 rfl) ?_
                          refine lv_if_eq (tgt := 252) hx hb dL_isFigure_185 (by decide) (fun q => absurd q (by decide)) (fun _ => ?_)
                          refine lv_aload_n hx hb dL_isFigure_188 rfl (lv_at hl 3 rfl) ?_
                          refine lv_iload_n hx hb dL_isFigure_189 rfl (lv_at hl 6 rfl) ?_
                          refine lv_iload hx hb dL_isFigure_190 (lv_at hl 2 rfl) ?_
                          refine kq_callMi (wr := [(pa, .inl (cI, 8, .inl pf)), (qa, .inl (cI, 4, .inl qf))]) (va_runV (As := [.int (nI f), .int (nI sn)]) (rest := []) ⟨hx, hb, hml, hown, hts⟩ (c_X5_contrast l dC dI cI H.size oX oS oR oN o2 oF oT rv rs kc rp rt rl v gp_197 gt_198 gl_199 f sn (by first | assumption | omega) (by first | assumption | omega) (by first | assumption | omega)) (cwV 2 hts gL_isFigure_X5_contrast rfl rfl rfl (by decide +kernel) ⟨Nat.le_of_ble_eq_true rfl, Nat.le_of_ble_eq_true rfl⟩) (kq_preV (ci := 5) (q0 := 0) (hP.sub [7, 8, 9, 0, 1, 2, 3, 4] rfl) (hD.sub [7, 8, 9, 0, 1, 2, 3, 4] (by decide) rfl) hK rfl rfl) rfl rfl hl.1 rfl (lv_room (Nat.le_of_ble_eq_true rfl)) dL_isFigure_192 ⟨Nat.le_of_ble_eq_true rfl, Nat.le_of_ble_eq_true rfl⟩) hP hD hS hA [7, 8, 9, 0, 1, 2, 3, 4] [5, 6] rfl rfl (by decide) (by decide) (fun r_218 u_219 H locs hw_220 hP hD hS => ?_)
                          obtain ⟨gp_221, gt_222, gl_223⟩ := u_219
                          have hP : va_P (dC, dI) vwCl [(pa, .inl (cI, 8, .inl pf)), (qa, .inl (cI, 4, .inl qf)), (oX, .inr (5, [.ref oS, .ref oR, .ref oN, .ref o2, .ref oF, .ref oT])), (oS, .inr (3, [.ref rv, .ref rs, .int (nI kc)])), (rv, .inl (cI, 385, .inl v)), (oF, .inr (0, [.ref oS, .ref oN])), (oN, .inr (1, [.ref oS, .ref rp, .ref rt, .ref rl])), (rp, .inl (cI, 72, .inl gp_221)), (rt, .inl (cI, 72, .inl gt_222)), (rl, .inl (cI, 72, .inl gl_223))] H := hP
                          have hD : va_D A [(pa, .inl (cI, 8, .inl pf)), (qa, .inl (cI, 4, .inl qf)), (oX, .inr (5, [.ref oS, .ref oR, .ref oN, .ref o2, .ref oF, .ref oT])), (oS, .inr (3, [.ref rv, .ref rs, .int (nI kc)])), (rv, .inl (cI, 385, .inl v)), (oF, .inr (0, [.ref oS, .ref oN])), (oN, .inr (1, [.ref oS, .ref rp, .ref rt, .ref rl])), (rp, .inl (cI, 72, .inl gp_221)), (rt, .inl (cI, 72, .inl gt_222)), (rl, .inl (cI, 72, .inl gl_223))] := hD
                          obtain rfl := hw_220
                          refine lv_iload hx hb dL_isFigure_195 (lv_at hl 1 rfl) ?_
                          refine lv_sipush (v := 1000) hx hb dL_isFigure_197 (by decide) ?_
                          refine lv_iadd hx hb dL_isFigure_200 ?_
                          refine lv_icmp_ne (tgt := 252) hx hb dL_isFigure_201 (by decide) (fun c_224 => ?_) (fun c_224 => ?_)
                          · skip
                            exact absurd (n_cn_p ht) c_224
                          · skip
                            refine lv_iload hx hb dL_isFigure_204 (lv_at hl 0 rfl) ?_
                            refine lv_if_eq (tgt := 221) hx hb dL_isFigure_206 (by decide) (fun q => absurd q (by decide)) (fun _ => ?_)
                            refine lv_iload hx hb dL_isFigure_209 (lv_at hl 10 rfl) ?_
                            refine lv_if_lt (tgt := 252) hx hb dL_isFigure_211 (by decide) (fun c_226 => ?_) (fun c_226 => ?_)
                            · skip
                              have c_226 := kq_ltN (a := sn) (b := 0) c_226 (by omega) (by omega)
                              exact absurd c_226 (by omega)
                            · skip
                              have c_226 := kq_nltN (a := sn) (b := 0) c_226 (by omega) (by omega)
                              refine lv_iload hx hb dL_isFigure_214 (lv_at hl 10 rfl) ?_
                              refine lv_iload hx hb dL_isFigure_216 (lv_at hl 2 rfl) ?_
                              refine lv_icmp_gt (tgt := 252) hx hb dL_isFigure_218 (by decide) (fun c_227 => ?_) (fun c_227 => ?_)
                              · skip
                                have c_227 := kq_ltN (a := sn) (b := sn) c_227 (by omega) (by omega)
                                exact absurd hsv (by rw [hs3 _ c_227]; decide)
                              · skip
                                have c_227 := kq_nltN (a := sn) (b := sn) c_227 (by omega) (by omega)
                                refine lv_iload hx hb dL_isFigure_221 (lv_at hl 2 rfl) ?_
                                refine lv_iload hx hb dL_isFigure_223 (lv_at hl 10 rfl) ?_
                                refine lv_icmp_ne (tgt := 233) hx hb dL_isFigure_225 (by decide) (fun c_228 => ?_) (fun c_228 => ?_)
                                · skip
                                  have c_228 := kq_neN (a := sn) (b := sn) c_228 (by omega) (by omega)
                                  refine lv_iload hx hb dL_isFigure_233 (lv_at hl 0 rfl) ?_
                                  refine lv_if_eq (tgt := 248) hx hb dL_isFigure_235 (by decide) (fun q => absurd q (by decide)) (fun _ => ?_)
                                  refine lv_iload hx hb dL_isFigure_238 (lv_at hl 9 rfl) ?_
                                  refine lv_if_eq (tgt := 248) hx hb dL_isFigure_240 (by decide) (fun q => absurd q (by decide)) (fun _ => ?_)
                                  refine lv_iload hx hb dL_isFigure_243 (lv_at hl 11 rfl) ?_
                                  refine lv_if_le (tgt := 252) hx hb dL_isFigure_245 (by decide) (fun c_231 => ?_) (fun c_231 => ?_)
                                  · skip
                                    have c_231 := kq_leN (a := gc) (b := 0) c_231 (by omega) (by omega)
                                    exact absurd (hg2 _ (by omega) hsv) (by omega)
                                  · skip
                                    have c_231 := kq_nleN (a := gc) (b := 0) c_231 (by omega) (by omega)
                                    refine lv_iconst (v := 1) hx hb dL_isFigure_248 (by decide) ?_
                                    refine lv_goto (tgt := 253) hx hb dL_isFigure_249 (by decide) ?_
                                    refine lv_istore (lv' := [(9, .int 1), (13, .int 1), (12, .int (n_ct v f sn)), (11, .int (nI sn)), (0, .ref oX), (1, .ref sb), (2, .ref pa), (3, .int (nI f)), (4, .ref qa), (5, .int h9), (6, .int 1), (7, .int (nI sn)), (8, .int (nI gc)), (10, .int (nI k))]) hx hb dL_isFigure_253 hl (by decide) rfl (fun ls hl => ?_)
                                    refine lv_iinc (v := nI (k + 1)) (lv' := [(10, .int (nI (k + 1))), (9, .int 1), (13, .int 1), (12, .int (n_ct v f sn)), (11, .int (nI sn)), (0, .ref oX), (1, .ref sb), (2, .ref pa), (3, .int (nI f)), (4, .ref qa), (5, .int h9), (6, .int 1), (7, .int (nI sn)), (8, .int (nI gc))]) hx hb dL_isFigure_255 hl (k := 13) rfl (nI_1 k) (by decide) rfl (fun ls hl => ?_)
                                    refine lv_goto (tgt := 107) hx hb dL_isFigure_258 (by decide) ?_
                                    exact ih_146 (k + 1) gp_221 gt_222 gl_223 (by omega) (by show 4 - (k + 1) < 4 - k; omega) _ _ hP hD hS _ (lv_sub hl [5, 6, 7, 8, 9, 10, 11, 12, 13, 1, 0] rfl)
                                · skip
                                  have c_228 := kq_eqN (a := sn) (b := sn) c_228 (by omega) (by omega)
                                  have hcs := c_228
                                  refine lv_iload hx hb dL_isFigure_228 (lv_at hl 0 rfl) ?_
                                  refine lv_if_eq (tgt := 252) hx hb dL_isFigure_230 (by decide) (fun q => absurd q (by decide)) (fun _ => ?_)
                                  refine lv_iload hx hb dL_isFigure_233 (lv_at hl 0 rfl) ?_
                                  refine lv_if_eq (tgt := 248) hx hb dL_isFigure_235 (by decide) (fun q => absurd q (by decide)) (fun _ => ?_)
                                  refine lv_iload hx hb dL_isFigure_238 (lv_at hl 9 rfl) ?_
                                  refine lv_if_eq (tgt := 248) hx hb dL_isFigure_240 (by decide) (fun q => absurd q (by decide)) (fun _ => ?_)
                                  refine lv_iload hx hb dL_isFigure_243 (lv_at hl 11 rfl) ?_
                                  refine lv_if_le (tgt := 252) hx hb dL_isFigure_245 (by decide) (fun c_235 => ?_) (fun c_235 => ?_)
                                  · skip
                                    have c_235 := kq_leN (a := gc) (b := 0) c_235 (by omega) (by omega)
                                    exact absurd (hg2 _ (by omega) hsv) (by omega)
                                  · skip
                                    have c_235 := kq_nleN (a := gc) (b := 0) c_235 (by omega) (by omega)
                                    refine lv_iconst (v := 1) hx hb dL_isFigure_248 (by decide) ?_
                                    refine lv_goto (tgt := 253) hx hb dL_isFigure_249 (by decide) ?_
                                    refine lv_istore (lv' := [(9, .int 1), (13, .int 1), (12, .int (n_ct v f sn)), (11, .int (nI sn)), (0, .ref oX), (1, .ref sb), (2, .ref pa), (3, .int (nI f)), (4, .ref qa), (5, .int h9), (6, .int 1), (7, .int (nI sn)), (8, .int (nI gc)), (10, .int (nI k))]) hx hb dL_isFigure_253 hl (by decide) rfl (fun ls hl => ?_)
                                    refine lv_iinc (v := nI (k + 1)) (lv' := [(10, .int (nI (k + 1))), (9, .int 1), (13, .int 1), (12, .int (n_ct v f sn)), (11, .int (nI sn)), (0, .ref oX), (1, .ref sb), (2, .ref pa), (3, .int (nI f)), (4, .ref qa), (5, .int h9), (6, .int 1), (7, .int (nI sn)), (8, .int (nI gc))]) hx hb dL_isFigure_255 hl (k := 13) rfl (nI_1 k) (by decide) rfl (fun ls hl => ?_)
                                    refine lv_goto (tgt := 107) hx hb dL_isFigure_258 (by decide) ?_
                                    exact ih_146 (k + 1) gp_221 gt_222 gl_223 (by omega) (by show 4 - (k + 1) < 4 - k; omega) _ _ hP hD hS _ (lv_sub hl [5, 6, 7, 8, 9, 10, 11, 12, 13, 1, 0] rfl)
                      · skip
                        refine lv_iload hx hb dL_isFigure_155 (lv_at hl 0 rfl) ?_
                        refine lv_if_ge (tgt := 166) hx hb dL_isFigure_157 (by decide) (fun c_236 => ?_) (fun c_236 => ?_)
                        · skip
                          refine lv_iload hx hb dL_isFigure_166 (lv_at hl 0 rfl) ?_
                          refine kq_top (z := n_abs (n_ct v f sn)) (by unfold n_abs; first | rw [if_pos (by assumption)] | rw [if_neg (by assumption)]) ?_
                          exact hJ_200 _ (lv_sub hl [0, 1, 2, 3, 4, 5, 6, 7, 8, 9, 10, 11, 12] rfl)
                        · skip
                          refine lv_iload hx hb dL_isFigure_160 (lv_at hl 0 rfl) ?_
                          refine lv_ineg hx hb dL_isFigure_162 ?_
                          refine kq_top (z := 0 - (n_ct v f sn)) (n_ineg (n_ct v f sn)) ?_
                          refine lv_goto (tgt := 168) hx hb dL_isFigure_163 (by decide) ?_
                          refine kq_top (z := n_abs (n_ct v f sn)) (by unfold n_abs; first | rw [if_pos (by assumption)] | rw [if_neg (by assumption)]) ?_
                          exact hJ_200 _ (lv_sub hl [0, 1, 2, 3, 4, 5, 6, 7, 8, 9, 10, 11, 12] rfl)
  · skip
    refine kq_top (z := 0) (if_neg hhd) ?_
    refine lv_istore (lv' := [(6, .int 0), (0, .ref oX), (1, .ref sb), (2, .ref pa), (3, .int (nI f)), (4, .ref qa), (5, .int h9)]) hx hb dL_isFigure_6 hl (by decide) rfl (fun ls hl => ?_)
    refine lv_aload_n hx hb dL_isFigure_8 rfl (lv_at hl 1 rfl) ?_
    refine lv_iload_n hx hb dL_isFigure_9 rfl (lv_at hl 4 rfl) ?_
    refine lv_iconst (v := 3) hx hb dL_isFigure_10 (by decide) ?_
    refine kq_callMi (wr := [(pa, .inl (cI, 8, .inl pf)), (qa, .inl (cI, 4, .inl qf))]) (va_runV (As := [.int (nI f), .int 3]) (rest := []) ⟨hx, hb, hml, hown, hts⟩ (c_X5_figureOf l dC dI cI H.size oX oS oR oN o2 oF oT rv rs kc rp rt rl v gp_4 gt_5 gl_6 f 3 (by first | assumption | omega) (by first | assumption | omega) (by first | assumption | omega)) (cwV 2 hts gL_isFigure_X5_figureOf rfl rfl rfl (by decide +kernel) ⟨Nat.le_of_ble_eq_true rfl, Nat.le_of_ble_eq_true rfl⟩) (kq_preV (ci := 5) (q0 := 0) (hP.sub [2, 3, 4, 0, 5, 6, 7, 8] rfl) (hD.sub [2, 3, 4, 0, 5, 6, 7, 8] (by decide) rfl) hK rfl rfl) rfl rfl hl.1 rfl (lv_room (Nat.le_of_ble_eq_true rfl)) dL_isFigure_11 ⟨Nat.le_of_ble_eq_true rfl, Nat.le_of_ble_eq_true rfl⟩) hP hD hS hA [2, 3, 4, 0, 5, 6, 7, 8] [1, 9] rfl rfl (by decide) (by decide) (fun r_237 u_238 H locs hw_239 hP hD hS => ?_)
    obtain ⟨gp_240, gt_241, gl_242⟩ := u_238
    have hP : va_P (dC, dI) vwCl [(pa, .inl (cI, 8, .inl pf)), (qa, .inl (cI, 4, .inl qf)), (oX, .inr (5, [.ref oS, .ref oR, .ref oN, .ref o2, .ref oF, .ref oT])), (oS, .inr (3, [.ref rv, .ref rs, .int (nI kc)])), (rv, .inl (cI, 385, .inl v)), (oF, .inr (0, [.ref oS, .ref oN])), (oN, .inr (1, [.ref oS, .ref rp, .ref rt, .ref rl])), (rp, .inl (cI, 72, .inl gp_240)), (rt, .inl (cI, 72, .inl gt_241)), (rl, .inl (cI, 72, .inl gl_242))] H := hP
    have hD : va_D A [(pa, .inl (cI, 8, .inl pf)), (qa, .inl (cI, 4, .inl qf)), (oX, .inr (5, [.ref oS, .ref oR, .ref oN, .ref o2, .ref oF, .ref oT])), (oS, .inr (3, [.ref rv, .ref rs, .int (nI kc)])), (rv, .inl (cI, 385, .inl v)), (oF, .inr (0, [.ref oS, .ref oN])), (oN, .inr (1, [.ref oS, .ref rp, .ref rt, .ref rl])), (rp, .inl (cI, 72, .inl gp_240)), (rt, .inl (cI, 72, .inl gt_241)), (rl, .inl (cI, 72, .inl gl_242))] := hD
    obtain rfl := hw_239
    rcases n_ff_spec (n_seen v f) with ⟨hs1, hs2⟩ | ⟨sn, hs0, hs1, hs2, hs3⟩
    · skip
      refine kq_top (z := (-1)) ((n_fo_3 ht).trans hs1) ?_
      refine lv_istore (lv' := [(7, .int (-1)), (6, .int 0), (0, .ref oX), (1, .ref sb), (2, .ref pa), (3, .int (nI f)), (4, .ref qa), (5, .int h9)]) hx hb dL_isFigure_14 hl (by decide) rfl (fun ls hl => ?_)
      refine lv_aload_n hx hb dL_isFigure_16 rfl (lv_at hl 2 rfl) ?_
      refine lv_iload_n hx hb dL_isFigure_17 rfl (lv_at hl 5 rfl) ?_
      refine lv_iconst (v := 4) hx hb dL_isFigure_18 (by decide) ?_
      refine kq_callMi (wr := [(pa, .inl (cI, 8, .inl pf)), (qa, .inl (cI, 4, .inl qf))]) (va_runV (As := [.int (nI f), .int 4]) (rest := []) ⟨hx, hb, hml, hown, hts⟩ (c_X5_figureOf l dC dI cI H.size oX oS oR oN o2 oF oT rv rs kc rp rt rl v gp_240 gt_241 gl_242 f 4 (by first | assumption | omega) (by first | assumption | omega) (by first | assumption | omega)) (cwV 2 hts gL_isFigure_X5_figureOf rfl rfl rfl (by decide +kernel) ⟨Nat.le_of_ble_eq_true rfl, Nat.le_of_ble_eq_true rfl⟩) (kq_preV (ci := 5) (q0 := 0) (hP.sub [2, 3, 4, 5, 6, 7, 8, 9] rfl) (hD.sub [2, 3, 4, 5, 6, 7, 8, 9] (by decide) rfl) hK rfl rfl) rfl rfl hl.1 rfl (lv_room (Nat.le_of_ble_eq_true rfl)) dL_isFigure_19 ⟨Nat.le_of_ble_eq_true rfl, Nat.le_of_ble_eq_true rfl⟩) hP hD hS hA [2, 3, 4, 5, 6, 7, 8, 9] [0, 1] rfl rfl (by decide) (by decide) (fun r_243 u_244 H locs hw_245 hP hD hS => ?_)
      obtain ⟨gp_246, gt_247, gl_248⟩ := u_244
      have hP : va_P (dC, dI) vwCl [(pa, .inl (cI, 8, .inl pf)), (qa, .inl (cI, 4, .inl qf)), (oX, .inr (5, [.ref oS, .ref oR, .ref oN, .ref o2, .ref oF, .ref oT])), (oS, .inr (3, [.ref rv, .ref rs, .int (nI kc)])), (rv, .inl (cI, 385, .inl v)), (oF, .inr (0, [.ref oS, .ref oN])), (oN, .inr (1, [.ref oS, .ref rp, .ref rt, .ref rl])), (rp, .inl (cI, 72, .inl gp_246)), (rt, .inl (cI, 72, .inl gt_247)), (rl, .inl (cI, 72, .inl gl_248))] H := hP
      have hD : va_D A [(pa, .inl (cI, 8, .inl pf)), (qa, .inl (cI, 4, .inl qf)), (oX, .inr (5, [.ref oS, .ref oR, .ref oN, .ref o2, .ref oF, .ref oT])), (oS, .inr (3, [.ref rv, .ref rs, .int (nI kc)])), (rv, .inl (cI, 385, .inl v)), (oF, .inr (0, [.ref oS, .ref oN])), (oN, .inr (1, [.ref oS, .ref rp, .ref rt, .ref rl])), (rp, .inl (cI, 72, .inl gp_246)), (rt, .inl (cI, 72, .inl gt_247)), (rl, .inl (cI, 72, .inl gl_248))] := hD
      obtain rfl := hw_245
      refine kq_top (z := 0) ((n_fo_4 ht).trans (n_gd_0 hhd)) ?_
      refine lv_istore (lv' := [(8, .int 0), (7, .int (-1)), (6, .int 0), (0, .ref oX), (1, .ref sb), (2, .ref pa), (3, .int (nI f)), (4, .ref qa), (5, .int h9)]) hx hb dL_isFigure_22 hl (by decide) rfl (fun ls hl => ?_)
      refine lv_aload_n hx hb dL_isFigure_24 rfl (lv_at hl 3 rfl) ?_
      refine lv_iload_n hx hb dL_isFigure_25 rfl (lv_at hl 6 rfl) ?_
      refine lv_iconst (v := 0) hx hb dL_isFigure_26 (by decide) ?_
      refine kq_callMi (wr := [(pa, .inl (cI, 8, .inl pf)), (qa, .inl (cI, 4, .inl qf))]) (va_runV (As := [.int (nI f), .int 0]) (rest := []) ⟨hx, hb, hml, hown, hts⟩ (c_X5_figureOf l dC dI cI H.size oX oS oR oN o2 oF oT rv rs kc rp rt rl v gp_246 gt_247 gl_248 f 0 (by first | assumption | omega) (by first | assumption | omega) (by first | assumption | omega)) (cwV 2 hts gL_isFigure_X5_figureOf rfl rfl rfl (by decide +kernel) ⟨Nat.le_of_ble_eq_true rfl, Nat.le_of_ble_eq_true rfl⟩) (kq_preV (ci := 5) (q0 := 0) (hP.sub [2, 3, 4, 5, 6, 7, 8, 9] rfl) (hD.sub [2, 3, 4, 5, 6, 7, 8, 9] (by decide) rfl) hK rfl rfl) rfl rfl hl.1 rfl (lv_room (Nat.le_of_ble_eq_true rfl)) dL_isFigure_27 ⟨Nat.le_of_ble_eq_true rfl, Nat.le_of_ble_eq_true rfl⟩) hP hD hS hA [2, 3, 4, 5, 6, 7, 8, 9] [0, 1] rfl rfl (by decide) (by decide) (fun r_249 u_250 H locs hw_251 hP hD hS => ?_)
      obtain ⟨gp_252, gt_253, gl_254⟩ := u_250
      have hP : va_P (dC, dI) vwCl [(pa, .inl (cI, 8, .inl pf)), (qa, .inl (cI, 4, .inl qf)), (oX, .inr (5, [.ref oS, .ref oR, .ref oN, .ref o2, .ref oF, .ref oT])), (oS, .inr (3, [.ref rv, .ref rs, .int (nI kc)])), (rv, .inl (cI, 385, .inl v)), (oF, .inr (0, [.ref oS, .ref oN])), (oN, .inr (1, [.ref oS, .ref rp, .ref rt, .ref rl])), (rp, .inl (cI, 72, .inl gp_252)), (rt, .inl (cI, 72, .inl gt_253)), (rl, .inl (cI, 72, .inl gl_254))] H := hP
      have hD : va_D A [(pa, .inl (cI, 8, .inl pf)), (qa, .inl (cI, 4, .inl qf)), (oX, .inr (5, [.ref oS, .ref oR, .ref oN, .ref o2, .ref oF, .ref oT])), (oS, .inr (3, [.ref rv, .ref rs, .int (nI kc)])), (rv, .inl (cI, 385, .inl v)), (oF, .inr (0, [.ref oS, .ref oN])), (oN, .inr (1, [.ref oS, .ref rp, .ref rt, .ref rl])), (rp, .inl (cI, 72, .inl gp_252)), (rt, .inl (cI, 72, .inl gt_253)), (rl, .inl (cI, 72, .inl gl_254))] := hD
      obtain rfl := hw_251
      refine lv_aload hx hb dL_isFigure_30 (lv_at hl 7 rfl) ?_
      refine lv_iconst (v := 2) hx hb dL_isFigure_32 (by decide) ?_
      refine va_iald hx hb hK.1 hP 1 0 rfl rfl (vp_in_nI (show 2 < 4 from by omega) (by omega)) dL_isFigure_33 ?_
      refine kq_top (z := qf 2) (congrArg qf (nI_clamp (Nat.lt_trans (show 2 < 4 from by omega) (by omega)))) ?_
      refine kq_top (z := nI (n_f v f 2)) (hq.2.2.1) ?_
      refine lv_aload hx hb dL_isFigure_34 (lv_at hl 7 rfl) ?_
      refine lv_iconst (v := 3) hx hb dL_isFigure_36 (by decide) ?_
      refine va_iald hx hb hK.1 hP 1 0 rfl rfl (vp_in_nI (show 3 < 4 from by omega) (by omega)) dL_isFigure_37 ?_
      refine kq_top (z := qf 3) (congrArg qf (nI_clamp (Nat.lt_trans (show 3 < 4 from by omega) (by omega)))) ?_
      refine kq_top (z := nI (n_f v f 3)) (hq.2.2.2) ?_
      refine lv_imul hx hb dL_isFigure_38 ?_
      refine kq_top (z := nI ((n_f v f 2) * (n_f v f 3))) (pk_mul (n_f v f 2) (n_f v f 3)) ?_
      refine lv_icmp_ne (tgt := 101) hx hb dL_isFigure_39 (by decide) (fun c_255 => ?_) (fun c_255 => ?_)
      · skip
        exact absurd (n_fo_0 ht) c_255
      · skip
        refine lv_aload_n hx hb dL_isFigure_42 rfl (lv_at hl 3 rfl) ?_
        refine lv_iload_n hx hb dL_isFigure_43 rfl (lv_at hl 6 rfl) ?_
        refine lv_iconst (v := 1) hx hb dL_isFigure_44 (by decide) ?_
        refine kq_callMi (wr := [(pa, .inl (cI, 8, .inl pf)), (qa, .inl (cI, 4, .inl qf))]) (va_runV (As := [.int (nI f), .int 1]) (rest := []) ⟨hx, hb, hml, hown, hts⟩ (c_X5_figureOf l dC dI cI H.size oX oS oR oN o2 oF oT rv rs kc rp rt rl v gp_252 gt_253 gl_254 f 1 (by first | assumption | omega) (by first | assumption | omega) (by first | assumption | omega)) (cwV 2 hts gL_isFigure_X5_figureOf rfl rfl rfl (by decide +kernel) ⟨Nat.le_of_ble_eq_true rfl, Nat.le_of_ble_eq_true rfl⟩) (kq_preV (ci := 5) (q0 := 0) (hP.sub [2, 3, 4, 5, 6, 7, 8, 9] rfl) (hD.sub [2, 3, 4, 5, 6, 7, 8, 9] (by decide) rfl) hK rfl rfl) rfl rfl hl.1 rfl (lv_room (Nat.le_of_ble_eq_true rfl)) dL_isFigure_45 ⟨Nat.le_of_ble_eq_true rfl, Nat.le_of_ble_eq_true rfl⟩) hP hD hS hA [2, 3, 4, 5, 6, 7, 8, 9] [0, 1] rfl rfl (by decide) (by decide) (fun r_256 u_257 H locs hw_258 hP hD hS => ?_)
        obtain ⟨gp_259, gt_260, gl_261⟩ := u_257
        have hP : va_P (dC, dI) vwCl [(pa, .inl (cI, 8, .inl pf)), (qa, .inl (cI, 4, .inl qf)), (oX, .inr (5, [.ref oS, .ref oR, .ref oN, .ref o2, .ref oF, .ref oT])), (oS, .inr (3, [.ref rv, .ref rs, .int (nI kc)])), (rv, .inl (cI, 385, .inl v)), (oF, .inr (0, [.ref oS, .ref oN])), (oN, .inr (1, [.ref oS, .ref rp, .ref rt, .ref rl])), (rp, .inl (cI, 72, .inl gp_259)), (rt, .inl (cI, 72, .inl gt_260)), (rl, .inl (cI, 72, .inl gl_261))] H := hP
        have hD : va_D A [(pa, .inl (cI, 8, .inl pf)), (qa, .inl (cI, 4, .inl qf)), (oX, .inr (5, [.ref oS, .ref oR, .ref oN, .ref o2, .ref oF, .ref oT])), (oS, .inr (3, [.ref rv, .ref rs, .int (nI kc)])), (rv, .inl (cI, 385, .inl v)), (oF, .inr (0, [.ref oS, .ref oN])), (oN, .inr (1, [.ref oS, .ref rp, .ref rt, .ref rl])), (rp, .inl (cI, 72, .inl gp_259)), (rt, .inl (cI, 72, .inl gt_260)), (rl, .inl (cI, 72, .inl gl_261))] := hD
        obtain rfl := hw_258
        refine lv_aload hx hb dL_isFigure_48 (lv_at hl 7 rfl) ?_
        refine kq_cS (As := [.ref qa]) (rest := [.int (n_fo v f 1)]) ⟨hx, hb, hml, hown, hts⟩ (c_L_frame l dC dI cI qa qf (n_f v f 0) (n_f v f 1) (n_f v f 2) (n_f v f 3) (by first | assumption | omega) (by first | assumption | omega) (by first | assumption | omega) (by first | assumption | omega) (by first | assumption | omega)) (va_cwS 1 hts gL_isFigure_L_frame rfl rfl rfl (by decide +kernel) ⟨Nat.le_of_ble_eq_true rfl, Nat.le_of_ble_eq_true rfl⟩) (hP.sub [1] rfl) hK rfl hl.1 rfl (Nat.le_of_ble_eq_true rfl) dL_isFigure_50 ⟨Nat.le_of_ble_eq_true rfl, Nat.le_of_ble_eq_true rfl⟩ ?_
        refine lv_icmp_ne (tgt := 101) hx hb dL_isFigure_53 (by decide) (fun c_262 => ?_) (fun c_262 => ?_)
        · skip
          exact absurd (n_fo_1 ht) c_262
        · skip
          refine lv_aload_n hx hb dL_isFigure_56 rfl (lv_at hl 3 rfl) ?_
          refine lv_iload_n hx hb dL_isFigure_57 rfl (lv_at hl 6 rfl) ?_
          refine lv_iconst (v := 2) hx hb dL_isFigure_58 (by decide) ?_
          refine kq_callMi (wr := [(pa, .inl (cI, 8, .inl pf)), (qa, .inl (cI, 4, .inl qf))]) (va_runV (As := [.int (nI f), .int 2]) (rest := []) ⟨hx, hb, hml, hown, hts⟩ (c_X5_figureOf l dC dI cI H.size oX oS oR oN o2 oF oT rv rs kc rp rt rl v gp_259 gt_260 gl_261 f 2 (by first | assumption | omega) (by first | assumption | omega) (by first | assumption | omega)) (cwV 2 hts gL_isFigure_X5_figureOf rfl rfl rfl (by decide +kernel) ⟨Nat.le_of_ble_eq_true rfl, Nat.le_of_ble_eq_true rfl⟩) (kq_preV (ci := 5) (q0 := 0) (hP.sub [2, 3, 4, 5, 6, 7, 8, 9] rfl) (hD.sub [2, 3, 4, 5, 6, 7, 8, 9] (by decide) rfl) hK rfl rfl) rfl rfl hl.1 rfl (lv_room (Nat.le_of_ble_eq_true rfl)) dL_isFigure_59 ⟨Nat.le_of_ble_eq_true rfl, Nat.le_of_ble_eq_true rfl⟩) hP hD hS hA [2, 3, 4, 5, 6, 7, 8, 9] [0, 1] rfl rfl (by decide) (by decide) (fun r_263 u_264 H locs hw_265 hP hD hS => ?_)
          obtain ⟨gp_266, gt_267, gl_268⟩ := u_264
          have hP : va_P (dC, dI) vwCl [(pa, .inl (cI, 8, .inl pf)), (qa, .inl (cI, 4, .inl qf)), (oX, .inr (5, [.ref oS, .ref oR, .ref oN, .ref o2, .ref oF, .ref oT])), (oS, .inr (3, [.ref rv, .ref rs, .int (nI kc)])), (rv, .inl (cI, 385, .inl v)), (oF, .inr (0, [.ref oS, .ref oN])), (oN, .inr (1, [.ref oS, .ref rp, .ref rt, .ref rl])), (rp, .inl (cI, 72, .inl gp_266)), (rt, .inl (cI, 72, .inl gt_267)), (rl, .inl (cI, 72, .inl gl_268))] H := hP
          have hD : va_D A [(pa, .inl (cI, 8, .inl pf)), (qa, .inl (cI, 4, .inl qf)), (oX, .inr (5, [.ref oS, .ref oR, .ref oN, .ref o2, .ref oF, .ref oT])), (oS, .inr (3, [.ref rv, .ref rs, .int (nI kc)])), (rv, .inl (cI, 385, .inl v)), (oF, .inr (0, [.ref oS, .ref oN])), (oN, .inr (1, [.ref oS, .ref rp, .ref rt, .ref rl])), (rp, .inl (cI, 72, .inl gp_266)), (rt, .inl (cI, 72, .inl gt_267)), (rl, .inl (cI, 72, .inl gl_268))] := hD
          obtain rfl := hw_265
          refine lv_iload hx hb dL_isFigure_62 (lv_at hl 2 rfl) ?_
          refine lv_if_eq (tgt := 71) hx hb dL_isFigure_64 (by decide) (fun _ => ?_) (fun q => absurd q (by decide))
          refine lv_iconst (v := 0) hx hb dL_isFigure_71 (by decide) ?_
          refine lv_icmp_ne (tgt := 101) hx hb dL_isFigure_72 (by decide) (fun c_270 => ?_) (fun c_270 => ?_)
          · skip
            first | exact absurd ((n_fo_2 ht).trans (if_pos hhd)) c_270 | exact absurd ((n_fo_2 ht).trans (if_neg hhd)) c_270
          · skip
            refine lv_iload hx hb dL_isFigure_75 (lv_at hl 2 rfl) ?_
            refine lv_if_ne (tgt := 85) hx hb dL_isFigure_77 (by decide) (fun q => absurd q (by decide)) (fun _ => ?_)
            refine lv_iload hx hb dL_isFigure_80 (lv_at hl 0 rfl) ?_
            refine lv_if_ne (tgt := 101) hx hb dL_isFigure_82 (by decide) (fun q => absurd q (by decide)) (fun _ => ?_)
            refine lv_iload hx hb dL_isFigure_85 (lv_at hl 0 rfl) ?_
            refine lv_if_lt (tgt := 101) hx hb dL_isFigure_87 (by decide) (fun q => absurd q (by decide)) (fun _ => ?_)
            refine lv_iload hx hb dL_isFigure_90 (lv_at hl 0 rfl) ?_
            refine lv_bipush (v := 100) hx hb dL_isFigure_92 (by decide) ?_
            refine lv_icmp_gt (tgt := 101) hx hb dL_isFigure_94 (by decide) (fun q => absurd q (by decide)) (fun _ => ?_)
            refine lv_iconst (v := 1) hx hb dL_isFigure_97 (by decide) ?_
            refine lv_goto (tgt := 102) hx hb dL_isFigure_98 (by decide) ?_
            refine lv_istore (lv' := [(9, .int 1), (8, .int 0), (7, .int (-1)), (6, .int 0), (0, .ref oX), (1, .ref sb), (2, .ref pa), (3, .int (nI f)), (4, .ref qa), (5, .int h9)]) hx hb dL_isFigure_102 hl (by decide) rfl (fun ls hl => ?_)
            refine lv_iconst (v := 0) hx hb dL_isFigure_104 (by decide) ?_
            refine lv_istore (lv' := [(10, .int 0), (9, .int 1), (8, .int 0), (7, .int (-1)), (6, .int 0), (0, .ref oX), (1, .ref sb), (2, .ref pa), (3, .int (nI f)), (4, .ref qa), (5, .int h9)]) hx hb dL_isFigure_105 hl (by decide) rfl (fun ls hl => ?_)
            refine kq_loopM4 (A1 := Nat) (A2 := Nat → Int32) (A3 := Nat → Int32) (A4 := Nat → Int32) (fun (k : Nat) (fp : Nat → Int32) (ft : Nat → Int32) (fl : Nat → Int32) => 4 - k) (fun (k : Nat) (fp : Nat → Int32) (ft : Nat → Int32) (fl : Nat → Int32) => (k ≤ 4)) (fun (k : Nat) (fp : Nat → Int32) (ft : Nat → Int32) (fl : Nat → Int32) => [(0, .ref oX), (1, .ref sb), (2, .ref pa), (3, .int (nI f)), (4, .ref qa), (5, .int h9), (6, .int 0), (7, .int (-1)), (8, .int 0), (9, .int 1), (10, .int (nI k))]) (fun (k : Nat) (fp : Nat → Int32) (ft : Nat → Int32) (fl : Nat → Int32) => [(pa, .inl (cI, 8, .inl pf)), (qa, .inl (cI, 4, .inl qf)), (oX, .inr (5, [.ref oS, .ref oR, .ref oN, .ref o2, .ref oF, .ref oT])), (oS, .inr (3, [.ref rv, .ref rs, .int (nI kc)])), (rv, .inl (cI, 385, .inl v)), (oF, .inr (0, [.ref oS, .ref oN])), (oN, .inr (1, [.ref oS, .ref rp, .ref rt, .ref rl])), (rp, .inl (cI, 72, .inl fp)), (rt, .inl (cI, 72, .inl ft)), (rl, .inl (cI, 72, .inl fl))]) (nL := 14) hK ?_ 0 gp_266 gt_267 gl_268 (by omega) hP hD hS _ (lv_sub hl [5, 6, 7, 8, 9, 10, 4, 3, 2, 1, 0] rfl)
            intro k fp ft fl hi_276 ih_275 H locs hP hD hS ls hl
            have ik : k ≤ 4 := hi_276
            have hl : lv_has ls 14 [(0, .ref oX), (1, .ref sb), (2, .ref pa), (3, .int (nI f)), (4, .ref qa), (5, .int h9), (6, .int 0), (7, .int (-1)), (8, .int 0), (9, .int 1), (10, .int (nI k))] := hl
            have hP : va_P (dC, dI) vwCl [(pa, .inl (cI, 8, .inl pf)), (qa, .inl (cI, 4, .inl qf)), (oX, .inr (5, [.ref oS, .ref oR, .ref oN, .ref o2, .ref oF, .ref oT])), (oS, .inr (3, [.ref rv, .ref rs, .int (nI kc)])), (rv, .inl (cI, 385, .inl v)), (oF, .inr (0, [.ref oS, .ref oN])), (oN, .inr (1, [.ref oS, .ref rp, .ref rt, .ref rl])), (rp, .inl (cI, 72, .inl fp)), (rt, .inl (cI, 72, .inl ft)), (rl, .inl (cI, 72, .inl fl))] H := hP
            have hD : va_D A [(pa, .inl (cI, 8, .inl pf)), (qa, .inl (cI, 4, .inl qf)), (oX, .inr (5, [.ref oS, .ref oR, .ref oN, .ref o2, .ref oF, .ref oT])), (oS, .inr (3, [.ref rv, .ref rs, .int (nI kc)])), (rv, .inl (cI, 385, .inl v)), (oF, .inr (0, [.ref oS, .ref oN])), (oN, .inr (1, [.ref oS, .ref rp, .ref rt, .ref rl])), (rp, .inl (cI, 72, .inl fp)), (rt, .inl (cI, 72, .inl ft)), (rl, .inl (cI, 72, .inl fl))] := hD
            refine lv_iload hx hb dL_isFigure_107 (lv_at hl 10 rfl) ?_
            refine lv_iconst (v := 4) hx hb dL_isFigure_109 (by decide) ?_
            refine lv_icmp_ge (tgt := 261) hx hb dL_isFigure_110 (by decide) (fun c_277 => ?_) (fun c_277 => ?_)
            · skip
              have c_277 := kq_leN (a := 4) (b := k) c_277 (by omega) (by omega)
              refine lv_iload hx hb dL_isFigure_261 (lv_at hl 9 rfl) ?_
              exact kq_retMz (fp, ft, fl) hx hb hr hlocks (hP.sub [2, 3, 4, 5, 6, 7, 8, 9, 0, 1] rfl) (hD.sub [2, 3, 4, 5, 6, 7, 8, 9, 0, 1] (by decide) rfl) hS dL_isFigure_263 (Or.inr rfl) (by rfl)
            · skip
              have c_277 := kq_nleN (a := 4) (b := k) c_277 (by omega) (by omega)
              refine lv_iload hx hb dL_isFigure_113 (lv_at hl 10 rfl) ?_
              refine lv_if_ne (tgt := 128) hx hb dL_isFigure_115 (by decide) (fun c_278 => ?_) (fun c_278 => ?_)
              · skip
                have c_278 := kq_neN (a := k) (b := 0) c_278 (by omega) (by omega)
                refine lv_iload hx hb dL_isFigure_128 (lv_at hl 5 rfl) ?_
                refine lv_bipush (v := 7) hx hb dL_isFigure_130 (by decide) ?_
                refine lv_iload hx hb dL_isFigure_132 (lv_at hl 10 rfl) ?_
                refine lv_imul hx hb dL_isFigure_134 ?_
                refine kq_top (z := nI (7 * k)) (pk_mul 7 k) ?_
                refine lv_ishr hx hb dL_isFigure_135 ?_
                refine lv_bipush (v := 100) hx hb dL_isFigure_136 (by decide) ?_
                refine kq_cS (As := [.int (h9 >>> ((nI (7 * k)) &&& 31)), .int 100]) (rest := []) ⟨hx, hb, hml, hown, hts⟩ (c_L_low l dC dI cI (h9 >>> ((nI (7 * k)) &&& 31)) 100 (by first | assumption | omega) (by first | assumption | omega)) (va_cwS 2 hts gL_isFigure_L_low rfl rfl rfl (by decide +kernel) ⟨Nat.le_of_ble_eq_true rfl, Nat.le_of_ble_eq_true rfl⟩) (hP.sub [] rfl) hK rfl hl.1 rfl (Nat.le_of_ble_eq_true rfl) dL_isFigure_138 ⟨Nat.le_of_ble_eq_true rfl, Nat.le_of_ble_eq_true rfl⟩ ?_
                have hnb : n_lw (h9 >>> ((nI (7 * k)) &&& 31)) 100 < 100 := by first | omega | exact n_lw_lt (by decide)
                refine lv_istore (lv' := [(11, .int (nI (n_lw (h9 >>> ((nI (7 * k)) &&& 31)) 100))), (0, .ref oX), (1, .ref sb), (2, .ref pa), (3, .int (nI f)), (4, .ref qa), (5, .int h9), (6, .int 0), (7, .int (-1)), (8, .int 0), (9, .int 1), (10, .int (nI k))]) hx hb dL_isFigure_141 hl (by decide) rfl (fun ls hl => ?_)
                refine lv_aload_n hx hb dL_isFigure_143 rfl (lv_at hl 1 rfl) ?_
                refine lv_aload_n hx hb dL_isFigure_144 rfl (lv_at hl 2 rfl) ?_
                refine lv_aload_n hx hb dL_isFigure_145 rfl (lv_at hl 3 rfl) ?_
                refine lv_aload hx hb dL_isFigure_146 (lv_at hl 5 rfl) ?_
                refine lv_iload hx hb dL_isFigure_148 (lv_at hl 0 rfl) ?_
                refine kq_callMi (wr := [(oF, .inr (0, [.ref oS, .ref oN]))]) (va_runS (As := [.ref oX, .ref sb, .ref pa, .ref qa, .int (nI (n_lw (h9 >>> ((nI (7 * k)) &&& 31)) 100))]) (rest := []) ⟨hx, hb, hml, hown, hts⟩ (c_L_contrast l dC dI cI sb sL xs H.size oX oS oR oN o2 oF oT rv rs kc rp rt rl v fp ft fl pa pf qa f (n_lw (h9 >>> ((nI (7 * k)) &&& 31)) 100) qf (by first | assumption | omega) (by first | assumption | omega) (by first | assumption | omega) (by first | assumption | omega) (by first | assumption | omega) (by first | assumption | omega) (by first | assumption | omega) (by first | assumption | omega)) (va_cwS 5 hts gL_isFigure_L_contrast rfl rfl rfl (by decide +kernel) ⟨Nat.le_of_ble_eq_true rfl, Nat.le_of_ble_eq_true rfl⟩) (kq_preSX (hP.sub [2, 3, 4, 6, 7, 8, 9, 0, 1] rfl) (hD.sub [2, 3, 4, 6, 7, 8, 9, 0, 1] (by decide) rfl) hK (kq_xk hX hbl hbA hS) (fun q => hbA (va_free (wc := [(oX, .inr (5, [.ref oS, .ref oR, .ref oN, .ref o2, .ref oF, .ref oT])), (oS, .inr (3, [.ref rv, .ref rs, .int (nI kc)])), (rv, .inl (cI, 385, .inl v)), (oN, .inr (1, [.ref oS, .ref rp, .ref rt, .ref rl])), (rp, .inl (cI, 72, .inl fp)), (rt, .inl (cI, 72, .inl ft)), (rl, .inl (cI, 72, .inl fl)), (pa, .inl (cI, 8, .inl pf)), (qa, .inl (cI, 4, .inl qf))]) hD hS hA [2, 3, 4, 6, 7, 8, 9, 0, 1] rfl _ q))) rfl rfl hl.1 rfl (lv_room (Nat.le_of_ble_eq_true rfl)) dL_isFigure_150 ⟨Nat.le_of_ble_eq_true rfl, Nat.le_of_ble_eq_true rfl⟩) hP hD hS hA [2, 3, 4, 6, 7, 8, 9, 0, 1] [5] rfl rfl (by decide) (by decide) (fun r_279 u_280 H locs hw_281 hP hD hS => ?_)
                obtain ⟨gp_282, gt_283, gl_284⟩ := u_280
                have hP : va_P (dC, dI) vwCl [(oF, .inr (0, [.ref oS, .ref oN])), (oX, .inr (5, [.ref oS, .ref oR, .ref oN, .ref o2, .ref oF, .ref oT])), (oS, .inr (3, [.ref rv, .ref rs, .int (nI kc)])), (rv, .inl (cI, 385, .inl v)), (oN, .inr (1, [.ref oS, .ref rp, .ref rt, .ref rl])), (rp, .inl (cI, 72, .inl gp_282)), (rt, .inl (cI, 72, .inl gt_283)), (rl, .inl (cI, 72, .inl gl_284)), (pa, .inl (cI, 8, .inl pf)), (qa, .inl (cI, 4, .inl qf))] H := hP
                have hD : va_D A [(oF, .inr (0, [.ref oS, .ref oN])), (oX, .inr (5, [.ref oS, .ref oR, .ref oN, .ref o2, .ref oF, .ref oT])), (oS, .inr (3, [.ref rv, .ref rs, .int (nI kc)])), (rv, .inl (cI, 385, .inl v)), (oN, .inr (1, [.ref oS, .ref rp, .ref rt, .ref rl])), (rp, .inl (cI, 72, .inl gp_282)), (rt, .inl (cI, 72, .inl gt_283)), (rl, .inl (cI, 72, .inl gl_284)), (pa, .inl (cI, 8, .inl pf)), (qa, .inl (cI, 4, .inl qf))] := hD
                obtain rfl := hw_281
                refine lv_istore (lv' := [(12, .int (n_ct v f (n_lw (h9 >>> ((nI (7 * k)) &&& 31)) 100))), (11, .int (nI (n_lw (h9 >>> ((nI (7 * k)) &&& 31)) 100))), (0, .ref oX), (1, .ref sb), (2, .ref pa), (3, .int (nI f)), (4, .ref qa), (5, .int h9), (6, .int 0), (7, .int (-1)), (8, .int 0), (9, .int 1), (10, .int (nI k))]) hx hb dL_isFigure_153 hl (by decide) rfl (fun ls hl => ?_)
                refine kq_join (nL := 14) (L := [(12, .int (n_ct v f (n_lw (h9 >>> ((nI (7 * k)) &&& 31)) 100))), (11, .int (nI (n_lw (h9 >>> ((nI (7 * k)) &&& 31)) 100))), (0, .ref oX), (1, .ref sb), (2, .ref pa), (3, .int (nI f)), (4, .ref qa), (5, .int h9), (6, .int 0), (7, .int (-1)), (8, .int 0), (9, .int 1), (10, .int (nI k))]) (st := [.int (n_abs (n_ct v f (n_lw (h9 >>> ((nI (7 * k)) &&& 31)) 100)))]) (J := 168) ?_ (fun hJ_285 => ?_)
                · intro ls hl
                  have hl : lv_has ls 14 [(12, .int (n_ct v f (n_lw (h9 >>> ((nI (7 * k)) &&& 31)) 100))), (11, .int (nI (n_lw (h9 >>> ((nI (7 * k)) &&& 31)) 100))), (0, .ref oX), (1, .ref sb), (2, .ref pa), (3, .int (nI f)), (4, .ref qa), (5, .int h9), (6, .int 0), (7, .int (-1)), (8, .int 0), (9, .int 1), (10, .int (nI k))] := hl
                  refine lv_aload_n hx hb dL_isFigure_168 rfl (lv_at hl 2 rfl) ?_
                  refine lv_iconst (v := 2) hx hb dL_isFigure_169 (by decide) ?_
                  refine kq_callMi (wr := [(oF, .inr (0, [.ref oS, .ref oN])), (oN, .inr (1, [.ref oS, .ref rp, .ref rt, .ref rl])), (rp, .inl (cI, 72, .inl gp_282)), (rt, .inl (cI, 72, .inl gt_283)), (rl, .inl (cI, 72, .inl gl_284)), (pa, .inl (cI, 8, .inl pf)), (qa, .inl (cI, 4, .inl qf))]) (va_runV (As := [.int 2]) (rest := [.int (n_abs (n_ct v f (n_lw (h9 >>> ((nI (7 * k)) &&& 31)) 100)))]) ⟨hx, hb, hml, hown, hts⟩ (c_X5_setting l dC dI cI H.size oX oS oR oN o2 oF oT rv rs kc v 2 (by first | assumption | omega)) (cwV 1 hts gL_isFigure_X5_setting rfl rfl rfl (by decide +kernel) ⟨Nat.le_of_ble_eq_true rfl, Nat.le_of_ble_eq_true rfl⟩) (kq_preV (ci := 5) (q0 := 0) (hP.sub [1, 2, 3] rfl) (hD.sub [1, 2, 3] (by decide) rfl) hK rfl rfl) rfl rfl hl.1 rfl (lv_room (Nat.le_of_ble_eq_true rfl)) dL_isFigure_170 ⟨Nat.le_of_ble_eq_true rfl, Nat.le_of_ble_eq_true rfl⟩) hP hD hS hA [1, 2, 3] [0, 4, 5, 6, 7, 8, 9] rfl rfl (by decide) (by decide) (fun r_286 u_287 H locs hw_288 hP hD hS => ?_)
                  have hP : va_P (dC, dI) vwCl [(oF, .inr (0, [.ref oS, .ref oN])), (oN, .inr (1, [.ref oS, .ref rp, .ref rt, .ref rl])), (rp, .inl (cI, 72, .inl gp_282)), (rt, .inl (cI, 72, .inl gt_283)), (rl, .inl (cI, 72, .inl gl_284)), (pa, .inl (cI, 8, .inl pf)), (qa, .inl (cI, 4, .inl qf)), (oX, .inr (5, [.ref oS, .ref oR, .ref oN, .ref o2, .ref oF, .ref oT])), (oS, .inr (3, [.ref rv, .ref rs, .int (nI kc)])), (rv, .inl (cI, 385, .inl v))] H := hP
                  have hD : va_D A [(oF, .inr (0, [.ref oS, .ref oN])), (oN, .inr (1, [.ref oS, .ref rp, .ref rt, .ref rl])), (rp, .inl (cI, 72, .inl gp_282)), (rt, .inl (cI, 72, .inl gt_283)), (rl, .inl (cI, 72, .inl gl_284)), (pa, .inl (cI, 8, .inl pf)), (qa, .inl (cI, 4, .inl qf)), (oX, .inr (5, [.ref oS, .ref oR, .ref oN, .ref o2, .ref oF, .ref oT])), (oS, .inr (3, [.ref rv, .ref rs, .int (nI kc)])), (rv, .inl (cI, 385, .inl v))] := hD
                  obtain rfl := hw_288
                  refine kq_top (z := nI (n_s v 2)) ((n_I_s hI).2.2.2.2.2.1) ?_
                  refine lv_icmp_lt (tgt := 180) hx hb dL_isFigure_173 (by decide) (fun c_289 => ?_) (fun c_289 => ?_)
                  · skip
                    have hsv := n_sn_f (Int32.not_le.mpr c_289)
                    refine lv_iconst (v := 0) hx hb dL_isFigure_180 (by decide) ?_
                    refine lv_istore (lv' := [(13, .int 0), (12, .int (n_ct v f (n_lw (h9 >>> ((nI (7 * k)) &&& 31)) 100))), (11, .int (nI (n_lw (h9 >>> ((nI (7 * k)) &&& 31)) 100))), (0, .ref oX), (1, .ref sb), (2, .ref pa), (3, .int (nI f)), (4, .ref qa), (5, .int h9), (6, .int 0), (7, .int (-1)), (8, .int 0), (9, .int 1), (10, .int (nI k))]) hx hb dL_isFigure_181 hl (by decide) rfl (fun ls hl => ?_)
                    refine lv_iload hx hb dL_isFigure_183 (lv_at hl 12 rfl) ?_
                    refine lv_if_eq (tgt := 252) hx hb dL_isFigure_185 (by decide) (fun q => absurd q (by decide)) (fun _ => ?_)
                    refine lv_aload_n hx hb dL_isFigure_188 rfl (lv_at hl 3 rfl) ?_
                    refine lv_iload_n hx hb dL_isFigure_189 rfl (lv_at hl 6 rfl) ?_
                    refine lv_iload hx hb dL_isFigure_190 (lv_at hl 2 rfl) ?_
                    refine kq_callMi (wr := [(pa, .inl (cI, 8, .inl pf)), (qa, .inl (cI, 4, .inl qf))]) (va_runV (As := [.int (nI f), .int (nI (n_lw (h9 >>> ((nI (7 * k)) &&& 31)) 100))]) (rest := []) ⟨hx, hb, hml, hown, hts⟩ (c_X5_contrast l dC dI cI H.size oX oS oR oN o2 oF oT rv rs kc rp rt rl v gp_282 gt_283 gl_284 f (n_lw (h9 >>> ((nI (7 * k)) &&& 31)) 100) (by first | assumption | omega) (by first | assumption | omega) (by first | assumption | omega)) (cwV 2 hts gL_isFigure_X5_contrast rfl rfl rfl (by decide +kernel) ⟨Nat.le_of_ble_eq_true rfl, Nat.le_of_ble_eq_true rfl⟩) (kq_preV (ci := 5) (q0 := 0) (hP.sub [7, 8, 9, 0, 1, 2, 3, 4] rfl) (hD.sub [7, 8, 9, 0, 1, 2, 3, 4] (by decide) rfl) hK rfl rfl) rfl rfl hl.1 rfl (lv_room (Nat.le_of_ble_eq_true rfl)) dL_isFigure_192 ⟨Nat.le_of_ble_eq_true rfl, Nat.le_of_ble_eq_true rfl⟩) hP hD hS hA [7, 8, 9, 0, 1, 2, 3, 4] [5, 6] rfl rfl (by decide) (by decide) (fun r_291 u_292 H locs hw_293 hP hD hS => ?_)
                    obtain ⟨gp_294, gt_295, gl_296⟩ := u_292
                    have hP : va_P (dC, dI) vwCl [(pa, .inl (cI, 8, .inl pf)), (qa, .inl (cI, 4, .inl qf)), (oX, .inr (5, [.ref oS, .ref oR, .ref oN, .ref o2, .ref oF, .ref oT])), (oS, .inr (3, [.ref rv, .ref rs, .int (nI kc)])), (rv, .inl (cI, 385, .inl v)), (oF, .inr (0, [.ref oS, .ref oN])), (oN, .inr (1, [.ref oS, .ref rp, .ref rt, .ref rl])), (rp, .inl (cI, 72, .inl gp_294)), (rt, .inl (cI, 72, .inl gt_295)), (rl, .inl (cI, 72, .inl gl_296))] H := hP
                    have hD : va_D A [(pa, .inl (cI, 8, .inl pf)), (qa, .inl (cI, 4, .inl qf)), (oX, .inr (5, [.ref oS, .ref oR, .ref oN, .ref o2, .ref oF, .ref oT])), (oS, .inr (3, [.ref rv, .ref rs, .int (nI kc)])), (rv, .inl (cI, 385, .inl v)), (oF, .inr (0, [.ref oS, .ref oN])), (oN, .inr (1, [.ref oS, .ref rp, .ref rt, .ref rl])), (rp, .inl (cI, 72, .inl gp_294)), (rt, .inl (cI, 72, .inl gt_295)), (rl, .inl (cI, 72, .inl gl_296))] := hD
                    obtain rfl := hw_293
                    refine lv_iload hx hb dL_isFigure_195 (lv_at hl 1 rfl) ?_
                    refine lv_sipush (v := 1000) hx hb dL_isFigure_197 (by decide) ?_
                    refine lv_iadd hx hb dL_isFigure_200 ?_
                    refine lv_icmp_ne (tgt := 252) hx hb dL_isFigure_201 (by decide) (fun c_297 => ?_) (fun c_297 => ?_)
                    · skip
                      exact absurd (n_cn_p ht) c_297
                    · skip
                      refine lv_iload hx hb dL_isFigure_204 (lv_at hl 0 rfl) ?_
                      refine lv_if_eq (tgt := 221) hx hb dL_isFigure_206 (by decide) (fun _ => ?_) (fun q => absurd q (by decide))
                      refine lv_iload hx hb dL_isFigure_221 (lv_at hl 2 rfl) ?_
                      refine lv_iload hx hb dL_isFigure_223 (lv_at hl 10 rfl) ?_
                      refine lv_icmp_ne (tgt := 233) hx hb dL_isFigure_225 (by decide) (fun c_299 => ?_) (fun c_299 => ?_)
                      · skip
                        refine lv_iload hx hb dL_isFigure_233 (lv_at hl 0 rfl) ?_
                        refine lv_if_eq (tgt := 248) hx hb dL_isFigure_235 (by decide) (fun _ => ?_) (fun q => absurd q (by decide))
                        refine lv_iconst (v := 1) hx hb dL_isFigure_248 (by decide) ?_
                        refine lv_goto (tgt := 253) hx hb dL_isFigure_249 (by decide) ?_
                        refine lv_istore (lv' := [(9, .int 1), (13, .int 0), (12, .int (n_ct v f (n_lw (h9 >>> ((nI (7 * k)) &&& 31)) 100))), (11, .int (nI (n_lw (h9 >>> ((nI (7 * k)) &&& 31)) 100))), (0, .ref oX), (1, .ref sb), (2, .ref pa), (3, .int (nI f)), (4, .ref qa), (5, .int h9), (6, .int 0), (7, .int (-1)), (8, .int 0), (10, .int (nI k))]) hx hb dL_isFigure_253 hl (by decide) rfl (fun ls hl => ?_)
                        refine lv_iinc (v := nI (k + 1)) (lv' := [(10, .int (nI (k + 1))), (9, .int 1), (13, .int 0), (12, .int (n_ct v f (n_lw (h9 >>> ((nI (7 * k)) &&& 31)) 100))), (11, .int (nI (n_lw (h9 >>> ((nI (7 * k)) &&& 31)) 100))), (0, .ref oX), (1, .ref sb), (2, .ref pa), (3, .int (nI f)), (4, .ref qa), (5, .int h9), (6, .int 0), (7, .int (-1)), (8, .int 0)]) hx hb dL_isFigure_255 hl (k := 13) rfl (nI_1 k) (by decide) rfl (fun ls hl => ?_)
                        refine lv_goto (tgt := 107) hx hb dL_isFigure_258 (by decide) ?_
                        exact ih_275 (k + 1) gp_294 gt_295 gl_296 (by omega) (by show 4 - (k + 1) < 4 - k; omega) _ _ hP hD hS _ (lv_sub hl [5, 6, 7, 8, 9, 10, 11, 12, 13, 1, 0] rfl)
                      · skip
                        have hcs := c_299
                        exact absurd c_299 (nI_m1 (by omega))
                  · skip
                    have hsv := n_sn_t (Int32.not_lt.mp c_289)
                    refine lv_iconst (v := 1) hx hb dL_isFigure_176 (by decide) ?_
                    refine lv_goto (tgt := 181) hx hb dL_isFigure_177 (by decide) ?_
                    refine lv_istore (lv' := [(13, .int 1), (12, .int (n_ct v f (n_lw (h9 >>> ((nI (7 * k)) &&& 31)) 100))), (11, .int (nI (n_lw (h9 >>> ((nI (7 * k)) &&& 31)) 100))), (0, .ref oX), (1, .ref sb), (2, .ref pa), (3, .int (nI f)), (4, .ref qa), (5, .int h9), (6, .int 0), (7, .int (-1)), (8, .int 0), (9, .int 1), (10, .int (nI k))]) hx hb dL_isFigure_181 hl (by decide) rfl (fun ls hl => ?_)
                    refine lv_iload hx hb dL_isFigure_183 (lv_at hl 12 rfl) ?_
                    refine lv_if_eq (tgt := 252) hx hb dL_isFigure_185 (by decide) (fun q => absurd q (by decide)) (fun _ => ?_)
                    refine lv_aload_n hx hb dL_isFigure_188 rfl (lv_at hl 3 rfl) ?_
                    refine lv_iload_n hx hb dL_isFigure_189 rfl (lv_at hl 6 rfl) ?_
                    refine lv_iload hx hb dL_isFigure_190 (lv_at hl 2 rfl) ?_
                    refine kq_callMi (wr := [(pa, .inl (cI, 8, .inl pf)), (qa, .inl (cI, 4, .inl qf))]) (va_runV (As := [.int (nI f), .int (nI (n_lw (h9 >>> ((nI (7 * k)) &&& 31)) 100))]) (rest := []) ⟨hx, hb, hml, hown, hts⟩ (c_X5_contrast l dC dI cI H.size oX oS oR oN o2 oF oT rv rs kc rp rt rl v gp_282 gt_283 gl_284 f (n_lw (h9 >>> ((nI (7 * k)) &&& 31)) 100) (by first | assumption | omega) (by first | assumption | omega) (by first | assumption | omega)) (cwV 2 hts gL_isFigure_X5_contrast rfl rfl rfl (by decide +kernel) ⟨Nat.le_of_ble_eq_true rfl, Nat.le_of_ble_eq_true rfl⟩) (kq_preV (ci := 5) (q0 := 0) (hP.sub [7, 8, 9, 0, 1, 2, 3, 4] rfl) (hD.sub [7, 8, 9, 0, 1, 2, 3, 4] (by decide) rfl) hK rfl rfl) rfl rfl hl.1 rfl (lv_room (Nat.le_of_ble_eq_true rfl)) dL_isFigure_192 ⟨Nat.le_of_ble_eq_true rfl, Nat.le_of_ble_eq_true rfl⟩) hP hD hS hA [7, 8, 9, 0, 1, 2, 3, 4] [5, 6] rfl rfl (by decide) (by decide) (fun r_302 u_303 H locs hw_304 hP hD hS => ?_)
                    obtain ⟨gp_305, gt_306, gl_307⟩ := u_303
                    have hP : va_P (dC, dI) vwCl [(pa, .inl (cI, 8, .inl pf)), (qa, .inl (cI, 4, .inl qf)), (oX, .inr (5, [.ref oS, .ref oR, .ref oN, .ref o2, .ref oF, .ref oT])), (oS, .inr (3, [.ref rv, .ref rs, .int (nI kc)])), (rv, .inl (cI, 385, .inl v)), (oF, .inr (0, [.ref oS, .ref oN])), (oN, .inr (1, [.ref oS, .ref rp, .ref rt, .ref rl])), (rp, .inl (cI, 72, .inl gp_305)), (rt, .inl (cI, 72, .inl gt_306)), (rl, .inl (cI, 72, .inl gl_307))] H := hP
                    have hD : va_D A [(pa, .inl (cI, 8, .inl pf)), (qa, .inl (cI, 4, .inl qf)), (oX, .inr (5, [.ref oS, .ref oR, .ref oN, .ref o2, .ref oF, .ref oT])), (oS, .inr (3, [.ref rv, .ref rs, .int (nI kc)])), (rv, .inl (cI, 385, .inl v)), (oF, .inr (0, [.ref oS, .ref oN])), (oN, .inr (1, [.ref oS, .ref rp, .ref rt, .ref rl])), (rp, .inl (cI, 72, .inl gp_305)), (rt, .inl (cI, 72, .inl gt_306)), (rl, .inl (cI, 72, .inl gl_307))] := hD
                    obtain rfl := hw_304
                    refine lv_iload hx hb dL_isFigure_195 (lv_at hl 1 rfl) ?_
                    refine lv_sipush (v := 1000) hx hb dL_isFigure_197 (by decide) ?_
                    refine lv_iadd hx hb dL_isFigure_200 ?_
                    refine lv_icmp_ne (tgt := 252) hx hb dL_isFigure_201 (by decide) (fun c_308 => ?_) (fun c_308 => ?_)
                    · skip
                      exact absurd (n_cn_p ht) c_308
                    · skip
                      refine lv_iload hx hb dL_isFigure_204 (lv_at hl 0 rfl) ?_
                      refine lv_if_eq (tgt := 221) hx hb dL_isFigure_206 (by decide) (fun q => absurd q (by decide)) (fun _ => ?_)
                      refine lv_iload hx hb dL_isFigure_209 (lv_at hl 10 rfl) ?_
                      refine lv_if_lt (tgt := 252) hx hb dL_isFigure_211 (by decide) (fun _ => ?_) (fun q => absurd q (by decide))
                      first | exact absurd hsv (by rw [hs2 _ (by omega)]; decide) | exact absurd hs2 (by rw [← hcs, hsv]; decide)
                · skip
                  refine lv_iload hx hb dL_isFigure_155 (lv_at hl 0 rfl) ?_
                  refine lv_if_ge (tgt := 166) hx hb dL_isFigure_157 (by decide) (fun c_311 => ?_) (fun c_311 => ?_)
                  · skip
                    refine lv_iload hx hb dL_isFigure_166 (lv_at hl 0 rfl) ?_
                    refine kq_top (z := n_abs (n_ct v f (n_lw (h9 >>> ((nI (7 * k)) &&& 31)) 100))) (by unfold n_abs; first | rw [if_pos (by assumption)] | rw [if_neg (by assumption)]) ?_
                    exact hJ_285 _ (lv_sub hl [0, 1, 2, 3, 4, 5, 6, 7, 8, 9, 10, 11, 12] rfl)
                  · skip
                    refine lv_iload hx hb dL_isFigure_160 (lv_at hl 0 rfl) ?_
                    refine lv_ineg hx hb dL_isFigure_162 ?_
                    refine kq_top (z := 0 - (n_ct v f (n_lw (h9 >>> ((nI (7 * k)) &&& 31)) 100))) (n_ineg (n_ct v f (n_lw (h9 >>> ((nI (7 * k)) &&& 31)) 100))) ?_
                    refine lv_goto (tgt := 168) hx hb dL_isFigure_163 (by decide) ?_
                    refine kq_top (z := n_abs (n_ct v f (n_lw (h9 >>> ((nI (7 * k)) &&& 31)) 100))) (by unfold n_abs; first | rw [if_pos (by assumption)] | rw [if_neg (by assumption)]) ?_
                    exact hJ_285 _ (lv_sub hl [0, 1, 2, 3, 4, 5, 6, 7, 8, 9, 10, 11, 12] rfl)
              · skip
                have c_278 := kq_eqN (a := k) (b := 0) c_278 (by omega) (by omega)
                refine lv_iload hx hb dL_isFigure_118 (lv_at hl 7 rfl) ?_
                refine lv_if_lt (tgt := 128) hx hb dL_isFigure_120 (by decide) (fun _ => ?_) (fun q => absurd q (by decide))
                refine lv_iload hx hb dL_isFigure_128 (lv_at hl 5 rfl) ?_
                refine lv_bipush (v := 7) hx hb dL_isFigure_130 (by decide) ?_
                refine lv_iload hx hb dL_isFigure_132 (lv_at hl 10 rfl) ?_
                refine lv_imul hx hb dL_isFigure_134 ?_
                refine kq_top (z := nI (7 * k)) (pk_mul 7 k) ?_
                refine lv_ishr hx hb dL_isFigure_135 ?_
                refine lv_bipush (v := 100) hx hb dL_isFigure_136 (by decide) ?_
                refine kq_cS (As := [.int (h9 >>> ((nI (7 * k)) &&& 31)), .int 100]) (rest := []) ⟨hx, hb, hml, hown, hts⟩ (c_L_low l dC dI cI (h9 >>> ((nI (7 * k)) &&& 31)) 100 (by first | assumption | omega) (by first | assumption | omega)) (va_cwS 2 hts gL_isFigure_L_low rfl rfl rfl (by decide +kernel) ⟨Nat.le_of_ble_eq_true rfl, Nat.le_of_ble_eq_true rfl⟩) (hP.sub [] rfl) hK rfl hl.1 rfl (Nat.le_of_ble_eq_true rfl) dL_isFigure_138 ⟨Nat.le_of_ble_eq_true rfl, Nat.le_of_ble_eq_true rfl⟩ ?_
                have hnb : n_lw (h9 >>> ((nI (7 * k)) &&& 31)) 100 < 100 := by first | omega | exact n_lw_lt (by decide)
                refine lv_istore (lv' := [(11, .int (nI (n_lw (h9 >>> ((nI (7 * k)) &&& 31)) 100))), (0, .ref oX), (1, .ref sb), (2, .ref pa), (3, .int (nI f)), (4, .ref qa), (5, .int h9), (6, .int 0), (7, .int (-1)), (8, .int 0), (9, .int 1), (10, .int (nI k))]) hx hb dL_isFigure_141 hl (by decide) rfl (fun ls hl => ?_)
                refine lv_aload_n hx hb dL_isFigure_143 rfl (lv_at hl 1 rfl) ?_
                refine lv_aload_n hx hb dL_isFigure_144 rfl (lv_at hl 2 rfl) ?_
                refine lv_aload_n hx hb dL_isFigure_145 rfl (lv_at hl 3 rfl) ?_
                refine lv_aload hx hb dL_isFigure_146 (lv_at hl 5 rfl) ?_
                refine lv_iload hx hb dL_isFigure_148 (lv_at hl 0 rfl) ?_
                refine kq_callMi (wr := [(oF, .inr (0, [.ref oS, .ref oN]))]) (va_runS (As := [.ref oX, .ref sb, .ref pa, .ref qa, .int (nI (n_lw (h9 >>> ((nI (7 * k)) &&& 31)) 100))]) (rest := []) ⟨hx, hb, hml, hown, hts⟩ (c_L_contrast l dC dI cI sb sL xs H.size oX oS oR oN o2 oF oT rv rs kc rp rt rl v fp ft fl pa pf qa f (n_lw (h9 >>> ((nI (7 * k)) &&& 31)) 100) qf (by first | assumption | omega) (by first | assumption | omega) (by first | assumption | omega) (by first | assumption | omega) (by first | assumption | omega) (by first | assumption | omega) (by first | assumption | omega) (by first | assumption | omega)) (va_cwS 5 hts gL_isFigure_L_contrast rfl rfl rfl (by decide +kernel) ⟨Nat.le_of_ble_eq_true rfl, Nat.le_of_ble_eq_true rfl⟩) (kq_preSX (hP.sub [2, 3, 4, 6, 7, 8, 9, 0, 1] rfl) (hD.sub [2, 3, 4, 6, 7, 8, 9, 0, 1] (by decide) rfl) hK (kq_xk hX hbl hbA hS) (fun q => hbA (va_free (wc := [(oX, .inr (5, [.ref oS, .ref oR, .ref oN, .ref o2, .ref oF, .ref oT])), (oS, .inr (3, [.ref rv, .ref rs, .int (nI kc)])), (rv, .inl (cI, 385, .inl v)), (oN, .inr (1, [.ref oS, .ref rp, .ref rt, .ref rl])), (rp, .inl (cI, 72, .inl fp)), (rt, .inl (cI, 72, .inl ft)), (rl, .inl (cI, 72, .inl fl)), (pa, .inl (cI, 8, .inl pf)), (qa, .inl (cI, 4, .inl qf))]) hD hS hA [2, 3, 4, 6, 7, 8, 9, 0, 1] rfl _ q))) rfl rfl hl.1 rfl (lv_room (Nat.le_of_ble_eq_true rfl)) dL_isFigure_150 ⟨Nat.le_of_ble_eq_true rfl, Nat.le_of_ble_eq_true rfl⟩) hP hD hS hA [2, 3, 4, 6, 7, 8, 9, 0, 1] [5] rfl rfl (by decide) (by decide) (fun r_313 u_314 H locs hw_315 hP hD hS => ?_)
                obtain ⟨gp_316, gt_317, gl_318⟩ := u_314
                have hP : va_P (dC, dI) vwCl [(oF, .inr (0, [.ref oS, .ref oN])), (oX, .inr (5, [.ref oS, .ref oR, .ref oN, .ref o2, .ref oF, .ref oT])), (oS, .inr (3, [.ref rv, .ref rs, .int (nI kc)])), (rv, .inl (cI, 385, .inl v)), (oN, .inr (1, [.ref oS, .ref rp, .ref rt, .ref rl])), (rp, .inl (cI, 72, .inl gp_316)), (rt, .inl (cI, 72, .inl gt_317)), (rl, .inl (cI, 72, .inl gl_318)), (pa, .inl (cI, 8, .inl pf)), (qa, .inl (cI, 4, .inl qf))] H := hP
                have hD : va_D A [(oF, .inr (0, [.ref oS, .ref oN])), (oX, .inr (5, [.ref oS, .ref oR, .ref oN, .ref o2, .ref oF, .ref oT])), (oS, .inr (3, [.ref rv, .ref rs, .int (nI kc)])), (rv, .inl (cI, 385, .inl v)), (oN, .inr (1, [.ref oS, .ref rp, .ref rt, .ref rl])), (rp, .inl (cI, 72, .inl gp_316)), (rt, .inl (cI, 72, .inl gt_317)), (rl, .inl (cI, 72, .inl gl_318)), (pa, .inl (cI, 8, .inl pf)), (qa, .inl (cI, 4, .inl qf))] := hD
                obtain rfl := hw_315
                refine lv_istore (lv' := [(12, .int (n_ct v f (n_lw (h9 >>> ((nI (7 * k)) &&& 31)) 100))), (11, .int (nI (n_lw (h9 >>> ((nI (7 * k)) &&& 31)) 100))), (0, .ref oX), (1, .ref sb), (2, .ref pa), (3, .int (nI f)), (4, .ref qa), (5, .int h9), (6, .int 0), (7, .int (-1)), (8, .int 0), (9, .int 1), (10, .int (nI k))]) hx hb dL_isFigure_153 hl (by decide) rfl (fun ls hl => ?_)
                refine kq_join (nL := 14) (L := [(12, .int (n_ct v f (n_lw (h9 >>> ((nI (7 * k)) &&& 31)) 100))), (11, .int (nI (n_lw (h9 >>> ((nI (7 * k)) &&& 31)) 100))), (0, .ref oX), (1, .ref sb), (2, .ref pa), (3, .int (nI f)), (4, .ref qa), (5, .int h9), (6, .int 0), (7, .int (-1)), (8, .int 0), (9, .int 1), (10, .int (nI k))]) (st := [.int (n_abs (n_ct v f (n_lw (h9 >>> ((nI (7 * k)) &&& 31)) 100)))]) (J := 168) ?_ (fun hJ_319 => ?_)
                · intro ls hl
                  have hl : lv_has ls 14 [(12, .int (n_ct v f (n_lw (h9 >>> ((nI (7 * k)) &&& 31)) 100))), (11, .int (nI (n_lw (h9 >>> ((nI (7 * k)) &&& 31)) 100))), (0, .ref oX), (1, .ref sb), (2, .ref pa), (3, .int (nI f)), (4, .ref qa), (5, .int h9), (6, .int 0), (7, .int (-1)), (8, .int 0), (9, .int 1), (10, .int (nI k))] := hl
                  refine lv_aload_n hx hb dL_isFigure_168 rfl (lv_at hl 2 rfl) ?_
                  refine lv_iconst (v := 2) hx hb dL_isFigure_169 (by decide) ?_
                  refine kq_callMi (wr := [(oF, .inr (0, [.ref oS, .ref oN])), (oN, .inr (1, [.ref oS, .ref rp, .ref rt, .ref rl])), (rp, .inl (cI, 72, .inl gp_316)), (rt, .inl (cI, 72, .inl gt_317)), (rl, .inl (cI, 72, .inl gl_318)), (pa, .inl (cI, 8, .inl pf)), (qa, .inl (cI, 4, .inl qf))]) (va_runV (As := [.int 2]) (rest := [.int (n_abs (n_ct v f (n_lw (h9 >>> ((nI (7 * k)) &&& 31)) 100)))]) ⟨hx, hb, hml, hown, hts⟩ (c_X5_setting l dC dI cI H.size oX oS oR oN o2 oF oT rv rs kc v 2 (by first | assumption | omega)) (cwV 1 hts gL_isFigure_X5_setting rfl rfl rfl (by decide +kernel) ⟨Nat.le_of_ble_eq_true rfl, Nat.le_of_ble_eq_true rfl⟩) (kq_preV (ci := 5) (q0 := 0) (hP.sub [1, 2, 3] rfl) (hD.sub [1, 2, 3] (by decide) rfl) hK rfl rfl) rfl rfl hl.1 rfl (lv_room (Nat.le_of_ble_eq_true rfl)) dL_isFigure_170 ⟨Nat.le_of_ble_eq_true rfl, Nat.le_of_ble_eq_true rfl⟩) hP hD hS hA [1, 2, 3] [0, 4, 5, 6, 7, 8, 9] rfl rfl (by decide) (by decide) (fun r_320 u_321 H locs hw_322 hP hD hS => ?_)
                  have hP : va_P (dC, dI) vwCl [(oF, .inr (0, [.ref oS, .ref oN])), (oN, .inr (1, [.ref oS, .ref rp, .ref rt, .ref rl])), (rp, .inl (cI, 72, .inl gp_316)), (rt, .inl (cI, 72, .inl gt_317)), (rl, .inl (cI, 72, .inl gl_318)), (pa, .inl (cI, 8, .inl pf)), (qa, .inl (cI, 4, .inl qf)), (oX, .inr (5, [.ref oS, .ref oR, .ref oN, .ref o2, .ref oF, .ref oT])), (oS, .inr (3, [.ref rv, .ref rs, .int (nI kc)])), (rv, .inl (cI, 385, .inl v))] H := hP
                  have hD : va_D A [(oF, .inr (0, [.ref oS, .ref oN])), (oN, .inr (1, [.ref oS, .ref rp, .ref rt, .ref rl])), (rp, .inl (cI, 72, .inl gp_316)), (rt, .inl (cI, 72, .inl gt_317)), (rl, .inl (cI, 72, .inl gl_318)), (pa, .inl (cI, 8, .inl pf)), (qa, .inl (cI, 4, .inl qf)), (oX, .inr (5, [.ref oS, .ref oR, .ref oN, .ref o2, .ref oF, .ref oT])), (oS, .inr (3, [.ref rv, .ref rs, .int (nI kc)])), (rv, .inl (cI, 385, .inl v))] := hD
                  obtain rfl := hw_322
                  refine kq_top (z := nI (n_s v 2)) ((n_I_s hI).2.2.2.2.2.1) ?_
                  refine lv_icmp_lt (tgt := 180) hx hb dL_isFigure_173 (by decide) (fun c_323 => ?_) (fun c_323 => ?_)
                  · skip
                    have hsv := n_sn_f (Int32.not_le.mpr c_323)
                    refine lv_iconst (v := 0) hx hb dL_isFigure_180 (by decide) ?_
                    refine lv_istore (lv' := [(13, .int 0), (12, .int (n_ct v f (n_lw (h9 >>> ((nI (7 * k)) &&& 31)) 100))), (11, .int (nI (n_lw (h9 >>> ((nI (7 * k)) &&& 31)) 100))), (0, .ref oX), (1, .ref sb), (2, .ref pa), (3, .int (nI f)), (4, .ref qa), (5, .int h9), (6, .int 0), (7, .int (-1)), (8, .int 0), (9, .int 1), (10, .int (nI k))]) hx hb dL_isFigure_181 hl (by decide) rfl (fun ls hl => ?_)
                    refine lv_iload hx hb dL_isFigure_183 (lv_at hl 12 rfl) ?_
                    refine lv_if_eq (tgt := 252) hx hb dL_isFigure_185 (by decide) (fun q => absurd q (by decide)) (fun _ => ?_)
                    refine lv_aload_n hx hb dL_isFigure_188 rfl (lv_at hl 3 rfl) ?_
                    refine lv_iload_n hx hb dL_isFigure_189 rfl (lv_at hl 6 rfl) ?_
                    refine lv_iload hx hb dL_isFigure_190 (lv_at hl 2 rfl) ?_
                    refine kq_callMi (wr := [(pa, .inl (cI, 8, .inl pf)), (qa, .inl (cI, 4, .inl qf))]) (va_runV (As := [.int (nI f), .int (nI (n_lw (h9 >>> ((nI (7 * k)) &&& 31)) 100))]) (rest := []) ⟨hx, hb, hml, hown, hts⟩ (c_X5_contrast l dC dI cI H.size oX oS oR oN o2 oF oT rv rs kc rp rt rl v gp_316 gt_317 gl_318 f (n_lw (h9 >>> ((nI (7 * k)) &&& 31)) 100) (by first | assumption | omega) (by first | assumption | omega) (by first | assumption | omega)) (cwV 2 hts gL_isFigure_X5_contrast rfl rfl rfl (by decide +kernel) ⟨Nat.le_of_ble_eq_true rfl, Nat.le_of_ble_eq_true rfl⟩) (kq_preV (ci := 5) (q0 := 0) (hP.sub [7, 8, 9, 0, 1, 2, 3, 4] rfl) (hD.sub [7, 8, 9, 0, 1, 2, 3, 4] (by decide) rfl) hK rfl rfl) rfl rfl hl.1 rfl (lv_room (Nat.le_of_ble_eq_true rfl)) dL_isFigure_192 ⟨Nat.le_of_ble_eq_true rfl, Nat.le_of_ble_eq_true rfl⟩) hP hD hS hA [7, 8, 9, 0, 1, 2, 3, 4] [5, 6] rfl rfl (by decide) (by decide) (fun r_325 u_326 H locs hw_327 hP hD hS => ?_)
                    obtain ⟨gp_328, gt_329, gl_330⟩ := u_326
                    have hP : va_P (dC, dI) vwCl [(pa, .inl (cI, 8, .inl pf)), (qa, .inl (cI, 4, .inl qf)), (oX, .inr (5, [.ref oS, .ref oR, .ref oN, .ref o2, .ref oF, .ref oT])), (oS, .inr (3, [.ref rv, .ref rs, .int (nI kc)])), (rv, .inl (cI, 385, .inl v)), (oF, .inr (0, [.ref oS, .ref oN])), (oN, .inr (1, [.ref oS, .ref rp, .ref rt, .ref rl])), (rp, .inl (cI, 72, .inl gp_328)), (rt, .inl (cI, 72, .inl gt_329)), (rl, .inl (cI, 72, .inl gl_330))] H := hP
                    have hD : va_D A [(pa, .inl (cI, 8, .inl pf)), (qa, .inl (cI, 4, .inl qf)), (oX, .inr (5, [.ref oS, .ref oR, .ref oN, .ref o2, .ref oF, .ref oT])), (oS, .inr (3, [.ref rv, .ref rs, .int (nI kc)])), (rv, .inl (cI, 385, .inl v)), (oF, .inr (0, [.ref oS, .ref oN])), (oN, .inr (1, [.ref oS, .ref rp, .ref rt, .ref rl])), (rp, .inl (cI, 72, .inl gp_328)), (rt, .inl (cI, 72, .inl gt_329)), (rl, .inl (cI, 72, .inl gl_330))] := hD
                    obtain rfl := hw_327
                    refine lv_iload hx hb dL_isFigure_195 (lv_at hl 1 rfl) ?_
                    refine lv_sipush (v := 1000) hx hb dL_isFigure_197 (by decide) ?_
                    refine lv_iadd hx hb dL_isFigure_200 ?_
                    refine lv_icmp_ne (tgt := 252) hx hb dL_isFigure_201 (by decide) (fun c_331 => ?_) (fun c_331 => ?_)
                    · skip
                      exact absurd (n_cn_p ht) c_331
                    · skip
                      refine lv_iload hx hb dL_isFigure_204 (lv_at hl 0 rfl) ?_
                      refine lv_if_eq (tgt := 221) hx hb dL_isFigure_206 (by decide) (fun _ => ?_) (fun q => absurd q (by decide))
                      refine lv_iload hx hb dL_isFigure_221 (lv_at hl 2 rfl) ?_
                      refine lv_iload hx hb dL_isFigure_223 (lv_at hl 10 rfl) ?_
                      refine lv_icmp_ne (tgt := 233) hx hb dL_isFigure_225 (by decide) (fun c_333 => ?_) (fun c_333 => ?_)
                      · skip
                        refine lv_iload hx hb dL_isFigure_233 (lv_at hl 0 rfl) ?_
                        refine lv_if_eq (tgt := 248) hx hb dL_isFigure_235 (by decide) (fun _ => ?_) (fun q => absurd q (by decide))
                        refine lv_iconst (v := 1) hx hb dL_isFigure_248 (by decide) ?_
                        refine lv_goto (tgt := 253) hx hb dL_isFigure_249 (by decide) ?_
                        refine lv_istore (lv' := [(9, .int 1), (13, .int 0), (12, .int (n_ct v f (n_lw (h9 >>> ((nI (7 * k)) &&& 31)) 100))), (11, .int (nI (n_lw (h9 >>> ((nI (7 * k)) &&& 31)) 100))), (0, .ref oX), (1, .ref sb), (2, .ref pa), (3, .int (nI f)), (4, .ref qa), (5, .int h9), (6, .int 0), (7, .int (-1)), (8, .int 0), (10, .int (nI k))]) hx hb dL_isFigure_253 hl (by decide) rfl (fun ls hl => ?_)
                        refine lv_iinc (v := nI (k + 1)) (lv' := [(10, .int (nI (k + 1))), (9, .int 1), (13, .int 0), (12, .int (n_ct v f (n_lw (h9 >>> ((nI (7 * k)) &&& 31)) 100))), (11, .int (nI (n_lw (h9 >>> ((nI (7 * k)) &&& 31)) 100))), (0, .ref oX), (1, .ref sb), (2, .ref pa), (3, .int (nI f)), (4, .ref qa), (5, .int h9), (6, .int 0), (7, .int (-1)), (8, .int 0)]) hx hb dL_isFigure_255 hl (k := 13) rfl (nI_1 k) (by decide) rfl (fun ls hl => ?_)
                        refine lv_goto (tgt := 107) hx hb dL_isFigure_258 (by decide) ?_
                        exact ih_275 (k + 1) gp_328 gt_329 gl_330 (by omega) (by show 4 - (k + 1) < 4 - k; omega) _ _ hP hD hS _ (lv_sub hl [5, 6, 7, 8, 9, 10, 11, 12, 13, 1, 0] rfl)
                      · skip
                        have hcs := c_333
                        exact absurd c_333 (nI_m1 (by omega))
                  · skip
                    have hsv := n_sn_t (Int32.not_lt.mp c_323)
                    refine lv_iconst (v := 1) hx hb dL_isFigure_176 (by decide) ?_
                    refine lv_goto (tgt := 181) hx hb dL_isFigure_177 (by decide) ?_
                    refine lv_istore (lv' := [(13, .int 1), (12, .int (n_ct v f (n_lw (h9 >>> ((nI (7 * k)) &&& 31)) 100))), (11, .int (nI (n_lw (h9 >>> ((nI (7 * k)) &&& 31)) 100))), (0, .ref oX), (1, .ref sb), (2, .ref pa), (3, .int (nI f)), (4, .ref qa), (5, .int h9), (6, .int 0), (7, .int (-1)), (8, .int 0), (9, .int 1), (10, .int (nI k))]) hx hb dL_isFigure_181 hl (by decide) rfl (fun ls hl => ?_)
                    refine lv_iload hx hb dL_isFigure_183 (lv_at hl 12 rfl) ?_
                    refine lv_if_eq (tgt := 252) hx hb dL_isFigure_185 (by decide) (fun q => absurd q (by decide)) (fun _ => ?_)
                    refine lv_aload_n hx hb dL_isFigure_188 rfl (lv_at hl 3 rfl) ?_
                    refine lv_iload_n hx hb dL_isFigure_189 rfl (lv_at hl 6 rfl) ?_
                    refine lv_iload hx hb dL_isFigure_190 (lv_at hl 2 rfl) ?_
                    refine kq_callMi (wr := [(pa, .inl (cI, 8, .inl pf)), (qa, .inl (cI, 4, .inl qf))]) (va_runV (As := [.int (nI f), .int (nI (n_lw (h9 >>> ((nI (7 * k)) &&& 31)) 100))]) (rest := []) ⟨hx, hb, hml, hown, hts⟩ (c_X5_contrast l dC dI cI H.size oX oS oR oN o2 oF oT rv rs kc rp rt rl v gp_316 gt_317 gl_318 f (n_lw (h9 >>> ((nI (7 * k)) &&& 31)) 100) (by first | assumption | omega) (by first | assumption | omega) (by first | assumption | omega)) (cwV 2 hts gL_isFigure_X5_contrast rfl rfl rfl (by decide +kernel) ⟨Nat.le_of_ble_eq_true rfl, Nat.le_of_ble_eq_true rfl⟩) (kq_preV (ci := 5) (q0 := 0) (hP.sub [7, 8, 9, 0, 1, 2, 3, 4] rfl) (hD.sub [7, 8, 9, 0, 1, 2, 3, 4] (by decide) rfl) hK rfl rfl) rfl rfl hl.1 rfl (lv_room (Nat.le_of_ble_eq_true rfl)) dL_isFigure_192 ⟨Nat.le_of_ble_eq_true rfl, Nat.le_of_ble_eq_true rfl⟩) hP hD hS hA [7, 8, 9, 0, 1, 2, 3, 4] [5, 6] rfl rfl (by decide) (by decide) (fun r_336 u_337 H locs hw_338 hP hD hS => ?_)
                    obtain ⟨gp_339, gt_340, gl_341⟩ := u_337
                    have hP : va_P (dC, dI) vwCl [(pa, .inl (cI, 8, .inl pf)), (qa, .inl (cI, 4, .inl qf)), (oX, .inr (5, [.ref oS, .ref oR, .ref oN, .ref o2, .ref oF, .ref oT])), (oS, .inr (3, [.ref rv, .ref rs, .int (nI kc)])), (rv, .inl (cI, 385, .inl v)), (oF, .inr (0, [.ref oS, .ref oN])), (oN, .inr (1, [.ref oS, .ref rp, .ref rt, .ref rl])), (rp, .inl (cI, 72, .inl gp_339)), (rt, .inl (cI, 72, .inl gt_340)), (rl, .inl (cI, 72, .inl gl_341))] H := hP
                    have hD : va_D A [(pa, .inl (cI, 8, .inl pf)), (qa, .inl (cI, 4, .inl qf)), (oX, .inr (5, [.ref oS, .ref oR, .ref oN, .ref o2, .ref oF, .ref oT])), (oS, .inr (3, [.ref rv, .ref rs, .int (nI kc)])), (rv, .inl (cI, 385, .inl v)), (oF, .inr (0, [.ref oS, .ref oN])), (oN, .inr (1, [.ref oS, .ref rp, .ref rt, .ref rl])), (rp, .inl (cI, 72, .inl gp_339)), (rt, .inl (cI, 72, .inl gt_340)), (rl, .inl (cI, 72, .inl gl_341))] := hD
                    obtain rfl := hw_338
                    refine lv_iload hx hb dL_isFigure_195 (lv_at hl 1 rfl) ?_
                    refine lv_sipush (v := 1000) hx hb dL_isFigure_197 (by decide) ?_
                    refine lv_iadd hx hb dL_isFigure_200 ?_
                    refine lv_icmp_ne (tgt := 252) hx hb dL_isFigure_201 (by decide) (fun c_342 => ?_) (fun c_342 => ?_)
                    · skip
                      exact absurd (n_cn_p ht) c_342
                    · skip
                      refine lv_iload hx hb dL_isFigure_204 (lv_at hl 0 rfl) ?_
                      refine lv_if_eq (tgt := 221) hx hb dL_isFigure_206 (by decide) (fun q => absurd q (by decide)) (fun _ => ?_)
                      refine lv_iload hx hb dL_isFigure_209 (lv_at hl 10 rfl) ?_
                      refine lv_if_lt (tgt := 252) hx hb dL_isFigure_211 (by decide) (fun _ => ?_) (fun q => absurd q (by decide))
                      first | exact absurd hsv (by rw [hs2 _ (by omega)]; decide) | exact absurd hs2 (by rw [← hcs, hsv]; decide)
                · skip
                  refine lv_iload hx hb dL_isFigure_155 (lv_at hl 0 rfl) ?_
                  refine lv_if_ge (tgt := 166) hx hb dL_isFigure_157 (by decide) (fun c_345 => ?_) (fun c_345 => ?_)
                  · skip
                    refine lv_iload hx hb dL_isFigure_166 (lv_at hl 0 rfl) ?_
                    refine kq_top (z := n_abs (n_ct v f (n_lw (h9 >>> ((nI (7 * k)) &&& 31)) 100))) (by unfold n_abs; first | rw [if_pos (by assumption)] | rw [if_neg (by assumption)]) ?_
                    exact hJ_319 _ (lv_sub hl [0, 1, 2, 3, 4, 5, 6, 7, 8, 9, 10, 11, 12] rfl)
                  · skip
                    refine lv_iload hx hb dL_isFigure_160 (lv_at hl 0 rfl) ?_
                    refine lv_ineg hx hb dL_isFigure_162 ?_
                    refine kq_top (z := 0 - (n_ct v f (n_lw (h9 >>> ((nI (7 * k)) &&& 31)) 100))) (n_ineg (n_ct v f (n_lw (h9 >>> ((nI (7 * k)) &&& 31)) 100))) ?_
                    refine lv_goto (tgt := 168) hx hb dL_isFigure_163 (by decide) ?_
                    refine kq_top (z := n_abs (n_ct v f (n_lw (h9 >>> ((nI (7 * k)) &&& 31)) 100))) (by unfold n_abs; first | rw [if_pos (by assumption)] | rw [if_neg (by assumption)]) ?_
                    exact hJ_319 _ (lv_sub hl [0, 1, 2, 3, 4, 5, 6, 7, 8, 9, 10, 11, 12] rfl)
    · skip
      refine kq_top (z := nI sn) ((n_fo_3 ht).trans hs1) ?_
      refine lv_istore (lv' := [(7, .int (nI sn)), (6, .int 0), (0, .ref oX), (1, .ref sb), (2, .ref pa), (3, .int (nI f)), (4, .ref qa), (5, .int h9)]) hx hb dL_isFigure_14 hl (by decide) rfl (fun ls hl => ?_)
      refine lv_aload_n hx hb dL_isFigure_16 rfl (lv_at hl 2 rfl) ?_
      refine lv_iload_n hx hb dL_isFigure_17 rfl (lv_at hl 5 rfl) ?_
      refine lv_iconst (v := 4) hx hb dL_isFigure_18 (by decide) ?_
      refine kq_callMi (wr := [(pa, .inl (cI, 8, .inl pf)), (qa, .inl (cI, 4, .inl qf))]) (va_runV (As := [.int (nI f), .int 4]) (rest := []) ⟨hx, hb, hml, hown, hts⟩ (c_X5_figureOf l dC dI cI H.size oX oS oR oN o2 oF oT rv rs kc rp rt rl v gp_240 gt_241 gl_242 f 4 (by first | assumption | omega) (by first | assumption | omega) (by first | assumption | omega)) (cwV 2 hts gL_isFigure_X5_figureOf rfl rfl rfl (by decide +kernel) ⟨Nat.le_of_ble_eq_true rfl, Nat.le_of_ble_eq_true rfl⟩) (kq_preV (ci := 5) (q0 := 0) (hP.sub [2, 3, 4, 5, 6, 7, 8, 9] rfl) (hD.sub [2, 3, 4, 5, 6, 7, 8, 9] (by decide) rfl) hK rfl rfl) rfl rfl hl.1 rfl (lv_room (Nat.le_of_ble_eq_true rfl)) dL_isFigure_19 ⟨Nat.le_of_ble_eq_true rfl, Nat.le_of_ble_eq_true rfl⟩) hP hD hS hA [2, 3, 4, 5, 6, 7, 8, 9] [0, 1] rfl rfl (by decide) (by decide) (fun r_346 u_347 H locs hw_348 hP hD hS => ?_)
      obtain ⟨gp_349, gt_350, gl_351⟩ := u_347
      have hP : va_P (dC, dI) vwCl [(pa, .inl (cI, 8, .inl pf)), (qa, .inl (cI, 4, .inl qf)), (oX, .inr (5, [.ref oS, .ref oR, .ref oN, .ref o2, .ref oF, .ref oT])), (oS, .inr (3, [.ref rv, .ref rs, .int (nI kc)])), (rv, .inl (cI, 385, .inl v)), (oF, .inr (0, [.ref oS, .ref oN])), (oN, .inr (1, [.ref oS, .ref rp, .ref rt, .ref rl])), (rp, .inl (cI, 72, .inl gp_349)), (rt, .inl (cI, 72, .inl gt_350)), (rl, .inl (cI, 72, .inl gl_351))] H := hP
      have hD : va_D A [(pa, .inl (cI, 8, .inl pf)), (qa, .inl (cI, 4, .inl qf)), (oX, .inr (5, [.ref oS, .ref oR, .ref oN, .ref o2, .ref oF, .ref oT])), (oS, .inr (3, [.ref rv, .ref rs, .int (nI kc)])), (rv, .inl (cI, 385, .inl v)), (oF, .inr (0, [.ref oS, .ref oN])), (oN, .inr (1, [.ref oS, .ref rp, .ref rt, .ref rl])), (rp, .inl (cI, 72, .inl gp_349)), (rt, .inl (cI, 72, .inl gt_350)), (rl, .inl (cI, 72, .inl gl_351))] := hD
      obtain rfl := hw_348
      refine kq_top (z := 0) ((n_fo_4 ht).trans (n_gd_0 hhd)) ?_
      refine lv_istore (lv' := [(8, .int 0), (7, .int (nI sn)), (6, .int 0), (0, .ref oX), (1, .ref sb), (2, .ref pa), (3, .int (nI f)), (4, .ref qa), (5, .int h9)]) hx hb dL_isFigure_22 hl (by decide) rfl (fun ls hl => ?_)
      refine lv_aload_n hx hb dL_isFigure_24 rfl (lv_at hl 3 rfl) ?_
      refine lv_iload_n hx hb dL_isFigure_25 rfl (lv_at hl 6 rfl) ?_
      refine lv_iconst (v := 0) hx hb dL_isFigure_26 (by decide) ?_
      refine kq_callMi (wr := [(pa, .inl (cI, 8, .inl pf)), (qa, .inl (cI, 4, .inl qf))]) (va_runV (As := [.int (nI f), .int 0]) (rest := []) ⟨hx, hb, hml, hown, hts⟩ (c_X5_figureOf l dC dI cI H.size oX oS oR oN o2 oF oT rv rs kc rp rt rl v gp_349 gt_350 gl_351 f 0 (by first | assumption | omega) (by first | assumption | omega) (by first | assumption | omega)) (cwV 2 hts gL_isFigure_X5_figureOf rfl rfl rfl (by decide +kernel) ⟨Nat.le_of_ble_eq_true rfl, Nat.le_of_ble_eq_true rfl⟩) (kq_preV (ci := 5) (q0 := 0) (hP.sub [2, 3, 4, 5, 6, 7, 8, 9] rfl) (hD.sub [2, 3, 4, 5, 6, 7, 8, 9] (by decide) rfl) hK rfl rfl) rfl rfl hl.1 rfl (lv_room (Nat.le_of_ble_eq_true rfl)) dL_isFigure_27 ⟨Nat.le_of_ble_eq_true rfl, Nat.le_of_ble_eq_true rfl⟩) hP hD hS hA [2, 3, 4, 5, 6, 7, 8, 9] [0, 1] rfl rfl (by decide) (by decide) (fun r_352 u_353 H locs hw_354 hP hD hS => ?_)
      obtain ⟨gp_355, gt_356, gl_357⟩ := u_353
      have hP : va_P (dC, dI) vwCl [(pa, .inl (cI, 8, .inl pf)), (qa, .inl (cI, 4, .inl qf)), (oX, .inr (5, [.ref oS, .ref oR, .ref oN, .ref o2, .ref oF, .ref oT])), (oS, .inr (3, [.ref rv, .ref rs, .int (nI kc)])), (rv, .inl (cI, 385, .inl v)), (oF, .inr (0, [.ref oS, .ref oN])), (oN, .inr (1, [.ref oS, .ref rp, .ref rt, .ref rl])), (rp, .inl (cI, 72, .inl gp_355)), (rt, .inl (cI, 72, .inl gt_356)), (rl, .inl (cI, 72, .inl gl_357))] H := hP
      have hD : va_D A [(pa, .inl (cI, 8, .inl pf)), (qa, .inl (cI, 4, .inl qf)), (oX, .inr (5, [.ref oS, .ref oR, .ref oN, .ref o2, .ref oF, .ref oT])), (oS, .inr (3, [.ref rv, .ref rs, .int (nI kc)])), (rv, .inl (cI, 385, .inl v)), (oF, .inr (0, [.ref oS, .ref oN])), (oN, .inr (1, [.ref oS, .ref rp, .ref rt, .ref rl])), (rp, .inl (cI, 72, .inl gp_355)), (rt, .inl (cI, 72, .inl gt_356)), (rl, .inl (cI, 72, .inl gl_357))] := hD
      obtain rfl := hw_354
      refine lv_aload hx hb dL_isFigure_30 (lv_at hl 7 rfl) ?_
      refine lv_iconst (v := 2) hx hb dL_isFigure_32 (by decide) ?_
      refine va_iald hx hb hK.1 hP 1 0 rfl rfl (vp_in_nI (show 2 < 4 from by omega) (by omega)) dL_isFigure_33 ?_
      refine kq_top (z := qf 2) (congrArg qf (nI_clamp (Nat.lt_trans (show 2 < 4 from by omega) (by omega)))) ?_
      refine kq_top (z := nI (n_f v f 2)) (hq.2.2.1) ?_
      refine lv_aload hx hb dL_isFigure_34 (lv_at hl 7 rfl) ?_
      refine lv_iconst (v := 3) hx hb dL_isFigure_36 (by decide) ?_
      refine va_iald hx hb hK.1 hP 1 0 rfl rfl (vp_in_nI (show 3 < 4 from by omega) (by omega)) dL_isFigure_37 ?_
      refine kq_top (z := qf 3) (congrArg qf (nI_clamp (Nat.lt_trans (show 3 < 4 from by omega) (by omega)))) ?_
      refine kq_top (z := nI (n_f v f 3)) (hq.2.2.2) ?_
      refine lv_imul hx hb dL_isFigure_38 ?_
      refine kq_top (z := nI ((n_f v f 2) * (n_f v f 3))) (pk_mul (n_f v f 2) (n_f v f 3)) ?_
      refine lv_icmp_ne (tgt := 101) hx hb dL_isFigure_39 (by decide) (fun c_358 => ?_) (fun c_358 => ?_)
      · skip
        exact absurd (n_fo_0 ht) c_358
      · skip
        refine lv_aload_n hx hb dL_isFigure_42 rfl (lv_at hl 3 rfl) ?_
        refine lv_iload_n hx hb dL_isFigure_43 rfl (lv_at hl 6 rfl) ?_
        refine lv_iconst (v := 1) hx hb dL_isFigure_44 (by decide) ?_
        refine kq_callMi (wr := [(pa, .inl (cI, 8, .inl pf)), (qa, .inl (cI, 4, .inl qf))]) (va_runV (As := [.int (nI f), .int 1]) (rest := []) ⟨hx, hb, hml, hown, hts⟩ (c_X5_figureOf l dC dI cI H.size oX oS oR oN o2 oF oT rv rs kc rp rt rl v gp_355 gt_356 gl_357 f 1 (by first | assumption | omega) (by first | assumption | omega) (by first | assumption | omega)) (cwV 2 hts gL_isFigure_X5_figureOf rfl rfl rfl (by decide +kernel) ⟨Nat.le_of_ble_eq_true rfl, Nat.le_of_ble_eq_true rfl⟩) (kq_preV (ci := 5) (q0 := 0) (hP.sub [2, 3, 4, 5, 6, 7, 8, 9] rfl) (hD.sub [2, 3, 4, 5, 6, 7, 8, 9] (by decide) rfl) hK rfl rfl) rfl rfl hl.1 rfl (lv_room (Nat.le_of_ble_eq_true rfl)) dL_isFigure_45 ⟨Nat.le_of_ble_eq_true rfl, Nat.le_of_ble_eq_true rfl⟩) hP hD hS hA [2, 3, 4, 5, 6, 7, 8, 9] [0, 1] rfl rfl (by decide) (by decide) (fun r_359 u_360 H locs hw_361 hP hD hS => ?_)
        obtain ⟨gp_362, gt_363, gl_364⟩ := u_360
        have hP : va_P (dC, dI) vwCl [(pa, .inl (cI, 8, .inl pf)), (qa, .inl (cI, 4, .inl qf)), (oX, .inr (5, [.ref oS, .ref oR, .ref oN, .ref o2, .ref oF, .ref oT])), (oS, .inr (3, [.ref rv, .ref rs, .int (nI kc)])), (rv, .inl (cI, 385, .inl v)), (oF, .inr (0, [.ref oS, .ref oN])), (oN, .inr (1, [.ref oS, .ref rp, .ref rt, .ref rl])), (rp, .inl (cI, 72, .inl gp_362)), (rt, .inl (cI, 72, .inl gt_363)), (rl, .inl (cI, 72, .inl gl_364))] H := hP
        have hD : va_D A [(pa, .inl (cI, 8, .inl pf)), (qa, .inl (cI, 4, .inl qf)), (oX, .inr (5, [.ref oS, .ref oR, .ref oN, .ref o2, .ref oF, .ref oT])), (oS, .inr (3, [.ref rv, .ref rs, .int (nI kc)])), (rv, .inl (cI, 385, .inl v)), (oF, .inr (0, [.ref oS, .ref oN])), (oN, .inr (1, [.ref oS, .ref rp, .ref rt, .ref rl])), (rp, .inl (cI, 72, .inl gp_362)), (rt, .inl (cI, 72, .inl gt_363)), (rl, .inl (cI, 72, .inl gl_364))] := hD
        obtain rfl := hw_361
        refine lv_aload hx hb dL_isFigure_48 (lv_at hl 7 rfl) ?_
        refine kq_cS (As := [.ref qa]) (rest := [.int (n_fo v f 1)]) ⟨hx, hb, hml, hown, hts⟩ (c_L_frame l dC dI cI qa qf (n_f v f 0) (n_f v f 1) (n_f v f 2) (n_f v f 3) (by first | assumption | omega) (by first | assumption | omega) (by first | assumption | omega) (by first | assumption | omega) (by first | assumption | omega)) (va_cwS 1 hts gL_isFigure_L_frame rfl rfl rfl (by decide +kernel) ⟨Nat.le_of_ble_eq_true rfl, Nat.le_of_ble_eq_true rfl⟩) (hP.sub [1] rfl) hK rfl hl.1 rfl (Nat.le_of_ble_eq_true rfl) dL_isFigure_50 ⟨Nat.le_of_ble_eq_true rfl, Nat.le_of_ble_eq_true rfl⟩ ?_
        refine lv_icmp_ne (tgt := 101) hx hb dL_isFigure_53 (by decide) (fun c_365 => ?_) (fun c_365 => ?_)
        · skip
          exact absurd (n_fo_1 ht) c_365
        · skip
          refine lv_aload_n hx hb dL_isFigure_56 rfl (lv_at hl 3 rfl) ?_
          refine lv_iload_n hx hb dL_isFigure_57 rfl (lv_at hl 6 rfl) ?_
          refine lv_iconst (v := 2) hx hb dL_isFigure_58 (by decide) ?_
          refine kq_callMi (wr := [(pa, .inl (cI, 8, .inl pf)), (qa, .inl (cI, 4, .inl qf))]) (va_runV (As := [.int (nI f), .int 2]) (rest := []) ⟨hx, hb, hml, hown, hts⟩ (c_X5_figureOf l dC dI cI H.size oX oS oR oN o2 oF oT rv rs kc rp rt rl v gp_362 gt_363 gl_364 f 2 (by first | assumption | omega) (by first | assumption | omega) (by first | assumption | omega)) (cwV 2 hts gL_isFigure_X5_figureOf rfl rfl rfl (by decide +kernel) ⟨Nat.le_of_ble_eq_true rfl, Nat.le_of_ble_eq_true rfl⟩) (kq_preV (ci := 5) (q0 := 0) (hP.sub [2, 3, 4, 5, 6, 7, 8, 9] rfl) (hD.sub [2, 3, 4, 5, 6, 7, 8, 9] (by decide) rfl) hK rfl rfl) rfl rfl hl.1 rfl (lv_room (Nat.le_of_ble_eq_true rfl)) dL_isFigure_59 ⟨Nat.le_of_ble_eq_true rfl, Nat.le_of_ble_eq_true rfl⟩) hP hD hS hA [2, 3, 4, 5, 6, 7, 8, 9] [0, 1] rfl rfl (by decide) (by decide) (fun r_366 u_367 H locs hw_368 hP hD hS => ?_)
          obtain ⟨gp_369, gt_370, gl_371⟩ := u_367
          have hP : va_P (dC, dI) vwCl [(pa, .inl (cI, 8, .inl pf)), (qa, .inl (cI, 4, .inl qf)), (oX, .inr (5, [.ref oS, .ref oR, .ref oN, .ref o2, .ref oF, .ref oT])), (oS, .inr (3, [.ref rv, .ref rs, .int (nI kc)])), (rv, .inl (cI, 385, .inl v)), (oF, .inr (0, [.ref oS, .ref oN])), (oN, .inr (1, [.ref oS, .ref rp, .ref rt, .ref rl])), (rp, .inl (cI, 72, .inl gp_369)), (rt, .inl (cI, 72, .inl gt_370)), (rl, .inl (cI, 72, .inl gl_371))] H := hP
          have hD : va_D A [(pa, .inl (cI, 8, .inl pf)), (qa, .inl (cI, 4, .inl qf)), (oX, .inr (5, [.ref oS, .ref oR, .ref oN, .ref o2, .ref oF, .ref oT])), (oS, .inr (3, [.ref rv, .ref rs, .int (nI kc)])), (rv, .inl (cI, 385, .inl v)), (oF, .inr (0, [.ref oS, .ref oN])), (oN, .inr (1, [.ref oS, .ref rp, .ref rt, .ref rl])), (rp, .inl (cI, 72, .inl gp_369)), (rt, .inl (cI, 72, .inl gt_370)), (rl, .inl (cI, 72, .inl gl_371))] := hD
          obtain rfl := hw_368
          refine lv_iload hx hb dL_isFigure_62 (lv_at hl 2 rfl) ?_
          refine lv_if_eq (tgt := 71) hx hb dL_isFigure_64 (by decide) (fun _ => ?_) (fun q => absurd q (by decide))
          refine lv_iconst (v := 0) hx hb dL_isFigure_71 (by decide) ?_
          refine lv_icmp_ne (tgt := 101) hx hb dL_isFigure_72 (by decide) (fun c_373 => ?_) (fun c_373 => ?_)
          · skip
            first | exact absurd ((n_fo_2 ht).trans (if_pos hhd)) c_373 | exact absurd ((n_fo_2 ht).trans (if_neg hhd)) c_373
          · skip
            refine lv_iload hx hb dL_isFigure_75 (lv_at hl 2 rfl) ?_
            refine lv_if_ne (tgt := 85) hx hb dL_isFigure_77 (by decide) (fun q => absurd q (by decide)) (fun _ => ?_)
            refine lv_iload hx hb dL_isFigure_80 (lv_at hl 0 rfl) ?_
            refine lv_if_ne (tgt := 101) hx hb dL_isFigure_82 (by decide) (fun q => absurd q (by decide)) (fun _ => ?_)
            refine lv_iload hx hb dL_isFigure_85 (lv_at hl 0 rfl) ?_
            refine lv_if_lt (tgt := 101) hx hb dL_isFigure_87 (by decide) (fun q => absurd q (by decide)) (fun _ => ?_)
            refine lv_iload hx hb dL_isFigure_90 (lv_at hl 0 rfl) ?_
            refine lv_bipush (v := 100) hx hb dL_isFigure_92 (by decide) ?_
            refine lv_icmp_gt (tgt := 101) hx hb dL_isFigure_94 (by decide) (fun q => absurd q (by decide)) (fun _ => ?_)
            refine lv_iconst (v := 1) hx hb dL_isFigure_97 (by decide) ?_
            refine lv_goto (tgt := 102) hx hb dL_isFigure_98 (by decide) ?_
            refine lv_istore (lv' := [(9, .int 1), (8, .int 0), (7, .int (nI sn)), (6, .int 0), (0, .ref oX), (1, .ref sb), (2, .ref pa), (3, .int (nI f)), (4, .ref qa), (5, .int h9)]) hx hb dL_isFigure_102 hl (by decide) rfl (fun ls hl => ?_)
            refine lv_iconst (v := 0) hx hb dL_isFigure_104 (by decide) ?_
            refine lv_istore (lv' := [(10, .int 0), (9, .int 1), (8, .int 0), (7, .int (nI sn)), (6, .int 0), (0, .ref oX), (1, .ref sb), (2, .ref pa), (3, .int (nI f)), (4, .ref qa), (5, .int h9)]) hx hb dL_isFigure_105 hl (by decide) rfl (fun ls hl => ?_)
            refine kq_loopM4 (A1 := Nat) (A2 := Nat → Int32) (A3 := Nat → Int32) (A4 := Nat → Int32) (fun (k : Nat) (fp : Nat → Int32) (ft : Nat → Int32) (fl : Nat → Int32) => 4 - k) (fun (k : Nat) (fp : Nat → Int32) (ft : Nat → Int32) (fl : Nat → Int32) => (k ≤ 4)) (fun (k : Nat) (fp : Nat → Int32) (ft : Nat → Int32) (fl : Nat → Int32) => [(0, .ref oX), (1, .ref sb), (2, .ref pa), (3, .int (nI f)), (4, .ref qa), (5, .int h9), (6, .int 0), (7, .int (nI sn)), (8, .int 0), (9, .int 1), (10, .int (nI k))]) (fun (k : Nat) (fp : Nat → Int32) (ft : Nat → Int32) (fl : Nat → Int32) => [(pa, .inl (cI, 8, .inl pf)), (qa, .inl (cI, 4, .inl qf)), (oX, .inr (5, [.ref oS, .ref oR, .ref oN, .ref o2, .ref oF, .ref oT])), (oS, .inr (3, [.ref rv, .ref rs, .int (nI kc)])), (rv, .inl (cI, 385, .inl v)), (oF, .inr (0, [.ref oS, .ref oN])), (oN, .inr (1, [.ref oS, .ref rp, .ref rt, .ref rl])), (rp, .inl (cI, 72, .inl fp)), (rt, .inl (cI, 72, .inl ft)), (rl, .inl (cI, 72, .inl fl))]) (nL := 14) hK ?_ 0 gp_369 gt_370 gl_371 (by omega) hP hD hS _ (lv_sub hl [5, 6, 7, 8, 9, 10, 4, 3, 2, 1, 0] rfl)
            intro k fp ft fl hi_379 ih_378 H locs hP hD hS ls hl
            have ik : k ≤ 4 := hi_379
            have hl : lv_has ls 14 [(0, .ref oX), (1, .ref sb), (2, .ref pa), (3, .int (nI f)), (4, .ref qa), (5, .int h9), (6, .int 0), (7, .int (nI sn)), (8, .int 0), (9, .int 1), (10, .int (nI k))] := hl
            have hP : va_P (dC, dI) vwCl [(pa, .inl (cI, 8, .inl pf)), (qa, .inl (cI, 4, .inl qf)), (oX, .inr (5, [.ref oS, .ref oR, .ref oN, .ref o2, .ref oF, .ref oT])), (oS, .inr (3, [.ref rv, .ref rs, .int (nI kc)])), (rv, .inl (cI, 385, .inl v)), (oF, .inr (0, [.ref oS, .ref oN])), (oN, .inr (1, [.ref oS, .ref rp, .ref rt, .ref rl])), (rp, .inl (cI, 72, .inl fp)), (rt, .inl (cI, 72, .inl ft)), (rl, .inl (cI, 72, .inl fl))] H := hP
            have hD : va_D A [(pa, .inl (cI, 8, .inl pf)), (qa, .inl (cI, 4, .inl qf)), (oX, .inr (5, [.ref oS, .ref oR, .ref oN, .ref o2, .ref oF, .ref oT])), (oS, .inr (3, [.ref rv, .ref rs, .int (nI kc)])), (rv, .inl (cI, 385, .inl v)), (oF, .inr (0, [.ref oS, .ref oN])), (oN, .inr (1, [.ref oS, .ref rp, .ref rt, .ref rl])), (rp, .inl (cI, 72, .inl fp)), (rt, .inl (cI, 72, .inl ft)), (rl, .inl (cI, 72, .inl fl))] := hD
            refine lv_iload hx hb dL_isFigure_107 (lv_at hl 10 rfl) ?_
            refine lv_iconst (v := 4) hx hb dL_isFigure_109 (by decide) ?_
            refine lv_icmp_ge (tgt := 261) hx hb dL_isFigure_110 (by decide) (fun c_380 => ?_) (fun c_380 => ?_)
            · skip
              have c_380 := kq_leN (a := 4) (b := k) c_380 (by omega) (by omega)
              refine lv_iload hx hb dL_isFigure_261 (lv_at hl 9 rfl) ?_
              exact kq_retMz (fp, ft, fl) hx hb hr hlocks (hP.sub [2, 3, 4, 5, 6, 7, 8, 9, 0, 1] rfl) (hD.sub [2, 3, 4, 5, 6, 7, 8, 9, 0, 1] (by decide) rfl) hS dL_isFigure_263 (Or.inr rfl) (by rfl)
            · skip
              have c_380 := kq_nleN (a := 4) (b := k) c_380 (by omega) (by omega)
              refine lv_iload hx hb dL_isFigure_113 (lv_at hl 10 rfl) ?_
              refine lv_if_ne (tgt := 128) hx hb dL_isFigure_115 (by decide) (fun c_381 => ?_) (fun c_381 => ?_)
              · skip
                have c_381 := kq_neN (a := k) (b := 0) c_381 (by omega) (by omega)
                refine lv_iload hx hb dL_isFigure_128 (lv_at hl 5 rfl) ?_
                refine lv_bipush (v := 7) hx hb dL_isFigure_130 (by decide) ?_
                refine lv_iload hx hb dL_isFigure_132 (lv_at hl 10 rfl) ?_
                refine lv_imul hx hb dL_isFigure_134 ?_
                refine kq_top (z := nI (7 * k)) (pk_mul 7 k) ?_
                refine lv_ishr hx hb dL_isFigure_135 ?_
                refine lv_bipush (v := 100) hx hb dL_isFigure_136 (by decide) ?_
                refine kq_cS (As := [.int (h9 >>> ((nI (7 * k)) &&& 31)), .int 100]) (rest := []) ⟨hx, hb, hml, hown, hts⟩ (c_L_low l dC dI cI (h9 >>> ((nI (7 * k)) &&& 31)) 100 (by first | assumption | omega) (by first | assumption | omega)) (va_cwS 2 hts gL_isFigure_L_low rfl rfl rfl (by decide +kernel) ⟨Nat.le_of_ble_eq_true rfl, Nat.le_of_ble_eq_true rfl⟩) (hP.sub [] rfl) hK rfl hl.1 rfl (Nat.le_of_ble_eq_true rfl) dL_isFigure_138 ⟨Nat.le_of_ble_eq_true rfl, Nat.le_of_ble_eq_true rfl⟩ ?_
                have hnb : n_lw (h9 >>> ((nI (7 * k)) &&& 31)) 100 < 100 := by first | omega | exact n_lw_lt (by decide)
                refine lv_istore (lv' := [(11, .int (nI (n_lw (h9 >>> ((nI (7 * k)) &&& 31)) 100))), (0, .ref oX), (1, .ref sb), (2, .ref pa), (3, .int (nI f)), (4, .ref qa), (5, .int h9), (6, .int 0), (7, .int (nI sn)), (8, .int 0), (9, .int 1), (10, .int (nI k))]) hx hb dL_isFigure_141 hl (by decide) rfl (fun ls hl => ?_)
                refine lv_aload_n hx hb dL_isFigure_143 rfl (lv_at hl 1 rfl) ?_
                refine lv_aload_n hx hb dL_isFigure_144 rfl (lv_at hl 2 rfl) ?_
                refine lv_aload_n hx hb dL_isFigure_145 rfl (lv_at hl 3 rfl) ?_
                refine lv_aload hx hb dL_isFigure_146 (lv_at hl 5 rfl) ?_
                refine lv_iload hx hb dL_isFigure_148 (lv_at hl 0 rfl) ?_
                refine kq_callMi (wr := [(oF, .inr (0, [.ref oS, .ref oN]))]) (va_runS (As := [.ref oX, .ref sb, .ref pa, .ref qa, .int (nI (n_lw (h9 >>> ((nI (7 * k)) &&& 31)) 100))]) (rest := []) ⟨hx, hb, hml, hown, hts⟩ (c_L_contrast l dC dI cI sb sL xs H.size oX oS oR oN o2 oF oT rv rs kc rp rt rl v fp ft fl pa pf qa f (n_lw (h9 >>> ((nI (7 * k)) &&& 31)) 100) qf (by first | assumption | omega) (by first | assumption | omega) (by first | assumption | omega) (by first | assumption | omega) (by first | assumption | omega) (by first | assumption | omega) (by first | assumption | omega) (by first | assumption | omega)) (va_cwS 5 hts gL_isFigure_L_contrast rfl rfl rfl (by decide +kernel) ⟨Nat.le_of_ble_eq_true rfl, Nat.le_of_ble_eq_true rfl⟩) (kq_preSX (hP.sub [2, 3, 4, 6, 7, 8, 9, 0, 1] rfl) (hD.sub [2, 3, 4, 6, 7, 8, 9, 0, 1] (by decide) rfl) hK (kq_xk hX hbl hbA hS) (fun q => hbA (va_free (wc := [(oX, .inr (5, [.ref oS, .ref oR, .ref oN, .ref o2, .ref oF, .ref oT])), (oS, .inr (3, [.ref rv, .ref rs, .int (nI kc)])), (rv, .inl (cI, 385, .inl v)), (oN, .inr (1, [.ref oS, .ref rp, .ref rt, .ref rl])), (rp, .inl (cI, 72, .inl fp)), (rt, .inl (cI, 72, .inl ft)), (rl, .inl (cI, 72, .inl fl)), (pa, .inl (cI, 8, .inl pf)), (qa, .inl (cI, 4, .inl qf))]) hD hS hA [2, 3, 4, 6, 7, 8, 9, 0, 1] rfl _ q))) rfl rfl hl.1 rfl (lv_room (Nat.le_of_ble_eq_true rfl)) dL_isFigure_150 ⟨Nat.le_of_ble_eq_true rfl, Nat.le_of_ble_eq_true rfl⟩) hP hD hS hA [2, 3, 4, 6, 7, 8, 9, 0, 1] [5] rfl rfl (by decide) (by decide) (fun r_382 u_383 H locs hw_384 hP hD hS => ?_)
                obtain ⟨gp_385, gt_386, gl_387⟩ := u_383
                have hP : va_P (dC, dI) vwCl [(oF, .inr (0, [.ref oS, .ref oN])), (oX, .inr (5, [.ref oS, .ref oR, .ref oN, .ref o2, .ref oF, .ref oT])), (oS, .inr (3, [.ref rv, .ref rs, .int (nI kc)])), (rv, .inl (cI, 385, .inl v)), (oN, .inr (1, [.ref oS, .ref rp, .ref rt, .ref rl])), (rp, .inl (cI, 72, .inl gp_385)), (rt, .inl (cI, 72, .inl gt_386)), (rl, .inl (cI, 72, .inl gl_387)), (pa, .inl (cI, 8, .inl pf)), (qa, .inl (cI, 4, .inl qf))] H := hP
                have hD : va_D A [(oF, .inr (0, [.ref oS, .ref oN])), (oX, .inr (5, [.ref oS, .ref oR, .ref oN, .ref o2, .ref oF, .ref oT])), (oS, .inr (3, [.ref rv, .ref rs, .int (nI kc)])), (rv, .inl (cI, 385, .inl v)), (oN, .inr (1, [.ref oS, .ref rp, .ref rt, .ref rl])), (rp, .inl (cI, 72, .inl gp_385)), (rt, .inl (cI, 72, .inl gt_386)), (rl, .inl (cI, 72, .inl gl_387)), (pa, .inl (cI, 8, .inl pf)), (qa, .inl (cI, 4, .inl qf))] := hD
                obtain rfl := hw_384
                refine lv_istore (lv' := [(12, .int (n_ct v f (n_lw (h9 >>> ((nI (7 * k)) &&& 31)) 100))), (11, .int (nI (n_lw (h9 >>> ((nI (7 * k)) &&& 31)) 100))), (0, .ref oX), (1, .ref sb), (2, .ref pa), (3, .int (nI f)), (4, .ref qa), (5, .int h9), (6, .int 0), (7, .int (nI sn)), (8, .int 0), (9, .int 1), (10, .int (nI k))]) hx hb dL_isFigure_153 hl (by decide) rfl (fun ls hl => ?_)
                refine kq_join (nL := 14) (L := [(12, .int (n_ct v f (n_lw (h9 >>> ((nI (7 * k)) &&& 31)) 100))), (11, .int (nI (n_lw (h9 >>> ((nI (7 * k)) &&& 31)) 100))), (0, .ref oX), (1, .ref sb), (2, .ref pa), (3, .int (nI f)), (4, .ref qa), (5, .int h9), (6, .int 0), (7, .int (nI sn)), (8, .int 0), (9, .int 1), (10, .int (nI k))]) (st := [.int (n_abs (n_ct v f (n_lw (h9 >>> ((nI (7 * k)) &&& 31)) 100)))]) (J := 168) ?_ (fun hJ_388 => ?_)
                · intro ls hl
                  have hl : lv_has ls 14 [(12, .int (n_ct v f (n_lw (h9 >>> ((nI (7 * k)) &&& 31)) 100))), (11, .int (nI (n_lw (h9 >>> ((nI (7 * k)) &&& 31)) 100))), (0, .ref oX), (1, .ref sb), (2, .ref pa), (3, .int (nI f)), (4, .ref qa), (5, .int h9), (6, .int 0), (7, .int (nI sn)), (8, .int 0), (9, .int 1), (10, .int (nI k))] := hl
                  refine lv_aload_n hx hb dL_isFigure_168 rfl (lv_at hl 2 rfl) ?_
                  refine lv_iconst (v := 2) hx hb dL_isFigure_169 (by decide) ?_
                  refine kq_callMi (wr := [(oF, .inr (0, [.ref oS, .ref oN])), (oN, .inr (1, [.ref oS, .ref rp, .ref rt, .ref rl])), (rp, .inl (cI, 72, .inl gp_385)), (rt, .inl (cI, 72, .inl gt_386)), (rl, .inl (cI, 72, .inl gl_387)), (pa, .inl (cI, 8, .inl pf)), (qa, .inl (cI, 4, .inl qf))]) (va_runV (As := [.int 2]) (rest := [.int (n_abs (n_ct v f (n_lw (h9 >>> ((nI (7 * k)) &&& 31)) 100)))]) ⟨hx, hb, hml, hown, hts⟩ (c_X5_setting l dC dI cI H.size oX oS oR oN o2 oF oT rv rs kc v 2 (by first | assumption | omega)) (cwV 1 hts gL_isFigure_X5_setting rfl rfl rfl (by decide +kernel) ⟨Nat.le_of_ble_eq_true rfl, Nat.le_of_ble_eq_true rfl⟩) (kq_preV (ci := 5) (q0 := 0) (hP.sub [1, 2, 3] rfl) (hD.sub [1, 2, 3] (by decide) rfl) hK rfl rfl) rfl rfl hl.1 rfl (lv_room (Nat.le_of_ble_eq_true rfl)) dL_isFigure_170 ⟨Nat.le_of_ble_eq_true rfl, Nat.le_of_ble_eq_true rfl⟩) hP hD hS hA [1, 2, 3] [0, 4, 5, 6, 7, 8, 9] rfl rfl (by decide) (by decide) (fun r_389 u_390 H locs hw_391 hP hD hS => ?_)
                  have hP : va_P (dC, dI) vwCl [(oF, .inr (0, [.ref oS, .ref oN])), (oN, .inr (1, [.ref oS, .ref rp, .ref rt, .ref rl])), (rp, .inl (cI, 72, .inl gp_385)), (rt, .inl (cI, 72, .inl gt_386)), (rl, .inl (cI, 72, .inl gl_387)), (pa, .inl (cI, 8, .inl pf)), (qa, .inl (cI, 4, .inl qf)), (oX, .inr (5, [.ref oS, .ref oR, .ref oN, .ref o2, .ref oF, .ref oT])), (oS, .inr (3, [.ref rv, .ref rs, .int (nI kc)])), (rv, .inl (cI, 385, .inl v))] H := hP
                  have hD : va_D A [(oF, .inr (0, [.ref oS, .ref oN])), (oN, .inr (1, [.ref oS, .ref rp, .ref rt, .ref rl])), (rp, .inl (cI, 72, .inl gp_385)), (rt, .inl (cI, 72, .inl gt_386)), (rl, .inl (cI, 72, .inl gl_387)), (pa, .inl (cI, 8, .inl pf)), (qa, .inl (cI, 4, .inl qf)), (oX, .inr (5, [.ref oS, .ref oR, .ref oN, .ref o2, .ref oF, .ref oT])), (oS, .inr (3, [.ref rv, .ref rs, .int (nI kc)])), (rv, .inl (cI, 385, .inl v))] := hD
                  obtain rfl := hw_391
                  refine kq_top (z := nI (n_s v 2)) ((n_I_s hI).2.2.2.2.2.1) ?_
                  refine lv_icmp_lt (tgt := 180) hx hb dL_isFigure_173 (by decide) (fun c_392 => ?_) (fun c_392 => ?_)
                  · skip
                    have hsv := n_sn_f (Int32.not_le.mpr c_392)
                    refine lv_iconst (v := 0) hx hb dL_isFigure_180 (by decide) ?_
                    refine lv_istore (lv' := [(13, .int 0), (12, .int (n_ct v f (n_lw (h9 >>> ((nI (7 * k)) &&& 31)) 100))), (11, .int (nI (n_lw (h9 >>> ((nI (7 * k)) &&& 31)) 100))), (0, .ref oX), (1, .ref sb), (2, .ref pa), (3, .int (nI f)), (4, .ref qa), (5, .int h9), (6, .int 0), (7, .int (nI sn)), (8, .int 0), (9, .int 1), (10, .int (nI k))]) hx hb dL_isFigure_181 hl (by decide) rfl (fun ls hl => ?_)
                    refine lv_iload hx hb dL_isFigure_183 (lv_at hl 12 rfl) ?_
                    refine lv_if_eq (tgt := 252) hx hb dL_isFigure_185 (by decide) (fun q => absurd q (by decide)) (fun _ => ?_)
                    refine lv_aload_n hx hb dL_isFigure_188 rfl (lv_at hl 3 rfl) ?_
                    refine lv_iload_n hx hb dL_isFigure_189 rfl (lv_at hl 6 rfl) ?_
                    refine lv_iload hx hb dL_isFigure_190 (lv_at hl 2 rfl) ?_
                    refine kq_callMi (wr := [(pa, .inl (cI, 8, .inl pf)), (qa, .inl (cI, 4, .inl qf))]) (va_runV (As := [.int (nI f), .int (nI (n_lw (h9 >>> ((nI (7 * k)) &&& 31)) 100))]) (rest := []) ⟨hx, hb, hml, hown, hts⟩ (c_X5_contrast l dC dI cI H.size oX oS oR oN o2 oF oT rv rs kc rp rt rl v gp_385 gt_386 gl_387 f (n_lw (h9 >>> ((nI (7 * k)) &&& 31)) 100) (by first | assumption | omega) (by first | assumption | omega) (by first | assumption | omega)) (cwV 2 hts gL_isFigure_X5_contrast rfl rfl rfl (by decide +kernel) ⟨Nat.le_of_ble_eq_true rfl, Nat.le_of_ble_eq_true rfl⟩) (kq_preV (ci := 5) (q0 := 0) (hP.sub [7, 8, 9, 0, 1, 2, 3, 4] rfl) (hD.sub [7, 8, 9, 0, 1, 2, 3, 4] (by decide) rfl) hK rfl rfl) rfl rfl hl.1 rfl (lv_room (Nat.le_of_ble_eq_true rfl)) dL_isFigure_192 ⟨Nat.le_of_ble_eq_true rfl, Nat.le_of_ble_eq_true rfl⟩) hP hD hS hA [7, 8, 9, 0, 1, 2, 3, 4] [5, 6] rfl rfl (by decide) (by decide) (fun r_394 u_395 H locs hw_396 hP hD hS => ?_)
                    obtain ⟨gp_397, gt_398, gl_399⟩ := u_395
                    have hP : va_P (dC, dI) vwCl [(pa, .inl (cI, 8, .inl pf)), (qa, .inl (cI, 4, .inl qf)), (oX, .inr (5, [.ref oS, .ref oR, .ref oN, .ref o2, .ref oF, .ref oT])), (oS, .inr (3, [.ref rv, .ref rs, .int (nI kc)])), (rv, .inl (cI, 385, .inl v)), (oF, .inr (0, [.ref oS, .ref oN])), (oN, .inr (1, [.ref oS, .ref rp, .ref rt, .ref rl])), (rp, .inl (cI, 72, .inl gp_397)), (rt, .inl (cI, 72, .inl gt_398)), (rl, .inl (cI, 72, .inl gl_399))] H := hP
                    have hD : va_D A [(pa, .inl (cI, 8, .inl pf)), (qa, .inl (cI, 4, .inl qf)), (oX, .inr (5, [.ref oS, .ref oR, .ref oN, .ref o2, .ref oF, .ref oT])), (oS, .inr (3, [.ref rv, .ref rs, .int (nI kc)])), (rv, .inl (cI, 385, .inl v)), (oF, .inr (0, [.ref oS, .ref oN])), (oN, .inr (1, [.ref oS, .ref rp, .ref rt, .ref rl])), (rp, .inl (cI, 72, .inl gp_397)), (rt, .inl (cI, 72, .inl gt_398)), (rl, .inl (cI, 72, .inl gl_399))] := hD
                    obtain rfl := hw_396
                    refine lv_iload hx hb dL_isFigure_195 (lv_at hl 1 rfl) ?_
                    refine lv_sipush (v := 1000) hx hb dL_isFigure_197 (by decide) ?_
                    refine lv_iadd hx hb dL_isFigure_200 ?_
                    refine lv_icmp_ne (tgt := 252) hx hb dL_isFigure_201 (by decide) (fun c_400 => ?_) (fun c_400 => ?_)
                    · skip
                      exact absurd (n_cn_p ht) c_400
                    · skip
                      refine lv_iload hx hb dL_isFigure_204 (lv_at hl 0 rfl) ?_
                      refine lv_if_eq (tgt := 221) hx hb dL_isFigure_206 (by decide) (fun _ => ?_) (fun q => absurd q (by decide))
                      refine lv_iload hx hb dL_isFigure_221 (lv_at hl 2 rfl) ?_
                      refine lv_iload hx hb dL_isFigure_223 (lv_at hl 10 rfl) ?_
                      refine lv_icmp_ne (tgt := 233) hx hb dL_isFigure_225 (by decide) (fun c_402 => ?_) (fun c_402 => ?_)
                      · skip
                        have c_402 := kq_neN (a := (n_lw (h9 >>> ((nI (7 * k)) &&& 31)) 100)) (b := sn) c_402 (by omega) (by omega)
                        refine lv_iload hx hb dL_isFigure_233 (lv_at hl 0 rfl) ?_
                        refine lv_if_eq (tgt := 248) hx hb dL_isFigure_235 (by decide) (fun _ => ?_) (fun q => absurd q (by decide))
                        refine lv_iconst (v := 1) hx hb dL_isFigure_248 (by decide) ?_
                        refine lv_goto (tgt := 253) hx hb dL_isFigure_249 (by decide) ?_
                        refine lv_istore (lv' := [(9, .int 1), (13, .int 0), (12, .int (n_ct v f (n_lw (h9 >>> ((nI (7 * k)) &&& 31)) 100))), (11, .int (nI (n_lw (h9 >>> ((nI (7 * k)) &&& 31)) 100))), (0, .ref oX), (1, .ref sb), (2, .ref pa), (3, .int (nI f)), (4, .ref qa), (5, .int h9), (6, .int 0), (7, .int (nI sn)), (8, .int 0), (10, .int (nI k))]) hx hb dL_isFigure_253 hl (by decide) rfl (fun ls hl => ?_)
                        refine lv_iinc (v := nI (k + 1)) (lv' := [(10, .int (nI (k + 1))), (9, .int 1), (13, .int 0), (12, .int (n_ct v f (n_lw (h9 >>> ((nI (7 * k)) &&& 31)) 100))), (11, .int (nI (n_lw (h9 >>> ((nI (7 * k)) &&& 31)) 100))), (0, .ref oX), (1, .ref sb), (2, .ref pa), (3, .int (nI f)), (4, .ref qa), (5, .int h9), (6, .int 0), (7, .int (nI sn)), (8, .int 0)]) hx hb dL_isFigure_255 hl (k := 13) rfl (nI_1 k) (by decide) rfl (fun ls hl => ?_)
                        refine lv_goto (tgt := 107) hx hb dL_isFigure_258 (by decide) ?_
                        exact ih_378 (k + 1) gp_397 gt_398 gl_399 (by omega) (by show 4 - (k + 1) < 4 - k; omega) _ _ hP hD hS _ (lv_sub hl [5, 6, 7, 8, 9, 10, 11, 12, 13, 1, 0] rfl)
                      · skip
                        have c_402 := kq_eqN (a := (n_lw (h9 >>> ((nI (7 * k)) &&& 31)) 100)) (b := sn) c_402 (by omega) (by omega)
                        have hcs := c_402
                        refine lv_iload hx hb dL_isFigure_228 (lv_at hl 0 rfl) ?_
                        refine lv_if_eq (tgt := 252) hx hb dL_isFigure_230 (by decide) (fun _ => ?_) (fun q => absurd q (by decide))
                        first | exact absurd hsv (by rw [hs2 _ (by omega)]; decide) | exact absurd hs2 (by rw [← hcs, hsv]; decide)
                  · skip
                    have hsv := n_sn_t (Int32.not_lt.mp c_392)
                    refine lv_iconst (v := 1) hx hb dL_isFigure_176 (by decide) ?_
                    refine lv_goto (tgt := 181) hx hb dL_isFigure_177 (by decide) ?_
                    refine lv_istore (lv' := [(13, .int 1), (12, .int (n_ct v f (n_lw (h9 >>> ((nI (7 * k)) &&& 31)) 100))), (11, .int (nI (n_lw (h9 >>> ((nI (7 * k)) &&& 31)) 100))), (0, .ref oX), (1, .ref sb), (2, .ref pa), (3, .int (nI f)), (4, .ref qa), (5, .int h9), (6, .int 0), (7, .int (nI sn)), (8, .int 0), (9, .int 1), (10, .int (nI k))]) hx hb dL_isFigure_181 hl (by decide) rfl (fun ls hl => ?_)
                    refine lv_iload hx hb dL_isFigure_183 (lv_at hl 12 rfl) ?_
                    refine lv_if_eq (tgt := 252) hx hb dL_isFigure_185 (by decide) (fun q => absurd q (by decide)) (fun _ => ?_)
                    refine lv_aload_n hx hb dL_isFigure_188 rfl (lv_at hl 3 rfl) ?_
                    refine lv_iload_n hx hb dL_isFigure_189 rfl (lv_at hl 6 rfl) ?_
                    refine lv_iload hx hb dL_isFigure_190 (lv_at hl 2 rfl) ?_
                    refine kq_callMi (wr := [(pa, .inl (cI, 8, .inl pf)), (qa, .inl (cI, 4, .inl qf))]) (va_runV (As := [.int (nI f), .int (nI (n_lw (h9 >>> ((nI (7 * k)) &&& 31)) 100))]) (rest := []) ⟨hx, hb, hml, hown, hts⟩ (c_X5_contrast l dC dI cI H.size oX oS oR oN o2 oF oT rv rs kc rp rt rl v gp_385 gt_386 gl_387 f (n_lw (h9 >>> ((nI (7 * k)) &&& 31)) 100) (by first | assumption | omega) (by first | assumption | omega) (by first | assumption | omega)) (cwV 2 hts gL_isFigure_X5_contrast rfl rfl rfl (by decide +kernel) ⟨Nat.le_of_ble_eq_true rfl, Nat.le_of_ble_eq_true rfl⟩) (kq_preV (ci := 5) (q0 := 0) (hP.sub [7, 8, 9, 0, 1, 2, 3, 4] rfl) (hD.sub [7, 8, 9, 0, 1, 2, 3, 4] (by decide) rfl) hK rfl rfl) rfl rfl hl.1 rfl (lv_room (Nat.le_of_ble_eq_true rfl)) dL_isFigure_192 ⟨Nat.le_of_ble_eq_true rfl, Nat.le_of_ble_eq_true rfl⟩) hP hD hS hA [7, 8, 9, 0, 1, 2, 3, 4] [5, 6] rfl rfl (by decide) (by decide) (fun r_406 u_407 H locs hw_408 hP hD hS => ?_)
                    obtain ⟨gp_409, gt_410, gl_411⟩ := u_407
                    have hP : va_P (dC, dI) vwCl [(pa, .inl (cI, 8, .inl pf)), (qa, .inl (cI, 4, .inl qf)), (oX, .inr (5, [.ref oS, .ref oR, .ref oN, .ref o2, .ref oF, .ref oT])), (oS, .inr (3, [.ref rv, .ref rs, .int (nI kc)])), (rv, .inl (cI, 385, .inl v)), (oF, .inr (0, [.ref oS, .ref oN])), (oN, .inr (1, [.ref oS, .ref rp, .ref rt, .ref rl])), (rp, .inl (cI, 72, .inl gp_409)), (rt, .inl (cI, 72, .inl gt_410)), (rl, .inl (cI, 72, .inl gl_411))] H := hP
                    have hD : va_D A [(pa, .inl (cI, 8, .inl pf)), (qa, .inl (cI, 4, .inl qf)), (oX, .inr (5, [.ref oS, .ref oR, .ref oN, .ref o2, .ref oF, .ref oT])), (oS, .inr (3, [.ref rv, .ref rs, .int (nI kc)])), (rv, .inl (cI, 385, .inl v)), (oF, .inr (0, [.ref oS, .ref oN])), (oN, .inr (1, [.ref oS, .ref rp, .ref rt, .ref rl])), (rp, .inl (cI, 72, .inl gp_409)), (rt, .inl (cI, 72, .inl gt_410)), (rl, .inl (cI, 72, .inl gl_411))] := hD
                    obtain rfl := hw_408
                    refine lv_iload hx hb dL_isFigure_195 (lv_at hl 1 rfl) ?_
                    refine lv_sipush (v := 1000) hx hb dL_isFigure_197 (by decide) ?_
                    refine lv_iadd hx hb dL_isFigure_200 ?_
                    refine lv_icmp_ne (tgt := 252) hx hb dL_isFigure_201 (by decide) (fun c_412 => ?_) (fun c_412 => ?_)
                    · skip
                      exact absurd (n_cn_p ht) c_412
                    · skip
                      refine lv_iload hx hb dL_isFigure_204 (lv_at hl 0 rfl) ?_
                      refine lv_if_eq (tgt := 221) hx hb dL_isFigure_206 (by decide) (fun q => absurd q (by decide)) (fun _ => ?_)
                      refine lv_iload hx hb dL_isFigure_209 (lv_at hl 10 rfl) ?_
                      refine lv_if_lt (tgt := 252) hx hb dL_isFigure_211 (by decide) (fun c_414 => ?_) (fun c_414 => ?_)
                      · skip
                        have c_414 := kq_ltN (a := sn) (b := 0) c_414 (by omega) (by omega)
                        exact absurd c_414 (by omega)
                      · skip
                        have c_414 := kq_nltN (a := sn) (b := 0) c_414 (by omega) (by omega)
                        refine lv_iload hx hb dL_isFigure_214 (lv_at hl 10 rfl) ?_
                        refine lv_iload hx hb dL_isFigure_216 (lv_at hl 2 rfl) ?_
                        refine lv_icmp_gt (tgt := 252) hx hb dL_isFigure_218 (by decide) (fun c_415 => ?_) (fun c_415 => ?_)
                        · skip
                          have c_415 := kq_ltN (a := (n_lw (h9 >>> ((nI (7 * k)) &&& 31)) 100)) (b := sn) c_415 (by omega) (by omega)
                          exact absurd hsv (by rw [hs3 _ c_415]; decide)
                        · skip
                          have c_415 := kq_nltN (a := (n_lw (h9 >>> ((nI (7 * k)) &&& 31)) 100)) (b := sn) c_415 (by omega) (by omega)
                          refine lv_iload hx hb dL_isFigure_221 (lv_at hl 2 rfl) ?_
                          refine lv_iload hx hb dL_isFigure_223 (lv_at hl 10 rfl) ?_
                          refine lv_icmp_ne (tgt := 233) hx hb dL_isFigure_225 (by decide) (fun c_416 => ?_) (fun c_416 => ?_)
                          · skip
                            have c_416 := kq_neN (a := (n_lw (h9 >>> ((nI (7 * k)) &&& 31)) 100)) (b := sn) c_416 (by omega) (by omega)
                            refine lv_iload hx hb dL_isFigure_233 (lv_at hl 0 rfl) ?_
                            refine lv_if_eq (tgt := 248) hx hb dL_isFigure_235 (by decide) (fun q => absurd q (by decide)) (fun _ => ?_)
                            refine lv_iload hx hb dL_isFigure_238 (lv_at hl 9 rfl) ?_
                            refine lv_if_eq (tgt := 248) hx hb dL_isFigure_240 (by decide) (fun _ => ?_) (fun q => absurd q (by decide))
                            refine lv_iconst (v := 1) hx hb dL_isFigure_248 (by decide) ?_
                            refine lv_goto (tgt := 253) hx hb dL_isFigure_249 (by decide) ?_
                            refine lv_istore (lv' := [(9, .int 1), (13, .int 1), (12, .int (n_ct v f (n_lw (h9 >>> ((nI (7 * k)) &&& 31)) 100))), (11, .int (nI (n_lw (h9 >>> ((nI (7 * k)) &&& 31)) 100))), (0, .ref oX), (1, .ref sb), (2, .ref pa), (3, .int (nI f)), (4, .ref qa), (5, .int h9), (6, .int 0), (7, .int (nI sn)), (8, .int 0), (10, .int (nI k))]) hx hb dL_isFigure_253 hl (by decide) rfl (fun ls hl => ?_)
                            refine lv_iinc (v := nI (k + 1)) (lv' := [(10, .int (nI (k + 1))), (9, .int 1), (13, .int 1), (12, .int (n_ct v f (n_lw (h9 >>> ((nI (7 * k)) &&& 31)) 100))), (11, .int (nI (n_lw (h9 >>> ((nI (7 * k)) &&& 31)) 100))), (0, .ref oX), (1, .ref sb), (2, .ref pa), (3, .int (nI f)), (4, .ref qa), (5, .int h9), (6, .int 0), (7, .int (nI sn)), (8, .int 0)]) hx hb dL_isFigure_255 hl (k := 13) rfl (nI_1 k) (by decide) rfl (fun ls hl => ?_)
                            refine lv_goto (tgt := 107) hx hb dL_isFigure_258 (by decide) ?_
                            exact ih_378 (k + 1) gp_409 gt_410 gl_411 (by omega) (by show 4 - (k + 1) < 4 - k; omega) _ _ hP hD hS _ (lv_sub hl [5, 6, 7, 8, 9, 10, 11, 12, 13, 1, 0] rfl)
                          · skip
                            have c_416 := kq_eqN (a := (n_lw (h9 >>> ((nI (7 * k)) &&& 31)) 100)) (b := sn) c_416 (by omega) (by omega)
                            have hcs := c_416
                            refine lv_iload hx hb dL_isFigure_228 (lv_at hl 0 rfl) ?_
                            refine lv_if_eq (tgt := 252) hx hb dL_isFigure_230 (by decide) (fun q => absurd q (by decide)) (fun _ => ?_)
                            refine lv_iload hx hb dL_isFigure_233 (lv_at hl 0 rfl) ?_
                            refine lv_if_eq (tgt := 248) hx hb dL_isFigure_235 (by decide) (fun q => absurd q (by decide)) (fun _ => ?_)
                            refine lv_iload hx hb dL_isFigure_238 (lv_at hl 9 rfl) ?_
                            refine lv_if_eq (tgt := 248) hx hb dL_isFigure_240 (by decide) (fun _ => ?_) (fun q => absurd q (by decide))
                            refine lv_iconst (v := 1) hx hb dL_isFigure_248 (by decide) ?_
                            refine lv_goto (tgt := 253) hx hb dL_isFigure_249 (by decide) ?_
                            refine lv_istore (lv' := [(9, .int 1), (13, .int 1), (12, .int (n_ct v f (n_lw (h9 >>> ((nI (7 * k)) &&& 31)) 100))), (11, .int (nI (n_lw (h9 >>> ((nI (7 * k)) &&& 31)) 100))), (0, .ref oX), (1, .ref sb), (2, .ref pa), (3, .int (nI f)), (4, .ref qa), (5, .int h9), (6, .int 0), (7, .int (nI sn)), (8, .int 0), (10, .int (nI k))]) hx hb dL_isFigure_253 hl (by decide) rfl (fun ls hl => ?_)
                            refine lv_iinc (v := nI (k + 1)) (lv' := [(10, .int (nI (k + 1))), (9, .int 1), (13, .int 1), (12, .int (n_ct v f (n_lw (h9 >>> ((nI (7 * k)) &&& 31)) 100))), (11, .int (nI (n_lw (h9 >>> ((nI (7 * k)) &&& 31)) 100))), (0, .ref oX), (1, .ref sb), (2, .ref pa), (3, .int (nI f)), (4, .ref qa), (5, .int h9), (6, .int 0), (7, .int (nI sn)), (8, .int 0)]) hx hb dL_isFigure_255 hl (k := 13) rfl (nI_1 k) (by decide) rfl (fun ls hl => ?_)
                            refine lv_goto (tgt := 107) hx hb dL_isFigure_258 (by decide) ?_
                            exact ih_378 (k + 1) gp_409 gt_410 gl_411 (by omega) (by show 4 - (k + 1) < 4 - k; omega) _ _ hP hD hS _ (lv_sub hl [5, 6, 7, 8, 9, 10, 11, 12, 13, 1, 0] rfl)
                · skip
                  refine lv_iload hx hb dL_isFigure_155 (lv_at hl 0 rfl) ?_
                  refine lv_if_ge (tgt := 166) hx hb dL_isFigure_157 (by decide) (fun c_422 => ?_) (fun c_422 => ?_)
                  · skip
                    refine lv_iload hx hb dL_isFigure_166 (lv_at hl 0 rfl) ?_
                    refine kq_top (z := n_abs (n_ct v f (n_lw (h9 >>> ((nI (7 * k)) &&& 31)) 100))) (by unfold n_abs; first | rw [if_pos (by assumption)] | rw [if_neg (by assumption)]) ?_
                    exact hJ_388 _ (lv_sub hl [0, 1, 2, 3, 4, 5, 6, 7, 8, 9, 10, 11, 12] rfl)
                  · skip
                    refine lv_iload hx hb dL_isFigure_160 (lv_at hl 0 rfl) ?_
                    refine lv_ineg hx hb dL_isFigure_162 ?_
                    refine kq_top (z := 0 - (n_ct v f (n_lw (h9 >>> ((nI (7 * k)) &&& 31)) 100))) (n_ineg (n_ct v f (n_lw (h9 >>> ((nI (7 * k)) &&& 31)) 100))) ?_
                    refine lv_goto (tgt := 168) hx hb dL_isFigure_163 (by decide) ?_
                    refine kq_top (z := n_abs (n_ct v f (n_lw (h9 >>> ((nI (7 * k)) &&& 31)) 100))) (by unfold n_abs; first | rw [if_pos (by assumption)] | rw [if_neg (by assumption)]) ?_
                    exact hJ_388 _ (lv_sub hl [0, 1, 2, 3, 4, 5, 6, 7, 8, 9, 10, 11, 12] rfl)
              · skip
                have c_381 := kq_eqN (a := k) (b := 0) c_381 (by omega) (by omega)
                refine lv_iload hx hb dL_isFigure_118 (lv_at hl 7 rfl) ?_
                refine lv_if_lt (tgt := 128) hx hb dL_isFigure_120 (by decide) (fun c_423 => ?_) (fun c_423 => ?_)
                · skip
                  have c_423 := kq_ltN (a := sn) (b := 0) c_423 (by omega) (by omega)
                  exact absurd c_423 (by omega)
                · skip
                  have c_423 := kq_nltN (a := sn) (b := 0) c_423 (by omega) (by omega)
                  refine lv_iload hx hb dL_isFigure_123 (lv_at hl 7 rfl) ?_
                  refine lv_goto (tgt := 141) hx hb dL_isFigure_125 (by decide) ?_
                  have hnb : sn < 100 := by first | omega | exact n_lw_lt (by decide)
                  refine lv_istore (lv' := [(11, .int (nI sn)), (0, .ref oX), (1, .ref sb), (2, .ref pa), (3, .int (nI f)), (4, .ref qa), (5, .int h9), (6, .int 0), (7, .int (nI sn)), (8, .int 0), (9, .int 1), (10, .int (nI k))]) hx hb dL_isFigure_141 hl (by decide) rfl (fun ls hl => ?_)
                  refine lv_aload_n hx hb dL_isFigure_143 rfl (lv_at hl 1 rfl) ?_
                  refine lv_aload_n hx hb dL_isFigure_144 rfl (lv_at hl 2 rfl) ?_
                  refine lv_aload_n hx hb dL_isFigure_145 rfl (lv_at hl 3 rfl) ?_
                  refine lv_aload hx hb dL_isFigure_146 (lv_at hl 5 rfl) ?_
                  refine lv_iload hx hb dL_isFigure_148 (lv_at hl 0 rfl) ?_
                  refine kq_callMi (wr := [(oF, .inr (0, [.ref oS, .ref oN]))]) (va_runS (As := [.ref oX, .ref sb, .ref pa, .ref qa, .int (nI sn)]) (rest := []) ⟨hx, hb, hml, hown, hts⟩ (c_L_contrast l dC dI cI sb sL xs H.size oX oS oR oN o2 oF oT rv rs kc rp rt rl v fp ft fl pa pf qa f sn qf (by first | assumption | omega) (by first | assumption | omega) (by first | assumption | omega) (by first | assumption | omega) (by first | assumption | omega) (by first | assumption | omega) (by first | assumption | omega) (by first | assumption | omega)) (va_cwS 5 hts gL_isFigure_L_contrast rfl rfl rfl (by decide +kernel) ⟨Nat.le_of_ble_eq_true rfl, Nat.le_of_ble_eq_true rfl⟩) (kq_preSX (hP.sub [2, 3, 4, 6, 7, 8, 9, 0, 1] rfl) (hD.sub [2, 3, 4, 6, 7, 8, 9, 0, 1] (by decide) rfl) hK (kq_xk hX hbl hbA hS) (fun q => hbA (va_free (wc := [(oX, .inr (5, [.ref oS, .ref oR, .ref oN, .ref o2, .ref oF, .ref oT])), (oS, .inr (3, [.ref rv, .ref rs, .int (nI kc)])), (rv, .inl (cI, 385, .inl v)), (oN, .inr (1, [.ref oS, .ref rp, .ref rt, .ref rl])), (rp, .inl (cI, 72, .inl fp)), (rt, .inl (cI, 72, .inl ft)), (rl, .inl (cI, 72, .inl fl)), (pa, .inl (cI, 8, .inl pf)), (qa, .inl (cI, 4, .inl qf))]) hD hS hA [2, 3, 4, 6, 7, 8, 9, 0, 1] rfl _ q))) rfl rfl hl.1 rfl (lv_room (Nat.le_of_ble_eq_true rfl)) dL_isFigure_150 ⟨Nat.le_of_ble_eq_true rfl, Nat.le_of_ble_eq_true rfl⟩) hP hD hS hA [2, 3, 4, 6, 7, 8, 9, 0, 1] [5] rfl rfl (by decide) (by decide) (fun r_424 u_425 H locs hw_426 hP hD hS => ?_)
                  obtain ⟨gp_427, gt_428, gl_429⟩ := u_425
                  have hP : va_P (dC, dI) vwCl [(oF, .inr (0, [.ref oS, .ref oN])), (oX, .inr (5, [.ref oS, .ref oR, .ref oN, .ref o2, .ref oF, .ref oT])), (oS, .inr (3, [.ref rv, .ref rs, .int (nI kc)])), (rv, .inl (cI, 385, .inl v)), (oN, .inr (1, [.ref oS, .ref rp, .ref rt, .ref rl])), (rp, .inl (cI, 72, .inl gp_427)), (rt, .inl (cI, 72, .inl gt_428)), (rl, .inl (cI, 72, .inl gl_429)), (pa, .inl (cI, 8, .inl pf)), (qa, .inl (cI, 4, .inl qf))] H := hP
                  have hD : va_D A [(oF, .inr (0, [.ref oS, .ref oN])), (oX, .inr (5, [.ref oS, .ref oR, .ref oN, .ref o2, .ref oF, .ref oT])), (oS, .inr (3, [.ref rv, .ref rs, .int (nI kc)])), (rv, .inl (cI, 385, .inl v)), (oN, .inr (1, [.ref oS, .ref rp, .ref rt, .ref rl])), (rp, .inl (cI, 72, .inl gp_427)), (rt, .inl (cI, 72, .inl gt_428)), (rl, .inl (cI, 72, .inl gl_429)), (pa, .inl (cI, 8, .inl pf)), (qa, .inl (cI, 4, .inl qf))] := hD
                  obtain rfl := hw_426
                  refine lv_istore (lv' := [(12, .int (n_ct v f sn)), (11, .int (nI sn)), (0, .ref oX), (1, .ref sb), (2, .ref pa), (3, .int (nI f)), (4, .ref qa), (5, .int h9), (6, .int 0), (7, .int (nI sn)), (8, .int 0), (9, .int 1), (10, .int (nI k))]) hx hb dL_isFigure_153 hl (by decide) rfl (fun ls hl => ?_)
                  refine kq_join (nL := 14) (L := [(12, .int (n_ct v f sn)), (11, .int (nI sn)), (0, .ref oX), (1, .ref sb), (2, .ref pa), (3, .int (nI f)), (4, .ref qa), (5, .int h9), (6, .int 0), (7, .int (nI sn)), (8, .int 0), (9, .int 1), (10, .int (nI k))]) (st := [.int (n_abs (n_ct v f sn))]) (J := 168) ?_ (fun hJ_430 => ?_)
                  · intro ls hl
                    have hl : lv_has ls 14 [(12, .int (n_ct v f sn)), (11, .int (nI sn)), (0, .ref oX), (1, .ref sb), (2, .ref pa), (3, .int (nI f)), (4, .ref qa), (5, .int h9), (6, .int 0), (7, .int (nI sn)), (8, .int 0), (9, .int 1), (10, .int (nI k))] := hl
                    refine lv_aload_n hx hb dL_isFigure_168 rfl (lv_at hl 2 rfl) ?_
                    refine lv_iconst (v := 2) hx hb dL_isFigure_169 (by decide) ?_
                    refine kq_callMi (wr := [(oF, .inr (0, [.ref oS, .ref oN])), (oN, .inr (1, [.ref oS, .ref rp, .ref rt, .ref rl])), (rp, .inl (cI, 72, .inl gp_427)), (rt, .inl (cI, 72, .inl gt_428)), (rl, .inl (cI, 72, .inl gl_429)), (pa, .inl (cI, 8, .inl pf)), (qa, .inl (cI, 4, .inl qf))]) (va_runV (As := [.int 2]) (rest := [.int (n_abs (n_ct v f sn))]) ⟨hx, hb, hml, hown, hts⟩ (c_X5_setting l dC dI cI H.size oX oS oR oN o2 oF oT rv rs kc v 2 (by first | assumption | omega)) (cwV 1 hts gL_isFigure_X5_setting rfl rfl rfl (by decide +kernel) ⟨Nat.le_of_ble_eq_true rfl, Nat.le_of_ble_eq_true rfl⟩) (kq_preV (ci := 5) (q0 := 0) (hP.sub [1, 2, 3] rfl) (hD.sub [1, 2, 3] (by decide) rfl) hK rfl rfl) rfl rfl hl.1 rfl (lv_room (Nat.le_of_ble_eq_true rfl)) dL_isFigure_170 ⟨Nat.le_of_ble_eq_true rfl, Nat.le_of_ble_eq_true rfl⟩) hP hD hS hA [1, 2, 3] [0, 4, 5, 6, 7, 8, 9] rfl rfl (by decide) (by decide) (fun r_431 u_432 H locs hw_433 hP hD hS => ?_)
                    have hP : va_P (dC, dI) vwCl [(oF, .inr (0, [.ref oS, .ref oN])), (oN, .inr (1, [.ref oS, .ref rp, .ref rt, .ref rl])), (rp, .inl (cI, 72, .inl gp_427)), (rt, .inl (cI, 72, .inl gt_428)), (rl, .inl (cI, 72, .inl gl_429)), (pa, .inl (cI, 8, .inl pf)), (qa, .inl (cI, 4, .inl qf)), (oX, .inr (5, [.ref oS, .ref oR, .ref oN, .ref o2, .ref oF, .ref oT])), (oS, .inr (3, [.ref rv, .ref rs, .int (nI kc)])), (rv, .inl (cI, 385, .inl v))] H := hP
                    have hD : va_D A [(oF, .inr (0, [.ref oS, .ref oN])), (oN, .inr (1, [.ref oS, .ref rp, .ref rt, .ref rl])), (rp, .inl (cI, 72, .inl gp_427)), (rt, .inl (cI, 72, .inl gt_428)), (rl, .inl (cI, 72, .inl gl_429)), (pa, .inl (cI, 8, .inl pf)), (qa, .inl (cI, 4, .inl qf)), (oX, .inr (5, [.ref oS, .ref oR, .ref oN, .ref o2, .ref oF, .ref oT])), (oS, .inr (3, [.ref rv, .ref rs, .int (nI kc)])), (rv, .inl (cI, 385, .inl v))] := hD
                    obtain rfl := hw_433
                    refine kq_top (z := nI (n_s v 2)) ((n_I_s hI).2.2.2.2.2.1) ?_
                    refine lv_icmp_lt (tgt := 180) hx hb dL_isFigure_173 (by decide) (fun c_434 => ?_) (fun c_434 => ?_)
                    · skip
                      have hsv := n_sn_f (Int32.not_le.mpr c_434)
                      refine lv_iconst (v := 0) hx hb dL_isFigure_180 (by decide) ?_
                      refine lv_istore (lv' := [(13, .int 0), (12, .int (n_ct v f sn)), (11, .int (nI sn)), (0, .ref oX), (1, .ref sb), (2, .ref pa), (3, .int (nI f)), (4, .ref qa), (5, .int h9), (6, .int 0), (7, .int (nI sn)), (8, .int 0), (9, .int 1), (10, .int (nI k))]) hx hb dL_isFigure_181 hl (by decide) rfl (fun ls hl => ?_)
                      refine lv_iload hx hb dL_isFigure_183 (lv_at hl 12 rfl) ?_
                      refine lv_if_eq (tgt := 252) hx hb dL_isFigure_185 (by decide) (fun q => absurd q (by decide)) (fun _ => ?_)
                      refine lv_aload_n hx hb dL_isFigure_188 rfl (lv_at hl 3 rfl) ?_
                      refine lv_iload_n hx hb dL_isFigure_189 rfl (lv_at hl 6 rfl) ?_
                      refine lv_iload hx hb dL_isFigure_190 (lv_at hl 2 rfl) ?_
                      refine kq_callMi (wr := [(pa, .inl (cI, 8, .inl pf)), (qa, .inl (cI, 4, .inl qf))]) (va_runV (As := [.int (nI f), .int (nI sn)]) (rest := []) ⟨hx, hb, hml, hown, hts⟩ (c_X5_contrast l dC dI cI H.size oX oS oR oN o2 oF oT rv rs kc rp rt rl v gp_427 gt_428 gl_429 f sn (by first | assumption | omega) (by first | assumption | omega) (by first | assumption | omega)) (cwV 2 hts gL_isFigure_X5_contrast rfl rfl rfl (by decide +kernel) ⟨Nat.le_of_ble_eq_true rfl, Nat.le_of_ble_eq_true rfl⟩) (kq_preV (ci := 5) (q0 := 0) (hP.sub [7, 8, 9, 0, 1, 2, 3, 4] rfl) (hD.sub [7, 8, 9, 0, 1, 2, 3, 4] (by decide) rfl) hK rfl rfl) rfl rfl hl.1 rfl (lv_room (Nat.le_of_ble_eq_true rfl)) dL_isFigure_192 ⟨Nat.le_of_ble_eq_true rfl, Nat.le_of_ble_eq_true rfl⟩) hP hD hS hA [7, 8, 9, 0, 1, 2, 3, 4] [5, 6] rfl rfl (by decide) (by decide) (fun r_436 u_437 H locs hw_438 hP hD hS => ?_)
                      obtain ⟨gp_439, gt_440, gl_441⟩ := u_437
                      have hP : va_P (dC, dI) vwCl [(pa, .inl (cI, 8, .inl pf)), (qa, .inl (cI, 4, .inl qf)), (oX, .inr (5, [.ref oS, .ref oR, .ref oN, .ref o2, .ref oF, .ref oT])), (oS, .inr (3, [.ref rv, .ref rs, .int (nI kc)])), (rv, .inl (cI, 385, .inl v)), (oF, .inr (0, [.ref oS, .ref oN])), (oN, .inr (1, [.ref oS, .ref rp, .ref rt, .ref rl])), (rp, .inl (cI, 72, .inl gp_439)), (rt, .inl (cI, 72, .inl gt_440)), (rl, .inl (cI, 72, .inl gl_441))] H := hP
                      have hD : va_D A [(pa, .inl (cI, 8, .inl pf)), (qa, .inl (cI, 4, .inl qf)), (oX, .inr (5, [.ref oS, .ref oR, .ref oN, .ref o2, .ref oF, .ref oT])), (oS, .inr (3, [.ref rv, .ref rs, .int (nI kc)])), (rv, .inl (cI, 385, .inl v)), (oF, .inr (0, [.ref oS, .ref oN])), (oN, .inr (1, [.ref oS, .ref rp, .ref rt, .ref rl])), (rp, .inl (cI, 72, .inl gp_439)), (rt, .inl (cI, 72, .inl gt_440)), (rl, .inl (cI, 72, .inl gl_441))] := hD
                      obtain rfl := hw_438
                      refine lv_iload hx hb dL_isFigure_195 (lv_at hl 1 rfl) ?_
                      refine lv_sipush (v := 1000) hx hb dL_isFigure_197 (by decide) ?_
                      refine lv_iadd hx hb dL_isFigure_200 ?_
                      refine lv_icmp_ne (tgt := 252) hx hb dL_isFigure_201 (by decide) (fun c_442 => ?_) (fun c_442 => ?_)
                      · skip
                        exact absurd (n_cn_p ht) c_442
                      · skip
                        refine lv_iload hx hb dL_isFigure_204 (lv_at hl 0 rfl) ?_
                        refine lv_if_eq (tgt := 221) hx hb dL_isFigure_206 (by decide) (fun _ => ?_) (fun q => absurd q (by decide))
                        refine lv_iload hx hb dL_isFigure_221 (lv_at hl 2 rfl) ?_
                        refine lv_iload hx hb dL_isFigure_223 (lv_at hl 10 rfl) ?_
                        refine lv_icmp_ne (tgt := 233) hx hb dL_isFigure_225 (by decide) (fun c_444 => ?_) (fun c_444 => ?_)
                        · skip
                          have c_444 := kq_neN (a := sn) (b := sn) c_444 (by omega) (by omega)
                          refine lv_iload hx hb dL_isFigure_233 (lv_at hl 0 rfl) ?_
                          refine lv_if_eq (tgt := 248) hx hb dL_isFigure_235 (by decide) (fun _ => ?_) (fun q => absurd q (by decide))
                          refine lv_iconst (v := 1) hx hb dL_isFigure_248 (by decide) ?_
                          refine lv_goto (tgt := 253) hx hb dL_isFigure_249 (by decide) ?_
                          refine lv_istore (lv' := [(9, .int 1), (13, .int 0), (12, .int (n_ct v f sn)), (11, .int (nI sn)), (0, .ref oX), (1, .ref sb), (2, .ref pa), (3, .int (nI f)), (4, .ref qa), (5, .int h9), (6, .int 0), (7, .int (nI sn)), (8, .int 0), (10, .int (nI k))]) hx hb dL_isFigure_253 hl (by decide) rfl (fun ls hl => ?_)
                          refine lv_iinc (v := nI (k + 1)) (lv' := [(10, .int (nI (k + 1))), (9, .int 1), (13, .int 0), (12, .int (n_ct v f sn)), (11, .int (nI sn)), (0, .ref oX), (1, .ref sb), (2, .ref pa), (3, .int (nI f)), (4, .ref qa), (5, .int h9), (6, .int 0), (7, .int (nI sn)), (8, .int 0)]) hx hb dL_isFigure_255 hl (k := 13) rfl (nI_1 k) (by decide) rfl (fun ls hl => ?_)
                          refine lv_goto (tgt := 107) hx hb dL_isFigure_258 (by decide) ?_
                          exact ih_378 (k + 1) gp_439 gt_440 gl_441 (by omega) (by show 4 - (k + 1) < 4 - k; omega) _ _ hP hD hS _ (lv_sub hl [5, 6, 7, 8, 9, 10, 11, 12, 13, 1, 0] rfl)
                        · skip
                          have c_444 := kq_eqN (a := sn) (b := sn) c_444 (by omega) (by omega)
                          have hcs := c_444
                          refine lv_iload hx hb dL_isFigure_228 (lv_at hl 0 rfl) ?_
                          refine lv_if_eq (tgt := 252) hx hb dL_isFigure_230 (by decide) (fun _ => ?_) (fun q => absurd q (by decide))
                          first | exact absurd hsv (by rw [hs2 _ (by omega)]; decide) | exact absurd hs2 (by rw [← hcs, hsv]; decide)
                    · skip
                      have hsv := n_sn_t (Int32.not_lt.mp c_434)
                      refine lv_iconst (v := 1) hx hb dL_isFigure_176 (by decide) ?_
                      refine lv_goto (tgt := 181) hx hb dL_isFigure_177 (by decide) ?_
                      refine lv_istore (lv' := [(13, .int 1), (12, .int (n_ct v f sn)), (11, .int (nI sn)), (0, .ref oX), (1, .ref sb), (2, .ref pa), (3, .int (nI f)), (4, .ref qa), (5, .int h9), (6, .int 0), (7, .int (nI sn)), (8, .int 0), (9, .int 1), (10, .int (nI k))]) hx hb dL_isFigure_181 hl (by decide) rfl (fun ls hl => ?_)
                      refine lv_iload hx hb dL_isFigure_183 (lv_at hl 12 rfl) ?_
                      refine lv_if_eq (tgt := 252) hx hb dL_isFigure_185 (by decide) (fun q => absurd q (by decide)) (fun _ => ?_)
                      refine lv_aload_n hx hb dL_isFigure_188 rfl (lv_at hl 3 rfl) ?_
                      refine lv_iload_n hx hb dL_isFigure_189 rfl (lv_at hl 6 rfl) ?_
                      refine lv_iload hx hb dL_isFigure_190 (lv_at hl 2 rfl) ?_
                      refine kq_callMi (wr := [(pa, .inl (cI, 8, .inl pf)), (qa, .inl (cI, 4, .inl qf))]) (va_runV (As := [.int (nI f), .int (nI sn)]) (rest := []) ⟨hx, hb, hml, hown, hts⟩ (c_X5_contrast l dC dI cI H.size oX oS oR oN o2 oF oT rv rs kc rp rt rl v gp_427 gt_428 gl_429 f sn (by first | assumption | omega) (by first | assumption | omega) (by first | assumption | omega)) (cwV 2 hts gL_isFigure_X5_contrast rfl rfl rfl (by decide +kernel) ⟨Nat.le_of_ble_eq_true rfl, Nat.le_of_ble_eq_true rfl⟩) (kq_preV (ci := 5) (q0 := 0) (hP.sub [7, 8, 9, 0, 1, 2, 3, 4] rfl) (hD.sub [7, 8, 9, 0, 1, 2, 3, 4] (by decide) rfl) hK rfl rfl) rfl rfl hl.1 rfl (lv_room (Nat.le_of_ble_eq_true rfl)) dL_isFigure_192 ⟨Nat.le_of_ble_eq_true rfl, Nat.le_of_ble_eq_true rfl⟩) hP hD hS hA [7, 8, 9, 0, 1, 2, 3, 4] [5, 6] rfl rfl (by decide) (by decide) (fun r_448 u_449 H locs hw_450 hP hD hS => ?_)
                      obtain ⟨gp_451, gt_452, gl_453⟩ := u_449
                      have hP : va_P (dC, dI) vwCl [(pa, .inl (cI, 8, .inl pf)), (qa, .inl (cI, 4, .inl qf)), (oX, .inr (5, [.ref oS, .ref oR, .ref oN, .ref o2, .ref oF, .ref oT])), (oS, .inr (3, [.ref rv, .ref rs, .int (nI kc)])), (rv, .inl (cI, 385, .inl v)), (oF, .inr (0, [.ref oS, .ref oN])), (oN, .inr (1, [.ref oS, .ref rp, .ref rt, .ref rl])), (rp, .inl (cI, 72, .inl gp_451)), (rt, .inl (cI, 72, .inl gt_452)), (rl, .inl (cI, 72, .inl gl_453))] H := hP
                      have hD : va_D A [(pa, .inl (cI, 8, .inl pf)), (qa, .inl (cI, 4, .inl qf)), (oX, .inr (5, [.ref oS, .ref oR, .ref oN, .ref o2, .ref oF, .ref oT])), (oS, .inr (3, [.ref rv, .ref rs, .int (nI kc)])), (rv, .inl (cI, 385, .inl v)), (oF, .inr (0, [.ref oS, .ref oN])), (oN, .inr (1, [.ref oS, .ref rp, .ref rt, .ref rl])), (rp, .inl (cI, 72, .inl gp_451)), (rt, .inl (cI, 72, .inl gt_452)), (rl, .inl (cI, 72, .inl gl_453))] := hD
                      obtain rfl := hw_450
                      refine lv_iload hx hb dL_isFigure_195 (lv_at hl 1 rfl) ?_
                      refine lv_sipush (v := 1000) hx hb dL_isFigure_197 (by decide) ?_
                      refine lv_iadd hx hb dL_isFigure_200 ?_
                      refine lv_icmp_ne (tgt := 252) hx hb dL_isFigure_201 (by decide) (fun c_454 => ?_) (fun c_454 => ?_)
                      · skip
                        exact absurd (n_cn_p ht) c_454
                      · skip
                        refine lv_iload hx hb dL_isFigure_204 (lv_at hl 0 rfl) ?_
                        refine lv_if_eq (tgt := 221) hx hb dL_isFigure_206 (by decide) (fun q => absurd q (by decide)) (fun _ => ?_)
                        refine lv_iload hx hb dL_isFigure_209 (lv_at hl 10 rfl) ?_
                        refine lv_if_lt (tgt := 252) hx hb dL_isFigure_211 (by decide) (fun c_456 => ?_) (fun c_456 => ?_)
                        · skip
                          have c_456 := kq_ltN (a := sn) (b := 0) c_456 (by omega) (by omega)
                          exact absurd c_456 (by omega)
                        · skip
                          have c_456 := kq_nltN (a := sn) (b := 0) c_456 (by omega) (by omega)
                          refine lv_iload hx hb dL_isFigure_214 (lv_at hl 10 rfl) ?_
                          refine lv_iload hx hb dL_isFigure_216 (lv_at hl 2 rfl) ?_
                          refine lv_icmp_gt (tgt := 252) hx hb dL_isFigure_218 (by decide) (fun c_457 => ?_) (fun c_457 => ?_)
                          · skip
                            have c_457 := kq_ltN (a := sn) (b := sn) c_457 (by omega) (by omega)
                            exact absurd hsv (by rw [hs3 _ c_457]; decide)
                          · skip
                            have c_457 := kq_nltN (a := sn) (b := sn) c_457 (by omega) (by omega)
                            refine lv_iload hx hb dL_isFigure_221 (lv_at hl 2 rfl) ?_
                            refine lv_iload hx hb dL_isFigure_223 (lv_at hl 10 rfl) ?_
                            refine lv_icmp_ne (tgt := 233) hx hb dL_isFigure_225 (by decide) (fun c_458 => ?_) (fun c_458 => ?_)
                            · skip
                              have c_458 := kq_neN (a := sn) (b := sn) c_458 (by omega) (by omega)
                              refine lv_iload hx hb dL_isFigure_233 (lv_at hl 0 rfl) ?_
                              refine lv_if_eq (tgt := 248) hx hb dL_isFigure_235 (by decide) (fun q => absurd q (by decide)) (fun _ => ?_)
                              refine lv_iload hx hb dL_isFigure_238 (lv_at hl 9 rfl) ?_
                              refine lv_if_eq (tgt := 248) hx hb dL_isFigure_240 (by decide) (fun _ => ?_) (fun q => absurd q (by decide))
                              refine lv_iconst (v := 1) hx hb dL_isFigure_248 (by decide) ?_
                              refine lv_goto (tgt := 253) hx hb dL_isFigure_249 (by decide) ?_
                              refine lv_istore (lv' := [(9, .int 1), (13, .int 1), (12, .int (n_ct v f sn)), (11, .int (nI sn)), (0, .ref oX), (1, .ref sb), (2, .ref pa), (3, .int (nI f)), (4, .ref qa), (5, .int h9), (6, .int 0), (7, .int (nI sn)), (8, .int 0), (10, .int (nI k))]) hx hb dL_isFigure_253 hl (by decide) rfl (fun ls hl => ?_)
                              refine lv_iinc (v := nI (k + 1)) (lv' := [(10, .int (nI (k + 1))), (9, .int 1), (13, .int 1), (12, .int (n_ct v f sn)), (11, .int (nI sn)), (0, .ref oX), (1, .ref sb), (2, .ref pa), (3, .int (nI f)), (4, .ref qa), (5, .int h9), (6, .int 0), (7, .int (nI sn)), (8, .int 0)]) hx hb dL_isFigure_255 hl (k := 13) rfl (nI_1 k) (by decide) rfl (fun ls hl => ?_)
                              refine lv_goto (tgt := 107) hx hb dL_isFigure_258 (by decide) ?_
                              exact ih_378 (k + 1) gp_451 gt_452 gl_453 (by omega) (by show 4 - (k + 1) < 4 - k; omega) _ _ hP hD hS _ (lv_sub hl [5, 6, 7, 8, 9, 10, 11, 12, 13, 1, 0] rfl)
                            · skip
                              have c_458 := kq_eqN (a := sn) (b := sn) c_458 (by omega) (by omega)
                              have hcs := c_458
                              refine lv_iload hx hb dL_isFigure_228 (lv_at hl 0 rfl) ?_
                              refine lv_if_eq (tgt := 252) hx hb dL_isFigure_230 (by decide) (fun q => absurd q (by decide)) (fun _ => ?_)
                              refine lv_iload hx hb dL_isFigure_233 (lv_at hl 0 rfl) ?_
                              refine lv_if_eq (tgt := 248) hx hb dL_isFigure_235 (by decide) (fun q => absurd q (by decide)) (fun _ => ?_)
                              refine lv_iload hx hb dL_isFigure_238 (lv_at hl 9 rfl) ?_
                              refine lv_if_eq (tgt := 248) hx hb dL_isFigure_240 (by decide) (fun _ => ?_) (fun q => absurd q (by decide))
                              refine lv_iconst (v := 1) hx hb dL_isFigure_248 (by decide) ?_
                              refine lv_goto (tgt := 253) hx hb dL_isFigure_249 (by decide) ?_
                              refine lv_istore (lv' := [(9, .int 1), (13, .int 1), (12, .int (n_ct v f sn)), (11, .int (nI sn)), (0, .ref oX), (1, .ref sb), (2, .ref pa), (3, .int (nI f)), (4, .ref qa), (5, .int h9), (6, .int 0), (7, .int (nI sn)), (8, .int 0), (10, .int (nI k))]) hx hb dL_isFigure_253 hl (by decide) rfl (fun ls hl => ?_)
                              refine lv_iinc (v := nI (k + 1)) (lv' := [(10, .int (nI (k + 1))), (9, .int 1), (13, .int 1), (12, .int (n_ct v f sn)), (11, .int (nI sn)), (0, .ref oX), (1, .ref sb), (2, .ref pa), (3, .int (nI f)), (4, .ref qa), (5, .int h9), (6, .int 0), (7, .int (nI sn)), (8, .int 0)]) hx hb dL_isFigure_255 hl (k := 13) rfl (nI_1 k) (by decide) rfl (fun ls hl => ?_)
                              refine lv_goto (tgt := 107) hx hb dL_isFigure_258 (by decide) ?_
                              exact ih_378 (k + 1) gp_451 gt_452 gl_453 (by omega) (by show 4 - (k + 1) < 4 - k; omega) _ _ hP hD hS _ (lv_sub hl [5, 6, 7, 8, 9, 10, 11, 12, 13, 1, 0] rfl)
                  · skip
                    refine lv_iload hx hb dL_isFigure_155 (lv_at hl 0 rfl) ?_
                    refine lv_if_ge (tgt := 166) hx hb dL_isFigure_157 (by decide) (fun c_464 => ?_) (fun c_464 => ?_)
                    · skip
                      refine lv_iload hx hb dL_isFigure_166 (lv_at hl 0 rfl) ?_
                      refine kq_top (z := n_abs (n_ct v f sn)) (by unfold n_abs; first | rw [if_pos (by assumption)] | rw [if_neg (by assumption)]) ?_
                      exact hJ_430 _ (lv_sub hl [0, 1, 2, 3, 4, 5, 6, 7, 8, 9, 10, 11, 12] rfl)
                    · skip
                      refine lv_iload hx hb dL_isFigure_160 (lv_at hl 0 rfl) ?_
                      refine lv_ineg hx hb dL_isFigure_162 ?_
                      refine kq_top (z := 0 - (n_ct v f sn)) (n_ineg (n_ct v f sn)) ?_
                      refine lv_goto (tgt := 168) hx hb dL_isFigure_163 (by decide) ?_
                      refine kq_top (z := n_abs (n_ct v f sn)) (by unfold n_abs; first | rw [if_pos (by assumption)] | rw [if_neg (by assumption)]) ?_
                      exact hJ_430 _ (lv_sub hl [0, 1, 2, 3, 4, 5, 6, 7, 8, 9, 10, 11, 12] rfl)
