/-! Hidden figures, rows, contrasts. -/
theorem n_cell_0 {v : Nat → Int32} {n i j : Nat} : n_cell v n i j 0 = n_to v n i j := by rw [n_cell]
theorem n_cell_1 {v : Nat → Int32} {n i j : Nat} : n_cell v n i j 1 = v (294 + i * 12 + j) := by rw [n_cell]
theorem n_cell_2 {v : Nat → Int32} {n i j : Nat} : n_cell v n i j 2 = n_to v n i j - v (294 + i * 12 + j) + 100 := by rw [n_cell, n_li]
theorem n_cell_3 {v : Nat → Int32} {n i j : Nat} : n_cell v n i j 3 = n_pr v (n_x v n j) i + 100 := by simp [n_cell]
theorem n_mi_s {g : Nat → Int32} {r h d w k : Nat} : n_mi g r h d w (k + 1) = n_mi g r h d w k + (if (r ≤ k / 12 ∧ k / 12 < r + h) ∧ (d ≤ k % 12 ∧ k % 12 < d + w) then g k else 0) := rfl
theorem n_ma_s {g : Nat → Int32} {r h d w k : Nat} : n_ma g r h d w (k + 1) = n_ma g r h d w k + (if (r ≤ k / 12 ∧ k / 12 < r + h) ∧ (d ≤ k % 12 ∧ k % 12 < d + w) then 0 else if (r ≤ k / 12 + 1 ∧ k / 12 ≤ r + h) ∧ (d ≤ k % 12 + 1 ∧ k % 12 ≤ d + w) then g k else 0) := rfl

set_option maxHeartbeats 4000000 in
set_option maxRecDepth 100000 in
theorem c_L_isHidden (l : Launch) (dC : Nat → ClassId) (dI : Nat → Nat → Nat) (cI : ClassId) (sz : Nat) (oX : Nat) (oS : Nat) (oR : Nat) (oN : Nat) (o2 : Nat) (oF : Nat) (oT : Nat) (rv : Nat) (rs : Nat) (kc : Nat) (rp : Nat) (rt : Nat) (rl : Nat) (v : Nat → Int32) (fp : Nat → Int32) (ft : Nat → Int32) (fl : Nat → Int32) (qa : Nat) (f : Nat) (qf : Nat → Int32) (hI : n_I v) (hf : f < 4) (ht : 0 < n_f v f 2) (hq : n_qq qf (n_f v f 0) (n_f v f 1) (n_f v f 2) (n_f v f 3)) : Met l yL_isHidden wsL_isHidden ({ frames := 4, cells := 0, slots := 0, locals := 96 }) (kq_M dC dI cI [.ref oX, .ref qa] sz [(oX, .inr (5, [.ref oS, .ref oR, .ref oN, .ref o2, .ref oF, .ref oT])), (oS, .inr (3, [.ref rv, .ref rs, .int (nI kc)])), (rv, .inl (cI, 385, .inl v)), (oN, .inr (1, [.ref oS, .ref rp, .ref rt, .ref rl])), (rp, .inl (cI, 72, .inl fp)), (rt, .inl (cI, 72, .inl ft)), (rl, .inl (cI, 72, .inl fl)), (qa, .inl (cI, 4, .inl qf))]) (va_Qi (fun (r : Int32) (u : (Nat → Int32) × (Nat → Int32) × (Nat → Int32)) => r = if n_hid v f then 1 else 0) (kq_B dC dI (va_A [(oX, .inr (5, [.ref oS, .ref oR, .ref oN, .ref o2, .ref oF, .ref oT])), (oS, .inr (3, [.ref rv, .ref rs, .int (nI kc)])), (rv, .inl (cI, 385, .inl v)), (oN, .inr (1, [.ref oS, .ref rp, .ref rt, .ref rl])), (rp, .inl (cI, 72, .inl fp)), (rt, .inl (cI, 72, .inl ft)), (rl, .inl (cI, 72, .inl fl)), (qa, .inl (cI, 4, .inl qf))] sz) (fun u : (Nat → Int32) × (Nat → Int32) × (Nat → Int32) => [(oX, .inr (5, [.ref oS, .ref oR, .ref oN, .ref o2, .ref oF, .ref oT])), (oS, .inr (3, [.ref rv, .ref rs, .int (nI kc)])), (rv, .inl (cI, 385, .inl v)), (oN, .inr (1, [.ref oS, .ref rp, .ref rt, .ref rl])), (rp, .inl (cI, 72, .inl u.1)), (rt, .inl (cI, 72, .inl u.2.1)), (rl, .inl (cI, 72, .inl u.2.2)), (qa, .inl (cI, 4, .inl qf))])) (va_A [(oX, .inr (5, [.ref oS, .ref oR, .ref oN, .ref o2, .ref oF, .ref oT])), (oS, .inr (3, [.ref rv, .ref rs, .int (nI kc)])), (rv, .inl (cI, 385, .inl v)), (oN, .inr (1, [.ref oS, .ref rp, .ref rt, .ref rl])), (rp, .inl (cI, 72, .inl fp)), (rt, .inl (cI, 72, .inl ft)), (rl, .inl (cI, 72, .inl fl)), (qa, .inl (cI, 4, .inl qf))] sz)) 0 0 (va_A [(oX, .inr (5, [.ref oS, .ref oR, .ref oN, .ref o2, .ref oF, .ref oT])), (oS, .inr (3, [.ref rv, .ref rs, .int (nI kc)])), (rv, .inl (cI, 385, .inl v)), (oN, .inr (1, [.ref oS, .ref rp, .ref rt, .ref rl])), (rp, .inl (cI, 72, .inl fp)), (rt, .inl (cI, 72, .inl ft)), (rl, .inl (cI, 72, .inl fl)), (qa, .inl (cI, 4, .inl qf))] sz) := by
  refine kq_startM (cc := cL_isHidden) (maxL := 4) (ret := (some .boolean)) (by decide) rfl (Nat.le_of_ble_eq_true rfl) ?_
  intro p e s m below meth c hx hb hr hml hown hlocks hts hsz hA hP hD hS hK hnm ls hl
  subst hsz
  generalize hAe : va_A [(oX, .inr (5, [.ref oS, .ref oR, .ref oN, .ref o2, .ref oF, .ref oT])), (oS, .inr (3, [.ref rv, .ref rs, .int (nI kc)])), (rv, .inl (cI, 385, .inl v)), (oN, .inr (1, [.ref oS, .ref rp, .ref rt, .ref rl])), (rp, .inl (cI, 72, .inl fp)), (rt, .inl (cI, 72, .inl ft)), (rl, .inl (cI, 72, .inl fl)), (qa, .inl (cI, 4, .inl qf))] s.heap.size = A at hA hD hS ⊢
  have hown : s.vm.findClass RL = some m.cls := hown
  have hl : lv_has ls 4 [(0, .ref oX), (1, .ref qa)] := hl
  obtain ⟨hfa, hfb, hfc, hfd⟩ := n_I_fr hI hf
  have hw0 := hfb ht
  refine lv_iconst (v := 1) hx hb dL_isHidden_0 (by decide) ?_
  refine lv_istore_n (lv' := [(2, .int 1), (0, .ref oX), (1, .ref qa)]) hx hb dL_isHidden_1 rfl hl (by decide) rfl (fun ls hl => ?_)
  refine lv_iconst (v := 0) hx hb dL_isHidden_2 (by decide) ?_
  refine lv_istore_n (lv' := [(3, .int 0), (2, .int 1), (0, .ref oX), (1, .ref qa)]) hx hb dL_isHidden_3 rfl hl (by decide) rfl (fun ls hl => ?_)
  refine kq_loopM5 (A1 := Nat) (A2 := Int32) (A3 := Nat → Int32) (A4 := Nat → Int32) (A5 := Nat → Int32) (fun (k : Nat) (x : Int32) (fp : Nat → Int32) (ft : Nat → Int32) (fl : Nat → Int32) => 72 - k) (fun (k : Nat) (x : Int32) (fp : Nat → Int32) (ft : Nat → Int32) (fl : Nat → Int32) => (k ≤ 72) ∧ ((x = 1 ∧ ∀ j, j < k → n_hidP v f j) ∨ (x = 0 ∧ ¬ n_hid v f = true))) (fun (k : Nat) (x : Int32) (fp : Nat → Int32) (ft : Nat → Int32) (fl : Nat → Int32) => [(0, .ref oX), (1, .ref qa), (2, .int x), (3, .int (nI k))]) (fun (k : Nat) (x : Int32) (fp : Nat → Int32) (ft : Nat → Int32) (fl : Nat → Int32) => [(oX, .inr (5, [.ref oS, .ref oR, .ref oN, .ref o2, .ref oF, .ref oT])), (oS, .inr (3, [.ref rv, .ref rs, .int (nI kc)])), (rv, .inl (cI, 385, .inl v)), (oN, .inr (1, [.ref oS, .ref rp, .ref rt, .ref rl])), (rp, .inl (cI, 72, .inl fp)), (rt, .inl (cI, 72, .inl ft)), (rl, .inl (cI, 72, .inl fl)), (qa, .inl (cI, 4, .inl qf))]) (nL := 4) hK ?_ 0 1 fp ft fl ⟨(by omega), (by exact Or.inl ⟨rfl, fun j hj => absurd hj (Nat.not_lt_zero j)⟩)⟩ hP hD hS _ (lv_sub hl [2, 3, 1, 0] rfl)
  intro k x fp ft fl hi_2 ih_1 H locs hP hD hS ls hl
  obtain ⟨ik, ix⟩ := hi_2
  have hl : lv_has ls 4 [(0, .ref oX), (1, .ref qa), (2, .int x), (3, .int (nI k))] := hl
  have hP : va_P (dC, dI) vwCl [(oX, .inr (5, [.ref oS, .ref oR, .ref oN, .ref o2, .ref oF, .ref oT])), (oS, .inr (3, [.ref rv, .ref rs, .int (nI kc)])), (rv, .inl (cI, 385, .inl v)), (oN, .inr (1, [.ref oS, .ref rp, .ref rt, .ref rl])), (rp, .inl (cI, 72, .inl fp)), (rt, .inl (cI, 72, .inl ft)), (rl, .inl (cI, 72, .inl fl)), (qa, .inl (cI, 4, .inl qf))] H := hP
  have hD : va_D A [(oX, .inr (5, [.ref oS, .ref oR, .ref oN, .ref o2, .ref oF, .ref oT])), (oS, .inr (3, [.ref rv, .ref rs, .int (nI kc)])), (rv, .inl (cI, 385, .inl v)), (oN, .inr (1, [.ref oS, .ref rp, .ref rt, .ref rl])), (rp, .inl (cI, 72, .inl fp)), (rt, .inl (cI, 72, .inl ft)), (rl, .inl (cI, 72, .inl fl)), (qa, .inl (cI, 4, .inl qf))] := hD
  refine lv_iload_n hx hb dL_isHidden_4 rfl (lv_at hl 3 rfl) ?_
  refine lv_bipush (v := 72) hx hb dL_isHidden_5 (by decide) ?_
  refine lv_icmp_ge (tgt := 71) hx hb dL_isHidden_7 (by decide) (fun c_3 => ?_) (fun c_3 => ?_)
  · skip
    have c_3 := kq_leN (a := 72) (b := k) c_3 (by omega) (by omega)
    refine lv_iload_n hx hb dL_isHidden_71 rfl (lv_at hl 2 rfl) ?_
    exact kq_retMz (fp, ft, fl) hx hb hr hlocks hP hD hS dL_isHidden_72 (by rcases ix with q | q; exact Or.inr q.1; exact Or.inl q.1) (by rcases ix with q | q; (rw [q.1, if_pos (n_hid_iff.mpr (fun j hj => q.2 j (by omega)))]); (rw [q.1, if_neg q.2]))
  · skip
    have c_3 := kq_nleN (a := 72) (b := k) c_3 (by omega) (by omega)
    refine lv_iload_n hx hb dL_isHidden_10 rfl (lv_at hl 2 rfl) ?_
    refine lv_if_eq (tgt := 63) hx hb dL_isHidden_11 (by decide) (fun c_4 => ?_) (fun c_4 => ?_)
    · skip
      have hz : ¬ n_hid v f = true := by rcases ix with q | q; exact absurd (q.1.symm.trans c_4) (by decide); exact q.2
      refine lv_iconst (v := 0) hx hb dL_isHidden_63 (by decide) ?_
      refine lv_istore_n (lv' := [(2, .int 0), (0, .ref oX), (1, .ref qa), (3, .int (nI k))]) hx hb dL_isHidden_64 rfl hl (by decide) rfl (fun ls hl => ?_)
      refine lv_iinc (v := nI (k + 1)) (lv' := [(3, .int (nI (k + 1))), (2, .int 0), (0, .ref oX), (1, .ref qa)]) hx hb dL_isHidden_65 hl (k := 3) rfl (nI_1 k) (by decide) rfl (fun ls hl => ?_)
      refine lv_goto (tgt := 4) hx hb dL_isHidden_68 (by decide) ?_
      exact ih_1 (k + 1) 0 fp ft fl ⟨(by omega), (by first | exact Or.inl ⟨rfl, fun j hj => by rcases Nat.lt_or_ge j k with q | q; exact hz j q; rw [show j = k by omega]; exact hz2⟩ | exact Or.inr ⟨rfl, hz⟩ | exact Or.inr ⟨rfl, hz2⟩)⟩ (by show 72 - (k + 1) < 72 - k; omega) _ _ hP hD hS _ (lv_sub hl [2, 3, 1, 0] rfl)
    · skip
      have hz : ∀ j, j < k → n_hidP v f j := by rcases ix with q | q; exact q.2; exact absurd q.1 c_4
      refine lv_aload_n hx hb dL_isHidden_14 rfl (lv_at hl 1 rfl) ?_
      refine lv_iload_n hx hb dL_isHidden_15 rfl (lv_at hl 3 rfl) ?_
      refine lv_bipush (v := 12) hx hb dL_isHidden_16 (by decide) ?_
      refine lv_idiv hx hb dL_isHidden_18 (nI_ne0 (n := 12) (by omega) (by omega)) ?_
      refine kq_top (z := nI (k / 12)) (pk_div (a := k) (d := 12) (by omega) (by omega) (by omega)) ?_
      refine lv_iload_n hx hb dL_isHidden_19 rfl (lv_at hl 3 rfl) ?_
      refine lv_bipush (v := 12) hx hb dL_isHidden_20 (by decide) ?_
      refine lv_irem hx hb dL_isHidden_22 (nI_ne0 (n := 12) (by omega) (by omega)) ?_
      refine kq_top (z := nI (k % 12)) (pk_rem (a := k) (d := 12) (by omega) (by omega) (by omega)) ?_
      refine lv_iconst (v := 1) hx hb dL_isHidden_23 (by decide) ?_
      refine kq_cS (As := [.ref qa, .int (nI (k / 12)), .int (nI (k % 12)), .int 1]) (rest := []) ⟨hx, hb, hml, hown, hts⟩ (c_L_isIn_1 l dC dI cI qa qf (n_f v f 0) (n_f v f 1) (n_f v f 2) (n_f v f 3) (k / 12) (k % 12) (by first | assumption | omega) (by first | assumption | omega) (by first | assumption | omega) (by first | assumption | omega) (by first | assumption | omega)) (va_cwS 4 hts gL_isHidden_L_isIn rfl rfl rfl (by decide +kernel) ⟨Nat.le_of_ble_eq_true rfl, Nat.le_of_ble_eq_true rfl⟩) (hP.sub [7] rfl) hK rfl hl.1 rfl (Nat.le_of_ble_eq_true rfl) dL_isHidden_24 ⟨Nat.le_of_ble_eq_true rfl, Nat.le_of_ble_eq_true rfl⟩ ?_
      refine lv_if_eq (tgt := 59) hx hb dL_isHidden_27 (by decide) (fun c_5 => ?_) (fun c_5 => ?_)
      · skip
        have c_5 := kq_bf c_5
        have hz2 : n_hidP v f k := fun q => absurd q c_5
        refine lv_iconst (v := 1) hx hb dL_isHidden_59 (by decide) ?_
        refine lv_goto (tgt := 64) hx hb dL_isHidden_60 (by decide) ?_
        refine lv_istore_n (lv' := [(2, .int 1), (0, .ref oX), (1, .ref qa), (3, .int (nI k))]) hx hb dL_isHidden_64 rfl hl (by decide) rfl (fun ls hl => ?_)
        refine lv_iinc (v := nI (k + 1)) (lv' := [(3, .int (nI (k + 1))), (2, .int 1), (0, .ref oX), (1, .ref qa)]) hx hb dL_isHidden_65 hl (k := 3) rfl (nI_1 k) (by decide) rfl (fun ls hl => ?_)
        refine lv_goto (tgt := 4) hx hb dL_isHidden_68 (by decide) ?_
        exact ih_1 (k + 1) 1 fp ft fl ⟨(by omega), (by first | exact Or.inl ⟨rfl, fun j hj => by rcases Nat.lt_or_ge j k with q | q; exact hz j q; rw [show j = k by omega]; exact hz2⟩ | exact Or.inr ⟨rfl, hz⟩ | exact Or.inr ⟨rfl, hz2⟩)⟩ (by show 72 - (k + 1) < 72 - k; omega) _ _ hP hD hS _ (lv_sub hl [2, 3, 1, 0] rfl)
      · skip
        have c_5 := kq_bt c_5
        have hin := c_5
        refine lv_aload_n hx hb dL_isHidden_30 rfl (lv_at hl 0 rfl) ?_
        refine lv_iconst (v := 0) hx hb dL_isHidden_31 (by decide) ?_
        refine lv_iload_n hx hb dL_isHidden_32 rfl (lv_at hl 3 rfl) ?_
        refine lv_bipush (v := 12) hx hb dL_isHidden_33 (by decide) ?_
        refine lv_idiv hx hb dL_isHidden_35 (nI_ne0 (n := 12) (by omega) (by omega)) ?_
        refine kq_top (z := nI (k / 12)) (pk_div (a := k) (d := 12) (by omega) (by omega) (by omega)) ?_
        refine lv_iload_n hx hb dL_isHidden_36 rfl (lv_at hl 3 rfl) ?_
        refine lv_bipush (v := 12) hx hb dL_isHidden_37 (by decide) ?_
        refine lv_irem hx hb dL_isHidden_39 (nI_ne0 (n := 12) (by omega) (by omega)) ?_
        refine kq_top (z := nI (k % 12)) (pk_rem (a := k) (d := 12) (by omega) (by omega) (by omega)) ?_
        refine lv_iconst (v := 1) hx hb dL_isHidden_40 (by decide) ?_
        refine kq_callMi (wr := [(qa, .inl (cI, 4, .inl qf))]) (va_runV (As := [.int 0, .int (nI (k / 12)), .int (nI (k % 12)), .int 1]) (rest := []) ⟨hx, hb, hml, hown, hts⟩ (c_X5_cell l dC dI cI H.size oX oS oR oN o2 oF oT rv rs kc rp rt rl v fp ft fl 0 (k / 12) (k % 12) 1 (by first | assumption | omega) (by first | assumption | omega) (by first | assumption | omega) (by first | assumption | omega) (by first | assumption | omega)) (cwV 4 hts gL_isHidden_X5_cell rfl rfl rfl (by decide +kernel) ⟨Nat.le_of_ble_eq_true rfl, Nat.le_of_ble_eq_true rfl⟩) (kq_preV (ci := 5) (q0 := 0) (hP.sub [0, 1, 2, 3, 4, 5, 6] rfl) (hD.sub [0, 1, 2, 3, 4, 5, 6] (by decide) rfl) hK rfl rfl) rfl rfl hl.1 rfl (lv_room (Nat.le_of_ble_eq_true rfl)) dL_isHidden_41 ⟨Nat.le_of_ble_eq_true rfl, Nat.le_of_ble_eq_true rfl⟩) hP hD hS hA [0, 1, 2, 3, 4, 5, 6] [7] rfl rfl (by decide) (by decide) (fun r_6 u_7 H locs hw_8 hP hD hS => ?_)
        obtain ⟨gp_9, gt_10, gl_11⟩ := u_7
        have hP : va_P (dC, dI) vwCl [(qa, .inl (cI, 4, .inl qf)), (oX, .inr (5, [.ref oS, .ref oR, .ref oN, .ref o2, .ref oF, .ref oT])), (oS, .inr (3, [.ref rv, .ref rs, .int (nI kc)])), (rv, .inl (cI, 385, .inl v)), (oN, .inr (1, [.ref oS, .ref rp, .ref rt, .ref rl])), (rp, .inl (cI, 72, .inl gp_9)), (rt, .inl (cI, 72, .inl gt_10)), (rl, .inl (cI, 72, .inl gl_11))] H := hP
        have hD : va_D A [(qa, .inl (cI, 4, .inl qf)), (oX, .inr (5, [.ref oS, .ref oR, .ref oN, .ref o2, .ref oF, .ref oT])), (oS, .inr (3, [.ref rv, .ref rs, .int (nI kc)])), (rv, .inl (cI, 385, .inl v)), (oN, .inr (1, [.ref oS, .ref rp, .ref rt, .ref rl])), (rp, .inl (cI, 72, .inl gp_9)), (rt, .inl (cI, 72, .inl gt_10)), (rl, .inl (cI, 72, .inl gl_11))] := hD
        obtain rfl := hw_8
        refine kq_top (z := v (294 + k)) (n_cell_1.trans (congrArg v (by omega))) ?_
        refine lv_aload_n hx hb dL_isHidden_44 rfl (lv_at hl 0 rfl) ?_
        refine lv_iconst (v := 0) hx hb dL_isHidden_45 (by decide) ?_
        refine lv_aload_n hx hb dL_isHidden_46 rfl (lv_at hl 1 rfl) ?_
        refine lv_iconst (v := 0) hx hb dL_isHidden_47 (by decide) ?_
        refine va_iald hx hb hK.1 hP 0 0 rfl rfl (vp_in_nI (show 0 < 4 from by omega) (by omega)) dL_isHidden_48 ?_
        refine kq_top (z := qf 0) (congrArg qf (nI_clamp (Nat.lt_trans (show 0 < 4 from by omega) (by omega)))) ?_
        refine kq_top (z := nI (n_f v f 0)) (hq.1) ?_
        refine lv_aload_n hx hb dL_isHidden_49 rfl (lv_at hl 1 rfl) ?_
        refine lv_iconst (v := 1) hx hb dL_isHidden_50 (by decide) ?_
        refine va_iald hx hb hK.1 hP 0 0 rfl rfl (vp_in_nI (show 1 < 4 from by omega) (by omega)) dL_isHidden_51 ?_
        refine kq_top (z := qf 1) (congrArg qf (nI_clamp (Nat.lt_trans (show 1 < 4 from by omega) (by omega)))) ?_
        refine kq_top (z := nI (n_f v f 1)) (hq.2.1) ?_
        refine lv_iconst (v := 1) hx hb dL_isHidden_52 (by decide) ?_
        refine kq_callMi (wr := [(qa, .inl (cI, 4, .inl qf))]) (va_runV (As := [.int 0, .int (nI (n_f v f 0)), .int (nI (n_f v f 1)), .int 1]) (rest := [.int (v (294 + k))]) ⟨hx, hb, hml, hown, hts⟩ (c_X5_cell l dC dI cI H.size oX oS oR oN o2 oF oT rv rs kc rp rt rl v gp_9 gt_10 gl_11 0 (n_f v f 0) (n_f v f 1) 1 (by first | assumption | omega) (by first | assumption | omega) (by first | assumption | omega) (by first | assumption | omega) (by first | assumption | omega)) (cwV 4 hts gL_isHidden_X5_cell rfl rfl rfl (by decide +kernel) ⟨Nat.le_of_ble_eq_true rfl, Nat.le_of_ble_eq_true rfl⟩) (kq_preV (ci := 5) (q0 := 0) (hP.sub [1, 2, 3, 4, 5, 6, 7] rfl) (hD.sub [1, 2, 3, 4, 5, 6, 7] (by decide) rfl) hK rfl rfl) rfl rfl hl.1 rfl (lv_room (Nat.le_of_ble_eq_true rfl)) dL_isHidden_53 ⟨Nat.le_of_ble_eq_true rfl, Nat.le_of_ble_eq_true rfl⟩) hP hD hS hA [1, 2, 3, 4, 5, 6, 7] [0] rfl rfl (by decide) (by decide) (fun r_12 u_13 H locs hw_14 hP hD hS => ?_)
        obtain ⟨gp_15, gt_16, gl_17⟩ := u_13
        have hP : va_P (dC, dI) vwCl [(qa, .inl (cI, 4, .inl qf)), (oX, .inr (5, [.ref oS, .ref oR, .ref oN, .ref o2, .ref oF, .ref oT])), (oS, .inr (3, [.ref rv, .ref rs, .int (nI kc)])), (rv, .inl (cI, 385, .inl v)), (oN, .inr (1, [.ref oS, .ref rp, .ref rt, .ref rl])), (rp, .inl (cI, 72, .inl gp_15)), (rt, .inl (cI, 72, .inl gt_16)), (rl, .inl (cI, 72, .inl gl_17))] H := hP
        have hD : va_D A [(qa, .inl (cI, 4, .inl qf)), (oX, .inr (5, [.ref oS, .ref oR, .ref oN, .ref o2, .ref oF, .ref oT])), (oS, .inr (3, [.ref rv, .ref rs, .int (nI kc)])), (rv, .inl (cI, 385, .inl v)), (oN, .inr (1, [.ref oS, .ref rp, .ref rt, .ref rl])), (rp, .inl (cI, 72, .inl gp_15)), (rt, .inl (cI, 72, .inl gt_16)), (rl, .inl (cI, 72, .inl gl_17))] := hD
        obtain rfl := hw_14
        refine kq_top (z := v (294 + (n_f v f 0 * 12 + n_f v f 1))) (n_cell_1.trans (congrArg v (by omega))) ?_
        refine lv_icmp_ne (tgt := 63) hx hb dL_isHidden_56 (by decide) (fun c_18 => ?_) (fun c_18 => ?_)
        · skip
          have hz2 : ¬ n_hid v f = true := fun q => c_18 (n_hid_iff.mp q k (by omega) hin)
          refine lv_iconst (v := 0) hx hb dL_isHidden_63 (by decide) ?_
          refine lv_istore_n (lv' := [(2, .int 0), (0, .ref oX), (1, .ref qa), (3, .int (nI k))]) hx hb dL_isHidden_64 rfl hl (by decide) rfl (fun ls hl => ?_)
          refine lv_iinc (v := nI (k + 1)) (lv' := [(3, .int (nI (k + 1))), (2, .int 0), (0, .ref oX), (1, .ref qa)]) hx hb dL_isHidden_65 hl (k := 3) rfl (nI_1 k) (by decide) rfl (fun ls hl => ?_)
          refine lv_goto (tgt := 4) hx hb dL_isHidden_68 (by decide) ?_
          exact ih_1 (k + 1) 0 gp_15 gt_16 gl_17 ⟨(by omega), (by first | exact Or.inl ⟨rfl, fun j hj => by rcases Nat.lt_or_ge j k with q | q; exact hz j q; rw [show j = k by omega]; exact hz2⟩ | exact Or.inr ⟨rfl, hz⟩ | exact Or.inr ⟨rfl, hz2⟩)⟩ (by show 72 - (k + 1) < 72 - k; omega) _ _ (hP.sub [1, 2, 3, 4, 5, 6, 7, 0] rfl) (hD.sub [1, 2, 3, 4, 5, 6, 7, 0] (by decide) rfl) hS _ (lv_sub hl [2, 3, 1, 0] rfl)
        · skip
          have hz2 : n_hidP v f k := fun _ => c_18
          refine lv_iconst (v := 1) hx hb dL_isHidden_59 (by decide) ?_
          refine lv_goto (tgt := 64) hx hb dL_isHidden_60 (by decide) ?_
          refine lv_istore_n (lv' := [(2, .int 1), (0, .ref oX), (1, .ref qa), (3, .int (nI k))]) hx hb dL_isHidden_64 rfl hl (by decide) rfl (fun ls hl => ?_)
          refine lv_iinc (v := nI (k + 1)) (lv' := [(3, .int (nI (k + 1))), (2, .int 1), (0, .ref oX), (1, .ref qa)]) hx hb dL_isHidden_65 hl (k := 3) rfl (nI_1 k) (by decide) rfl (fun ls hl => ?_)
          refine lv_goto (tgt := 4) hx hb dL_isHidden_68 (by decide) ?_
          exact ih_1 (k + 1) 1 gp_15 gt_16 gl_17 ⟨(by omega), (by first | exact Or.inl ⟨rfl, fun j hj => by rcases Nat.lt_or_ge j k with q | q; exact hz j q; rw [show j = k by omega]; exact hz2⟩ | exact Or.inr ⟨rfl, hz⟩ | exact Or.inr ⟨rfl, hz2⟩)⟩ (by show 72 - (k + 1) < 72 - k; omega) _ _ (hP.sub [1, 2, 3, 4, 5, 6, 7, 0] rfl) (hD.sub [1, 2, 3, 4, 5, 6, 7, 0] (by decide) rfl) hS _ (lv_sub hl [2, 3, 1, 0] rfl)
set_option maxHeartbeats 4000000 in
set_option maxRecDepth 100000 in
theorem c_L_isRow (l : Launch) (dC : Nat → ClassId) (dI : Nat → Nat → Nat) (cI : ClassId) (sb sL : Nat) (xs : Nat → Int32) (sz : Nat) (oX : Nat) (oS : Nat) (oR : Nat) (oN : Nat) (o2 : Nat) (oF : Nat) (oT : Nat) (rv : Nat) (rs : Nat) (kc : Nat) (rp : Nat) (rt : Nat) (rl : Nat) (v : Nat → Int32) (fp : Nat → Int32) (ft : Nat → Int32) (fl : Nat → Int32) (pa : Nat) (pf : Nat → Int32) (n : Nat) (i : Nat) (hI : n_I v) (hW : n_ww sL xs v) (hp : n_pp v pf) (hn : n < 1000) (hi9 : i < 6) (hL : sL ≤ 260) : Met l yL_isRow wsL_isRow ({ frames := 4, cells := 0, slots := 0, locals := 99 }) (kq_MX dC dI cI sb sL xs [.ref oX, .ref sb, .ref pa, .int (nI n), .int (nI i)] sz [(oX, .inr (5, [.ref oS, .ref oR, .ref oN, .ref o2, .ref oF, .ref oT])), (oS, .inr (3, [.ref rv, .ref rs, .int (nI kc)])), (rv, .inl (cI, 385, .inl v)), (oN, .inr (1, [.ref oS, .ref rp, .ref rt, .ref rl])), (rp, .inl (cI, 72, .inl fp)), (rt, .inl (cI, 72, .inl ft)), (rl, .inl (cI, 72, .inl fl)), (pa, .inl (cI, 8, .inl pf))]) (va_Qi (fun (r : Int32) (u : (Nat → Int32) × (Nat → Int32) × (Nat → Int32)) => r = 1) (kq_B dC dI (va_A [(oX, .inr (5, [.ref oS, .ref oR, .ref oN, .ref o2, .ref oF, .ref oT])), (oS, .inr (3, [.ref rv, .ref rs, .int (nI kc)])), (rv, .inl (cI, 385, .inl v)), (oN, .inr (1, [.ref oS, .ref rp, .ref rt, .ref rl])), (rp, .inl (cI, 72, .inl fp)), (rt, .inl (cI, 72, .inl ft)), (rl, .inl (cI, 72, .inl fl)), (pa, .inl (cI, 8, .inl pf))] sz) (fun u : (Nat → Int32) × (Nat → Int32) × (Nat → Int32) => [(oX, .inr (5, [.ref oS, .ref oR, .ref oN, .ref o2, .ref oF, .ref oT])), (oS, .inr (3, [.ref rv, .ref rs, .int (nI kc)])), (rv, .inl (cI, 385, .inl v)), (oN, .inr (1, [.ref oS, .ref rp, .ref rt, .ref rl])), (rp, .inl (cI, 72, .inl u.1)), (rt, .inl (cI, 72, .inl u.2.1)), (rl, .inl (cI, 72, .inl u.2.2)), (pa, .inl (cI, 8, .inl pf))])) (va_A [(oX, .inr (5, [.ref oS, .ref oR, .ref oN, .ref o2, .ref oF, .ref oT])), (oS, .inr (3, [.ref rv, .ref rs, .int (nI kc)])), (rv, .inl (cI, 385, .inl v)), (oN, .inr (1, [.ref oS, .ref rp, .ref rt, .ref rl])), (rp, .inl (cI, 72, .inl fp)), (rt, .inl (cI, 72, .inl ft)), (rl, .inl (cI, 72, .inl fl)), (pa, .inl (cI, 8, .inl pf))] sz)) 0 0 (va_A [(oX, .inr (5, [.ref oS, .ref oR, .ref oN, .ref o2, .ref oF, .ref oT])), (oS, .inr (3, [.ref rv, .ref rs, .int (nI kc)])), (rv, .inl (cI, 385, .inl v)), (oN, .inr (1, [.ref oS, .ref rp, .ref rt, .ref rl])), (rp, .inl (cI, 72, .inl fp)), (rt, .inl (cI, 72, .inl ft)), (rl, .inl (cI, 72, .inl fl)), (pa, .inl (cI, 8, .inl pf))] sz) := by
  refine kq_startMX (cc := cL_isRow) (maxL := 9) (ret := (some .boolean)) (by decide) rfl (Nat.le_of_ble_eq_true rfl) ?_
  intro p e s m below meth c hx hb hr hml hown hlocks hts hsz hA hP hD hS hK hnm hX hbl hbA ls hl
  subst hsz
  generalize hAe : va_A [(oX, .inr (5, [.ref oS, .ref oR, .ref oN, .ref o2, .ref oF, .ref oT])), (oS, .inr (3, [.ref rv, .ref rs, .int (nI kc)])), (rv, .inl (cI, 385, .inl v)), (oN, .inr (1, [.ref oS, .ref rp, .ref rt, .ref rl])), (rp, .inl (cI, 72, .inl fp)), (rt, .inl (cI, 72, .inl ft)), (rl, .inl (cI, 72, .inl fl)), (pa, .inl (cI, 8, .inl pf))] s.heap.size = A at hA hD hS hbA ⊢
  have hown : s.vm.findClass RL = some m.cls := hown
  have hl : lv_has ls 9 [(0, .ref oX), (1, .ref sb), (2, .ref pa), (3, .int (nI n)), (4, .int (nI i))] := hl
  refine lv_iconst (v := 0) hx hb dL_isRow_0 (by decide) ?_
  refine lv_istore (lv' := [(5, .int 0), (0, .ref oX), (1, .ref sb), (2, .ref pa), (3, .int (nI n)), (4, .int (nI i))]) hx hb dL_isRow_1 hl (by decide) rfl (fun ls hl => ?_)
  refine kq_loopM4 (A1 := Nat) (A2 := Nat → Int32) (A3 := Nat → Int32) (A4 := Nat → Int32) (fun (j : Nat) (fp : Nat → Int32) (ft : Nat → Int32) (fl : Nat → Int32) => 12 - j) (fun (j : Nat) (fp : Nat → Int32) (ft : Nat → Int32) (fl : Nat → Int32) => (j ≤ 12)) (fun (j : Nat) (fp : Nat → Int32) (ft : Nat → Int32) (fl : Nat → Int32) => [(0, .ref oX), (1, .ref sb), (2, .ref pa), (3, .int (nI n)), (4, .int (nI i)), (5, .int (nI j))]) (fun (j : Nat) (fp : Nat → Int32) (ft : Nat → Int32) (fl : Nat → Int32) => [(oX, .inr (5, [.ref oS, .ref oR, .ref oN, .ref o2, .ref oF, .ref oT])), (oS, .inr (3, [.ref rv, .ref rs, .int (nI kc)])), (rv, .inl (cI, 385, .inl v)), (oN, .inr (1, [.ref oS, .ref rp, .ref rt, .ref rl])), (rp, .inl (cI, 72, .inl fp)), (rt, .inl (cI, 72, .inl ft)), (rl, .inl (cI, 72, .inl fl)), (pa, .inl (cI, 8, .inl pf))]) (nL := 9) hK ?_ 0 fp ft fl (by omega) hP hD hS _ (lv_sub hl [1, 2, 3, 4, 5, 0] rfl)
  intro j fp ft fl hi_2 ih_1 H locs hP hD hS ls hl
  have ij : j ≤ 12 := hi_2
  have hl : lv_has ls 9 [(0, .ref oX), (1, .ref sb), (2, .ref pa), (3, .int (nI n)), (4, .int (nI i)), (5, .int (nI j))] := hl
  have hP : va_P (dC, dI) vwCl [(oX, .inr (5, [.ref oS, .ref oR, .ref oN, .ref o2, .ref oF, .ref oT])), (oS, .inr (3, [.ref rv, .ref rs, .int (nI kc)])), (rv, .inl (cI, 385, .inl v)), (oN, .inr (1, [.ref oS, .ref rp, .ref rt, .ref rl])), (rp, .inl (cI, 72, .inl fp)), (rt, .inl (cI, 72, .inl ft)), (rl, .inl (cI, 72, .inl fl)), (pa, .inl (cI, 8, .inl pf))] H := hP
  have hD : va_D A [(oX, .inr (5, [.ref oS, .ref oR, .ref oN, .ref o2, .ref oF, .ref oT])), (oS, .inr (3, [.ref rv, .ref rs, .int (nI kc)])), (rv, .inl (cI, 385, .inl v)), (oN, .inr (1, [.ref oS, .ref rp, .ref rt, .ref rl])), (rp, .inl (cI, 72, .inl fp)), (rt, .inl (cI, 72, .inl ft)), (rl, .inl (cI, 72, .inl fl)), (pa, .inl (cI, 8, .inl pf))] := hD
  refine lv_iload hx hb dL_isRow_3 (lv_at hl 5 rfl) ?_
  refine lv_bipush (v := 12) hx hb dL_isRow_5 (by decide) ?_
  refine lv_icmp_ge (tgt := 123) hx hb dL_isRow_7 (by decide) (fun c_3 => ?_) (fun c_3 => ?_)
  · skip
    have c_3 := kq_leN (a := 12) (b := j) c_3 (by omega) (by omega)
    refine lv_iconst (v := 1) hx hb dL_isRow_123 (by decide) ?_
    exact kq_retMz (fp, ft, fl) hx hb hr hlocks hP hD hS dL_isRow_124 (Or.inr rfl) (by rfl)
  · skip
    have c_3 := kq_nleN (a := 12) (b := j) c_3 (by omega) (by omega)
    refine lv_aload_n hx hb dL_isRow_10 rfl (lv_at hl 1 rfl) ?_
    refine lv_aload_n hx hb dL_isRow_11 rfl (lv_at hl 2 rfl) ?_
    refine lv_iload_n hx hb dL_isRow_12 rfl (lv_at hl 3 rfl) ?_
    refine lv_iload hx hb dL_isRow_13 (lv_at hl 4 rfl) ?_
    refine lv_iload hx hb dL_isRow_15 (lv_at hl 5 rfl) ?_
    refine kq_cSX (As := [.ref sb, .ref pa, .int (nI n), .int (nI i), .int (nI j)]) (rest := []) ⟨hx, hb, hml, hown, hts⟩ (c_L_sum l dC dI cI sb sL xs pa v pf n i j (by first | assumption | omega) (by first | assumption | omega) (by first | assumption | omega) (by first | assumption | omega) (by first | assumption | omega) (by first | assumption | omega) (by first | assumption | omega)) (va_cwS 5 hts gL_isRow_L_sum rfl rfl rfl (by decide +kernel) ⟨Nat.le_of_ble_eq_true rfl, Nat.le_of_ble_eq_true rfl⟩) (hP.sub [7] rfl) (kq_xk hX hbl hbA hS) hK rfl hl.1 rfl (Nat.le_of_ble_eq_true rfl) dL_isRow_17 ⟨Nat.le_of_ble_eq_true rfl, Nat.le_of_ble_eq_true rfl⟩ ?_
    refine lv_istore (lv' := [(6, .int (n_pr v (n_x v n j) i)), (0, .ref oX), (1, .ref sb), (2, .ref pa), (3, .int (nI n)), (4, .int (nI i)), (5, .int (nI j))]) hx hb dL_isRow_20 hl (by decide) rfl (fun ls hl => ?_)
    refine lv_aload_n hx hb dL_isRow_22 rfl (lv_at hl 2 rfl) ?_
    refine lv_aload_n hx hb dL_isRow_23 rfl (lv_at hl 3 rfl) ?_
    refine lv_iload_n hx hb dL_isRow_24 rfl (lv_at hl 4 rfl) ?_
    refine lv_iload hx hb dL_isRow_25 (lv_at hl 5 rfl) ?_
    refine lv_iload hx hb dL_isRow_27 (lv_at hl 6 rfl) ?_
    refine kq_cSX (As := [.ref sb, .ref pa, .int (nI n), .int (nI i), .int (nI j)]) (rest := []) ⟨hx, hb, hml, hown, hts⟩ (c_L_tone l dC dI cI sb sL xs pa v pf n i j (by first | assumption | omega) (by first | assumption | omega) (by first | assumption | omega) (by first | assumption | omega) (by first | assumption | omega) (by first | assumption | omega) (by first | assumption | omega)) (va_cwS 5 hts gL_isRow_L_tone rfl rfl rfl (by decide +kernel) ⟨Nat.le_of_ble_eq_true rfl, Nat.le_of_ble_eq_true rfl⟩) (hP.sub [7] rfl) (kq_xk hX hbl hbA hS) hK rfl hl.1 rfl (Nat.le_of_ble_eq_true rfl) dL_isRow_29 ⟨Nat.le_of_ble_eq_true rfl, Nat.le_of_ble_eq_true rfl⟩ ?_
    refine lv_istore (lv' := [(7, .int (n_to v n i j)), (6, .int (n_pr v (n_x v n j) i)), (0, .ref oX), (1, .ref sb), (2, .ref pa), (3, .int (nI n)), (4, .int (nI i)), (5, .int (nI j))]) hx hb dL_isRow_32 hl (by decide) rfl (fun ls hl => ?_)
    refine lv_aload_n hx hb dL_isRow_34 rfl (lv_at hl 2 rfl) ?_
    refine lv_iconst (v := 0) hx hb dL_isRow_35 (by decide) ?_
    refine lv_iload hx hb dL_isRow_36 (lv_at hl 6 rfl) ?_
    refine lv_iload hx hb dL_isRow_38 (lv_at hl 7 rfl) ?_
    refine lv_iconst (v := 1) hx hb dL_isRow_40 (by decide) ?_
    refine kq_callMi (wr := [(pa, .inl (cI, 8, .inl pf))]) (va_runV (As := [.int 0, .int (nI i), .int (nI j), .int 1]) (rest := []) ⟨hx, hb, hml, hown, hts⟩ (c_X5_cell l dC dI cI H.size oX oS oR oN o2 oF oT rv rs kc rp rt rl v fp ft fl 0 i j 1 (by first | assumption | omega) (by first | assumption | omega) (by first | assumption | omega) (by first | assumption | omega) (by first | assumption | omega)) (cwV 4 hts gL_isRow_X5_cell rfl rfl rfl (by decide +kernel) ⟨Nat.le_of_ble_eq_true rfl, Nat.le_of_ble_eq_true rfl⟩) (kq_preV (ci := 5) (q0 := 0) (hP.sub [0, 1, 2, 3, 4, 5, 6] rfl) (hD.sub [0, 1, 2, 3, 4, 5, 6] (by decide) rfl) hK rfl rfl) rfl rfl hl.1 rfl (lv_room (Nat.le_of_ble_eq_true rfl)) dL_isRow_41 ⟨Nat.le_of_ble_eq_true rfl, Nat.le_of_ble_eq_true rfl⟩) hP hD hS hA [0, 1, 2, 3, 4, 5, 6] [7] rfl rfl (by decide) (by decide) (fun r_4 u_5 H locs hw_6 hP hD hS => ?_)
    obtain ⟨gp_7, gt_8, gl_9⟩ := u_5
    have hP : va_P (dC, dI) vwCl [(pa, .inl (cI, 8, .inl pf)), (oX, .inr (5, [.ref oS, .ref oR, .ref oN, .ref o2, .ref oF, .ref oT])), (oS, .inr (3, [.ref rv, .ref rs, .int (nI kc)])), (rv, .inl (cI, 385, .inl v)), (oN, .inr (1, [.ref oS, .ref rp, .ref rt, .ref rl])), (rp, .inl (cI, 72, .inl gp_7)), (rt, .inl (cI, 72, .inl gt_8)), (rl, .inl (cI, 72, .inl gl_9))] H := hP
    have hD : va_D A [(pa, .inl (cI, 8, .inl pf)), (oX, .inr (5, [.ref oS, .ref oR, .ref oN, .ref o2, .ref oF, .ref oT])), (oS, .inr (3, [.ref rv, .ref rs, .int (nI kc)])), (rv, .inl (cI, 385, .inl v)), (oN, .inr (1, [.ref oS, .ref rp, .ref rt, .ref rl])), (rp, .inl (cI, 72, .inl gp_7)), (rt, .inl (cI, 72, .inl gt_8)), (rl, .inl (cI, 72, .inl gl_9))] := hD
    obtain rfl := hw_6
    refine kq_top (z := v (294 + i * 12 + j)) (n_cell_1) ?_
    refine lv_istore (lv' := [(8, .int (v (294 + i * 12 + j))), (7, .int (n_to v n i j)), (6, .int (n_pr v (n_x v n j) i)), (0, .ref oX), (1, .ref sb), (2, .ref pa), (3, .int (nI n)), (4, .int (nI i)), (5, .int (nI j))]) hx hb dL_isRow_44 hl (by decide) rfl (fun ls hl => ?_)
    refine lv_aload_n hx hb dL_isRow_46 rfl (lv_at hl 3 rfl) ?_
    refine lv_iload_n hx hb dL_isRow_47 rfl (lv_at hl 6 rfl) ?_
    refine lv_iload hx hb dL_isRow_48 (lv_at hl 7 rfl) ?_
    refine lv_iload hx hb dL_isRow_50 (lv_at hl 8 rfl) ?_
    refine lv_iconst (v := 0) hx hb dL_isRow_52 (by decide) ?_
    refine kq_callMi (wr := [(pa, .inl (cI, 8, .inl pf))]) (va_runV (As := [.int (nI n), .int (nI i), .int (nI j), .int 0]) (rest := []) ⟨hx, hb, hml, hown, hts⟩ (c_X5_cell l dC dI cI H.size oX oS oR oN o2 oF oT rv rs kc rp rt rl v gp_7 gt_8 gl_9 n i j 0 (by first | assumption | omega) (by first | assumption | omega) (by first | assumption | omega) (by first | assumption | omega) (by first | assumption | omega)) (cwV 4 hts gL_isRow_X5_cell rfl rfl rfl (by decide +kernel) ⟨Nat.le_of_ble_eq_true rfl, Nat.le_of_ble_eq_true rfl⟩) (kq_preV (ci := 5) (q0 := 0) (hP.sub [1, 2, 3, 4, 5, 6, 7] rfl) (hD.sub [1, 2, 3, 4, 5, 6, 7] (by decide) rfl) hK rfl rfl) rfl rfl hl.1 rfl (lv_room (Nat.le_of_ble_eq_true rfl)) dL_isRow_53 ⟨Nat.le_of_ble_eq_true rfl, Nat.le_of_ble_eq_true rfl⟩) hP hD hS hA [1, 2, 3, 4, 5, 6, 7] [0] rfl rfl (by decide) (by decide) (fun r_10 u_11 H locs hw_12 hP hD hS => ?_)
    obtain ⟨gp_13, gt_14, gl_15⟩ := u_11
    have hP : va_P (dC, dI) vwCl [(pa, .inl (cI, 8, .inl pf)), (oX, .inr (5, [.ref oS, .ref oR, .ref oN, .ref o2, .ref oF, .ref oT])), (oS, .inr (3, [.ref rv, .ref rs, .int (nI kc)])), (rv, .inl (cI, 385, .inl v)), (oN, .inr (1, [.ref oS, .ref rp, .ref rt, .ref rl])), (rp, .inl (cI, 72, .inl gp_13)), (rt, .inl (cI, 72, .inl gt_14)), (rl, .inl (cI, 72, .inl gl_15))] H := hP
    have hD : va_D A [(pa, .inl (cI, 8, .inl pf)), (oX, .inr (5, [.ref oS, .ref oR, .ref oN, .ref o2, .ref oF, .ref oT])), (oS, .inr (3, [.ref rv, .ref rs, .int (nI kc)])), (rv, .inl (cI, 385, .inl v)), (oN, .inr (1, [.ref oS, .ref rp, .ref rt, .ref rl])), (rp, .inl (cI, 72, .inl gp_13)), (rt, .inl (cI, 72, .inl gt_14)), (rl, .inl (cI, 72, .inl gl_15))] := hD
    obtain rfl := hw_12
    refine lv_iload hx hb dL_isRow_56 (lv_at hl 1 rfl) ?_
    refine lv_icmp_ne (tgt := 115) hx hb dL_isRow_58 (by decide) (fun c_16 => ?_) (fun c_16 => ?_)
    · skip
      exact absurd n_cell_0 c_16
    · skip
      refine lv_aload_n hx hb dL_isRow_61 rfl (lv_at hl 3 rfl) ?_
      refine lv_iload_n hx hb dL_isRow_62 rfl (lv_at hl 6 rfl) ?_
      refine lv_iload hx hb dL_isRow_63 (lv_at hl 7 rfl) ?_
      refine lv_iload hx hb dL_isRow_65 (lv_at hl 8 rfl) ?_
      refine lv_iconst (v := 1) hx hb dL_isRow_67 (by decide) ?_
      refine kq_callMi (wr := [(pa, .inl (cI, 8, .inl pf))]) (va_runV (As := [.int (nI n), .int (nI i), .int (nI j), .int 1]) (rest := []) ⟨hx, hb, hml, hown, hts⟩ (c_X5_cell l dC dI cI H.size oX oS oR oN o2 oF oT rv rs kc rp rt rl v gp_13 gt_14 gl_15 n i j 1 (by first | assumption | omega) (by first | assumption | omega) (by first | assumption | omega) (by first | assumption | omega) (by first | assumption | omega)) (cwV 4 hts gL_isRow_X5_cell rfl rfl rfl (by decide +kernel) ⟨Nat.le_of_ble_eq_true rfl, Nat.le_of_ble_eq_true rfl⟩) (kq_preV (ci := 5) (q0 := 0) (hP.sub [1, 2, 3, 4, 5, 6, 7] rfl) (hD.sub [1, 2, 3, 4, 5, 6, 7] (by decide) rfl) hK rfl rfl) rfl rfl hl.1 rfl (lv_room (Nat.le_of_ble_eq_true rfl)) dL_isRow_68 ⟨Nat.le_of_ble_eq_true rfl, Nat.le_of_ble_eq_true rfl⟩) hP hD hS hA [1, 2, 3, 4, 5, 6, 7] [0] rfl rfl (by decide) (by decide) (fun r_17 u_18 H locs hw_19 hP hD hS => ?_)
      obtain ⟨gp_20, gt_21, gl_22⟩ := u_18
      have hP : va_P (dC, dI) vwCl [(pa, .inl (cI, 8, .inl pf)), (oX, .inr (5, [.ref oS, .ref oR, .ref oN, .ref o2, .ref oF, .ref oT])), (oS, .inr (3, [.ref rv, .ref rs, .int (nI kc)])), (rv, .inl (cI, 385, .inl v)), (oN, .inr (1, [.ref oS, .ref rp, .ref rt, .ref rl])), (rp, .inl (cI, 72, .inl gp_20)), (rt, .inl (cI, 72, .inl gt_21)), (rl, .inl (cI, 72, .inl gl_22))] H := hP
      have hD : va_D A [(pa, .inl (cI, 8, .inl pf)), (oX, .inr (5, [.ref oS, .ref oR, .ref oN, .ref o2, .ref oF, .ref oT])), (oS, .inr (3, [.ref rv, .ref rs, .int (nI kc)])), (rv, .inl (cI, 385, .inl v)), (oN, .inr (1, [.ref oS, .ref rp, .ref rt, .ref rl])), (rp, .inl (cI, 72, .inl gp_20)), (rt, .inl (cI, 72, .inl gt_21)), (rl, .inl (cI, 72, .inl gl_22))] := hD
      obtain rfl := hw_19
      refine lv_iload hx hb dL_isRow_71 (lv_at hl 0 rfl) ?_
      refine lv_icmp_ne (tgt := 115) hx hb dL_isRow_73 (by decide) (fun c_23 => ?_) (fun c_23 => ?_)
      · skip
        exact absurd n_cell_1 c_23
      · skip
        refine lv_aload_n hx hb dL_isRow_76 rfl (lv_at hl 3 rfl) ?_
        refine lv_iload_n hx hb dL_isRow_77 rfl (lv_at hl 6 rfl) ?_
        refine lv_iload hx hb dL_isRow_78 (lv_at hl 7 rfl) ?_
        refine lv_iload hx hb dL_isRow_80 (lv_at hl 8 rfl) ?_
        refine lv_iconst (v := 2) hx hb dL_isRow_82 (by decide) ?_
        refine kq_callMi (wr := [(pa, .inl (cI, 8, .inl pf))]) (va_runV (As := [.int (nI n), .int (nI i), .int (nI j), .int 2]) (rest := []) ⟨hx, hb, hml, hown, hts⟩ (c_X5_cell l dC dI cI H.size oX oS oR oN o2 oF oT rv rs kc rp rt rl v gp_20 gt_21 gl_22 n i j 2 (by first | assumption | omega) (by first | assumption | omega) (by first | assumption | omega) (by first | assumption | omega) (by first | assumption | omega)) (cwV 4 hts gL_isRow_X5_cell rfl rfl rfl (by decide +kernel) ⟨Nat.le_of_ble_eq_true rfl, Nat.le_of_ble_eq_true rfl⟩) (kq_preV (ci := 5) (q0 := 0) (hP.sub [1, 2, 3, 4, 5, 6, 7] rfl) (hD.sub [1, 2, 3, 4, 5, 6, 7] (by decide) rfl) hK rfl rfl) rfl rfl hl.1 rfl (lv_room (Nat.le_of_ble_eq_true rfl)) dL_isRow_83 ⟨Nat.le_of_ble_eq_true rfl, Nat.le_of_ble_eq_true rfl⟩) hP hD hS hA [1, 2, 3, 4, 5, 6, 7] [0] rfl rfl (by decide) (by decide) (fun r_24 u_25 H locs hw_26 hP hD hS => ?_)
        obtain ⟨gp_27, gt_28, gl_29⟩ := u_25
        have hP : va_P (dC, dI) vwCl [(pa, .inl (cI, 8, .inl pf)), (oX, .inr (5, [.ref oS, .ref oR, .ref oN, .ref o2, .ref oF, .ref oT])), (oS, .inr (3, [.ref rv, .ref rs, .int (nI kc)])), (rv, .inl (cI, 385, .inl v)), (oN, .inr (1, [.ref oS, .ref rp, .ref rt, .ref rl])), (rp, .inl (cI, 72, .inl gp_27)), (rt, .inl (cI, 72, .inl gt_28)), (rl, .inl (cI, 72, .inl gl_29))] H := hP
        have hD : va_D A [(pa, .inl (cI, 8, .inl pf)), (oX, .inr (5, [.ref oS, .ref oR, .ref oN, .ref o2, .ref oF, .ref oT])), (oS, .inr (3, [.ref rv, .ref rs, .int (nI kc)])), (rv, .inl (cI, 385, .inl v)), (oN, .inr (1, [.ref oS, .ref rp, .ref rt, .ref rl])), (rp, .inl (cI, 72, .inl gp_27)), (rt, .inl (cI, 72, .inl gt_28)), (rl, .inl (cI, 72, .inl gl_29))] := hD
        obtain rfl := hw_26
        refine lv_iload hx hb dL_isRow_86 (lv_at hl 1 rfl) ?_
        refine lv_iload hx hb dL_isRow_88 (lv_at hl 0 rfl) ?_
        refine lv_isub hx hb dL_isRow_90 ?_
        refine lv_bipush (v := 100) hx hb dL_isRow_91 (by decide) ?_
        refine lv_iadd hx hb dL_isRow_93 ?_
        refine lv_icmp_ne (tgt := 115) hx hb dL_isRow_94 (by decide) (fun c_30 => ?_) (fun c_30 => ?_)
        · skip
          exact absurd n_cell_2 c_30
        · skip
          refine lv_aload_n hx hb dL_isRow_97 rfl (lv_at hl 3 rfl) ?_
          refine lv_iload_n hx hb dL_isRow_98 rfl (lv_at hl 6 rfl) ?_
          refine lv_iload hx hb dL_isRow_99 (lv_at hl 7 rfl) ?_
          refine lv_iload hx hb dL_isRow_101 (lv_at hl 8 rfl) ?_
          refine lv_iconst (v := 3) hx hb dL_isRow_103 (by decide) ?_
          refine kq_callMi (wr := [(pa, .inl (cI, 8, .inl pf))]) (va_runV (As := [.int (nI n), .int (nI i), .int (nI j), .int 3]) (rest := []) ⟨hx, hb, hml, hown, hts⟩ (c_X5_cell l dC dI cI H.size oX oS oR oN o2 oF oT rv rs kc rp rt rl v gp_27 gt_28 gl_29 n i j 3 (by first | assumption | omega) (by first | assumption | omega) (by first | assumption | omega) (by first | assumption | omega) (by first | assumption | omega)) (cwV 4 hts gL_isRow_X5_cell rfl rfl rfl (by decide +kernel) ⟨Nat.le_of_ble_eq_true rfl, Nat.le_of_ble_eq_true rfl⟩) (kq_preV (ci := 5) (q0 := 0) (hP.sub [1, 2, 3, 4, 5, 6, 7] rfl) (hD.sub [1, 2, 3, 4, 5, 6, 7] (by decide) rfl) hK rfl rfl) rfl rfl hl.1 rfl (lv_room (Nat.le_of_ble_eq_true rfl)) dL_isRow_104 ⟨Nat.le_of_ble_eq_true rfl, Nat.le_of_ble_eq_true rfl⟩) hP hD hS hA [1, 2, 3, 4, 5, 6, 7] [0] rfl rfl (by decide) (by decide) (fun r_31 u_32 H locs hw_33 hP hD hS => ?_)
          obtain ⟨gp_34, gt_35, gl_36⟩ := u_32
          have hP : va_P (dC, dI) vwCl [(pa, .inl (cI, 8, .inl pf)), (oX, .inr (5, [.ref oS, .ref oR, .ref oN, .ref o2, .ref oF, .ref oT])), (oS, .inr (3, [.ref rv, .ref rs, .int (nI kc)])), (rv, .inl (cI, 385, .inl v)), (oN, .inr (1, [.ref oS, .ref rp, .ref rt, .ref rl])), (rp, .inl (cI, 72, .inl gp_34)), (rt, .inl (cI, 72, .inl gt_35)), (rl, .inl (cI, 72, .inl gl_36))] H := hP
          have hD : va_D A [(pa, .inl (cI, 8, .inl pf)), (oX, .inr (5, [.ref oS, .ref oR, .ref oN, .ref o2, .ref oF, .ref oT])), (oS, .inr (3, [.ref rv, .ref rs, .int (nI kc)])), (rv, .inl (cI, 385, .inl v)), (oN, .inr (1, [.ref oS, .ref rp, .ref rt, .ref rl])), (rp, .inl (cI, 72, .inl gp_34)), (rt, .inl (cI, 72, .inl gt_35)), (rl, .inl (cI, 72, .inl gl_36))] := hD
          obtain rfl := hw_33
          refine lv_iload hx hb dL_isRow_107 (lv_at hl 2 rfl) ?_
          refine lv_bipush (v := 100) hx hb dL_isRow_109 (by decide) ?_
          refine lv_iadd hx hb dL_isRow_111 ?_
          refine lv_icmp_eq (tgt := 117) hx hb dL_isRow_112 (by decide) (fun c_37 => ?_) (fun c_37 => ?_)
          · skip
            refine lv_iinc (v := nI (j + 1)) (lv' := [(5, .int (nI (j + 1))), (8, .int (v (294 + i * 12 + j))), (7, .int (n_to v n i j)), (6, .int (n_pr v (n_x v n j) i)), (0, .ref oX), (1, .ref sb), (2, .ref pa), (3, .int (nI n)), (4, .int (nI i))]) hx hb dL_isRow_117 hl (k := 8) rfl (nI_1 j) (by decide) rfl (fun ls hl => ?_)
            refine lv_goto (tgt := 3) hx hb dL_isRow_120 (by decide) ?_
            exact ih_1 (j + 1) gp_34 gt_35 gl_36 (by omega) (by show 12 - (j + 1) < 12 - j; omega) _ _ (hP.sub [1, 2, 3, 4, 5, 6, 7, 0] rfl) (hD.sub [1, 2, 3, 4, 5, 6, 7, 0] (by decide) rfl) hS _ (lv_sub hl [4, 5, 6, 7, 8, 0] rfl)
          · skip
            exact absurd n_cell_3 c_37
set_option maxHeartbeats 4000000 in
set_option maxRecDepth 100000 in
theorem c_L_contrast (l : Launch) (dC : Nat → ClassId) (dI : Nat → Nat → Nat) (cI : ClassId) (sb sL : Nat) (xs : Nat → Int32) (sz : Nat) (oX : Nat) (oS : Nat) (oR : Nat) (oN : Nat) (o2 : Nat) (oF : Nat) (oT : Nat) (rv : Nat) (rs : Nat) (kc : Nat) (rp : Nat) (rt : Nat) (rl : Nat) (v : Nat → Int32) (fp : Nat → Int32) (ft : Nat → Int32) (fl : Nat → Int32) (pa : Nat) (pf : Nat → Int32) (qa : Nat) (f : Nat) (n : Nat) (qf : Nat → Int32) (hI : n_I v) (hW : n_ww sL xs v) (hp : n_pp v pf) (hf : f < 4) (ht : 0 < n_f v f 2) (hq : n_qq qf (n_f v f 0) (n_f v f 1) (n_f v f 2) (n_f v f 3)) (hn : n < 1000) (hL : sL ≤ 260) : Met l yL_contrast wsL_contrast ({ frames := 4, cells := 0, slots := 0, locals := 99 }) (kq_MX dC dI cI sb sL xs [.ref oX, .ref sb, .ref pa, .ref qa, .int (nI n)] sz [(oX, .inr (5, [.ref oS, .ref oR, .ref oN, .ref o2, .ref oF, .ref oT])), (oS, .inr (3, [.ref rv, .ref rs, .int (nI kc)])), (rv, .inl (cI, 385, .inl v)), (oN, .inr (1, [.ref oS, .ref rp, .ref rt, .ref rl])), (rp, .inl (cI, 72, .inl fp)), (rt, .inl (cI, 72, .inl ft)), (rl, .inl (cI, 72, .inl fl)), (pa, .inl (cI, 8, .inl pf)), (qa, .inl (cI, 4, .inl qf))]) (va_Qi (fun (r : Int32) (u : (Nat → Int32) × (Nat → Int32) × (Nat → Int32)) => r = n_ct v f n) (kq_B dC dI (va_A [(oX, .inr (5, [.ref oS, .ref oR, .ref oN, .ref o2, .ref oF, .ref oT])), (oS, .inr (3, [.ref rv, .ref rs, .int (nI kc)])), (rv, .inl (cI, 385, .inl v)), (oN, .inr (1, [.ref oS, .ref rp, .ref rt, .ref rl])), (rp, .inl (cI, 72, .inl fp)), (rt, .inl (cI, 72, .inl ft)), (rl, .inl (cI, 72, .inl fl)), (pa, .inl (cI, 8, .inl pf)), (qa, .inl (cI, 4, .inl qf))] sz) (fun u : (Nat → Int32) × (Nat → Int32) × (Nat → Int32) => [(oX, .inr (5, [.ref oS, .ref oR, .ref oN, .ref o2, .ref oF, .ref oT])), (oS, .inr (3, [.ref rv, .ref rs, .int (nI kc)])), (rv, .inl (cI, 385, .inl v)), (oN, .inr (1, [.ref oS, .ref rp, .ref rt, .ref rl])), (rp, .inl (cI, 72, .inl u.1)), (rt, .inl (cI, 72, .inl u.2.1)), (rl, .inl (cI, 72, .inl u.2.2)), (pa, .inl (cI, 8, .inl pf)), (qa, .inl (cI, 4, .inl qf))])) (va_A [(oX, .inr (5, [.ref oS, .ref oR, .ref oN, .ref o2, .ref oF, .ref oT])), (oS, .inr (3, [.ref rv, .ref rs, .int (nI kc)])), (rv, .inl (cI, 385, .inl v)), (oN, .inr (1, [.ref oS, .ref rp, .ref rt, .ref rl])), (rp, .inl (cI, 72, .inl fp)), (rt, .inl (cI, 72, .inl ft)), (rl, .inl (cI, 72, .inl fl)), (pa, .inl (cI, 8, .inl pf)), (qa, .inl (cI, 4, .inl qf))] sz)) 0 0 (va_A [(oX, .inr (5, [.ref oS, .ref oR, .ref oN, .ref o2, .ref oF, .ref oT])), (oS, .inr (3, [.ref rv, .ref rs, .int (nI kc)])), (rv, .inl (cI, 385, .inl v)), (oN, .inr (1, [.ref oS, .ref rp, .ref rt, .ref rl])), (rp, .inl (cI, 72, .inl fp)), (rt, .inl (cI, 72, .inl ft)), (rl, .inl (cI, 72, .inl fl)), (pa, .inl (cI, 8, .inl pf)), (qa, .inl (cI, 4, .inl qf))] sz) := by
  refine kq_startMX (cc := cL_contrast) (maxL := 13) (ret := (some .int)) (by decide) rfl (Nat.le_of_ble_eq_true rfl) ?_
  intro p e s m below meth c hx hb hr hml hown hlocks hts hsz hA hP hD hS hK hnm hX hbl hbA ls hl
  subst hsz
  generalize hAe : va_A [(oX, .inr (5, [.ref oS, .ref oR, .ref oN, .ref o2, .ref oF, .ref oT])), (oS, .inr (3, [.ref rv, .ref rs, .int (nI kc)])), (rv, .inl (cI, 385, .inl v)), (oN, .inr (1, [.ref oS, .ref rp, .ref rt, .ref rl])), (rp, .inl (cI, 72, .inl fp)), (rt, .inl (cI, 72, .inl ft)), (rl, .inl (cI, 72, .inl fl)), (pa, .inl (cI, 8, .inl pf)), (qa, .inl (cI, 4, .inl qf))] s.heap.size = A at hA hD hS hbA ⊢
  have hown : s.vm.findClass RL = some m.cls := hown
  have hl : lv_has ls 13 [(0, .ref oX), (1, .ref sb), (2, .ref pa), (3, .ref qa), (4, .int (nI n))] := hl
  obtain ⟨hfa, hfb, hfc, hfd⟩ := n_I_fr hI hf
  have hw0 := hfb ht
  have hce : 0 < (n_f v f 2 * n_f v f 3) := Nat.mul_pos ht hw0
  have hce9 : (n_f v f 2 * n_f v f 3) ≤ 6 * 12 := Nat.mul_le_mul (by omega) (by omega)
  have hfr9 : (n_fr (n_f v f 0) (n_f v f 1) (n_f v f 2) (n_f v f 3)) ≤ 72 := Nat.le_trans (Nat.sub_le _ _) (Nat.mul_le_mul (show min (n_f v f 0 + n_f v f 2 + 1) 6 - (n_f v f 0 - 1) ≤ 6 by omega) (show min (n_f v f 1 + n_f v f 3 + 1) 12 - (n_f v f 1 - 1) ≤ 12 by omega))
  have hpt9 : (n_fr (n_f v f 0) (n_f v f 1) (n_f v f 2) (n_f v f 3)) * (n_f v f 2 * n_f v f 3) ≤ 72 * 72 := Nat.mul_le_mul hfr9 hce9
  have hX9 := n_wh_b hI (n := n) (r := n_f v f 0) (d := n_f v f 1) (h := n_f v f 2) (w := n_f v f 3) (by omega) (by omega)
  refine lv_aload_n hx hb dL_contrast_0 rfl (lv_at hl 3 rfl) ?_
  refine lv_iconst (v := 2) hx hb dL_contrast_1 (by decide) ?_
  refine va_iald hx hb hK.1 hP 8 0 rfl rfl (vp_in_nI (show 2 < 4 from by omega) (by omega)) dL_contrast_2 ?_
  refine kq_top (z := qf 2) (congrArg qf (nI_clamp (Nat.lt_trans (show 2 < 4 from by omega) (by omega)))) ?_
  refine kq_top (z := nI (n_f v f 2)) (hq.2.2.1) ?_
  refine lv_aload_n hx hb dL_contrast_3 rfl (lv_at hl 3 rfl) ?_
  refine lv_iconst (v := 3) hx hb dL_contrast_4 (by decide) ?_
  refine va_iald hx hb hK.1 hP 8 0 rfl rfl (vp_in_nI (show 3 < 4 from by omega) (by omega)) dL_contrast_5 ?_
  refine kq_top (z := qf 3) (congrArg qf (nI_clamp (Nat.lt_trans (show 3 < 4 from by omega) (by omega)))) ?_
  refine kq_top (z := nI (n_f v f 3)) (hq.2.2.2) ?_
  refine lv_imul hx hb dL_contrast_6 ?_
  refine kq_top (z := nI ((n_f v f 2) * (n_f v f 3))) (pk_mul (n_f v f 2) (n_f v f 3)) ?_
  refine lv_istore (lv' := [(5, .int (nI ((n_f v f 2) * (n_f v f 3)))), (0, .ref oX), (1, .ref sb), (2, .ref pa), (3, .ref qa), (4, .int (nI n))]) hx hb dL_contrast_7 hl (by decide) rfl (fun ls hl => ?_)
  refine lv_aload_n hx hb dL_contrast_9 rfl (lv_at hl 4 rfl) ?_
  refine kq_cS (As := [.ref qa]) (rest := []) ⟨hx, hb, hml, hown, hts⟩ (c_L_frame l dC dI cI qa qf (n_f v f 0) (n_f v f 1) (n_f v f 2) (n_f v f 3) (by first | assumption | omega) (by first | assumption | omega) (by first | assumption | omega) (by first | assumption | omega) (by first | assumption | omega)) (va_cwS 1 hts gL_contrast_L_frame rfl rfl rfl (by decide +kernel) ⟨Nat.le_of_ble_eq_true rfl, Nat.le_of_ble_eq_true rfl⟩) (hP.sub [8] rfl) hK rfl hl.1 rfl (Nat.le_of_ble_eq_true rfl) dL_contrast_10 ⟨Nat.le_of_ble_eq_true rfl, Nat.le_of_ble_eq_true rfl⟩ ?_
  refine lv_istore (lv' := [(6, .int (nI (n_fr (n_f v f 0) (n_f v f 1) (n_f v f 2) (n_f v f 3)))), (5, .int (nI ((n_f v f 2) * (n_f v f 3)))), (0, .ref oX), (1, .ref sb), (2, .ref pa), (3, .ref qa), (4, .int (nI n))]) hx hb dL_contrast_13 hl (by decide) rfl (fun ls hl => ?_)
  refine lv_iconst (v := 0) hx hb dL_contrast_15 (by decide) ?_
  refine lv_istore (lv' := [(7, .int 0), (6, .int (nI (n_fr (n_f v f 0) (n_f v f 1) (n_f v f 2) (n_f v f 3)))), (5, .int (nI ((n_f v f 2) * (n_f v f 3)))), (0, .ref oX), (1, .ref sb), (2, .ref pa), (3, .ref qa), (4, .int (nI n))]) hx hb dL_contrast_16 hl (by decide) rfl (fun ls hl => ?_)
  refine lv_iconst (v := 0) hx hb dL_contrast_18 (by decide) ?_
  refine lv_istore (lv' := [(8, .int 0), (7, .int 0), (6, .int (nI (n_fr (n_f v f 0) (n_f v f 1) (n_f v f 2) (n_f v f 3)))), (5, .int (nI ((n_f v f 2) * (n_f v f 3)))), (0, .ref oX), (1, .ref sb), (2, .ref pa), (3, .ref qa), (4, .int (nI n))]) hx hb dL_contrast_19 hl (by decide) rfl (fun ls hl => ?_)
  refine lv_iconst (v := 0) hx hb dL_contrast_21 (by decide) ?_
  refine lv_istore (lv' := [(9, .int 0), (8, .int 0), (7, .int 0), (6, .int (nI (n_fr (n_f v f 0) (n_f v f 1) (n_f v f 2) (n_f v f 3)))), (5, .int (nI ((n_f v f 2) * (n_f v f 3)))), (0, .ref oX), (1, .ref sb), (2, .ref pa), (3, .ref qa), (4, .int (nI n))]) hx hb dL_contrast_22 hl (by decide) rfl (fun ls hl => ?_)
  refine kq_loopM6 (A1 := Nat) (A2 := Int32) (A3 := Int32) (A4 := Nat → Int32) (A5 := Nat → Int32) (A6 := Nat → Int32) (fun (k : Nat) (x1 : Int32) (x2 : Int32) (fp : Nat → Int32) (ft : Nat → Int32) (fl : Nat → Int32) => 72 - k) (fun (k : Nat) (x1 : Int32) (x2 : Int32) (fp : Nat → Int32) (ft : Nat → Int32) (fl : Nat → Int32) => (k ≤ 72) ∧ (x1 = n_mi (fun k => n_li v n (k / 12) (k % 12)) (n_f v f 0) (n_f v f 2) (n_f v f 1) (n_f v f 3) k) ∧ (x2 = n_ma (fun k => n_li v n (k / 12) (k % 12)) (n_f v f 0) (n_f v f 2) (n_f v f 1) (n_f v f 3) k)) (fun (k : Nat) (x1 : Int32) (x2 : Int32) (fp : Nat → Int32) (ft : Nat → Int32) (fl : Nat → Int32) => [(0, .ref oX), (1, .ref sb), (2, .ref pa), (3, .ref qa), (4, .int (nI n)), (5, .int (nI (n_f v f 2 * n_f v f 3))), (6, .int (nI (n_fr (n_f v f 0) (n_f v f 1) (n_f v f 2) (n_f v f 3)))), (7, .int x1), (8, .int x2), (9, .int (nI k))]) (fun (k : Nat) (x1 : Int32) (x2 : Int32) (fp : Nat → Int32) (ft : Nat → Int32) (fl : Nat → Int32) => [(oX, .inr (5, [.ref oS, .ref oR, .ref oN, .ref o2, .ref oF, .ref oT])), (oS, .inr (3, [.ref rv, .ref rs, .int (nI kc)])), (rv, .inl (cI, 385, .inl v)), (oN, .inr (1, [.ref oS, .ref rp, .ref rt, .ref rl])), (rp, .inl (cI, 72, .inl fp)), (rt, .inl (cI, 72, .inl ft)), (rl, .inl (cI, 72, .inl fl)), (pa, .inl (cI, 8, .inl pf)), (qa, .inl (cI, 4, .inl qf))]) (nL := 13) hK ?_ 0 0 0 fp ft fl ⟨(by omega), (by rfl), (by rfl)⟩ hP hD hS _ (lv_sub hl [5, 6, 7, 8, 9, 4, 3, 2, 1, 0] rfl)
  intro k x1 x2 fp ft fl hi_2 ih_1 H locs hP hD hS ls hl
  obtain ⟨ik, i1, i2⟩ := hi_2
  have hl : lv_has ls 13 [(0, .ref oX), (1, .ref sb), (2, .ref pa), (3, .ref qa), (4, .int (nI n)), (5, .int (nI (n_f v f 2 * n_f v f 3))), (6, .int (nI (n_fr (n_f v f 0) (n_f v f 1) (n_f v f 2) (n_f v f 3)))), (7, .int x1), (8, .int x2), (9, .int (nI k))] := hl
  have hP : va_P (dC, dI) vwCl [(oX, .inr (5, [.ref oS, .ref oR, .ref oN, .ref o2, .ref oF, .ref oT])), (oS, .inr (3, [.ref rv, .ref rs, .int (nI kc)])), (rv, .inl (cI, 385, .inl v)), (oN, .inr (1, [.ref oS, .ref rp, .ref rt, .ref rl])), (rp, .inl (cI, 72, .inl fp)), (rt, .inl (cI, 72, .inl ft)), (rl, .inl (cI, 72, .inl fl)), (pa, .inl (cI, 8, .inl pf)), (qa, .inl (cI, 4, .inl qf))] H := hP
  have hD : va_D A [(oX, .inr (5, [.ref oS, .ref oR, .ref oN, .ref o2, .ref oF, .ref oT])), (oS, .inr (3, [.ref rv, .ref rs, .int (nI kc)])), (rv, .inl (cI, 385, .inl v)), (oN, .inr (1, [.ref oS, .ref rp, .ref rt, .ref rl])), (rp, .inl (cI, 72, .inl fp)), (rt, .inl (cI, 72, .inl ft)), (rl, .inl (cI, 72, .inl fl)), (pa, .inl (cI, 8, .inl pf)), (qa, .inl (cI, 4, .inl qf))] := hD
  refine lv_iload hx hb dL_contrast_24 (lv_at hl 9 rfl) ?_
  refine lv_bipush (v := 72) hx hb dL_contrast_26 (by decide) ?_
  refine lv_icmp_ge (tgt := 133) hx hb dL_contrast_28 (by decide) (fun c_3 => ?_) (fun c_3 => ?_)
  · skip
    have c_3 := kq_leN (a := 72) (b := k) c_3 (by omega) (by omega)
    refine lv_iload hx hb dL_contrast_133 (lv_at hl 6 rfl) ?_
    refine lv_if_ne (tgt := 140) hx hb dL_contrast_135 (by decide) (fun c_4 => ?_) (fun c_4 => ?_)
    · skip
      have c_4 := kq_neN (a := (n_fr (n_f v f 0) (n_f v f 1) (n_f v f 2) (n_f v f 3))) (b := 0) c_4 (by omega) (by omega)
      refine lv_iload hx hb dL_contrast_140 (lv_at hl 7 rfl) ?_
      refine lv_iload hx hb dL_contrast_142 (lv_at hl 6 rfl) ?_
      refine lv_imul hx hb dL_contrast_144 ?_
      refine lv_iload hx hb dL_contrast_145 (lv_at hl 8 rfl) ?_
      refine lv_iload hx hb dL_contrast_147 (lv_at hl 5 rfl) ?_
      refine lv_imul hx hb dL_contrast_149 ?_
      refine lv_isub hx hb dL_contrast_150 ?_
      refine kq_top (z := n_wh (fun k => n_li v n (k / 12) (k % 12)) (n_f v f 0) (n_f v f 1) (n_f v f 2) (n_f v f 3)) (by rw [i1, i2, show k = 72 by omega]; rfl) ?_
      refine lv_istore (lv' := [(9, .int (n_wh (fun k => n_li v n (k / 12) (k % 12)) (n_f v f 0) (n_f v f 1) (n_f v f 2) (n_f v f 3))), (0, .ref oX), (1, .ref sb), (2, .ref pa), (3, .ref qa), (4, .int (nI n)), (5, .int (nI (n_f v f 2 * n_f v f 3))), (6, .int (nI (n_fr (n_f v f 0) (n_f v f 1) (n_f v f 2) (n_f v f 3)))), (7, .int x1), (8, .int x2)]) hx hb dL_contrast_151 hl (by decide) rfl (fun ls hl => ?_)
      refine lv_iload hx hb dL_contrast_153 (lv_at hl 7 rfl) ?_
      refine lv_iload hx hb dL_contrast_155 (lv_at hl 6 rfl) ?_
      refine lv_imul hx hb dL_contrast_157 ?_
      refine kq_top (z := nI ((n_fr (n_f v f 0) (n_f v f 1) (n_f v f 2) (n_f v f 3)) * (n_f v f 2 * n_f v f 3))) (pk_mul (n_fr (n_f v f 0) (n_f v f 1) (n_f v f 2) (n_f v f 3)) (n_f v f 2 * n_f v f 3)) ?_
      have hP1 : 1 ≤ (n_fr (n_f v f 0) (n_f v f 1) (n_f v f 2) (n_f v f 3)) * (n_f v f 2 * n_f v f 3) ∧ (n_fr (n_f v f 0) (n_f v f 1) (n_f v f 2) (n_f v f 3)) * (n_f v f 2 * n_f v f 3) ≤ 5184 := ⟨Nat.mul_pos (by omega) hce, hpt9⟩
      refine lv_istore (lv' := [(10, .int (nI ((n_fr (n_f v f 0) (n_f v f 1) (n_f v f 2) (n_f v f 3)) * (n_f v f 2 * n_f v f 3)))), (9, .int (n_wh (fun k => n_li v n (k / 12) (k % 12)) (n_f v f 0) (n_f v f 1) (n_f v f 2) (n_f v f 3))), (0, .ref oX), (1, .ref sb), (2, .ref pa), (3, .ref qa), (4, .int (nI n)), (5, .int (nI (n_f v f 2 * n_f v f 3))), (6, .int (nI (n_fr (n_f v f 0) (n_f v f 1) (n_f v f 2) (n_f v f 3)))), (7, .int x1), (8, .int x2)]) hx hb dL_contrast_158 hl (by decide) rfl (fun ls hl => ?_)
      refine lv_iconst (v := 0) hx hb dL_contrast_160 (by decide) ?_
      refine lv_istore (lv' := [(11, .int 0), (10, .int (nI ((n_fr (n_f v f 0) (n_f v f 1) (n_f v f 2) (n_f v f 3)) * (n_f v f 2 * n_f v f 3)))), (9, .int (n_wh (fun k => n_li v n (k / 12) (k % 12)) (n_f v f 0) (n_f v f 1) (n_f v f 2) (n_f v f 3))), (0, .ref oX), (1, .ref sb), (2, .ref pa), (3, .ref qa), (4, .int (nI n)), (5, .int (nI (n_f v f 2 * n_f v f 3))), (6, .int (nI (n_fr (n_f v f 0) (n_f v f 1) (n_f v f 2) (n_f v f 3)))), (7, .int x1), (8, .int x2)]) hx hb dL_contrast_161 hl (by decide) rfl (fun ls hl => ?_)
      refine kq_loopM1 (A1 := Int32) (fun (y : Int32) => (y.toInt + 216001).toNat) (fun (y : Int32) => (-216001 ≤ y.toInt ∧ y.toInt ≤ 0)) (fun (y : Int32) => [(9, .int (n_wh (fun k => n_li v n (k / 12) (k % 12)) (n_f v f 0) (n_f v f 1) (n_f v f 2) (n_f v f 3))), (10, .int (nI ((n_fr (n_f v f 0) (n_f v f 1) (n_f v f 2) (n_f v f 3)) * (n_f v f 2 * n_f v f 3)))), (11, .int y)]) (fun (y : Int32) => [(oX, .inr (5, [.ref oS, .ref oR, .ref oN, .ref o2, .ref oF, .ref oT])), (oS, .inr (3, [.ref rv, .ref rs, .int (nI kc)])), (rv, .inl (cI, 385, .inl v)), (oN, .inr (1, [.ref oS, .ref rp, .ref rt, .ref rl])), (rp, .inl (cI, 72, .inl fp)), (rt, .inl (cI, 72, .inl ft)), (rl, .inl (cI, 72, .inl fl)), (pa, .inl (cI, 8, .inl pf)), (qa, .inl (cI, 4, .inl qf))]) (nL := 13) hK ?_ 0 (by exact ⟨by decide, by decide⟩) hP hD hS _ (lv_sub hl [2, 1, 0] rfl)
      intro y hi_6 ih_5 H locs hP hD hS ls hl
      have j1 : -216001 ≤ y.toInt ∧ y.toInt ≤ 0 := hi_6
      have hl : lv_has ls 13 [(9, .int (n_wh (fun k => n_li v n (k / 12) (k % 12)) (n_f v f 0) (n_f v f 1) (n_f v f 2) (n_f v f 3))), (10, .int (nI ((n_fr (n_f v f 0) (n_f v f 1) (n_f v f 2) (n_f v f 3)) * (n_f v f 2 * n_f v f 3)))), (11, .int y)] := hl
      have hP : va_P (dC, dI) vwCl [(oX, .inr (5, [.ref oS, .ref oR, .ref oN, .ref o2, .ref oF, .ref oT])), (oS, .inr (3, [.ref rv, .ref rs, .int (nI kc)])), (rv, .inl (cI, 385, .inl v)), (oN, .inr (1, [.ref oS, .ref rp, .ref rt, .ref rl])), (rp, .inl (cI, 72, .inl fp)), (rt, .inl (cI, 72, .inl ft)), (rl, .inl (cI, 72, .inl fl)), (pa, .inl (cI, 8, .inl pf)), (qa, .inl (cI, 4, .inl qf))] H := hP
      have hD : va_D A [(oX, .inr (5, [.ref oS, .ref oR, .ref oN, .ref o2, .ref oF, .ref oT])), (oS, .inr (3, [.ref rv, .ref rs, .int (nI kc)])), (rv, .inl (cI, 385, .inl v)), (oN, .inr (1, [.ref oS, .ref rp, .ref rt, .ref rl])), (rp, .inl (cI, 72, .inl fp)), (rt, .inl (cI, 72, .inl ft)), (rl, .inl (cI, 72, .inl fl)), (pa, .inl (cI, 8, .inl pf)), (qa, .inl (cI, 4, .inl qf))] := hD
      refine lv_iload hx hb dL_contrast_163 (lv_at hl 2 rfl) ?_
      refine lv_iload hx hb dL_contrast_165 (lv_at hl 1 rfl) ?_
      refine lv_imul hx hb dL_contrast_167 ?_
      refine lv_iload hx hb dL_contrast_168 (lv_at hl 0 rfl) ?_
      refine lv_icmp_le (tgt := 179) hx hb dL_contrast_170 (by decide) (fun c_7 => ?_) (fun c_7 => ?_)
      · skip
        have hle := kq_dx hP1.2 ⟨j1.1, by omega⟩ c_7
        refine kq_loopM1 (A1 := Int32) (fun (u9 : Int32) => (216001 - u9.toInt).toNat) (fun (u9 : Int32) => (-216001 ≤ u9.toInt ∧ u9.toInt ≤ 216001) ∧ (u9.toInt * ((n_fr (n_f v f 0) (n_f v f 1) (n_f v f 2) (n_f v f 3)) * (n_f v f 2 * n_f v f 3) : Nat) ≤ (n_wh (fun k => n_li v n (k / 12) (k % 12)) (n_f v f 0) (n_f v f 1) (n_f v f 2) (n_f v f 3)).toInt)) (fun (u9 : Int32) => [(9, .int (n_wh (fun k => n_li v n (k / 12) (k % 12)) (n_f v f 0) (n_f v f 1) (n_f v f 2) (n_f v f 3))), (10, .int (nI ((n_fr (n_f v f 0) (n_f v f 1) (n_f v f 2) (n_f v f 3)) * (n_f v f 2 * n_f v f 3)))), (11, .int u9)]) (fun (u9 : Int32) => [(oX, .inr (5, [.ref oS, .ref oR, .ref oN, .ref o2, .ref oF, .ref oT])), (oS, .inr (3, [.ref rv, .ref rs, .int (nI kc)])), (rv, .inl (cI, 385, .inl v)), (oN, .inr (1, [.ref oS, .ref rp, .ref rt, .ref rl])), (rp, .inl (cI, 72, .inl fp)), (rt, .inl (cI, 72, .inl ft)), (rl, .inl (cI, 72, .inl fl)), (pa, .inl (cI, 8, .inl pf)), (qa, .inl (cI, 4, .inl qf))]) (nL := 13) hK ?_ y ⟨(by exact ⟨j1.1, by omega⟩), (by exact hle)⟩ hP hD hS _ (lv_sub hl [0, 1, 2] rfl)
        intro u9 hi_9 ih_8 H locs hP hD hS ls hl
        obtain ⟨k1, k2⟩ := hi_9
        have hl : lv_has ls 13 [(9, .int (n_wh (fun k => n_li v n (k / 12) (k % 12)) (n_f v f 0) (n_f v f 1) (n_f v f 2) (n_f v f 3))), (10, .int (nI ((n_fr (n_f v f 0) (n_f v f 1) (n_f v f 2) (n_f v f 3)) * (n_f v f 2 * n_f v f 3)))), (11, .int u9)] := hl
        have hP : va_P (dC, dI) vwCl [(oX, .inr (5, [.ref oS, .ref oR, .ref oN, .ref o2, .ref oF, .ref oT])), (oS, .inr (3, [.ref rv, .ref rs, .int (nI kc)])), (rv, .inl (cI, 385, .inl v)), (oN, .inr (1, [.ref oS, .ref rp, .ref rt, .ref rl])), (rp, .inl (cI, 72, .inl fp)), (rt, .inl (cI, 72, .inl ft)), (rl, .inl (cI, 72, .inl fl)), (pa, .inl (cI, 8, .inl pf)), (qa, .inl (cI, 4, .inl qf))] H := hP
        have hD : va_D A [(oX, .inr (5, [.ref oS, .ref oR, .ref oN, .ref o2, .ref oF, .ref oT])), (oS, .inr (3, [.ref rv, .ref rs, .int (nI kc)])), (rv, .inl (cI, 385, .inl v)), (oN, .inr (1, [.ref oS, .ref rp, .ref rt, .ref rl])), (rp, .inl (cI, 72, .inl fp)), (rt, .inl (cI, 72, .inl ft)), (rl, .inl (cI, 72, .inl fl)), (pa, .inl (cI, 8, .inl pf)), (qa, .inl (cI, 4, .inl qf))] := hD
        refine lv_iload hx hb dL_contrast_179 (lv_at hl 2 rfl) ?_
        refine lv_iconst (v := 1) hx hb dL_contrast_181 (by decide) ?_
        refine lv_iadd hx hb dL_contrast_182 ?_
        refine lv_iload hx hb dL_contrast_183 (lv_at hl 1 rfl) ?_
        refine lv_imul hx hb dL_contrast_185 ?_
        refine lv_iload hx hb dL_contrast_186 (lv_at hl 0 rfl) ?_
        refine lv_icmp_gt (tgt := 197) hx hb dL_contrast_188 (by decide) (fun c_10 => ?_) (fun c_10 => ?_)
        · skip
          have hc9 := c_10
          refine lv_iload hx hb dL_contrast_197 (lv_at hl 2 rfl) ?_
          exact kq_retMi (fp, ft, fl) hx hb hr hlocks hP hD hS dL_contrast_199 (by exact (kq_dend hP1 hX9 k1 k2 hc9).trans (n_cr_d (by omega) (by omega) (by omega)).symm)
        · skip
          have hup := kq_up hP1 hX9 k1 c_10
          refine lv_iinc (v := u9 + 1) (lv' := [(11, .int (u9 + 1)), (9, .int (n_wh (fun k => n_li v n (k / 12) (k % 12)) (n_f v f 0) (n_f v f 1) (n_f v f 2) (n_f v f 3))), (10, .int (nI ((n_fr (n_f v f 0) (n_f v f 1) (n_f v f 2) (n_f v f 3)) * (n_f v f 2 * n_f v f 3))))]) hx hb dL_contrast_191 hl (k := 2) rfl (rfl) (by decide) rfl (fun ls hl => ?_)
          refine lv_goto (tgt := 179) hx hb dL_contrast_194 (by decide) ?_
          exact ih_8 (u9 + 1) ⟨(by exact hup.1), (by exact hup.2.1)⟩ (by show (216001 - (u9 + 1).toInt).toNat < (216001 - u9.toInt).toNat; exact hup.2.2) _ _ hP hD hS _ (lv_sub hl [1, 2, 0] rfl)
      · skip
        have hdn := kq_dn hP1 hX9 j1 c_7
        refine lv_iinc (v := y + (-1)) (lv' := [(11, .int (y + (-1))), (9, .int (n_wh (fun k => n_li v n (k / 12) (k % 12)) (n_f v f 0) (n_f v f 1) (n_f v f 2) (n_f v f 3))), (10, .int (nI ((n_fr (n_f v f 0) (n_f v f 1) (n_f v f 2) (n_f v f 3)) * (n_f v f 2 * n_f v f 3))))]) hx hb dL_contrast_173 hl (k := 2) rfl (rfl) (by decide) rfl (fun ls hl => ?_)
        refine lv_goto (tgt := 163) hx hb dL_contrast_176 (by decide) ?_
        exact ih_5 (y + (-1)) (by exact hdn.1) (by show ((y + (-1)).toInt + 216001).toNat < (y.toInt + 216001).toNat; exact hdn.2.2) _ _ hP hD hS _ (lv_sub hl [1, 2, 0] rfl)
    · skip
      have c_4 := kq_eqN (a := (n_fr (n_f v f 0) (n_f v f 1) (n_f v f 2) (n_f v f 3))) (b := 0) c_4 (by omega) (by omega)
      refine lv_iconst (v := 0) hx hb dL_contrast_138 (by decide) ?_
      exact kq_retMi (fp, ft, fl) hx hb hr hlocks hP hD hS dL_contrast_139 (by exact (n_cr_0 (by omega) (by omega) (by assumption)).symm)
  · skip
    have c_3 := kq_nleN (a := 72) (b := k) c_3 (by omega) (by omega)
    refine lv_iload hx hb dL_contrast_31 (lv_at hl 9 rfl) ?_
    refine lv_bipush (v := 12) hx hb dL_contrast_33 (by decide) ?_
    refine lv_idiv hx hb dL_contrast_35 (nI_ne0 (n := 12) (by omega) (by omega)) ?_
    refine kq_top (z := nI (k / 12)) (pk_div (a := k) (d := 12) (by omega) (by omega) (by omega)) ?_
    refine lv_istore (lv' := [(10, .int (nI (k / 12))), (0, .ref oX), (1, .ref sb), (2, .ref pa), (3, .ref qa), (4, .int (nI n)), (5, .int (nI (n_f v f 2 * n_f v f 3))), (6, .int (nI (n_fr (n_f v f 0) (n_f v f 1) (n_f v f 2) (n_f v f 3)))), (7, .int x1), (8, .int x2), (9, .int (nI k))]) hx hb dL_contrast_36 hl (by decide) rfl (fun ls hl => ?_)
    refine lv_iload hx hb dL_contrast_38 (lv_at hl 10 rfl) ?_
    refine lv_bipush (v := 12) hx hb dL_contrast_40 (by decide) ?_
    refine lv_irem hx hb dL_contrast_42 (nI_ne0 (n := 12) (by omega) (by omega)) ?_
    refine kq_top (z := nI (k % 12)) (pk_rem (a := k) (d := 12) (by omega) (by omega) (by omega)) ?_
    refine lv_istore (lv' := [(11, .int (nI (k % 12))), (10, .int (nI (k / 12))), (0, .ref oX), (1, .ref sb), (2, .ref pa), (3, .ref qa), (4, .int (nI n)), (5, .int (nI (n_f v f 2 * n_f v f 3))), (6, .int (nI (n_fr (n_f v f 0) (n_f v f 1) (n_f v f 2) (n_f v f 3)))), (7, .int x1), (8, .int x2), (9, .int (nI k))]) hx hb dL_contrast_43 hl (by decide) rfl (fun ls hl => ?_)
    refine lv_aload_n hx hb dL_contrast_45 rfl (lv_at hl 5 rfl) ?_
    refine lv_iload hx hb dL_contrast_46 (lv_at hl 1 rfl) ?_
    refine lv_iload hx hb dL_contrast_48 (lv_at hl 0 rfl) ?_
    refine lv_iconst (v := 1) hx hb dL_contrast_50 (by decide) ?_
    refine kq_cS (As := [.ref qa, .int (nI (k / 12)), .int (nI (k % 12)), .int 1]) (rest := []) ⟨hx, hb, hml, hown, hts⟩ (c_L_isIn_1 l dC dI cI qa qf (n_f v f 0) (n_f v f 1) (n_f v f 2) (n_f v f 3) (k / 12) (k % 12) (by first | assumption | omega) (by first | assumption | omega) (by first | assumption | omega) (by first | assumption | omega) (by first | assumption | omega)) (va_cwS 4 hts gL_contrast_L_isIn rfl rfl rfl (by decide +kernel) ⟨Nat.le_of_ble_eq_true rfl, Nat.le_of_ble_eq_true rfl⟩) (hP.sub [8] rfl) hK rfl hl.1 rfl (Nat.le_of_ble_eq_true rfl) dL_contrast_51 ⟨Nat.le_of_ble_eq_true rfl, Nat.le_of_ble_eq_true rfl⟩ ?_
    refine lv_if_eq (tgt := 127) hx hb dL_contrast_54 (by decide) (fun c_11 => ?_) (fun c_11 => ?_)
    · skip
      have c_11 := kq_bf c_11
      refine lv_iinc (v := nI (k + 1)) (lv' := [(9, .int (nI (k + 1))), (11, .int (nI (k % 12))), (10, .int (nI (k / 12))), (0, .ref oX), (1, .ref sb), (2, .ref pa), (3, .ref qa), (4, .int (nI n)), (5, .int (nI (n_f v f 2 * n_f v f 3))), (6, .int (nI (n_fr (n_f v f 0) (n_f v f 1) (n_f v f 2) (n_f v f 3)))), (7, .int x1), (8, .int x2)]) hx hb dL_contrast_127 hl (k := 11) rfl (nI_1 k) (by decide) rfl (fun ls hl => ?_)
      refine lv_goto (tgt := 24) hx hb dL_contrast_130 (by decide) ?_
      exact ih_1 (k + 1) x1 x2 fp ft fl ⟨(by omega), (by first | (exfalso; omega) | (rw [n_mi_s, ← i1]; first | rw [if_pos (by omega)] | rw [if_neg (by omega), Int32.add_zero])), (by first | (exfalso; omega) | (rw [n_ma_s, ← i2]; first | rw [if_pos (by omega)] | rw [if_neg (by omega), if_pos (by omega)] | rw [if_neg (by omega), if_neg (by omega), Int32.add_zero]))⟩ (by show 72 - (k + 1) < 72 - k; omega) _ _ hP hD hS _ (lv_sub hl [3, 4, 5, 6, 7, 8, 9, 10, 11, 0] rfl)
    · skip
      have c_11 := kq_bt c_11
      refine lv_aload_n hx hb dL_contrast_57 rfl (lv_at hl 3 rfl) ?_
      refine lv_aload_n hx hb dL_contrast_58 rfl (lv_at hl 4 rfl) ?_
      refine lv_iload hx hb dL_contrast_59 (lv_at hl 6 rfl) ?_
      refine lv_iload hx hb dL_contrast_61 (lv_at hl 1 rfl) ?_
      refine lv_iload hx hb dL_contrast_63 (lv_at hl 0 rfl) ?_
      refine kq_cSX (As := [.ref sb, .ref pa, .int (nI n), .int (nI (k / 12)), .int (nI (k % 12))]) (rest := []) ⟨hx, hb, hml, hown, hts⟩ (c_L_tone l dC dI cI sb sL xs pa v pf n (k / 12) (k % 12) (by first | assumption | omega) (by first | assumption | omega) (by first | assumption | omega) (by first | assumption | omega) (by first | assumption | omega) (by first | assumption | omega) (by first | assumption | omega)) (va_cwS 5 hts gL_contrast_L_tone rfl rfl rfl (by decide +kernel) ⟨Nat.le_of_ble_eq_true rfl, Nat.le_of_ble_eq_true rfl⟩) (hP.sub [7] rfl) (kq_xk hX hbl hbA hS) hK rfl hl.1 rfl (Nat.le_of_ble_eq_true rfl) dL_contrast_65 ⟨Nat.le_of_ble_eq_true rfl, Nat.le_of_ble_eq_true rfl⟩ ?_
      refine lv_aload_n hx hb dL_contrast_68 rfl (lv_at hl 2 rfl) ?_
      refine lv_iconst (v := 0) hx hb dL_contrast_69 (by decide) ?_
      refine lv_iload hx hb dL_contrast_70 (lv_at hl 1 rfl) ?_
      refine lv_iload hx hb dL_contrast_72 (lv_at hl 0 rfl) ?_
      refine lv_iconst (v := 1) hx hb dL_contrast_74 (by decide) ?_
      refine kq_callMi (wr := [(pa, .inl (cI, 8, .inl pf)), (qa, .inl (cI, 4, .inl qf))]) (va_runV (As := [.int 0, .int (nI (k / 12)), .int (nI (k % 12)), .int 1]) (rest := [.int (n_to v n (k / 12) (k % 12))]) ⟨hx, hb, hml, hown, hts⟩ (c_X5_cell l dC dI cI H.size oX oS oR oN o2 oF oT rv rs kc rp rt rl v fp ft fl 0 (k / 12) (k % 12) 1 (by first | assumption | omega) (by first | assumption | omega) (by first | assumption | omega) (by first | assumption | omega) (by first | assumption | omega)) (cwV 4 hts gL_contrast_X5_cell rfl rfl rfl (by decide +kernel) ⟨Nat.le_of_ble_eq_true rfl, Nat.le_of_ble_eq_true rfl⟩) (kq_preV (ci := 5) (q0 := 0) (hP.sub [0, 1, 2, 3, 4, 5, 6] rfl) (hD.sub [0, 1, 2, 3, 4, 5, 6] (by decide) rfl) hK rfl rfl) rfl rfl hl.1 rfl (lv_room (Nat.le_of_ble_eq_true rfl)) dL_contrast_75 ⟨Nat.le_of_ble_eq_true rfl, Nat.le_of_ble_eq_true rfl⟩) hP hD hS hA [0, 1, 2, 3, 4, 5, 6] [7, 8] rfl rfl (by decide) (by decide) (fun r_12 u_13 H locs hw_14 hP hD hS => ?_)
      obtain ⟨gp_15, gt_16, gl_17⟩ := u_13
      have hP : va_P (dC, dI) vwCl [(pa, .inl (cI, 8, .inl pf)), (qa, .inl (cI, 4, .inl qf)), (oX, .inr (5, [.ref oS, .ref oR, .ref oN, .ref o2, .ref oF, .ref oT])), (oS, .inr (3, [.ref rv, .ref rs, .int (nI kc)])), (rv, .inl (cI, 385, .inl v)), (oN, .inr (1, [.ref oS, .ref rp, .ref rt, .ref rl])), (rp, .inl (cI, 72, .inl gp_15)), (rt, .inl (cI, 72, .inl gt_16)), (rl, .inl (cI, 72, .inl gl_17))] H := hP
      have hD : va_D A [(pa, .inl (cI, 8, .inl pf)), (qa, .inl (cI, 4, .inl qf)), (oX, .inr (5, [.ref oS, .ref oR, .ref oN, .ref o2, .ref oF, .ref oT])), (oS, .inr (3, [.ref rv, .ref rs, .int (nI kc)])), (rv, .inl (cI, 385, .inl v)), (oN, .inr (1, [.ref oS, .ref rp, .ref rt, .ref rl])), (rp, .inl (cI, 72, .inl gp_15)), (rt, .inl (cI, 72, .inl gt_16)), (rl, .inl (cI, 72, .inl gl_17))] := hD
      obtain rfl := hw_14
      refine kq_top (z := v (294 + k / 12 * 12 + k % 12)) (n_cell_1) ?_
      refine lv_isub hx hb dL_contrast_78 ?_
      refine kq_top (z := n_li v n (k / 12) (k % 12)) (by rw [n_li]) ?_
      refine lv_istore (lv' := [(12, .int (n_li v n (k / 12) (k % 12))), (11, .int (nI (k % 12))), (10, .int (nI (k / 12))), (0, .ref oX), (1, .ref sb), (2, .ref pa), (3, .ref qa), (4, .int (nI n)), (5, .int (nI (n_f v f 2 * n_f v f 3))), (6, .int (nI (n_fr (n_f v f 0) (n_f v f 1) (n_f v f 2) (n_f v f 3)))), (7, .int x1), (8, .int x2), (9, .int (nI k))]) hx hb dL_contrast_79 hl (by decide) rfl (fun ls hl => ?_)
      refine lv_iload hx hb dL_contrast_81 (lv_at hl 10 rfl) ?_
      refine lv_aload_n hx hb dL_contrast_83 rfl (lv_at hl 6 rfl) ?_
      refine lv_iload hx hb dL_contrast_84 (lv_at hl 2 rfl) ?_
      refine lv_iload hx hb dL_contrast_86 (lv_at hl 1 rfl) ?_
      refine lv_iconst (v := 0) hx hb dL_contrast_88 (by decide) ?_
      refine kq_cS (As := [.ref qa, .int (nI (k / 12)), .int (nI (k % 12)), .int 0]) (rest := [.int x1]) ⟨hx, hb, hml, hown, hts⟩ (c_L_isIn_0 l dC dI cI qa qf (n_f v f 0) (n_f v f 1) (n_f v f 2) (n_f v f 3) (k / 12) (k % 12) (by first | assumption | omega) (by first | assumption | omega) (by first | assumption | omega) (by first | assumption | omega) (by first | assumption | omega)) (va_cwS 4 hts gL_contrast_L_isIn rfl rfl rfl (by decide +kernel) ⟨Nat.le_of_ble_eq_true rfl, Nat.le_of_ble_eq_true rfl⟩) (hP.sub [1] rfl) hK rfl hl.1 rfl (Nat.le_of_ble_eq_true rfl) dL_contrast_89 ⟨Nat.le_of_ble_eq_true rfl, Nat.le_of_ble_eq_true rfl⟩ ?_
      refine lv_if_eq (tgt := 100) hx hb dL_contrast_92 (by decide) (fun c_18 => ?_) (fun c_18 => ?_)
      · skip
        have c_18 := kq_bf c_18
        refine lv_iconst (v := 0) hx hb dL_contrast_100 (by decide) ?_
        refine lv_iadd hx hb dL_contrast_101 ?_
        refine lv_istore (lv' := [(7, .int (x1 + 0)), (12, .int (n_li v n (k / 12) (k % 12))), (11, .int (nI (k % 12))), (10, .int (nI (k / 12))), (0, .ref oX), (1, .ref sb), (2, .ref pa), (3, .ref qa), (4, .int (nI n)), (5, .int (nI (n_f v f 2 * n_f v f 3))), (6, .int (nI (n_fr (n_f v f 0) (n_f v f 1) (n_f v f 2) (n_f v f 3)))), (8, .int x2), (9, .int (nI k))]) hx hb dL_contrast_102 hl (by decide) rfl (fun ls hl => ?_)
        refine lv_iload hx hb dL_contrast_104 (lv_at hl 11 rfl) ?_
        refine lv_aload_n hx hb dL_contrast_106 rfl (lv_at hl 7 rfl) ?_
        refine lv_iload hx hb dL_contrast_107 (lv_at hl 3 rfl) ?_
        refine lv_iload hx hb dL_contrast_109 (lv_at hl 2 rfl) ?_
        refine lv_iconst (v := 0) hx hb dL_contrast_111 (by decide) ?_
        refine kq_cS (As := [.ref qa, .int (nI (k / 12)), .int (nI (k % 12)), .int 0]) (rest := [.int x2]) ⟨hx, hb, hml, hown, hts⟩ (c_L_isIn_0 l dC dI cI qa qf (n_f v f 0) (n_f v f 1) (n_f v f 2) (n_f v f 3) (k / 12) (k % 12) (by first | assumption | omega) (by first | assumption | omega) (by first | assumption | omega) (by first | assumption | omega) (by first | assumption | omega)) (va_cwS 4 hts gL_contrast_L_isIn rfl rfl rfl (by decide +kernel) ⟨Nat.le_of_ble_eq_true rfl, Nat.le_of_ble_eq_true rfl⟩) (hP.sub [1] rfl) hK rfl hl.1 rfl (Nat.le_of_ble_eq_true rfl) dL_contrast_112 ⟨Nat.le_of_ble_eq_true rfl, Nat.le_of_ble_eq_true rfl⟩ ?_
        refine lv_if_eq (tgt := 122) hx hb dL_contrast_115 (by decide) (fun c_19 => ?_) (fun c_19 => ?_)
        · skip
          have c_19 := kq_bf c_19
          refine lv_iload hx hb dL_contrast_122 (lv_at hl 1 rfl) ?_
          refine lv_iadd hx hb dL_contrast_124 ?_
          refine lv_istore (lv' := [(8, .int (x2 + (n_li v n (k / 12) (k % 12)))), (7, .int (x1 + 0)), (12, .int (n_li v n (k / 12) (k % 12))), (11, .int (nI (k % 12))), (10, .int (nI (k / 12))), (0, .ref oX), (1, .ref sb), (2, .ref pa), (3, .ref qa), (4, .int (nI n)), (5, .int (nI (n_f v f 2 * n_f v f 3))), (6, .int (nI (n_fr (n_f v f 0) (n_f v f 1) (n_f v f 2) (n_f v f 3)))), (9, .int (nI k))]) hx hb dL_contrast_125 hl (by decide) rfl (fun ls hl => ?_)
          refine lv_iinc (v := nI (k + 1)) (lv' := [(9, .int (nI (k + 1))), (8, .int (x2 + (n_li v n (k / 12) (k % 12)))), (7, .int (x1 + 0)), (12, .int (n_li v n (k / 12) (k % 12))), (11, .int (nI (k % 12))), (10, .int (nI (k / 12))), (0, .ref oX), (1, .ref sb), (2, .ref pa), (3, .ref qa), (4, .int (nI n)), (5, .int (nI (n_f v f 2 * n_f v f 3))), (6, .int (nI (n_fr (n_f v f 0) (n_f v f 1) (n_f v f 2) (n_f v f 3))))]) hx hb dL_contrast_127 hl (k := 12) rfl (nI_1 k) (by decide) rfl (fun ls hl => ?_)
          refine lv_goto (tgt := 24) hx hb dL_contrast_130 (by decide) ?_
          exact ih_1 (k + 1) (x1 + 0) (x2 + (n_li v n (k / 12) (k % 12))) gp_15 gt_16 gl_17 ⟨(by omega), (by first | (exfalso; omega) | (rw [n_mi_s, ← i1]; first | rw [if_pos (by omega)] | rw [if_neg (by omega), Int32.add_zero])), (by first | (exfalso; omega) | (rw [n_ma_s, ← i2]; first | rw [if_pos (by omega)] | rw [if_neg (by omega), if_pos (by omega)] | rw [if_neg (by omega), if_neg (by omega), Int32.add_zero]))⟩ (by show 72 - (k + 1) < 72 - k; omega) _ _ (hP.sub [2, 3, 4, 5, 6, 7, 8, 0, 1] rfl) (hD.sub [2, 3, 4, 5, 6, 7, 8, 0, 1] (by decide) rfl) hS _ (lv_sub hl [6, 7, 8, 9, 10, 11, 12, 2, 1, 0] rfl)
        · skip
          have c_19 := kq_bt c_19
          refine lv_iconst (v := 0) hx hb dL_contrast_118 (by decide) ?_
          refine lv_goto (tgt := 124) hx hb dL_contrast_119 (by decide) ?_
          refine lv_iadd hx hb dL_contrast_124 ?_
          refine lv_istore (lv' := [(8, .int (x2 + 0)), (7, .int (x1 + 0)), (12, .int (n_li v n (k / 12) (k % 12))), (11, .int (nI (k % 12))), (10, .int (nI (k / 12))), (0, .ref oX), (1, .ref sb), (2, .ref pa), (3, .ref qa), (4, .int (nI n)), (5, .int (nI (n_f v f 2 * n_f v f 3))), (6, .int (nI (n_fr (n_f v f 0) (n_f v f 1) (n_f v f 2) (n_f v f 3)))), (9, .int (nI k))]) hx hb dL_contrast_125 hl (by decide) rfl (fun ls hl => ?_)
          refine lv_iinc (v := nI (k + 1)) (lv' := [(9, .int (nI (k + 1))), (8, .int (x2 + 0)), (7, .int (x1 + 0)), (12, .int (n_li v n (k / 12) (k % 12))), (11, .int (nI (k % 12))), (10, .int (nI (k / 12))), (0, .ref oX), (1, .ref sb), (2, .ref pa), (3, .ref qa), (4, .int (nI n)), (5, .int (nI (n_f v f 2 * n_f v f 3))), (6, .int (nI (n_fr (n_f v f 0) (n_f v f 1) (n_f v f 2) (n_f v f 3))))]) hx hb dL_contrast_127 hl (k := 12) rfl (nI_1 k) (by decide) rfl (fun ls hl => ?_)
          refine lv_goto (tgt := 24) hx hb dL_contrast_130 (by decide) ?_
          exact ih_1 (k + 1) (x1 + 0) (x2 + 0) gp_15 gt_16 gl_17 ⟨(by omega), (by first | (exfalso; omega) | (rw [n_mi_s, ← i1]; first | rw [if_pos (by omega)] | rw [if_neg (by omega), Int32.add_zero])), (by first | (exfalso; omega) | (rw [n_ma_s, ← i2]; first | rw [if_pos (by omega)] | rw [if_neg (by omega), if_pos (by omega)] | rw [if_neg (by omega), if_neg (by omega), Int32.add_zero]))⟩ (by show 72 - (k + 1) < 72 - k; omega) _ _ (hP.sub [2, 3, 4, 5, 6, 7, 8, 0, 1] rfl) (hD.sub [2, 3, 4, 5, 6, 7, 8, 0, 1] (by decide) rfl) hS _ (lv_sub hl [6, 7, 8, 9, 10, 11, 12, 2, 1, 0] rfl)
      · skip
        have c_18 := kq_bt c_18
        refine lv_iload hx hb dL_contrast_95 (lv_at hl 0 rfl) ?_
        refine lv_goto (tgt := 101) hx hb dL_contrast_97 (by decide) ?_
        refine lv_iadd hx hb dL_contrast_101 ?_
        refine lv_istore (lv' := [(7, .int (x1 + (n_li v n (k / 12) (k % 12)))), (12, .int (n_li v n (k / 12) (k % 12))), (11, .int (nI (k % 12))), (10, .int (nI (k / 12))), (0, .ref oX), (1, .ref sb), (2, .ref pa), (3, .ref qa), (4, .int (nI n)), (5, .int (nI (n_f v f 2 * n_f v f 3))), (6, .int (nI (n_fr (n_f v f 0) (n_f v f 1) (n_f v f 2) (n_f v f 3)))), (8, .int x2), (9, .int (nI k))]) hx hb dL_contrast_102 hl (by decide) rfl (fun ls hl => ?_)
        refine lv_iload hx hb dL_contrast_104 (lv_at hl 11 rfl) ?_
        refine lv_aload_n hx hb dL_contrast_106 rfl (lv_at hl 7 rfl) ?_
        refine lv_iload hx hb dL_contrast_107 (lv_at hl 3 rfl) ?_
        refine lv_iload hx hb dL_contrast_109 (lv_at hl 2 rfl) ?_
        refine lv_iconst (v := 0) hx hb dL_contrast_111 (by decide) ?_
        refine kq_cS (As := [.ref qa, .int (nI (k / 12)), .int (nI (k % 12)), .int 0]) (rest := [.int x2]) ⟨hx, hb, hml, hown, hts⟩ (c_L_isIn_0 l dC dI cI qa qf (n_f v f 0) (n_f v f 1) (n_f v f 2) (n_f v f 3) (k / 12) (k % 12) (by first | assumption | omega) (by first | assumption | omega) (by first | assumption | omega) (by first | assumption | omega) (by first | assumption | omega)) (va_cwS 4 hts gL_contrast_L_isIn rfl rfl rfl (by decide +kernel) ⟨Nat.le_of_ble_eq_true rfl, Nat.le_of_ble_eq_true rfl⟩) (hP.sub [1] rfl) hK rfl hl.1 rfl (Nat.le_of_ble_eq_true rfl) dL_contrast_112 ⟨Nat.le_of_ble_eq_true rfl, Nat.le_of_ble_eq_true rfl⟩ ?_
        refine lv_if_eq (tgt := 122) hx hb dL_contrast_115 (by decide) (fun c_20 => ?_) (fun c_20 => ?_)
        · skip
          have c_20 := kq_bf c_20
          refine lv_iload hx hb dL_contrast_122 (lv_at hl 1 rfl) ?_
          refine lv_iadd hx hb dL_contrast_124 ?_
          refine lv_istore (lv' := [(8, .int (x2 + (n_li v n (k / 12) (k % 12)))), (7, .int (x1 + (n_li v n (k / 12) (k % 12)))), (12, .int (n_li v n (k / 12) (k % 12))), (11, .int (nI (k % 12))), (10, .int (nI (k / 12))), (0, .ref oX), (1, .ref sb), (2, .ref pa), (3, .ref qa), (4, .int (nI n)), (5, .int (nI (n_f v f 2 * n_f v f 3))), (6, .int (nI (n_fr (n_f v f 0) (n_f v f 1) (n_f v f 2) (n_f v f 3)))), (9, .int (nI k))]) hx hb dL_contrast_125 hl (by decide) rfl (fun ls hl => ?_)
          refine lv_iinc (v := nI (k + 1)) (lv' := [(9, .int (nI (k + 1))), (8, .int (x2 + (n_li v n (k / 12) (k % 12)))), (7, .int (x1 + (n_li v n (k / 12) (k % 12)))), (12, .int (n_li v n (k / 12) (k % 12))), (11, .int (nI (k % 12))), (10, .int (nI (k / 12))), (0, .ref oX), (1, .ref sb), (2, .ref pa), (3, .ref qa), (4, .int (nI n)), (5, .int (nI (n_f v f 2 * n_f v f 3))), (6, .int (nI (n_fr (n_f v f 0) (n_f v f 1) (n_f v f 2) (n_f v f 3))))]) hx hb dL_contrast_127 hl (k := 12) rfl (nI_1 k) (by decide) rfl (fun ls hl => ?_)
          refine lv_goto (tgt := 24) hx hb dL_contrast_130 (by decide) ?_
          exact ih_1 (k + 1) (x1 + (n_li v n (k / 12) (k % 12))) (x2 + (n_li v n (k / 12) (k % 12))) gp_15 gt_16 gl_17 ⟨(by omega), (by first | (exfalso; omega) | (rw [n_mi_s, ← i1]; first | rw [if_pos (by omega)] | rw [if_neg (by omega), Int32.add_zero])), (by first | (exfalso; omega) | (rw [n_ma_s, ← i2]; first | rw [if_pos (by omega)] | rw [if_neg (by omega), if_pos (by omega)] | rw [if_neg (by omega), if_neg (by omega), Int32.add_zero]))⟩ (by show 72 - (k + 1) < 72 - k; omega) _ _ (hP.sub [2, 3, 4, 5, 6, 7, 8, 0, 1] rfl) (hD.sub [2, 3, 4, 5, 6, 7, 8, 0, 1] (by decide) rfl) hS _ (lv_sub hl [6, 7, 8, 9, 10, 11, 12, 2, 1, 0] rfl)
        · skip
          have c_20 := kq_bt c_20
          refine lv_iconst (v := 0) hx hb dL_contrast_118 (by decide) ?_
          refine lv_goto (tgt := 124) hx hb dL_contrast_119 (by decide) ?_
          refine lv_iadd hx hb dL_contrast_124 ?_
          refine lv_istore (lv' := [(8, .int (x2 + 0)), (7, .int (x1 + (n_li v n (k / 12) (k % 12)))), (12, .int (n_li v n (k / 12) (k % 12))), (11, .int (nI (k % 12))), (10, .int (nI (k / 12))), (0, .ref oX), (1, .ref sb), (2, .ref pa), (3, .ref qa), (4, .int (nI n)), (5, .int (nI (n_f v f 2 * n_f v f 3))), (6, .int (nI (n_fr (n_f v f 0) (n_f v f 1) (n_f v f 2) (n_f v f 3)))), (9, .int (nI k))]) hx hb dL_contrast_125 hl (by decide) rfl (fun ls hl => ?_)
          refine lv_iinc (v := nI (k + 1)) (lv' := [(9, .int (nI (k + 1))), (8, .int (x2 + 0)), (7, .int (x1 + (n_li v n (k / 12) (k % 12)))), (12, .int (n_li v n (k / 12) (k % 12))), (11, .int (nI (k % 12))), (10, .int (nI (k / 12))), (0, .ref oX), (1, .ref sb), (2, .ref pa), (3, .ref qa), (4, .int (nI n)), (5, .int (nI (n_f v f 2 * n_f v f 3))), (6, .int (nI (n_fr (n_f v f 0) (n_f v f 1) (n_f v f 2) (n_f v f 3))))]) hx hb dL_contrast_127 hl (k := 12) rfl (nI_1 k) (by decide) rfl (fun ls hl => ?_)
          refine lv_goto (tgt := 24) hx hb dL_contrast_130 (by decide) ?_
          exact ih_1 (k + 1) (x1 + (n_li v n (k / 12) (k % 12))) (x2 + 0) gp_15 gt_16 gl_17 ⟨(by omega), (by first | (exfalso; omega) | (rw [n_mi_s, ← i1]; first | rw [if_pos (by omega)] | rw [if_neg (by omega), Int32.add_zero])), (by first | (exfalso; omega) | (rw [n_ma_s, ← i2]; first | rw [if_pos (by omega)] | rw [if_neg (by omega), if_pos (by omega)] | rw [if_neg (by omega), if_neg (by omega), Int32.add_zero]))⟩ (by show 72 - (k + 1) < 72 - k; omega) _ _ (hP.sub [2, 3, 4, 5, 6, 7, 8, 0, 1] rfl) (hD.sub [2, 3, 4, 5, 6, 7, 8, 0, 1] (by decide) rfl) hS _ (lv_sub hl [6, 7, 8, 9, 10, 11, 12, 2, 1, 0] rfl)
