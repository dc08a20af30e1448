set_option maxHeartbeats 4000000 in
set_option maxRecDepth 100000 in
theorem c_X5_bestPhase (l : Launch) (dC : Nat → ClassId) (dI : Nat → Nat → Nat) (cI : ClassId) (sz : Nat) (oX : Nat) (oS : Nat) (oR : Nat) (oN : Nat) (o2 : Nat) (oF : Nat) (oT : Nat) (rv : Nat) (rs : Nat) (kc : Nat) (rp : Nat) (rt : Nat) (rl : Nat) (v : Nat → Int32) (fp : Nat → Int32) (ft : Nat → Int32) (fl : Nat → Int32) (a : Nat) (f : Nat) (hI : n_I v) (ha : a < 3) (hf : f < 4) : Met l yX5_bestPhase wsX5_bestPhase ({ frames := 4, cells := 0, slots := 0, locals := 98 }) (kq_M dC dI cI [.ref oX, .int (nI a), .int (nI f)] sz [(oX, .inr (5, [.ref oS, .ref oR, .ref oN, .ref o2, .ref oF, .ref oT])), (oS, .inr (3, [.ref rv, .ref rs, .int (nI kc)])), (rv, .inl (cI, 385, .inl v)), (oF, .inr (0, [.ref oS, .ref oN])), (oN, .inr (1, [.ref oS, .ref rp, .ref rt, .ref rl])), (rp, .inl (cI, 72, .inl fp)), (rt, .inl (cI, 72, .inl ft)), (rl, .inl (cI, 72, .inl fl))]) (va_Qi (fun (r : Int32) (u : (Nat → Int32) × (Nat → Int32) × (Nat → Int32)) => r = n_bph v a f) (kq_B dC dI (va_A [(oX, .inr (5, [.ref oS, .ref oR, .ref oN, .ref o2, .ref oF, .ref oT])), (oS, .inr (3, [.ref rv, .ref rs, .int (nI kc)])), (rv, .inl (cI, 385, .inl v)), (oF, .inr (0, [.ref oS, .ref oN])), (oN, .inr (1, [.ref oS, .ref rp, .ref rt, .ref rl])), (rp, .inl (cI, 72, .inl fp)), (rt, .inl (cI, 72, .inl ft)), (rl, .inl (cI, 72, .inl fl))] sz) (fun u : (Nat → Int32) × (Nat → Int32) × (Nat → Int32) => [(oX, .inr (5, [.ref oS, .ref oR, .ref oN, .ref o2, .ref oF, .ref oT])), (oS, .inr (3, [.ref rv, .ref rs, .int (nI kc)])), (rv, .inl (cI, 385, .inl v)), (oF, .inr (0, [.ref oS, .ref oN])), (oN, .inr (1, [.ref oS, .ref rp, .ref rt, .ref rl])), (rp, .inl (cI, 72, .inl u.1)), (rt, .inl (cI, 72, .inl u.2.1)), (rl, .inl (cI, 72, .inl u.2.2))])) (va_A [(oX, .inr (5, [.ref oS, .ref oR, .ref oN, .ref o2, .ref oF, .ref oT])), (oS, .inr (3, [.ref rv, .ref rs, .int (nI kc)])), (rv, .inl (cI, 385, .inl v)), (oF, .inr (0, [.ref oS, .ref oN])), (oN, .inr (1, [.ref oS, .ref rp, .ref rt, .ref rl])), (rp, .inl (cI, 72, .inl fp)), (rt, .inl (cI, 72, .inl ft)), (rl, .inl (cI, 72, .inl fl))] sz)) 0 0 (va_A [(oX, .inr (5, [.ref oS, .ref oR, .ref oN, .ref o2, .ref oF, .ref oT])), (oS, .inr (3, [.ref rv, .ref rs, .int (nI kc)])), (rv, .inl (cI, 385, .inl v)), (oF, .inr (0, [.ref oS, .ref oN])), (oN, .inr (1, [.ref oS, .ref rp, .ref rt, .ref rl])), (rp, .inl (cI, 72, .inl fp)), (rt, .inl (cI, 72, .inl ft)), (rl, .inl (cI, 72, .inl fl))] sz) := by
  refine kq_startM (cc := cX5_bestPhase) (maxL := 10) (ret := (some .int)) (by decide) rfl (Nat.le_of_ble_eq_true rfl) ?_
  intro p e s m below meth c hx hb hr hml hown hlocks hts hsz hA hP hD hS hK hnm ls hl
  subst hsz
  generalize hAe : va_A [(oX, .inr (5, [.ref oS, .ref oR, .ref oN, .ref o2, .ref oF, .ref oT])), (oS, .inr (3, [.ref rv, .ref rs, .int (nI kc)])), (rv, .inl (cI, 385, .inl v)), (oF, .inr (0, [.ref oS, .ref oN])), (oN, .inr (1, [.ref oS, .ref rp, .ref rt, .ref rl])), (rp, .inl (cI, 72, .inl fp)), (rt, .inl (cI, 72, .inl ft)), (rl, .inl (cI, 72, .inl fl))] s.heap.size = A at hA hD hS ⊢
  have hown : s.vm.findClass RX5 = some m.cls := hown
  have hl : lv_has ls 10 [(0, .ref oX), (1, .int (nI a)), (2, .int (nI f))] := hl
  have h16 := n_I_c16 hI ha
  have hpc := n_I_pc hI ha
  refine lv_iload_n hx hb dX5_bestPhase_0 rfl (lv_at hl 1 rfl) ?_
  refine lv_iconst (v := 3) hx hb dX5_bestPhase_1 (by decide) ?_
  refine kq_cS (As := [.int (nI a), .int 3]) (rest := []) ⟨hx, hb, hml, hown, hts⟩ (c_X5_isIndex_n l dC dI cI a 3 (by first | assumption | omega) (by first | assumption | omega)) (va_cwS 2 hts gX5_bestPhase_X5_isIndex rfl rfl rfl (by decide +kernel) ⟨Nat.le_of_ble_eq_true rfl, Nat.le_of_ble_eq_true rfl⟩) (hP.sub [] rfl) hK rfl hl.1 rfl (Nat.le_of_ble_eq_true rfl) dX5_bestPhase_2 ⟨Nat.le_of_ble_eq_true rfl, Nat.le_of_ble_eq_true rfl⟩ ?_
  refine lv_if_eq (tgt := 20) hx hb dX5_bestPhase_5 (by decide) (fun c_1 => ?_) (fun c_1 => ?_)
  · skip
    have c_1 := kq_bf c_1
    exact absurd ha c_1
  · skip
    have c_1 := kq_bt c_1
    refine lv_iload_n hx hb dX5_bestPhase_8 rfl (lv_at hl 2 rfl) ?_
    refine lv_iconst (v := 4) hx hb dX5_bestPhase_9 (by decide) ?_
    refine kq_cS (As := [.int (nI f), .int 4]) (rest := []) ⟨hx, hb, hml, hown, hts⟩ (c_X5_isIndex_n l dC dI cI f 4 (by first | assumption | omega) (by first | assumption | omega)) (va_cwS 2 hts gX5_bestPhase_X5_isIndex rfl rfl rfl (by decide +kernel) ⟨Nat.le_of_ble_eq_true rfl, Nat.le_of_ble_eq_true rfl⟩) (hP.sub [] rfl) hK rfl hl.1 rfl (Nat.le_of_ble_eq_true rfl) dX5_bestPhase_10 ⟨Nat.le_of_ble_eq_true rfl, Nat.le_of_ble_eq_true rfl⟩ ?_
    refine lv_if_eq (tgt := 20) hx hb dX5_bestPhase_13 (by decide) (fun c_2 => ?_) (fun c_2 => ?_)
    · skip
      have c_2 := kq_bf c_2
      exact absurd hf c_2
    · skip
      have c_2 := kq_bt c_2
      refine lv_iconst (v := 1) hx hb dX5_bestPhase_16 (by decide) ?_
      refine lv_goto (tgt := 21) hx hb dX5_bestPhase_17 (by decide) ?_
      refine kq_callMv (wr := [(oX, .inr (5, [.ref oS, .ref oR, .ref oN, .ref o2, .ref oF, .ref oT])), (oS, .inr (3, [.ref rv, .ref rs, .int (nI kc)])), (rv, .inl (cI, 385, .inl v)), (oF, .inr (0, [.ref oS, .ref oN])), (oN, .inr (1, [.ref oS, .ref rp, .ref rt, .ref rl])), (rp, .inl (cI, 72, .inl fp)), (rt, .inl (cI, 72, .inl ft)), (rl, .inl (cI, 72, .inl fl))]) (va_runS (As := [.int 1]) (rest := []) ⟨hx, hb, hml, hown, hts⟩ (c_X5_needPlace l dC dI cI s.heap.size  ) (va_cwS 1 hts gX5_bestPhase_X5_needPlace rfl rfl rfl (by decide +kernel) ⟨Nat.le_of_ble_eq_true rfl, Nat.le_of_ble_eq_true rfl⟩) (kq_preS (hP.sub [] rfl) (hD.sub [] (by decide) rfl) hK) rfl rfl hl.1 rfl (lv_room (Nat.le_of_ble_eq_true rfl)) dX5_bestPhase_21 ⟨Nat.le_of_ble_eq_true rfl, Nat.le_of_ble_eq_true rfl⟩) hP hD hS hA [] [0, 1, 2, 3, 4, 5, 6, 7] rfl rfl (by decide) (by decide) (fun u_4 H locs hw_5 hP hD hS => ?_)
      have hP : va_P (dC, dI) vwCl [(oX, .inr (5, [.ref oS, .ref oR, .ref oN, .ref o2, .ref oF, .ref oT])), (oS, .inr (3, [.ref rv, .ref rs, .int (nI kc)])), (rv, .inl (cI, 385, .inl v)), (oF, .inr (0, [.ref oS, .ref oN])), (oN, .inr (1, [.ref oS, .ref rp, .ref rt, .ref rl])), (rp, .inl (cI, 72, .inl fp)), (rt, .inl (cI, 72, .inl ft)), (rl, .inl (cI, 72, .inl fl))] H := hP
      have hD : va_D A [(oX, .inr (5, [.ref oS, .ref oR, .ref oN, .ref o2, .ref oF, .ref oT])), (oS, .inr (3, [.ref rv, .ref rs, .int (nI kc)])), (rv, .inl (cI, 385, .inl v)), (oF, .inr (0, [.ref oS, .ref oN])), (oN, .inr (1, [.ref oS, .ref rp, .ref rt, .ref rl])), (rp, .inl (cI, 72, .inl fp)), (rt, .inl (cI, 72, .inl ft)), (rl, .inl (cI, 72, .inl fl))] := hD
      refine lv_aload_n hx hb dX5_bestPhase_24 rfl (lv_at hl 0 rfl) ?_
      refine va_get (D := (dC, dI)) (ci := 5) (v := .ref oF) (C := RX5) (T := TX5) (N := 6) hx hb hts (by decide +kernel) hown hK.1 hP 0 rfl rfl 4 (by decide) (hts (.fieldLink RX5 40 "NoteWatermarks" "figures" "LNoteWatermarks$Figures;") (by decide +kernel)) (fun _ h9 => h9) rfl dX5_bestPhase_25 ?_
      refine lv_iload_n hx hb dX5_bestPhase_28 rfl (lv_at hl 2 rfl) ?_
      refine kq_cV (As := [.int (nI f)]) (rest := []) ⟨hx, hb, hml, hown, hts⟩ (c_X0_isThere l dC dI cI oF oN oS rv rs (nI kc) v f (by first | assumption | omega) (by first | assumption | omega)) (cwV 1 hts gX5_bestPhase_X0_isThere rfl rfl rfl (by decide +kernel) ⟨Nat.le_of_ble_eq_true rfl, Nat.le_of_ble_eq_true rfl⟩) (hP.sub [3, 1, 2] rfl) hK (ci := 0) (q0 := 0) rfl rfl rfl rfl hl.1 rfl (Nat.le_of_ble_eq_true rfl) dX5_bestPhase_29 ⟨Nat.le_of_ble_eq_true rfl, Nat.le_of_ble_eq_true rfl⟩ ?_
      refine lv_if_ne (tgt := 37) hx hb dX5_bestPhase_32 (by decide) (fun c_6 => ?_) (fun c_6 => ?_)
      · skip
        have c_6 := kq_bt c_6
        have ht : 0 < n_f v f 2 := c_6
        refine lv_iload_n hx hb dX5_bestPhase_37 rfl (lv_at hl 1 rfl) ?_
        refine kq_cS (As := [.int (nI a)]) (rest := []) ⟨hx, hb, hml, hown, hts⟩ (c_X3_phasePlace l dC dI cI a ) (va_cwS 1 hts gX5_bestPhase_X3_phasePlace rfl rfl rfl (by decide +kernel) ⟨Nat.le_of_ble_eq_true rfl, Nat.le_of_ble_eq_true rfl⟩) (hP.sub [] rfl) hK rfl hl.1 rfl (Nat.le_of_ble_eq_true rfl) dX5_bestPhase_38 ⟨Nat.le_of_ble_eq_true rfl, Nat.le_of_ble_eq_true rfl⟩ ?_
        refine lv_istore_n (lv' := [(3, .int (nI (291 + a))), (0, .ref oX), (1, .int (nI a)), (2, .int (nI f))]) hx hb dX5_bestPhase_41 rfl hl (by decide) rfl (fun ls hl => ?_)
        refine lv_aload_n hx hb dX5_bestPhase_42 rfl (lv_at hl 1 rfl) ?_
        refine va_get (D := (dC, dI)) (ci := 5) (v := .ref oS) (C := RX5) (T := TX5) (N := 6) hx hb hts (by decide +kernel) hown hK.1 hP 0 rfl rfl 0 (by decide) (hts (.fieldLink RX5 12 "NoteWatermarks" "state" "LNoteWatermarks$State;") (by decide +kernel)) (fun _ h9 => h9) rfl dX5_bestPhase_43 ?_
        refine lv_iload_n hx hb dX5_bestPhase_46 rfl (lv_at hl 0 rfl) ?_
        refine kq_cV (As := [.int (nI (291 + a))]) (rest := []) ⟨hx, hb, hml, hown, hts⟩ (c_X3_at l dC dI cI oS rv rs (nI kc) v (291 + a) (by first | assumption | omega)) (cwV 1 hts gX5_bestPhase_X3_at rfl rfl rfl (by decide +kernel) ⟨Nat.le_of_ble_eq_true rfl, Nat.le_of_ble_eq_true rfl⟩) (hP.sub [1, 2] rfl) hK (ci := 3) (q0 := 0) rfl rfl rfl rfl hl.1 rfl (Nat.le_of_ble_eq_true rfl) dX5_bestPhase_47 ⟨Nat.le_of_ble_eq_true rfl, Nat.le_of_ble_eq_true rfl⟩ ?_
        refine kq_top (z := nI (n_p v a)) (n_I_p hI ha) ?_
        refine lv_istore (lv' := [(4, .int (nI (n_p v a))), (3, .int (nI (291 + a))), (0, .ref oX), (1, .int (nI a)), (2, .int (nI f))]) hx hb dX5_bestPhase_50 hl (by decide) rfl (fun ls hl => ?_)
        refine lv_aload_n hx hb dX5_bestPhase_52 rfl (lv_at hl 2 rfl) ?_
        refine va_get (D := (dC, dI)) (ci := 5) (v := .ref oS) (C := RX5) (T := TX5) (N := 6) hx hb hts (by decide +kernel) hown hK.1 hP 0 rfl rfl 0 (by decide) (hts (.fieldLink RX5 12 "NoteWatermarks" "state" "LNoteWatermarks$State;") (by decide +kernel)) (fun _ h9 => h9) rfl dX5_bestPhase_53 ?_
        refine lv_iload_n hx hb dX5_bestPhase_56 rfl (lv_at hl 3 rfl) ?_
        refine kq_cS (As := [.int (nI a)]) (rest := [.ref oS]) ⟨hx, hb, hml, hown, hts⟩ (c_X3_circumferencePlace l dC dI cI a ) (va_cwS 1 hts gX5_bestPhase_X3_circumferencePlace rfl rfl rfl (by decide +kernel) ⟨Nat.le_of_ble_eq_true rfl, Nat.le_of_ble_eq_true rfl⟩) (hP.sub [] rfl) hK rfl hl.1 rfl (Nat.le_of_ble_eq_true rfl) dX5_bestPhase_57 ⟨Nat.le_of_ble_eq_true rfl, Nat.le_of_ble_eq_true rfl⟩ ?_
        refine kq_cV (As := [.int (nI (288 + a))]) (rest := []) ⟨hx, hb, hml, hown, hts⟩ (c_X3_at l dC dI cI oS rv rs (nI kc) v (288 + a) (by first | assumption | omega)) (cwV 1 hts gX5_bestPhase_X3_at rfl rfl rfl (by decide +kernel) ⟨Nat.le_of_ble_eq_true rfl, Nat.le_of_ble_eq_true rfl⟩) (hP.sub [1, 2] rfl) hK (ci := 3) (q0 := 0) rfl rfl rfl rfl hl.1 rfl (Nat.le_of_ble_eq_true rfl) dX5_bestPhase_60 ⟨Nat.le_of_ble_eq_true rfl, Nat.le_of_ble_eq_true rfl⟩ ?_
        refine kq_top (z := nI (n_c v a)) (n_I_c hI ha) ?_
        refine lv_istore (lv' := [(5, .int (nI (n_c v a))), (4, .int (nI (n_p v a))), (3, .int (nI (291 + a))), (0, .ref oX), (1, .int (nI a)), (2, .int (nI f))]) hx hb dX5_bestPhase_63 hl (by decide) rfl (fun ls hl => ?_)
        refine lv_iconst (v := 0) hx hb dX5_bestPhase_65 (by decide) ?_
        refine lv_istore (lv' := [(6, .int 0), (5, .int (nI (n_c v a))), (4, .int (nI (n_p v a))), (3, .int (nI (291 + a))), (0, .ref oX), (1, .int (nI a)), (2, .int (nI f))]) hx hb dX5_bestPhase_66 hl (by decide) rfl (fun ls hl => ?_)
        refine lv_iconst (v := (-1)) hx hb dX5_bestPhase_68 (by decide) ?_
        refine lv_istore (lv' := [(7, .int (-1)), (6, .int 0), (5, .int (nI (n_c v a))), (4, .int (nI (n_p v a))), (3, .int (nI (291 + a))), (0, .ref oX), (1, .int (nI a)), (2, .int (nI f))]) hx hb dX5_bestPhase_69 hl (by decide) rfl (fun ls hl => ?_)
        refine lv_iconst (v := 0) hx hb dX5_bestPhase_71 (by decide) ?_
        refine lv_istore (lv' := [(8, .int 0), (7, .int (-1)), (6, .int 0), (5, .int (nI (n_c v a))), (4, .int (nI (n_p v a))), (3, .int (nI (291 + a))), (0, .ref oX), (1, .int (nI a)), (2, .int (nI f))]) hx hb dX5_bestPhase_72 hl (by decide) rfl (fun ls hl => ?_)
        refine kq_loopM7 (A1 := Nat) (A2 := Nat) (A3 := Int32) (A4 := Nat → Int32) (A5 := Nat → Int32) (A6 := Nat → Int32) (A7 := Nat → Int32) (fun (k : Nat) (b1 : Nat) (b2 : Int32) (g : Nat → Int32) (fp : Nat → Int32) (ft : Nat → Int32) (fl : Nat → Int32) => n_c v a - k) (fun (k : Nat) (b1 : Nat) (b2 : Int32) (g : Nat → Int32) (fp : Nat → Int32) (ft : Nat → Int32) (fl : Nat → Int32) => (k ≤ n_c v a) ∧ (b1 = n_bb (n_pz v a f) k) ∧ (b2 = n_bm (n_pz v a f) k) ∧ (∀ j, ¬ j = 291 + a → g j = v j)) (fun (k : Nat) (b1 : Nat) (b2 : Int32) (g : Nat → Int32) (fp : Nat → Int32) (ft : Nat → Int32) (fl : Nat → Int32) => [(0, .ref oX), (1, .int (nI a)), (2, .int (nI f)), (3, .int (nI (291 + a))), (4, .int (nI (n_p v a))), (5, .int (nI (n_c v a))), (6, .int (nI b1)), (7, .int b2), (8, .int (nI k))]) (fun (k : Nat) (b1 : Nat) (b2 : Int32) (g : Nat → Int32) (fp : Nat → Int32) (ft : Nat → Int32) (fl : Nat → Int32) => [(oX, .inr (5, [.ref oS, .ref oR, .ref oN, .ref o2, .ref oF, .ref oT])), (oS, .inr (3, [.ref rv, .ref rs, .int (nI kc)])), (rv, .inl (cI, 385, .inl g)), (oF, .inr (0, [.ref oS, .ref oN])), (oN, .inr (1, [.ref oS, .ref rp, .ref rt, .ref rl])), (rp, .inl (cI, 72, .inl fp)), (rt, .inl (cI, 72, .inl ft)), (rl, .inl (cI, 72, .inl fl))]) (nL := 10) hK ?_ 0 0 (-1) v fp ft fl ⟨(by omega), (by rfl), (by rfl), (by intro j _; rfl)⟩ hP hD hS _ (lv_sub hl [6, 7, 8, 5, 4, 3, 2, 1, 0] rfl)
        intro k b1 b2 g fp ft fl hi_8 ih_7 H locs hP hD hS ls hl
        obtain ⟨ik, i1, i2, ig⟩ := hi_8
        have hl : lv_has ls 10 [(0, .ref oX), (1, .int (nI a)), (2, .int (nI f)), (3, .int (nI (291 + a))), (4, .int (nI (n_p v a))), (5, .int (nI (n_c v a))), (6, .int (nI b1)), (7, .int b2), (8, .int (nI k))] := hl
        have hP : va_P (dC, dI) vwCl [(oX, .inr (5, [.ref oS, .ref oR, .ref oN, .ref o2, .ref oF, .ref oT])), (oS, .inr (3, [.ref rv, .ref rs, .int (nI kc)])), (rv, .inl (cI, 385, .inl g)), (oF, .inr (0, [.ref oS, .ref oN])), (oN, .inr (1, [.ref oS, .ref rp, .ref rt, .ref rl])), (rp, .inl (cI, 72, .inl fp)), (rt, .inl (cI, 72, .inl ft)), (rl, .inl (cI, 72, .inl fl))] H := hP
        have hD : va_D A [(oX, .inr (5, [.ref oS, .ref oR, .ref oN, .ref o2, .ref oF, .ref oT])), (oS, .inr (3, [.ref rv, .ref rs, .int (nI kc)])), (rv, .inl (cI, 385, .inl g)), (oF, .inr (0, [.ref oS, .ref oN])), (oN, .inr (1, [.ref oS, .ref rp, .ref rt, .ref rl])), (rp, .inl (cI, 72, .inl fp)), (rt, .inl (cI, 72, .inl ft)), (rl, .inl (cI, 72, .inl fl))] := hD
        refine lv_iload hx hb dX5_bestPhase_74 (lv_at hl 8 rfl) ?_
        refine lv_iload hx hb dX5_bestPhase_76 (lv_at hl 5 rfl) ?_
        refine lv_icmp_ge (tgt := 126) hx hb dX5_bestPhase_78 (by decide) (fun c_9 => ?_) (fun c_9 => ?_)
        · skip
          have c_9 := kq_leN (a := (n_c v a)) (b := k) c_9 (by omega) (by omega)
          refine lv_aload_n hx hb dX5_bestPhase_126 rfl (lv_at hl 0 rfl) ?_
          refine va_get (D := (dC, dI)) (ci := 5) (v := .ref oS) (C := RX5) (T := TX5) (N := 6) hx hb hts (by decide +kernel) hown hK.1 hP 0 rfl rfl 0 (by decide) (hts (.fieldLink RX5 12 "NoteWatermarks" "state" "LNoteWatermarks$State;") (by decide +kernel)) (fun _ h9 => h9) rfl dX5_bestPhase_127 ?_
          refine lv_iload_n hx hb dX5_bestPhase_130 rfl (lv_at hl 3 rfl) ?_
          refine lv_iload hx hb dX5_bestPhase_131 (lv_at hl 4 rfl) ?_
          refine kq_callMv (wr := [(oX, .inr (5, [.ref oS, .ref oR, .ref oN, .ref o2, .ref oF, .ref oT])), (oF, .inr (0, [.ref oS, .ref oN])), (oN, .inr (1, [.ref oS, .ref rp, .ref rt, .ref rl])), (rp, .inl (cI, 72, .inl fp)), (rt, .inl (cI, 72, .inl ft)), (rl, .inl (cI, 72, .inl fl))]) (va_runV (As := [.int (nI (291 + a)), .int (nI (n_p v a))]) (rest := []) ⟨hx, hb, hml, hown, hts⟩ (c_X3_put l dC dI cI H.size oS rv rs (nI kc) g (291 + a) (nI (n_p v a)) (by first | assumption | omega)) (cwV 2 hts gX5_bestPhase_X3_put rfl rfl rfl (by decide +kernel) ⟨Nat.le_of_ble_eq_true rfl, Nat.le_of_ble_eq_true rfl⟩) (kq_preV (ci := 3) (q0 := 0) (hP.sub [1, 2] rfl) (hD.sub [1, 2] (by decide) rfl) hK rfl rfl) rfl rfl hl.1 rfl (lv_room (Nat.le_of_ble_eq_true rfl)) dX5_bestPhase_133 ⟨Nat.le_of_ble_eq_true rfl, Nat.le_of_ble_eq_true rfl⟩) hP hD hS hA [1, 2] [0, 3, 4, 5, 6, 7] rfl rfl (by decide) (by decide) (fun u_11 H locs hw_12 hP hD hS => ?_)
          have hP : va_P (dC, dI) vwCl [(oX, .inr (5, [.ref oS, .ref oR, .ref oN, .ref o2, .ref oF, .ref oT])), (oF, .inr (0, [.ref oS, .ref oN])), (oN, .inr (1, [.ref oS, .ref rp, .ref rt, .ref rl])), (rp, .inl (cI, 72, .inl fp)), (rt, .inl (cI, 72, .inl ft)), (rl, .inl (cI, 72, .inl fl)), (oS, .inr (3, [.ref rv, .ref rs, .int (nI kc)])), (rv, .inl (cI, 385, .inl (upd g (291 + a) (nI (n_p v a)))))] H := hP
          have hD : va_D A [(oX, .inr (5, [.ref oS, .ref oR, .ref oN, .ref o2, .ref oF, .ref oT])), (oF, .inr (0, [.ref oS, .ref oN])), (oN, .inr (1, [.ref oS, .ref rp, .ref rt, .ref rl])), (rp, .inl (cI, 72, .inl fp)), (rt, .inl (cI, 72, .inl ft)), (rl, .inl (cI, 72, .inl fl)), (oS, .inr (3, [.ref rv, .ref rs, .int (nI kc)])), (rv, .inl (cI, 385, .inl (upd g (291 + a) (nI (n_p v a)))))] := hD
          have hgv : upd g (291 + a) (nI (n_p v a)) = v := by funext j; by_cases q : j = 291 + a; (rw [q, pk_us]; exact (n_I_p hI ha).symm); (rw [pk_un q]; exact ig j q)
          rw [hgv] at hP hD
          have hP : va_P (dC, dI) vwCl [(oX, .inr (5, [.ref oS, .ref oR, .ref oN, .ref o2, .ref oF, .ref oT])), (oF, .inr (0, [.ref oS, .ref oN])), (oN, .inr (1, [.ref oS, .ref rp, .ref rt, .ref rl])), (rp, .inl (cI, 72, .inl fp)), (rt, .inl (cI, 72, .inl ft)), (rl, .inl (cI, 72, .inl fl)), (oS, .inr (3, [.ref rv, .ref rs, .int (nI kc)])), (rv, .inl (cI, 385, .inl v))] H := hP
          have hD : va_D A [(oX, .inr (5, [.ref oS, .ref oR, .ref oN, .ref o2, .ref oF, .ref oT])), (oF, .inr (0, [.ref oS, .ref oN])), (oN, .inr (1, [.ref oS, .ref rp, .ref rt, .ref rl])), (rp, .inl (cI, 72, .inl fp)), (rt, .inl (cI, 72, .inl ft)), (rl, .inl (cI, 72, .inl fl)), (oS, .inr (3, [.ref rv, .ref rs, .int (nI kc)])), (rv, .inl (cI, 385, .inl v))] := hD
          refine lv_iload hx hb dX5_bestPhase_136 (lv_at hl 6 rfl) ?_
          exact kq_retMi (fp, ft, fl) hx hb hr hlocks (hP.sub [0, 6, 7, 1, 2, 3, 4, 5] rfl) (hD.sub [0, 6, 7, 1, 2, 3, 4, 5] (by decide) rfl) hS dX5_bestPhase_138 (by rw [n_bph, if_pos ht, i1, show k = n_c v a by omega])
        · skip
          have c_9 := kq_nleN (a := (n_c v a)) (b := k) c_9 (by omega) (by omega)
          refine lv_aload_n hx hb dX5_bestPhase_81 rfl (lv_at hl 0 rfl) ?_
          refine va_get (D := (dC, dI)) (ci := 5) (v := .ref oS) (C := RX5) (T := TX5) (N := 6) hx hb hts (by decide +kernel) hown hK.1 hP 0 rfl rfl 0 (by decide) (hts (.fieldLink RX5 12 "NoteWatermarks" "state" "LNoteWatermarks$State;") (by decide +kernel)) (fun _ h9 => h9) rfl dX5_bestPhase_82 ?_
          refine lv_iload_n hx hb dX5_bestPhase_85 rfl (lv_at hl 3 rfl) ?_
          refine lv_iload hx hb dX5_bestPhase_86 (lv_at hl 8 rfl) ?_
          refine kq_callMv (wr := [(oX, .inr (5, [.ref oS, .ref oR, .ref oN, .ref o2, .ref oF, .ref oT])), (oF, .inr (0, [.ref oS, .ref oN])), (oN, .inr (1, [.ref oS, .ref rp, .ref rt, .ref rl])), (rp, .inl (cI, 72, .inl fp)), (rt, .inl (cI, 72, .inl ft)), (rl, .inl (cI, 72, .inl fl))]) (va_runV (As := [.int (nI (291 + a)), .int (nI k)]) (rest := []) ⟨hx, hb, hml, hown, hts⟩ (c_X3_put l dC dI cI H.size oS rv rs (nI kc) g (291 + a) (nI k) (by first | assumption | omega)) (cwV 2 hts gX5_bestPhase_X3_put rfl rfl rfl (by decide +kernel) ⟨Nat.le_of_ble_eq_true rfl, Nat.le_of_ble_eq_true rfl⟩) (kq_preV (ci := 3) (q0 := 0) (hP.sub [1, 2] rfl) (hD.sub [1, 2] (by decide) rfl) hK rfl rfl) rfl rfl hl.1 rfl (lv_room (Nat.le_of_ble_eq_true rfl)) dX5_bestPhase_88 ⟨Nat.le_of_ble_eq_true rfl, Nat.le_of_ble_eq_true rfl⟩) hP hD hS hA [1, 2] [0, 3, 4, 5, 6, 7] rfl rfl (by decide) (by decide) (fun u_14 H locs hw_15 hP hD hS => ?_)
          have hP : va_P (dC, dI) vwCl [(oX, .inr (5, [.ref oS, .ref oR, .ref oN, .ref o2, .ref oF, .ref oT])), (oF, .inr (0, [.ref oS, .ref oN])), (oN, .inr (1, [.ref oS, .ref rp, .ref rt, .ref rl])), (rp, .inl (cI, 72, .inl fp)), (rt, .inl (cI, 72, .inl ft)), (rl, .inl (cI, 72, .inl fl)), (oS, .inr (3, [.ref rv, .ref rs, .int (nI kc)])), (rv, .inl (cI, 385, .inl (upd g (291 + a) (nI k))))] H := hP
          have hD : va_D A [(oX, .inr (5, [.ref oS, .ref oR, .ref oN, .ref o2, .ref oF, .ref oT])), (oF, .inr (0, [.ref oS, .ref oN])), (oN, .inr (1, [.ref oS, .ref rp, .ref rt, .ref rl])), (rp, .inl (cI, 72, .inl fp)), (rt, .inl (cI, 72, .inl ft)), (rl, .inl (cI, 72, .inl fl)), (oS, .inr (3, [.ref rv, .ref rs, .int (nI kc)])), (rv, .inl (cI, 385, .inl (upd g (291 + a) (nI k))))] := hD
          have hgv : upd g (291 + a) (nI k) = upd v (291 + a) (nI k) := by funext j; by_cases q : j = 291 + a; (rw [q, pk_us, pk_us]); (rw [pk_un q, pk_un q]; exact ig j q)
          rw [hgv] at hP hD
          have hP : va_P (dC, dI) vwCl [(oX, .inr (5, [.ref oS, .ref oR, .ref oN, .ref o2, .ref oF, .ref oT])), (oF, .inr (0, [.ref oS, .ref oN])), (oN, .inr (1, [.ref oS, .ref rp, .ref rt, .ref rl])), (rp, .inl (cI, 72, .inl fp)), (rt, .inl (cI, 72, .inl ft)), (rl, .inl (cI, 72, .inl fl)), (oS, .inr (3, [.ref rv, .ref rs, .int (nI kc)])), (rv, .inl (cI, 385, .inl (upd v (291 + a) (nI k))))] H := hP
          have hD : va_D A [(oX, .inr (5, [.ref oS, .ref oR, .ref oN, .ref o2, .ref oF, .ref oT])), (oF, .inr (0, [.ref oS, .ref oN])), (oN, .inr (1, [.ref oS, .ref rp, .ref rt, .ref rl])), (rp, .inl (cI, 72, .inl fp)), (rt, .inl (cI, 72, .inl ft)), (rl, .inl (cI, 72, .inl fl)), (oS, .inr (3, [.ref rv, .ref rs, .int (nI kc)])), (rv, .inl (cI, 385, .inl (upd v (291 + a) (nI k))))] := hD
          refine lv_aload_n hx hb dX5_bestPhase_91 rfl (lv_at hl 0 rfl) ?_
          refine va_get (D := (dC, dI)) (ci := 5) (v := .ref oF) (C := RX5) (T := TX5) (N := 6) hx hb hts (by decide +kernel) hown hK.1 hP 0 rfl rfl 4 (by decide) (hts (.fieldLink RX5 40 "NoteWatermarks" "figures" "LNoteWatermarks$Figures;") (by decide +kernel)) (fun _ h9 => h9) rfl dX5_bestPhase_92 ?_
          refine lv_iload_n hx hb dX5_bestPhase_95 rfl (lv_at hl 2 rfl) ?_
          refine lv_iconst (v := 0) hx hb dX5_bestPhase_96 (by decide) ?_
          refine kq_callMi (wr := [(oX, .inr (5, [.ref oS, .ref oR, .ref oN, .ref o2, .ref oF, .ref oT]))]) (va_runV (As := [.int (nI f), .int 0]) (rest := []) ⟨hx, hb, hml, hown, hts⟩ (c_X0_contrastOn l dC dI cI H.size oF oN oS rv rs rp rt rl (nI kc) (upd v (291 + a) (nI k)) fp ft fl f 0 (n_I_phase hI ha (by omega)) (by first | assumption | omega) (by rw [n_f_phase ha]; exact ht) (by first | assumption | omega)) (cwV 2 hts gX5_bestPhase_X0_contrastOn rfl rfl rfl (by decide +kernel) ⟨Nat.le_of_ble_eq_true rfl, Nat.le_of_ble_eq_true rfl⟩) (kq_preV (ci := 0) (q0 := 0) (hP.sub [1, 2, 6, 7, 3, 4, 5] rfl) (hD.sub [1, 2, 6, 7, 3, 4, 5] (by decide) rfl) hK rfl rfl) rfl rfl hl.1 rfl (lv_room (Nat.le_of_ble_eq_true rfl)) dX5_bestPhase_97 ⟨Nat.le_of_ble_eq_true rfl, Nat.le_of_ble_eq_true rfl⟩) hP hD hS hA [1, 2, 6, 7, 3, 4, 5] [0] rfl rfl (by decide) (by decide) (fun r_16 u_17 H locs hw_18 hP hD hS => ?_)
          obtain ⟨gp_19, gt_20, gl_21⟩ := u_17
          have hP : va_P (dC, dI) vwCl [(oX, .inr (5, [.ref oS, .ref oR, .ref oN, .ref o2, .ref oF, .ref oT])), (oF, .inr (0, [.ref oS, .ref oN])), (oN, .inr (1, [.ref oS, .ref rp, .ref rt, .ref rl])), (oS, .inr (3, [.ref rv, .ref rs, .int (nI kc)])), (rv, .inl (cI, 385, .inl (upd v (291 + a) (nI k)))), (rp, .inl (cI, 72, .inl gp_19)), (rt, .inl (cI, 72, .inl gt_20)), (rl, .inl (cI, 72, .inl gl_21))] H := hP
          have hD : va_D A [(oX, .inr (5, [.ref oS, .ref oR, .ref oN, .ref o2, .ref oF, .ref oT])), (oF, .inr (0, [.ref oS, .ref oN])), (oN, .inr (1, [.ref oS, .ref rp, .ref rt, .ref rl])), (oS, .inr (3, [.ref rv, .ref rs, .int (nI kc)])), (rv, .inl (cI, 385, .inl (upd v (291 + a) (nI k)))), (rp, .inl (cI, 72, .inl gp_19)), (rt, .inl (cI, 72, .inl gt_20)), (rl, .inl (cI, 72, .inl gl_21))] := hD
          obtain rfl := hw_18
          refine va_mabs hx hb (hml.trans hl.1.symm) hown (hts (.methodLink RX5 213 Lib.Math.abs.name) (by decide +kernel)) (hts (.static Lib.Math.abs.name) (by decide +kernel)) (hts (.initialized "java/lang/Math") (by decide +kernel)) (hts (.code Lib.Math.abs.name Lib.Math.abs.code 1 (some .int)) (by decide +kernel)) (Nat.le_of_ble_eq_true rfl) (Nat.le_of_ble_eq_true rfl) (Nat.le_of_ble_eq_true rfl) (Nat.le_of_ble_eq_true rfl) dX5_bestPhase_100 ?_
          refine kq_top (z := n_pz v a f k) (rfl) ?_
          refine lv_istore (lv' := [(9, .int (n_pz v a f k)), (0, .ref oX), (1, .int (nI a)), (2, .int (nI f)), (3, .int (nI (291 + a))), (4, .int (nI (n_p v a))), (5, .int (nI (n_c v a))), (6, .int (nI b1)), (7, .int b2), (8, .int (nI k))]) hx hb dX5_bestPhase_103 hl (by decide) rfl (fun ls hl => ?_)
          refine lv_iload hx hb dX5_bestPhase_105 (lv_at hl 0 rfl) ?_
          refine lv_iload hx hb dX5_bestPhase_107 (lv_at hl 8 rfl) ?_
          refine lv_icmp_le (tgt := 120) hx hb dX5_bestPhase_109 (by decide) (fun c_22 => ?_) (fun c_22 => ?_)
          · skip
            have hle := c_22
            refine lv_iinc (v := nI (k + 1)) (lv' := [(8, .int (nI (k + 1))), (9, .int (n_pz v a f k)), (0, .ref oX), (1, .int (nI a)), (2, .int (nI f)), (3, .int (nI (291 + a))), (4, .int (nI (n_p v a))), (5, .int (nI (n_c v a))), (6, .int (nI b1)), (7, .int b2)]) hx hb dX5_bestPhase_120 hl (k := 9) rfl (nI_1 k) (by decide) rfl (fun ls hl => ?_)
            refine lv_goto (tgt := 74) hx hb dX5_bestPhase_123 (by decide) ?_
            exact ih_7 (k + 1) b1 b2 (upd v (291 + a) (nI k)) gp_19 gt_20 gl_21 ⟨(by omega), (by rw [n_bb, ← i2]; first | rw [if_pos hgt] | (rw [if_neg (Int32.not_lt.mpr hle)]; exact i1)), (by rw [n_bm, ← i2]; first | rw [if_pos hgt] | rw [if_neg (Int32.not_lt.mpr hle)]), (by intro j hj; exact pk_un hj)⟩ (by show n_c v a - (k + 1) < n_c v a - k; omega) _ _ (hP.sub [0, 3, 4, 1, 2, 5, 6, 7] rfl) (hD.sub [0, 3, 4, 1, 2, 5, 6, 7] (by decide) rfl) hS _ (lv_sub hl [2, 3, 4, 5, 6, 7, 8, 9, 0] rfl)
          · skip
            have hgt := Int32.not_le.mp c_22
            refine lv_iload hx hb dX5_bestPhase_112 (lv_at hl 9 rfl) ?_
            refine lv_istore (lv' := [(6, .int (nI k)), (9, .int (n_pz v a f k)), (0, .ref oX), (1, .int (nI a)), (2, .int (nI f)), (3, .int (nI (291 + a))), (4, .int (nI (n_p v a))), (5, .int (nI (n_c v a))), (7, .int b2), (8, .int (nI k))]) hx hb dX5_bestPhase_114 hl (by decide) rfl (fun ls hl => ?_)
            refine lv_iload hx hb dX5_bestPhase_116 (lv_at hl 1 rfl) ?_
            refine lv_istore (lv' := [(7, .int (n_pz v a f k)), (6, .int (nI k)), (9, .int (n_pz v a f k)), (0, .ref oX), (1, .int (nI a)), (2, .int (nI f)), (3, .int (nI (291 + a))), (4, .int (nI (n_p v a))), (5, .int (nI (n_c v a))), (8, .int (nI k))]) hx hb dX5_bestPhase_118 hl (by decide) rfl (fun ls hl => ?_)
            refine lv_iinc (v := nI (k + 1)) (lv' := [(8, .int (nI (k + 1))), (7, .int (n_pz v a f k)), (6, .int (nI k)), (9, .int (n_pz v a f k)), (0, .ref oX), (1, .int (nI a)), (2, .int (nI f)), (3, .int (nI (291 + a))), (4, .int (nI (n_p v a))), (5, .int (nI (n_c v a)))]) hx hb dX5_bestPhase_120 hl (k := 9) rfl (nI_1 k) (by decide) rfl (fun ls hl => ?_)
            refine lv_goto (tgt := 74) hx hb dX5_bestPhase_123 (by decide) ?_
            exact ih_7 (k + 1) k (n_pz v a f k) (upd v (291 + a) (nI k)) gp_19 gt_20 gl_21 ⟨(by omega), (by rw [n_bb, ← i2]; first | rw [if_pos hgt] | (rw [if_neg (Int32.not_lt.mpr hle)]; exact i1)), (by rw [n_bm, ← i2]; first | rw [if_pos hgt] | rw [if_neg (Int32.not_lt.mpr hle)]), (by intro j hj; exact pk_un hj)⟩ (by show n_c v a - (k + 1) < n_c v a - k; omega) _ _ (hP.sub [0, 3, 4, 1, 2, 5, 6, 7] rfl) (hD.sub [0, 3, 4, 1, 2, 5, 6, 7] (by decide) rfl) hS _ (lv_sub hl [4, 5, 6, 7, 8, 9, 2, 1, 0] rfl)
      · skip
        have c_6 := kq_bf c_6
        refine lv_iconst (v := (-1)) hx hb dX5_bestPhase_35 (by decide) ?_
        exact kq_retMi (fp, ft, fl) hx hb hr hlocks hP hD hS dX5_bestPhase_36 (by rw [n_bph, if_neg (by assumption)])
set_option maxHeartbeats 4000000 in
set_option maxRecDepth 100000 in
theorem c_X5_bestPitch (l : Launch) (dC : Nat → ClassId) (dI : Nat → Nat → Nat) (cI : ClassId) (oX : Nat) (oS : Nat) (oR : Nat) (oN : Nat) (o2 : Nat) (oF : Nat) (oT : Nat) (rv : Nat) (rs : Nat) (kc : Nat) (v : Nat → Int32) (hI : n_I v) : Met l yX5_bestPitch wsX5_bestPitch ({ frames := 4, cells := 0, slots := 0, locals := 89 }) (kq_R dC dI cI [.ref oX] [(oX, .inr (5, [.ref oS, .ref oR, .ref oN, .ref o2, .ref oF, .ref oT])), (oS, .inr (3, [.ref rv, .ref rs, .int (nI kc)])), (rv, .inl (cI, 385, .inl v)), (oR, .inr (2, [.ref oS]))]) (QcRead (nI (n_pit v 18))) 0 0 (fun _ => False) := by
  refine kq_start (cc := cX5_bestPitch) (maxL := 5) (ret := (some .int)) (plainFor_of_name (by decide)) rfl (Nat.le_of_ble_eq_true rfl) ?_
  intro p e s m below meth c hx hb hr hml hown hlocks hts hP hK ls hl
  have hown : s.vm.findClass RX5 = some m.cls := hown
  have hl : lv_has ls 5 [(0, .ref oX)] := hl
  refine lv_bipush (v := 12) hx hb dX5_bestPitch_0 (by decide) ?_
  refine lv_istore_n (lv' := [(1, .int 12), (0, .ref oX)]) hx hb dX5_bestPitch_2 rfl hl (by decide) rfl (fun ls hl => ?_)
  refine lv_aload_n hx hb dX5_bestPitch_3 rfl (lv_at hl 1 rfl) ?_
  refine va_get (D := (dC, dI)) (ci := 5) (v := .ref oR) (C := RX5) (T := TX5) (N := 6) hx hb hts (by decide +kernel) hown hK.1 hP 0 rfl rfl 1 (by decide) (hts (.fieldLink RX5 21 "NoteWatermarks" "rolls" "LNoteWatermarks$Rolls;") (by decide +kernel)) (fun _ h9 => h9) rfl dX5_bestPitch_4 ?_
  refine lv_bipush (v := 12) hx hb dX5_bestPitch_7 (by decide) ?_
  refine kq_cV (As := [.int 12]) (rest := []) ⟨hx, hb, hml, hown, hts⟩ (c_X2_notesAllAround l dC dI cI oR oS rv rs (nI kc) v 12 (by first | assumption | omega) (by first | assumption | omega)) (cwV 1 hts gX5_bestPitch_X2_notesAllAround rfl rfl rfl (by decide +kernel) ⟨Nat.le_of_ble_eq_true rfl, Nat.le_of_ble_eq_true rfl⟩) (hP.sub [3, 1, 2] rfl) hK (ci := 2) (q0 := 0) rfl rfl rfl rfl hl.1 rfl (Nat.le_of_ble_eq_true rfl) dX5_bestPitch_9 ⟨Nat.le_of_ble_eq_true rfl, Nat.le_of_ble_eq_true rfl⟩ ?_
  refine lv_istore_n (lv' := [(2, .int (nI (n_all v 12 3))), (1, .int 12), (0, .ref oX)]) hx hb dX5_bestPitch_12 rfl hl (by decide) rfl (fun ls hl => ?_)
  refine lv_bipush (v := 13) hx hb dX5_bestPitch_13 (by decide) ?_
  refine lv_istore_n (lv' := [(3, .int 13), (2, .int (nI (n_all v 12 3))), (1, .int 12), (0, .ref oX)]) hx hb dX5_bestPitch_15 rfl hl (by decide) rfl (fun ls hl => ?_)
  refine kq_loop3 (A1 := Nat) (A2 := Nat) (A3 := Nat) (fun (k : Nat) (b1 : Nat) (b2 : Nat) => 18 - k) (fun (k : Nat) (b1 : Nat) (b2 : Nat) => (k ≤ 18) ∧ (b1 = n_pit v k) ∧ (b2 = n_all v b1 3)) (fun (k : Nat) (b1 : Nat) (b2 : Nat) => [(0, .ref oX), (1, .int (nI b1)), (2, .int (nI b2)), (3, .int (nI (13 + k)))]) (nL := 5) ?_ 0 12 (n_all v 12 3) ⟨(by omega), (by rfl), (by rfl)⟩ _ (lv_sub hl [3, 2, 1, 0] rfl)
  intro k b1 b2 hi_2 ih_1 ls hl
  obtain ⟨ik, i1, i2⟩ := hi_2
  have hl : lv_has ls 5 [(0, .ref oX), (1, .int (nI b1)), (2, .int (nI b2)), (3, .int (nI (13 + k)))] := hl
  refine lv_iload_n hx hb dX5_bestPitch_16 rfl (lv_at hl 3 rfl) ?_
  refine lv_bipush (v := 30) hx hb dX5_bestPitch_17 (by decide) ?_
  refine lv_icmp_gt (tgt := 49) hx hb dX5_bestPitch_19 (by decide) (fun c_3 => ?_) (fun c_3 => ?_)
  · skip
    have c_3 := kq_ltN (a := 30) (b := (13 + k)) c_3 (by omega) (by omega)
    refine lv_iload_n hx hb dX5_bestPitch_49 rfl (lv_at hl 1 rfl) ?_
    exact kq_ret hx hb hr hlocks dX5_bestPitch_50 (by rw [i1, show k = 18 by omega])
  · skip
    have c_3 := kq_nltN (a := 30) (b := (13 + k)) c_3 (by omega) (by omega)
    refine lv_aload_n hx hb dX5_bestPitch_22 rfl (lv_at hl 0 rfl) ?_
    refine va_get (D := (dC, dI)) (ci := 5) (v := .ref oR) (C := RX5) (T := TX5) (N := 6) hx hb hts (by decide +kernel) hown hK.1 hP 0 rfl rfl 1 (by decide) (hts (.fieldLink RX5 21 "NoteWatermarks" "rolls" "LNoteWatermarks$Rolls;") (by decide +kernel)) (fun _ h9 => h9) rfl dX5_bestPitch_23 ?_
    have ha1 := (n_all_pos hI (q := 13 + k) 3 (Nat.le_refl _)).2
    have ha2 := (n_all_pos hI (q := b1) 3 (Nat.le_refl _)).2
    rw [← i2] at ha2
    refine lv_iload_n hx hb dX5_bestPitch_26 rfl (lv_at hl 3 rfl) ?_
    refine kq_cV (As := [.int (nI (13 + k))]) (rest := []) ⟨hx, hb, hml, hown, hts⟩ (c_X2_notesAllAround l dC dI cI oR oS rv rs (nI kc) v (13 + k) (by first | assumption | omega) (by first | assumption | omega)) (cwV 1 hts gX5_bestPitch_X2_notesAllAround rfl rfl rfl (by decide +kernel) ⟨Nat.le_of_ble_eq_true rfl, Nat.le_of_ble_eq_true rfl⟩) (hP.sub [3, 1, 2] rfl) hK (ci := 2) (q0 := 0) rfl rfl rfl rfl hl.1 rfl (Nat.le_of_ble_eq_true rfl) dX5_bestPitch_27 ⟨Nat.le_of_ble_eq_true rfl, Nat.le_of_ble_eq_true rfl⟩ ?_
    refine lv_istore (lv' := [(4, .int (nI (n_all v (13 + k) 3))), (0, .ref oX), (1, .int (nI b1)), (2, .int (nI b2)), (3, .int (nI (13 + k)))]) hx hb dX5_bestPitch_30 hl (by decide) rfl (fun ls hl => ?_)
    refine lv_iload hx hb dX5_bestPitch_32 (lv_at hl 0 rfl) ?_
    refine lv_iload_n hx hb dX5_bestPitch_34 rfl (lv_at hl 3 rfl) ?_
    refine lv_icmp_ge (tgt := 43) hx hb dX5_bestPitch_35 (by decide) (fun c_4 => ?_) (fun c_4 => ?_)
    · skip
      have c_4 := kq_leN (a := b2) (b := (n_all v (13 + k) 3)) c_4 (by omega) (by omega)
      refine lv_iinc (v := nI ((13 + k) + 1)) (lv' := [(3, .int (nI ((13 + k) + 1))), (4, .int (nI (n_all v (13 + k) 3))), (0, .ref oX), (1, .int (nI b1)), (2, .int (nI b2))]) hx hb dX5_bestPitch_43 hl (k := 4) rfl (nI_1 (13 + k)) (by decide) rfl (fun ls hl => ?_)
      refine lv_goto (tgt := 16) hx hb dX5_bestPitch_46 (by decide) ?_
      exact ih_1 (k + 1) b1 b2 ⟨(by omega), (by rw [n_pit, ← i1, ← i2]; first | rw [if_pos (by assumption)] | rw [if_neg (Nat.not_lt.mpr (by assumption))]), (by first | rfl | exact i2)⟩ (by show 18 - (k + 1) < 18 - k; omega) _ (lv_sub hl [2, 3, 4, 0] rfl)
    · skip
      have c_4 := kq_nleN (a := b2) (b := (n_all v (13 + k) 3)) c_4 (by omega) (by omega)
      refine lv_iload_n hx hb dX5_bestPitch_38 rfl (lv_at hl 4 rfl) ?_
      refine lv_istore_n (lv' := [(1, .int (nI (13 + k))), (4, .int (nI (n_all v (13 + k) 3))), (0, .ref oX), (2, .int (nI b2)), (3, .int (nI (13 + k)))]) hx hb dX5_bestPitch_39 rfl hl (by decide) rfl (fun ls hl => ?_)
      refine lv_iload hx hb dX5_bestPitch_40 (lv_at hl 1 rfl) ?_
      refine lv_istore_n (lv' := [(2, .int (nI (n_all v (13 + k) 3))), (1, .int (nI (13 + k))), (4, .int (nI (n_all v (13 + k) 3))), (0, .ref oX), (3, .int (nI (13 + k)))]) hx hb dX5_bestPitch_42 rfl hl (by decide) rfl (fun ls hl => ?_)
      refine lv_iinc (v := nI ((13 + k) + 1)) (lv' := [(3, .int (nI ((13 + k) + 1))), (2, .int (nI (n_all v (13 + k) 3))), (1, .int (nI (13 + k))), (4, .int (nI (n_all v (13 + k) 3))), (0, .ref oX)]) hx hb dX5_bestPitch_43 hl (k := 4) rfl (nI_1 (13 + k)) (by decide) rfl (fun ls hl => ?_)
      refine lv_goto (tgt := 16) hx hb dX5_bestPitch_46 (by decide) ?_
      exact ih_1 (k + 1) (13 + k) (n_all v (13 + k) 3) ⟨(by omega), (by rw [n_pit, ← i1, ← i2]; first | rw [if_pos (by assumption)] | rw [if_neg (Nat.not_lt.mpr (by assumption))]), (by first | rfl | exact i2)⟩ (by show 18 - (k + 1) < 18 - k; omega) _ (lv_sub hl [4, 2, 1, 0] rfl)
set_option maxHeartbeats 4000000 in
set_option maxRecDepth 100000 in
theorem c_X5_standsOut (l : Launch) (dC : Nat → ClassId) (dI : Nat → Nat → Nat) (cI : ClassId) (sz : Nat) (oX : Nat) (oS : Nat) (oR : Nat) (oN : Nat) (o2 : Nat) (oF : Nat) (oT : Nat) (rv : Nat) (rs : Nat) (kc : Nat) (rp : Nat) (rt : Nat) (rl : Nat) (v : Nat → Int32) (fp : Nat → Int32) (ft : Nat → Int32) (fl : Nat → Int32) (h : Nat) (w : Nat) (q : Nat) (hI : n_I v) (hh : 1 ≤ h ∧ h ≤ 6) (hw9 : 1 ≤ w ∧ w ≤ 12) (hq : q < 3) : Met l yX5_standsOut wsX5_standsOut ({ frames := 3, cells := 0, slots := 0, locals := 76 }) (kq_M dC dI cI [.ref oX, .int (nI h), .int (nI w), .int (nI q)] sz [(oX, .inr (5, [.ref oS, .ref oR, .ref oN, .ref o2, .ref oF, .ref oT])), (oS, .inr (3, [.ref rv, .ref rs, .int (nI kc)])), (rv, .inl (cI, 385, .inl v)), (oN, .inr (1, [.ref oS, .ref rp, .ref rt, .ref rl])), (rp, .inl (cI, 72, .inl fp)), (rt, .inl (cI, 72, .inl ft)), (rl, .inl (cI, 72, .inl fl))]) (va_Qi (fun (r : Int32) (u : (Nat → Int32) × (Nat → Int32) × (Nat → Int32)) => r = n_so v h w q) (kq_B dC dI (va_A [(oX, .inr (5, [.ref oS, .ref oR, .ref oN, .ref o2, .ref oF, .ref oT])), (oS, .inr (3, [.ref rv, .ref rs, .int (nI kc)])), (rv, .inl (cI, 385, .inl v)), (oN, .inr (1, [.ref oS, .ref rp, .ref rt, .ref rl])), (rp, .inl (cI, 72, .inl fp)), (rt, .inl (cI, 72, .inl ft)), (rl, .inl (cI, 72, .inl fl))] sz) (fun u : (Nat → Int32) × (Nat → Int32) × (Nat → Int32) => [(oX, .inr (5, [.ref oS, .ref oR, .ref oN, .ref o2, .ref oF, .ref oT])), (oS, .inr (3, [.ref rv, .ref rs, .int (nI kc)])), (rv, .inl (cI, 385, .inl v)), (oN, .inr (1, [.ref oS, .ref rp, .ref rt, .ref rl])), (rp, .inl (cI, 72, .inl u.1)), (rt, .inl (cI, 72, .inl u.2.1)), (rl, .inl (cI, 72, .inl u.2.2))])) (va_A [(oX, .inr (5, [.ref oS, .ref oR, .ref oN, .ref o2, .ref oF, .ref oT])), (oS, .inr (3, [.ref rv, .ref rs, .int (nI kc)])), (rv, .inl (cI, 385, .inl v)), (oN, .inr (1, [.ref oS, .ref rp, .ref rt, .ref rl])), (rp, .inl (cI, 72, .inl fp)), (rt, .inl (cI, 72, .inl ft)), (rl, .inl (cI, 72, .inl fl))] sz)) 0 0 (va_A [(oX, .inr (5, [.ref oS, .ref oR, .ref oN, .ref o2, .ref oF, .ref oT])), (oS, .inr (3, [.ref rv, .ref rs, .int (nI kc)])), (rv, .inl (cI, 385, .inl v)), (oN, .inr (1, [.ref oS, .ref rp, .ref rt, .ref rl])), (rp, .inl (cI, 72, .inl fp)), (rt, .inl (cI, 72, .inl ft)), (rl, .inl (cI, 72, .inl fl))] sz) := by
  refine kq_startM (cc := cX5_standsOut) (maxL := 10) (ret := (some .int)) (by decide) rfl (Nat.le_of_ble_eq_true rfl) ?_
  intro p e s m below meth c hx hb hr hml hown hlocks hts hsz hA hP hD hS hK hnm ls hl
  subst hsz
  generalize hAe : va_A [(oX, .inr (5, [.ref oS, .ref oR, .ref oN, .ref o2, .ref oF, .ref oT])), (oS, .inr (3, [.ref rv, .ref rs, .int (nI kc)])), (rv, .inl (cI, 385, .inl v)), (oN, .inr (1, [.ref oS, .ref rp, .ref rt, .ref rl])), (rp, .inl (cI, 72, .inl fp)), (rt, .inl (cI, 72, .inl ft)), (rl, .inl (cI, 72, .inl fl))] s.heap.size = A at hA hD hS ⊢
  have hown : s.vm.findClass RX5 = some m.cls := hown
  have hl : lv_has ls 10 [(0, .ref oX), (1, .int (nI h)), (2, .int (nI w)), (3, .int (nI q))] := hl
  refine lv_iload_n hx hb dX5_standsOut_0 rfl (lv_at hl 1 rfl) ?_
  refine lv_iconst (v := 1) hx hb dX5_standsOut_1 (by decide) ?_
  refine lv_bipush (v := 6) hx hb dX5_standsOut_2 (by decide) ?_
  refine kq_cS (As := [.int (nI h), .int 1, .int 6]) (rest := []) ⟨hx, hb, hml, hown, hts⟩ (c_X5_isBetween_n l dC dI cI h 1 6 (by first | assumption | omega) (by first | assumption | omega) (by first | assumption | omega)) (va_cwS 3 hts gX5_standsOut_X5_isBetween rfl rfl rfl (by decide +kernel) ⟨Nat.le_of_ble_eq_true rfl, Nat.le_of_ble_eq_true rfl⟩) (hP.sub [] rfl) hK rfl hl.1 rfl (Nat.le_of_ble_eq_true rfl) dX5_standsOut_4 ⟨Nat.le_of_ble_eq_true rfl, Nat.le_of_ble_eq_true rfl⟩ ?_
  refine lv_if_eq (tgt := 33) hx hb dX5_standsOut_7 (by decide) (fun c_1 => ?_) (fun c_1 => ?_)
  · skip
    have c_1 := kq_bf c_1
    exact absurd hh c_1
  · skip
    have c_1 := kq_bt c_1
    refine lv_iload_n hx hb dX5_standsOut_10 rfl (lv_at hl 2 rfl) ?_
    refine lv_iconst (v := 1) hx hb dX5_standsOut_11 (by decide) ?_
    refine lv_bipush (v := 12) hx hb dX5_standsOut_12 (by decide) ?_
    refine kq_cS (As := [.int (nI w), .int 1, .int 12]) (rest := []) ⟨hx, hb, hml, hown, hts⟩ (c_X5_isBetween_n l dC dI cI w 1 12 (by first | assumption | omega) (by first | assumption | omega) (by first | assumption | omega)) (va_cwS 3 hts gX5_standsOut_X5_isBetween rfl rfl rfl (by decide +kernel) ⟨Nat.le_of_ble_eq_true rfl, Nat.le_of_ble_eq_true rfl⟩) (hP.sub [] rfl) hK rfl hl.1 rfl (Nat.le_of_ble_eq_true rfl) dX5_standsOut_14 ⟨Nat.le_of_ble_eq_true rfl, Nat.le_of_ble_eq_true rfl⟩ ?_
    refine lv_if_eq (tgt := 33) hx hb dX5_standsOut_17 (by decide) (fun c_2 => ?_) (fun c_2 => ?_)
    · skip
      have c_2 := kq_bf c_2
      exact absurd hw9 c_2
    · skip
      have c_2 := kq_bt c_2
      refine lv_iload_n hx hb dX5_standsOut_20 rfl (lv_at hl 3 rfl) ?_
      refine lv_iconst (v := 0) hx hb dX5_standsOut_21 (by decide) ?_
      refine lv_iconst (v := 2) hx hb dX5_standsOut_22 (by decide) ?_
      refine kq_cS (As := [.int (nI q), .int 0, .int 2]) (rest := []) ⟨hx, hb, hml, hown, hts⟩ (c_X5_isBetween_n l dC dI cI q 0 2 (by first | assumption | omega) (by first | assumption | omega) (by first | assumption | omega)) (va_cwS 3 hts gX5_standsOut_X5_isBetween rfl rfl rfl (by decide +kernel) ⟨Nat.le_of_ble_eq_true rfl, Nat.le_of_ble_eq_true rfl⟩) (hP.sub [] rfl) hK rfl hl.1 rfl (Nat.le_of_ble_eq_true rfl) dX5_standsOut_23 ⟨Nat.le_of_ble_eq_true rfl, Nat.le_of_ble_eq_true rfl⟩ ?_
      refine lv_if_eq (tgt := 33) hx hb dX5_standsOut_26 (by decide) (fun c_3 => ?_) (fun c_3 => ?_)
      · skip
        have c_3 := kq_bf c_3
        exact absurd (show 0 ≤ q ∧ q ≤ 2 by omega) c_3
      · skip
        have c_3 := kq_bt c_3
        refine lv_iconst (v := 1) hx hb dX5_standsOut_29 (by decide) ?_
        refine lv_goto (tgt := 34) hx hb dX5_standsOut_30 (by decide) ?_
        refine kq_callMv (wr := [(oX, .inr (5, [.ref oS, .ref oR, .ref oN, .ref o2, .ref oF, .ref oT])), (oS, .inr (3, [.ref rv, .ref rs, .int (nI kc)])), (rv, .inl (cI, 385, .inl v)), (oN, .inr (1, [.ref oS, .ref rp, .ref rt, .ref rl])), (rp, .inl (cI, 72, .inl fp)), (rt, .inl (cI, 72, .inl ft)), (rl, .inl (cI, 72, .inl fl))]) (va_runS (As := [.int 1]) (rest := []) ⟨hx, hb, hml, hown, hts⟩ (c_X5_needArgument l dC dI cI s.heap.size  ) (va_cwS 1 hts gX5_standsOut_X5_needArgument rfl rfl rfl (by decide +kernel) ⟨Nat.le_of_ble_eq_true rfl, Nat.le_of_ble_eq_true rfl⟩) (kq_preS (hP.sub [] rfl) (hD.sub [] (by decide) rfl) hK) rfl rfl hl.1 rfl (lv_room (Nat.le_of_ble_eq_true rfl)) dX5_standsOut_34 ⟨Nat.le_of_ble_eq_true rfl, Nat.le_of_ble_eq_true rfl⟩) hP hD hS hA [] [0, 1, 2, 3, 4, 5, 6] rfl rfl (by decide) (by decide) (fun u_5 H locs hw_6 hP hD hS => ?_)
        have hP : va_P (dC, dI) vwCl [(oX, .inr (5, [.ref oS, .ref oR, .ref oN, .ref o2, .ref oF, .ref oT])), (oS, .inr (3, [.ref rv, .ref rs, .int (nI kc)])), (rv, .inl (cI, 385, .inl v)), (oN, .inr (1, [.ref oS, .ref rp, .ref rt, .ref rl])), (rp, .inl (cI, 72, .inl fp)), (rt, .inl (cI, 72, .inl ft)), (rl, .inl (cI, 72, .inl fl))] H := hP
        have hD : va_D A [(oX, .inr (5, [.ref oS, .ref oR, .ref oN, .ref o2, .ref oF, .ref oT])), (oS, .inr (3, [.ref rv, .ref rs, .int (nI kc)])), (rv, .inl (cI, 385, .inl v)), (oN, .inr (1, [.ref oS, .ref rp, .ref rt, .ref rl])), (rp, .inl (cI, 72, .inl fp)), (rt, .inl (cI, 72, .inl ft)), (rl, .inl (cI, 72, .inl fl))] := hD
        refine lv_aload_n hx hb dX5_standsOut_37 rfl (lv_at hl 0 rfl) ?_
        refine va_get (D := (dC, dI)) (ci := 5) (v := .ref oN) (C := RX5) (T := TX5) (N := 6) hx hb hts (by decide +kernel) hown hK.1 hP 0 rfl rfl 2 (by decide) (hts (.fieldLink RX5 28 "NoteWatermarks" "view" "LNoteWatermarks$Note;") (by decide +kernel)) (fun _ h9 => h9) rfl dX5_standsOut_38 ?_
        refine lv_iconst (v := 0) hx hb dX5_standsOut_41 (by decide) ?_
        refine kq_callMv (wr := [(oX, .inr (5, [.ref oS, .ref oR, .ref oN, .ref o2, .ref oF, .ref oT]))]) (va_runV (As := [.int 0]) (rest := []) ⟨hx, hb, hml, hown, hts⟩ (c_X1_look l dC dI cI H.size oN oS rv rs rp rt rl (nI kc) v fp ft fl 0 (by first | assumption | omega) (by first | assumption | omega)) (cwV 1 hts gX5_standsOut_X1_look rfl rfl rfl (by decide +kernel) ⟨Nat.le_of_ble_eq_true rfl, Nat.le_of_ble_eq_true rfl⟩) (kq_preV (ci := 1) (q0 := 0) (hP.sub [3, 1, 2, 4, 5, 6] rfl) (hD.sub [3, 1, 2, 4, 5, 6] (by decide) rfl) hK rfl rfl) rfl rfl hl.1 rfl (lv_room (Nat.le_of_ble_eq_true rfl)) dX5_standsOut_42 ⟨Nat.le_of_ble_eq_true rfl, Nat.le_of_ble_eq_true rfl⟩) hP hD hS hA [3, 1, 2, 4, 5, 6] [0] rfl rfl (by decide) (by decide) (fun u_8 H locs hw_9 hP hD hS => ?_)
        obtain ⟨gp_10, gt_11, gl_12⟩ := u_8
        have hP : va_P (dC, dI) vwCl [(oX, .inr (5, [.ref oS, .ref oR, .ref oN, .ref o2, .ref oF, .ref oT])), (oN, .inr (1, [.ref oS, .ref rp, .ref rt, .ref rl])), (oS, .inr (3, [.ref rv, .ref rs, .int (nI kc)])), (rv, .inl (cI, 385, .inl v)), (rp, .inl (cI, 72, .inl gp_10)), (rt, .inl (cI, 72, .inl gt_11)), (rl, .inl (cI, 72, .inl gl_12))] H := hP
        have hD : va_D A [(oX, .inr (5, [.ref oS, .ref oR, .ref oN, .ref o2, .ref oF, .ref oT])), (oN, .inr (1, [.ref oS, .ref rp, .ref rt, .ref rl])), (oS, .inr (3, [.ref rv, .ref rs, .int (nI kc)])), (rv, .inl (cI, 385, .inl v)), (rp, .inl (cI, 72, .inl gp_10)), (rt, .inl (cI, 72, .inl gt_11)), (rl, .inl (cI, 72, .inl gl_12))] := hD
        try dsimp only at hw_9
        have hlk := hw_9
        refine lv_iconst (v := 0) hx hb dX5_standsOut_45 (by decide) ?_
        refine lv_istore (lv' := [(4, .int 0), (0, .ref oX), (1, .int (nI h)), (2, .int (nI w)), (3, .int (nI q))]) hx hb dX5_standsOut_46 hl (by decide) rfl (fun ls hl => ?_)
        refine lv_iconst (v := 0) hx hb dX5_standsOut_48 (by decide) ?_
        refine lv_istore (lv' := [(5, .int 0), (4, .int 0), (0, .ref oX), (1, .int (nI h)), (2, .int (nI w)), (3, .int (nI q))]) hx hb dX5_standsOut_49 hl (by decide) rfl (fun ls hl => ?_)
        refine lv_iconst (v := (-1)) hx hb dX5_standsOut_51 (by decide) ?_
        refine lv_istore (lv' := [(6, .int (-1)), (5, .int 0), (4, .int 0), (0, .ref oX), (1, .int (nI h)), (2, .int (nI w)), (3, .int (nI q))]) hx hb dX5_standsOut_52 hl (by decide) rfl (fun ls hl => ?_)
        refine lv_iconst (v := 0) hx hb dX5_standsOut_54 (by decide) ?_
        refine lv_istore (lv' := [(7, .int 0), (6, .int (-1)), (5, .int 0), (4, .int 0), (0, .ref oX), (1, .int (nI h)), (2, .int (nI w)), (3, .int (nI q))]) hx hb dX5_standsOut_55 hl (by decide) rfl (fun ls hl => ?_)
        refine kq_loopM4 (A1 := Nat) (A2 := Nat) (A3 := Nat) (A4 := Int32) (fun (y : Nat) (b1 : Nat) (b2 : Nat) (b3 : Int32) => 7 - y) (fun (y : Nat) (b1 : Nat) (b2 : Nat) (b3 : Int32) => (y ≤ 6 - h + 1) ∧ (b1 = n_sb v h w (y * 12) / 12) ∧ (b2 = n_sb v h w (y * 12) % 12) ∧ (b3 = n_sm v h w (y * 12))) (fun (y : Nat) (b1 : Nat) (b2 : Nat) (b3 : Int32) => [(0, .ref oX), (1, .int (nI h)), (2, .int (nI w)), (3, .int (nI q)), (4, .int (nI b1)), (5, .int (nI b2)), (6, .int b3), (7, .int (nI y))]) (fun (y : Nat) (b1 : Nat) (b2 : Nat) (b3 : Int32) => [(oX, .inr (5, [.ref oS, .ref oR, .ref oN, .ref o2, .ref oF, .ref oT])), (oN, .inr (1, [.ref oS, .ref rp, .ref rt, .ref rl])), (oS, .inr (3, [.ref rv, .ref rs, .int (nI kc)])), (rv, .inl (cI, 385, .inl v)), (rp, .inl (cI, 72, .inl gp_10)), (rt, .inl (cI, 72, .inl gt_11)), (rl, .inl (cI, 72, .inl gl_12))]) (nL := 10) hK ?_ 0 0 0 (-1) ⟨(by omega), (by simp [n_sb]), (by simp [n_sb]), (by simp [n_sm])⟩ hP hD hS _ (lv_sub hl [4, 5, 6, 7, 3, 2, 1, 0] rfl)
        intro y b1 b2 b3 hi_14 ih_13 H locs hP hD hS ls hl
        obtain ⟨iy, i1, i2, i3⟩ := hi_14
        have hl : lv_has ls 10 [(0, .ref oX), (1, .int (nI h)), (2, .int (nI w)), (3, .int (nI q)), (4, .int (nI b1)), (5, .int (nI b2)), (6, .int b3), (7, .int (nI y))] := hl
        have hP : va_P (dC, dI) vwCl [(oX, .inr (5, [.ref oS, .ref oR, .ref oN, .ref o2, .ref oF, .ref oT])), (oN, .inr (1, [.ref oS, .ref rp, .ref rt, .ref rl])), (oS, .inr (3, [.ref rv, .ref rs, .int (nI kc)])), (rv, .inl (cI, 385, .inl v)), (rp, .inl (cI, 72, .inl gp_10)), (rt, .inl (cI, 72, .inl gt_11)), (rl, .inl (cI, 72, .inl gl_12))] H := hP
        have hD : va_D A [(oX, .inr (5, [.ref oS, .ref oR, .ref oN, .ref o2, .ref oF, .ref oT])), (oN, .inr (1, [.ref oS, .ref rp, .ref rt, .ref rl])), (oS, .inr (3, [.ref rv, .ref rs, .int (nI kc)])), (rv, .inl (cI, 385, .inl v)), (rp, .inl (cI, 72, .inl gp_10)), (rt, .inl (cI, 72, .inl gt_11)), (rl, .inl (cI, 72, .inl gl_12))] := hD
        refine lv_iload hx hb dX5_standsOut_57 (lv_at hl 7 rfl) ?_
        refine lv_bipush (v := 6) hx hb dX5_standsOut_59 (by decide) ?_
        refine lv_iload_n hx hb dX5_standsOut_61 rfl (lv_at hl 1 rfl) ?_
        refine lv_isub hx hb dX5_standsOut_62 ?_
        refine kq_top (z := nI (6 - h)) (pk_sub (a := 6) (b := h) (by omega)) ?_
        refine lv_icmp_gt (tgt := 127) hx hb dX5_standsOut_63 (by decide) (fun c_15 => ?_) (fun c_15 => ?_)
        · skip
          have c_15 := kq_ltN (a := (6 - h)) (b := y) c_15 (by omega) (by omega)
          refine lv_iload_n hx hb dX5_standsOut_127 rfl (lv_at hl 3 rfl) ?_
          refine lv_if_ne (tgt := 136) hx hb dX5_standsOut_128 (by decide) (fun c_16 => ?_) (fun c_16 => ?_)
          · skip
            have c_16 := kq_neN (a := q) (b := 0) c_16 (by omega) (by omega)
            refine lv_iload_n hx hb dX5_standsOut_136 rfl (lv_at hl 3 rfl) ?_
            refine lv_iconst (v := 1) hx hb dX5_standsOut_137 (by decide) ?_
            refine lv_icmp_ne (tgt := 146) hx hb dX5_standsOut_138 (by decide) (fun c_17 => ?_) (fun c_17 => ?_)
            · skip
              have c_17 := kq_neN (a := q) (b := 1) c_17 (by omega) (by omega)
              refine lv_iload hx hb dX5_standsOut_146 (lv_at hl 6 rfl) ?_
              exact kq_retMi (gp_10, gt_11, gl_12) hx hb hr hlocks (hP.sub [0, 2, 3, 1, 4, 5, 6] rfl) (hD.sub [0, 2, 3, 1, 4, 5, 6] (by decide) rfl) hS dX5_standsOut_148 (by rw [show q = 2 by omega]; show _ = n_sm v h w 72; rw [i3, (n_s_skip (v := v) (h := h) (w := w) (a := y * 12) (b := 72) (by omega) (fun k h1 h2 => by omega)).1])
            · skip
              have c_17 := kq_eqN (a := q) (b := 1) c_17 (by omega) (by omega)
              refine lv_iload hx hb dX5_standsOut_141 (lv_at hl 5 rfl) ?_
              refine lv_goto (tgt := 148) hx hb dX5_standsOut_143 (by decide) ?_
              exact kq_retMi (gp_10, gt_11, gl_12) hx hb hr hlocks (hP.sub [0, 2, 3, 1, 4, 5, 6] rfl) (hD.sub [0, 2, 3, 1, 4, 5, 6] (by decide) rfl) hS dX5_standsOut_148 (by rw [show q = 1 by omega]; show _ = nI (n_sb v h w 72 % 12); rw [i2, (n_s_skip (v := v) (h := h) (w := w) (a := y * 12) (b := 72) (by omega) (fun k h1 h2 => by omega)).2])
          · skip
            have c_16 := kq_eqN (a := q) (b := 0) c_16 (by omega) (by omega)
            refine lv_iload hx hb dX5_standsOut_131 (lv_at hl 4 rfl) ?_
            refine lv_goto (tgt := 148) hx hb dX5_standsOut_133 (by decide) ?_
            exact kq_retMi (gp_10, gt_11, gl_12) hx hb hr hlocks (hP.sub [0, 2, 3, 1, 4, 5, 6] rfl) (hD.sub [0, 2, 3, 1, 4, 5, 6] (by decide) rfl) hS dX5_standsOut_148 (by rw [show q = 0 by omega]; show _ = nI (n_sb v h w 72 / 12); rw [i1, (n_s_skip (v := v) (h := h) (w := w) (a := y * 12) (b := 72) (by omega) (fun k h1 h2 => by omega)).2])
        · skip
          have c_15 := kq_nltN (a := (6 - h)) (b := y) c_15 (by omega) (by omega)
          refine lv_iconst (v := 0) hx hb dX5_standsOut_66 (by decide) ?_
          refine lv_istore (lv' := [(8, .int 0), (0, .ref oX), (1, .int (nI h)), (2, .int (nI w)), (3, .int (nI q)), (4, .int (nI b1)), (5, .int (nI b2)), (6, .int b3), (7, .int (nI y))]) hx hb dX5_standsOut_67 hl (by decide) rfl (fun ls hl => ?_)
          refine kq_loopM4 (A1 := Nat) (A2 := Nat) (A3 := Nat) (A4 := Int32) (fun (z : Nat) (b1 : Nat) (b2 : Nat) (b3 : Int32) => 13 - z) (fun (z : Nat) (b1 : Nat) (b2 : Nat) (b3 : Int32) => (z ≤ 12 - w + 1) ∧ (b1 = n_sb v h w (y * 12 + z) / 12) ∧ (b2 = n_sb v h w (y * 12 + z) % 12) ∧ (b3 = n_sm v h w (y * 12 + z))) (fun (z : Nat) (b1 : Nat) (b2 : Nat) (b3 : Int32) => [(0, .ref oX), (1, .int (nI h)), (2, .int (nI w)), (3, .int (nI q)), (4, .int (nI b1)), (5, .int (nI b2)), (6, .int b3), (7, .int (nI y)), (8, .int (nI z))]) (fun (z : Nat) (b1 : Nat) (b2 : Nat) (b3 : Int32) => [(oX, .inr (5, [.ref oS, .ref oR, .ref oN, .ref o2, .ref oF, .ref oT])), (oN, .inr (1, [.ref oS, .ref rp, .ref rt, .ref rl])), (oS, .inr (3, [.ref rv, .ref rs, .int (nI kc)])), (rv, .inl (cI, 385, .inl v)), (rp, .inl (cI, 72, .inl gp_10)), (rt, .inl (cI, 72, .inl gt_11)), (rl, .inl (cI, 72, .inl gl_12))]) (nL := 10) hK ?_ 0 b1 b2 b3 ⟨(by omega), (by exact i1), (by exact i2), (by exact i3)⟩ hP hD hS _ (lv_sub hl [1, 2, 3, 4, 5, 6, 7, 8, 0] rfl)
          intro z b1 b2 b3 hi_19 ih_18 H locs hP hD hS ls hl
          obtain ⟨iz, i1, i2, i3⟩ := hi_19
          have hl : lv_has ls 10 [(0, .ref oX), (1, .int (nI h)), (2, .int (nI w)), (3, .int (nI q)), (4, .int (nI b1)), (5, .int (nI b2)), (6, .int b3), (7, .int (nI y)), (8, .int (nI z))] := hl
          have hP : va_P (dC, dI) vwCl [(oX, .inr (5, [.ref oS, .ref oR, .ref oN, .ref o2, .ref oF, .ref oT])), (oN, .inr (1, [.ref oS, .ref rp, .ref rt, .ref rl])), (oS, .inr (3, [.ref rv, .ref rs, .int (nI kc)])), (rv, .inl (cI, 385, .inl v)), (rp, .inl (cI, 72, .inl gp_10)), (rt, .inl (cI, 72, .inl gt_11)), (rl, .inl (cI, 72, .inl gl_12))] H := hP
          have hD : va_D A [(oX, .inr (5, [.ref oS, .ref oR, .ref oN, .ref o2, .ref oF, .ref oT])), (oN, .inr (1, [.ref oS, .ref rp, .ref rt, .ref rl])), (oS, .inr (3, [.ref rv, .ref rs, .int (nI kc)])), (rv, .inl (cI, 385, .inl v)), (rp, .inl (cI, 72, .inl gp_10)), (rt, .inl (cI, 72, .inl gt_11)), (rl, .inl (cI, 72, .inl gl_12))] := hD
          refine lv_iload hx hb dX5_standsOut_69 (lv_at hl 8 rfl) ?_
          refine lv_bipush (v := 12) hx hb dX5_standsOut_71 (by decide) ?_
          refine lv_iload_n hx hb dX5_standsOut_73 rfl (lv_at hl 2 rfl) ?_
          refine lv_isub hx hb dX5_standsOut_74 ?_
          refine kq_top (z := nI (12 - w)) (pk_sub (a := 12) (b := w) (by omega)) ?_
          refine lv_icmp_gt (tgt := 121) hx hb dX5_standsOut_75 (by decide) (fun c_20 => ?_) (fun c_20 => ?_)
          · skip
            have c_20 := kq_ltN (a := (12 - w)) (b := z) c_20 (by omega) (by omega)
            refine lv_iinc (v := nI (y + 1)) (lv' := [(7, .int (nI (y + 1))), (0, .ref oX), (1, .int (nI h)), (2, .int (nI w)), (3, .int (nI q)), (4, .int (nI b1)), (5, .int (nI b2)), (6, .int b3), (8, .int (nI z))]) hx hb dX5_standsOut_121 hl (k := 7) rfl (nI_1 y) (by decide) rfl (fun ls hl => ?_)
            refine lv_goto (tgt := 57) hx hb dX5_standsOut_124 (by decide) ?_
            exact ih_13 (y + 1) b1 b2 b3 ⟨(by omega), (by rw [(n_s_skip (v := v) (h := h) (w := w) (a := y * 12 + z) (b := (y + 1) * 12) (by omega) (fun k h1 h2 => by omega)).2]; exact i1), (by rw [(n_s_skip (v := v) (h := h) (w := w) (a := y * 12 + z) (b := (y + 1) * 12) (by omega) (fun k h1 h2 => by omega)).2]; exact i2), (by rw [(n_s_skip (v := v) (h := h) (w := w) (a := y * 12 + z) (b := (y + 1) * 12) (by omega) (fun k h1 h2 => by omega)).1]; exact i3)⟩ (by show 7 - (y + 1) < 7 - y; omega) _ _ hP hD hS _ (lv_sub hl [1, 2, 3, 4, 5, 6, 7, 0] rfl)
          · skip
            have c_20 := kq_nltN (a := (12 - w)) (b := z) c_20 (by omega) (by omega)
            refine lv_aload_n hx hb dX5_standsOut_78 rfl (lv_at hl 0 rfl) ?_
            refine va_get (D := (dC, dI)) (ci := 5) (v := .ref oN) (C := RX5) (T := TX5) (N := 6) hx hb hts (by decide +kernel) hown hK.1 hP 0 rfl rfl 2 (by decide) (hts (.fieldLink RX5 28 "NoteWatermarks" "view" "LNoteWatermarks$Note;") (by decide +kernel)) (fun _ h9 => h9) rfl dX5_standsOut_79 ?_
            have hv1 : (y * 12 + z) / 12 = y := by omega
            have hv2 : (y * 12 + z) % 12 = z := by omega
            refine lv_iload hx hb dX5_standsOut_82 (lv_at hl 7 rfl) ?_
            refine lv_iload hx hb dX5_standsOut_84 (lv_at hl 8 rfl) ?_
            refine lv_iload_n hx hb dX5_standsOut_86 rfl (lv_at hl 1 rfl) ?_
            refine lv_iload_n hx hb dX5_standsOut_87 rfl (lv_at hl 2 rfl) ?_
            refine kq_cV (As := [.int (nI y), .int (nI z), .int (nI h), .int (nI w)]) (rest := []) ⟨hx, hb, hml, hown, hts⟩ (c_X1_contrastOf l dC dI cI oN oS rp rt rl gl_12 y z h w (by first | assumption | omega) (by first | assumption | omega) (by first | assumption | omega) (by first | assumption | omega)) (cwV 4 hts gX5_standsOut_X1_contrastOf rfl rfl rfl (by decide +kernel) ⟨Nat.le_of_ble_eq_true rfl, Nat.le_of_ble_eq_true rfl⟩) (hP.sub [1, 6] rfl) hK (ci := 1) (q0 := 0) rfl rfl rfl rfl hl.1 rfl (Nat.le_of_ble_eq_true rfl) dX5_standsOut_88 ⟨Nat.le_of_ble_eq_true rfl, Nat.le_of_ble_eq_true rfl⟩ ?_
            refine kq_top (z := n_cr v 0 y z h w) (n_con_c (fun k hk => (hlk k hk).2.2)) ?_
            refine va_mabs hx hb (hml.trans hl.1.symm) hown (hts (.methodLink RX5 213 Lib.Math.abs.name) (by decide +kernel)) (hts (.static Lib.Math.abs.name) (by decide +kernel)) (hts (.initialized "java/lang/Math") (by decide +kernel)) (hts (.code Lib.Math.abs.name Lib.Math.abs.code 1 (some .int)) (by decide +kernel)) (Nat.le_of_ble_eq_true rfl) (Nat.le_of_ble_eq_true rfl) (Nat.le_of_ble_eq_true rfl) (Nat.le_of_ble_eq_true rfl) dX5_standsOut_91 ?_
            refine kq_top (z := n_g6 v h w (y * 12 + z)) (by show n_abs (n_cr v 0 y z h w) = _; rw [n_g6, hv1, hv2]) ?_
            refine lv_istore (lv' := [(9, .int (n_g6 v h w (y * 12 + z))), (0, .ref oX), (1, .int (nI h)), (2, .int (nI w)), (3, .int (nI q)), (4, .int (nI b1)), (5, .int (nI b2)), (6, .int b3), (7, .int (nI y)), (8, .int (nI z))]) hx hb dX5_standsOut_94 hl (by decide) rfl (fun ls hl => ?_)
            refine lv_iload hx hb dX5_standsOut_96 (lv_at hl 0 rfl) ?_
            refine lv_iload hx hb dX5_standsOut_98 (lv_at hl 7 rfl) ?_
            refine lv_icmp_le (tgt := 115) hx hb dX5_standsOut_100 (by decide) (fun c_21 => ?_) (fun c_21 => ?_)
            · skip
              refine lv_iinc (v := nI (z + 1)) (lv' := [(8, .int (nI (z + 1))), (9, .int (n_g6 v h w (y * 12 + z))), (0, .ref oX), (1, .int (nI h)), (2, .int (nI w)), (3, .int (nI q)), (4, .int (nI b1)), (5, .int (nI b2)), (6, .int b3), (7, .int (nI y))]) hx hb dX5_standsOut_115 hl (k := 9) rfl (nI_1 z) (by decide) rfl (fun ls hl => ?_)
              refine lv_goto (tgt := 69) hx hb dX5_standsOut_118 (by decide) ?_
              exact ih_18 (z + 1) b1 b2 b3 ⟨(by omega), (by rw [show y * 12 + (z + 1) = (y * 12 + z) + 1 by omega, n_sb, ← i3]; first | (rw [if_pos ⟨(show (y * 12 + z) / 12 + h ≤ 6 ∧ (y * 12 + z) % 12 + w ≤ 12 by omega), Int32.not_le.mp (by assumption)⟩]; omega) | (rw [if_neg (fun q => absurd q.2 (Int32.not_lt.mpr (by assumption)))]; exact i1)), (by rw [show y * 12 + (z + 1) = (y * 12 + z) + 1 by omega, n_sb, ← i3]; first | (rw [if_pos ⟨(show (y * 12 + z) / 12 + h ≤ 6 ∧ (y * 12 + z) % 12 + w ≤ 12 by omega), Int32.not_le.mp (by assumption)⟩]; omega) | (rw [if_neg (fun q => absurd q.2 (Int32.not_lt.mpr (by assumption)))]; exact i2)), (by rw [show y * 12 + (z + 1) = (y * 12 + z) + 1 by omega, n_sm, ← i3]; first | rw [if_pos ⟨(show (y * 12 + z) / 12 + h ≤ 6 ∧ (y * 12 + z) % 12 + w ≤ 12 by omega), Int32.not_le.mp (by assumption)⟩] | rw [if_neg (fun q => absurd q.2 (Int32.not_lt.mpr (by assumption)))])⟩ (by show 13 - (z + 1) < 13 - z; omega) _ _ hP hD hS _ (lv_sub hl [2, 3, 4, 5, 6, 7, 8, 9, 0] rfl)
            · skip
              refine lv_iload hx hb dX5_standsOut_103 (lv_at hl 8 rfl) ?_
              refine lv_istore (lv' := [(4, .int (nI y)), (9, .int (n_g6 v h w (y * 12 + z))), (0, .ref oX), (1, .int (nI h)), (2, .int (nI w)), (3, .int (nI q)), (5, .int (nI b2)), (6, .int b3), (7, .int (nI y)), (8, .int (nI z))]) hx hb dX5_standsOut_105 hl (by decide) rfl (fun ls hl => ?_)
              refine lv_iload hx hb dX5_standsOut_107 (lv_at hl 9 rfl) ?_
              refine lv_istore (lv' := [(5, .int (nI z)), (4, .int (nI y)), (9, .int (n_g6 v h w (y * 12 + z))), (0, .ref oX), (1, .int (nI h)), (2, .int (nI w)), (3, .int (nI q)), (6, .int b3), (7, .int (nI y)), (8, .int (nI z))]) hx hb dX5_standsOut_109 hl (by decide) rfl (fun ls hl => ?_)
              refine lv_iload hx hb dX5_standsOut_111 (lv_at hl 2 rfl) ?_
              refine lv_istore (lv' := [(6, .int (n_g6 v h w (y * 12 + z))), (5, .int (nI z)), (4, .int (nI y)), (9, .int (n_g6 v h w (y * 12 + z))), (0, .ref oX), (1, .int (nI h)), (2, .int (nI w)), (3, .int (nI q)), (7, .int (nI y)), (8, .int (nI z))]) hx hb dX5_standsOut_113 hl (by decide) rfl (fun ls hl => ?_)
              refine lv_iinc (v := nI (z + 1)) (lv' := [(8, .int (nI (z + 1))), (6, .int (n_g6 v h w (y * 12 + z))), (5, .int (nI z)), (4, .int (nI y)), (9, .int (n_g6 v h w (y * 12 + z))), (0, .ref oX), (1, .int (nI h)), (2, .int (nI w)), (3, .int (nI q)), (7, .int (nI y))]) hx hb dX5_standsOut_115 hl (k := 9) rfl (nI_1 z) (by decide) rfl (fun ls hl => ?_)
              refine lv_goto (tgt := 69) hx hb dX5_standsOut_118 (by decide) ?_
              exact ih_18 (z + 1) y z (n_g6 v h w (y * 12 + z)) ⟨(by omega), (by rw [show y * 12 + (z + 1) = (y * 12 + z) + 1 by omega, n_sb, ← i3]; first | (rw [if_pos ⟨(show (y * 12 + z) / 12 + h ≤ 6 ∧ (y * 12 + z) % 12 + w ≤ 12 by omega), Int32.not_le.mp (by assumption)⟩]; omega) | (rw [if_neg (fun q => absurd q.2 (Int32.not_lt.mpr (by assumption)))]; exact i1)), (by rw [show y * 12 + (z + 1) = (y * 12 + z) + 1 by omega, n_sb, ← i3]; first | (rw [if_pos ⟨(show (y * 12 + z) / 12 + h ≤ 6 ∧ (y * 12 + z) % 12 + w ≤ 12 by omega), Int32.not_le.mp (by assumption)⟩]; omega) | (rw [if_neg (fun q => absurd q.2 (Int32.not_lt.mpr (by assumption)))]; exact i2)), (by rw [show y * 12 + (z + 1) = (y * 12 + z) + 1 by omega, n_sm, ← i3]; first | rw [if_pos ⟨(show (y * 12 + z) / 12 + h ≤ 6 ∧ (y * 12 + z) % 12 + w ≤ 12 by omega), Int32.not_le.mp (by assumption)⟩] | rw [if_neg (fun q => absurd q.2 (Int32.not_lt.mpr (by assumption)))])⟩ (by show 13 - (z + 1) < 13 - z; omega) _ _ hP hD hS _ (lv_sub hl [5, 6, 7, 8, 3, 2, 1, 9, 0] rfl)
