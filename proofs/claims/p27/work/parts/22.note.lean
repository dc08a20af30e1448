set_option maxHeartbeats 4000000 in
set_option maxRecDepth 100000 in
theorem c_J9_floorDiv_7cf53 (l : Launch) (dC : Nat → ClassId) (dI : Nat → Nat → Nat) (cI : ClassId) (x : Int32) (d : Nat) (h0 : 0 < d) (hd9 : d < 2 ^ 31) : Met l yJ9_floorDiv_7cf53 wsJ9_floorDiv_7cf53 ({ frames := 0, cells := 0, slots := 0, locals := 0 }) (kq_R dC dI cI [.int x, .int (nI d)] []) (QcRead (n_div x (nI d))) 0 0 (fun _ => False) := by
  refine kq_start (cc := cJ9_floorDiv_7cf53) (maxL := 3) (ret := (some .int)) (by decide +kernel) rfl (Nat.le_of_ble_eq_true rfl) ?_
  intro p e s m below meth c hx hb hr hml hown hlocks hts hP hK ls hl
  have hown : s.vm.findClass RJ9 = some m.cls := hown
  have hl : lv_has ls 3 [(0, .int x), (1, .int (nI d))] := hl
  refine lv_iload_n hx hb dJ9_floorDiv_7cf53_0 rfl (lv_at hl 0 rfl) ?_
  refine lv_iload_n hx hb dJ9_floorDiv_7cf53_1 rfl (lv_at hl 1 rfl) ?_
  refine lv_idiv hx hb dJ9_floorDiv_7cf53_2 (nI_ne0 h0 hd9) ?_
  refine lv_istore_n (lv' := [(2, .int (x / (nI d))), (0, .int x), (1, .int (nI d))]) hx hb dJ9_floorDiv_7cf53_3 rfl hl (by decide) rfl (fun ls hl => ?_)
  refine lv_iload_n hx hb dJ9_floorDiv_7cf53_4 rfl (lv_at hl 1 rfl) ?_
  refine lv_iload_n hx hb dJ9_floorDiv_7cf53_5 rfl (lv_at hl 2 rfl) ?_
  refine lv_ixor hx hb dJ9_floorDiv_7cf53_6 ?_
  refine lv_if_ge (tgt := 21) hx hb dJ9_floorDiv_7cf53_7 (by decide) (fun c_1 => ?_) (fun c_1 => ?_)
  · skip
    refine lv_iload_n hx hb dJ9_floorDiv_7cf53_21 rfl (lv_at hl 0 rfl) ?_
    exact kq_ret hx hb hr hlocks dJ9_floorDiv_7cf53_22 (by rw [← kq_fdiv x h0 hd9, if_neg (by grind)])
  · skip
    refine lv_iload_n hx hb dJ9_floorDiv_7cf53_10 rfl (lv_at hl 0 rfl) ?_
    refine lv_iload_n hx hb dJ9_floorDiv_7cf53_11 rfl (lv_at hl 2 rfl) ?_
    refine lv_imul hx hb dJ9_floorDiv_7cf53_12 ?_
    refine lv_iload_n hx hb dJ9_floorDiv_7cf53_13 rfl (lv_at hl 1 rfl) ?_
    refine lv_icmp_eq (tgt := 21) hx hb dJ9_floorDiv_7cf53_14 (by decide) (fun c_2 => ?_) (fun c_2 => ?_)
    · skip
      refine lv_iload_n hx hb dJ9_floorDiv_7cf53_21 rfl (lv_at hl 0 rfl) ?_
      exact kq_ret hx hb hr hlocks dJ9_floorDiv_7cf53_22 (by rw [← kq_fdiv x h0 hd9, if_neg (by grind)])
    · skip
      refine lv_iload_n hx hb dJ9_floorDiv_7cf53_17 rfl (lv_at hl 0 rfl) ?_
      refine lv_iconst (v := 1) hx hb dJ9_floorDiv_7cf53_18 (by decide) ?_
      refine lv_isub hx hb dJ9_floorDiv_7cf53_19 ?_
      exact kq_ret hx hb hr hlocks dJ9_floorDiv_7cf53_20 (by rw [← kq_fdiv x h0 hd9, if_pos ⟨by grind, by assumption⟩])
set_option maxHeartbeats 4000000 in
set_option maxRecDepth 100000 in
theorem c_X1_press (l : Launch) (dC : Nat → ClassId) (dI : Nat → Nat → Nat) (cI : ClassId) (sz : Nat) (oN : Nat) (oS : Nat) (rv : Nat) (rs : Nat) (rp : Nat) (rt : Nat) (rl : Nat) (cnt : Int32) (v : Nat → Int32) (fp : Nat → Int32) (b : Nat) (hI : n_I v) (hb1 : b ≤ 40000) : Met l yX1_press wsX1_press ({ frames := 1, cells := 0, slots := 0, locals := 22 }) (kq_M dC dI cI [.ref oN, .int (nI b)] sz [(oN, .inr (1, [.ref oS, .ref rp, .ref rt, .ref rl])), (oS, .inr (3, [.ref rv, .ref rs, .int cnt])), (rv, .inl (cI, 385, .inl v)), (rp, .inl (cI, 72, .inl fp))]) (va_Qv (fun (u : (Nat → Int32)) => ∀ k, k < 72 → u k = n_pr v (b + k % 12) (k / 12)) (kq_B dC dI (va_A [(oN, .inr (1, [.ref oS, .ref rp, .ref rt, .ref rl])), (oS, .inr (3, [.ref rv, .ref rs, .int cnt])), (rv, .inl (cI, 385, .inl v)), (rp, .inl (cI, 72, .inl fp))] sz) (fun u : (Nat → Int32) => [(oN, .inr (1, [.ref oS, .ref rp, .ref rt, .ref rl])), (oS, .inr (3, [.ref rv, .ref rs, .int cnt])), (rv, .inl (cI, 385, .inl v)), (rp, .inl (cI, 72, .inl u))])) (va_A [(oN, .inr (1, [.ref oS, .ref rp, .ref rt, .ref rl])), (oS, .inr (3, [.ref rv, .ref rs, .int cnt])), (rv, .inl (cI, 385, .inl v)), (rp, .inl (cI, 72, .inl fp))] sz)) 0 0 (va_A [(oN, .inr (1, [.ref oS, .ref rp, .ref rt, .ref rl])), (oS, .inr (3, [.ref rv, .ref rs, .int cnt])), (rv, .inl (cI, 385, .inl v)), (rp, .inl (cI, 72, .inl fp))] sz) := by
  refine kq_startM (cc := cX1_press) (maxL := 8) (ret := none) (by decide) rfl (Nat.le_of_ble_eq_true rfl) ?_
  intro p e s m below meth c hx hb hr hml hown hlocks hts hsz hA hP hD hS hK hnm ls hl
  subst hsz
  generalize hAe : va_A [(oN, .inr (1, [.ref oS, .ref rp, .ref rt, .ref rl])), (oS, .inr (3, [.ref rv, .ref rs, .int cnt])), (rv, .inl (cI, 385, .inl v)), (rp, .inl (cI, 72, .inl fp))] s.heap.size = A at hA hD hS ⊢
  have hown : s.vm.findClass RX1 = some m.cls := hown
  have hl : lv_has ls 8 [(0, .ref oN), (1, .int (nI b))] := hl
  refine lv_iconst (v := 0) hx hb dX1_press_0 (by decide) ?_
  refine lv_istore_n (lv' := [(2, .int 0), (0, .ref oN), (1, .int (nI b))]) hx hb dX1_press_1 rfl hl (by decide) rfl (fun ls hl => ?_)
  refine kq_loopM2 (A1 := Nat) (A2 := Nat → Int32) (fun (k : Nat) (g : Nat → Int32) => 72 - k) (fun (k : Nat) (g : Nat → Int32) => (k ≤ 72) ∧ (∀ j, j < k → g j = 0)) (fun (k : Nat) (g : Nat → Int32) => [(0, .ref oN), (1, .int (nI b)), (2, .int (nI k))]) (fun (k : Nat) (g : Nat → Int32) => [(oN, .inr (1, [.ref oS, .ref rp, .ref rt, .ref rl])), (oS, .inr (3, [.ref rv, .ref rs, .int cnt])), (rv, .inl (cI, 385, .inl v)), (rp, .inl (cI, 72, .inl g))]) (nL := 8) hK ?_ 0 fp ⟨(by omega), (by intro j hj; omega)⟩ hP hD hS _ (lv_sub hl [1, 2, 0] rfl)
  intro k g hi_2 ih_1 H locs hP hD hS ls hl
  obtain ⟨ik, ig⟩ := hi_2
  have hl : lv_has ls 8 [(0, .ref oN), (1, .int (nI b)), (2, .int (nI k))] := hl
  have hP : va_P (dC, dI) vwCl [(oN, .inr (1, [.ref oS, .ref rp, .ref rt, .ref rl])), (oS, .inr (3, [.ref rv, .ref rs, .int cnt])), (rv, .inl (cI, 385, .inl v)), (rp, .inl (cI, 72, .inl g))] H := hP
  have hD : va_D A [(oN, .inr (1, [.ref oS, .ref rp, .ref rt, .ref rl])), (oS, .inr (3, [.ref rv, .ref rs, .int cnt])), (rv, .inl (cI, 385, .inl v)), (rp, .inl (cI, 72, .inl g))] := hD
  refine lv_iload_n hx hb dX1_press_2 rfl (lv_at hl 2 rfl) ?_
  refine lv_bipush (v := 72) hx hb dX1_press_3 (by decide) ?_
  refine lv_icmp_ge (tgt := 21) hx hb dX1_press_5 (by decide) (fun c_3 => ?_) (fun c_3 => ?_)
  · skip
    have c_3 := kq_leN (a := 72) (b := k) c_3 (by omega) (by omega)
    refine lv_iconst (v := 0) hx hb dX1_press_21 (by decide) ?_
    refine lv_istore_n (lv' := [(2, .int 0), (0, .ref oN), (1, .int (nI b))]) hx hb dX1_press_22 rfl hl (by decide) rfl (fun ls hl => ?_)
    refine kq_loopM2 (A1 := Nat) (A2 := Nat → Int32) (fun (r : Nat) (g : Nat → Int32) => 3 - r) (fun (r : Nat) (g : Nat → Int32) => (r ≤ 3) ∧ (∀ k, k < 72 → g k = n_sum (fun q => n_wr v (b + k % 12) q (k / 12)) r)) (fun (r : Nat) (g : Nat → Int32) => [(0, .ref oN), (1, .int (nI b)), (2, .int (nI r))]) (fun (r : Nat) (g : Nat → Int32) => [(oN, .inr (1, [.ref oS, .ref rp, .ref rt, .ref rl])), (oS, .inr (3, [.ref rv, .ref rs, .int cnt])), (rv, .inl (cI, 385, .inl v)), (rp, .inl (cI, 72, .inl g))]) (nL := 8) hK ?_ 0 g ⟨(by omega), (by intro k hk; rw [ig k (by omega)]; rfl)⟩ hP hD hS _ (lv_sub hl [1, 2, 0] rfl)
    intro r g hi_5 ih_4 H locs hP hD hS ls hl
    obtain ⟨ir, ig⟩ := hi_5
    have hl : lv_has ls 8 [(0, .ref oN), (1, .int (nI b)), (2, .int (nI r))] := hl
    have hP : va_P (dC, dI) vwCl [(oN, .inr (1, [.ref oS, .ref rp, .ref rt, .ref rl])), (oS, .inr (3, [.ref rv, .ref rs, .int cnt])), (rv, .inl (cI, 385, .inl v)), (rp, .inl (cI, 72, .inl g))] H := hP
    have hD : va_D A [(oN, .inr (1, [.ref oS, .ref rp, .ref rt, .ref rl])), (oS, .inr (3, [.ref rv, .ref rs, .int cnt])), (rv, .inl (cI, 385, .inl v)), (rp, .inl (cI, 72, .inl g))] := hD
    refine lv_iload_n hx hb dX1_press_23 rfl (lv_at hl 2 rfl) ?_
    refine lv_iconst (v := 3) hx hb dX1_press_24 (by decide) ?_
    refine lv_icmp_ge (tgt := 135) hx hb dX1_press_25 (by decide) (fun c_6 => ?_) (fun c_6 => ?_)
    · skip
      have c_6 := kq_leN (a := 3) (b := r) c_6 (by omega) (by omega)
      exact kq_retMv (g) hx hb hr hlocks hP hD hS dX1_press_135 (by intro k hk; rw [ig k hk, show r = 3 by omega]; rfl)
    · skip
      have c_6 := kq_nleN (a := 3) (b := r) c_6 (by omega) (by omega)
      have hrr : r < 3 := by omega
      have h4 := n_I_c4 hI hrr
      have h16 := n_I_c16 hI hrr
      have hpc := n_I_pc hI hrr
      refine lv_iload_n hx hb dX1_press_28 rfl (lv_at hl 1 rfl) ?_
      refine lv_aload_n hx hb dX1_press_29 rfl (lv_at hl 0 rfl) ?_
      refine va_get (D := (dC, dI)) (ci := 1) (v := .ref oS) (C := RX1) (T := TX1) (N := 4) hx hb hts (by decide +kernel) hown hK.1 hP 0 rfl rfl 0 (by decide) (hts (.fieldLink RX1 21 "NoteWatermarks$Note" "state" "LNoteWatermarks$State;") (by decide +kernel)) (fun _ h9 => h9) rfl dX1_press_30 ?_
      refine lv_iload_n hx hb dX1_press_33 rfl (lv_at hl 2 rfl) ?_
      refine kq_cS (As := [.int (nI r)]) (rest := [.ref oS, .int (nI b)]) ⟨hx, hb, hml, hown, hts⟩ (c_X3_phasePlace l dC dI cI r ) (va_cwS 1 hts gX1_press_X3_phasePlace rfl rfl rfl (by decide +kernel) ⟨Nat.le_of_ble_eq_true rfl, Nat.le_of_ble_eq_true rfl⟩) (hP.sub [] rfl) hK rfl hl.1 rfl (Nat.le_of_ble_eq_true rfl) dX1_press_34 ⟨Nat.le_of_ble_eq_true rfl, Nat.le_of_ble_eq_true rfl⟩ ?_
      refine kq_cV (As := [.int (nI (291 + r))]) (rest := [.int (nI b)]) ⟨hx, hb, hml, hown, hts⟩ (c_X3_at l dC dI cI oS rv rs cnt v (291 + r) (by first | assumption | omega)) (cwV 1 hts gX1_press_X3_at rfl rfl rfl (by decide +kernel) ⟨Nat.le_of_ble_eq_true rfl, Nat.le_of_ble_eq_true rfl⟩) (hP.sub [1, 2] rfl) hK (ci := 3) (q0 := 0) rfl rfl rfl rfl hl.1 rfl (Nat.le_of_ble_eq_true rfl) dX1_press_37 ⟨Nat.le_of_ble_eq_true rfl, Nat.le_of_ble_eq_true rfl⟩ ?_
      refine kq_top (z := nI (n_p v r)) (n_I_p hI (by omega)) ?_
      refine lv_iadd hx hb dX1_press_40 ?_
      refine kq_top (z := nI (b + (n_p v r))) (nI_add b (n_p v r)) ?_
      refine lv_istore_n (lv' := [(3, .int (nI (b + (n_p v r)))), (0, .ref oN), (1, .int (nI b)), (2, .int (nI r))]) hx hb dX1_press_41 rfl hl (by decide) rfl (fun ls hl => ?_)
      refine lv_aload_n hx hb dX1_press_42 rfl (lv_at hl 1 rfl) ?_
      refine va_get (D := (dC, dI)) (ci := 1) (v := .ref oS) (C := RX1) (T := TX1) (N := 4) hx hb hts (by decide +kernel) hown hK.1 hP 0 rfl rfl 0 (by decide) (hts (.fieldLink RX1 21 "NoteWatermarks$Note" "state" "LNoteWatermarks$State;") (by decide +kernel)) (fun _ h9 => h9) rfl dX1_press_43 ?_
      refine lv_iload_n hx hb dX1_press_46 rfl (lv_at hl 3 rfl) ?_
      refine kq_cS (As := [.int (nI r)]) (rest := [.ref oS]) ⟨hx, hb, hml, hown, hts⟩ (c_X3_circumferencePlace l dC dI cI r ) (va_cwS 1 hts gX1_press_X3_circumferencePlace rfl rfl rfl (by decide +kernel) ⟨Nat.le_of_ble_eq_true rfl, Nat.le_of_ble_eq_true rfl⟩) (hP.sub [] rfl) hK rfl hl.1 rfl (Nat.le_of_ble_eq_true rfl) dX1_press_47 ⟨Nat.le_of_ble_eq_true rfl, Nat.le_of_ble_eq_true rfl⟩ ?_
      refine kq_cV (As := [.int (nI (288 + r))]) (rest := []) ⟨hx, hb, hml, hown, hts⟩ (c_X3_at l dC dI cI oS rv rs cnt v (288 + r) (by first | assumption | omega)) (cwV 1 hts gX1_press_X3_at rfl rfl rfl (by decide +kernel) ⟨Nat.le_of_ble_eq_true rfl, Nat.le_of_ble_eq_true rfl⟩) (hP.sub [1, 2] rfl) hK (ci := 3) (q0 := 0) rfl rfl rfl rfl hl.1 rfl (Nat.le_of_ble_eq_true rfl) dX1_press_50 ⟨Nat.le_of_ble_eq_true rfl, Nat.le_of_ble_eq_true rfl⟩ ?_
      refine kq_top (z := nI (n_c v r)) (n_I_c hI (by omega)) ?_
      refine lv_istore (lv' := [(4, .int (nI (n_c v r))), (3, .int (nI (b + (n_p v r)))), (0, .ref oN), (1, .int (nI b)), (2, .int (nI r))]) hx hb dX1_press_53 hl (by decide) rfl (fun ls hl => ?_)
      refine lv_iconst (v := 0) hx hb dX1_press_55 (by decide) ?_
      refine lv_istore (lv' := [(5, .int 0), (4, .int (nI (n_c v r))), (3, .int (nI (b + (n_p v r)))), (0, .ref oN), (1, .int (nI b)), (2, .int (nI r))]) hx hb dX1_press_56 hl (by decide) rfl (fun ls hl => ?_)
      refine kq_loopM2 (A1 := Nat) (A2 := Nat → Int32) (fun (j : Nat) (g : Nat → Int32) => 12 - j) (fun (j : Nat) (g : Nat → Int32) => (j ≤ 12) ∧ (∀ k, k < 72 → g k = n_sum (fun q => n_wr v (b + k % 12) q (k / 12)) (if k % 12 < j then r + 1 else r))) (fun (j : Nat) (g : Nat → Int32) => [(0, .ref oN), (1, .int (nI b)), (2, .int (nI r)), (3, .int (nI (b + n_p v r))), (4, .int (nI (n_c v r))), (5, .int (nI j))]) (fun (j : Nat) (g : Nat → Int32) => [(oN, .inr (1, [.ref oS, .ref rp, .ref rt, .ref rl])), (oS, .inr (3, [.ref rv, .ref rs, .int cnt])), (rv, .inl (cI, 385, .inl v)), (rp, .inl (cI, 72, .inl g))]) (nL := 8) hK ?_ 0 g ⟨(by omega), (by intro k hk; rw [ig k hk, if_neg (by omega)])⟩ hP hD hS _ (lv_sub hl [3, 4, 5, 2, 1, 0] rfl)
      intro j g hi_8 ih_7 H locs hP hD hS ls hl
      obtain ⟨ij, ig⟩ := hi_8
      have hl : lv_has ls 8 [(0, .ref oN), (1, .int (nI b)), (2, .int (nI r)), (3, .int (nI (b + n_p v r))), (4, .int (nI (n_c v r))), (5, .int (nI j))] := hl
      have hP : va_P (dC, dI) vwCl [(oN, .inr (1, [.ref oS, .ref rp, .ref rt, .ref rl])), (oS, .inr (3, [.ref rv, .ref rs, .int cnt])), (rv, .inl (cI, 385, .inl v)), (rp, .inl (cI, 72, .inl g))] H := hP
      have hD : va_D A [(oN, .inr (1, [.ref oS, .ref rp, .ref rt, .ref rl])), (oS, .inr (3, [.ref rv, .ref rs, .int cnt])), (rv, .inl (cI, 385, .inl v)), (rp, .inl (cI, 72, .inl g))] := hD
      refine lv_iload hx hb dX1_press_58 (lv_at hl 5 rfl) ?_
      refine lv_bipush (v := 12) hx hb dX1_press_60 (by decide) ?_
      refine lv_icmp_ge (tgt := 129) hx hb dX1_press_62 (by decide) (fun c_9 => ?_) (fun c_9 => ?_)
      · skip
        have c_9 := kq_leN (a := 12) (b := j) c_9 (by omega) (by omega)
        refine lv_iinc (v := nI (r + 1)) (lv' := [(2, .int (nI (r + 1))), (0, .ref oN), (1, .int (nI b)), (3, .int (nI (b + n_p v r))), (4, .int (nI (n_c v r))), (5, .int (nI j))]) hx hb dX1_press_129 hl (k := 2) rfl (nI_1 r) (by decide) rfl (fun ls hl => ?_)
        refine lv_goto (tgt := 23) hx hb dX1_press_132 (by decide) ?_
        exact ih_4 (r + 1) g ⟨(by omega), (by intro k hk; rw [ig k hk, if_pos (by omega)])⟩ (by show 3 - (r + 1) < 3 - r; omega) _ _ hP hD hS _ (lv_sub hl [1, 2, 0] rfl)
      · skip
        have c_9 := kq_nleN (a := 12) (b := j) c_9 (by omega) (by omega)
        have hmd := Nat.mod_lt (b + n_p v r + j) (show 0 < n_c v r by omega)
        refine lv_iload_n hx hb dX1_press_65 rfl (lv_at hl 3 rfl) ?_
        refine lv_iload hx hb dX1_press_66 (lv_at hl 5 rfl) ?_
        refine lv_iadd hx hb dX1_press_68 ?_
        refine kq_top (z := nI ((b + n_p v r) + j)) (nI_add (b + n_p v r) j) ?_
        refine lv_iload hx hb dX1_press_69 (lv_at hl 4 rfl) ?_
        refine kq_cN (As := [.int (nI ((b + n_p v r) + j)), .int (nI (n_c v r))]) (rest := []) ⟨hx, hb, hml, hown, hts⟩ (c_X5_modulo_n l dC dI cI ((b + n_p v r) + j) (n_c v r) (by first | assumption | omega) (by first | assumption | omega) (by first | assumption | omega)) (va_cnB (own := RX1) (host := RX5) (index := 56) (y := yX5_modulo) 2 hts gX1_press_X5_modulo_n56 rfl rfl rfl (hK.2 _ (by simp [kq_nest])) (hts (.initialized RX5) (by decide +kernel)) (by decide +kernel) ⟨Nat.le_of_ble_eq_true rfl, Nat.le_of_ble_eq_true rfl⟩) (hts (.static yX5_modulo) (by decide +kernel)) (hP.sub [] rfl) hK rfl hl.1 rfl (Nat.le_of_ble_eq_true rfl) dX1_press_71 ⟨Nat.le_of_ble_eq_true rfl, Nat.le_of_ble_eq_true rfl⟩ ?_
        refine lv_istore (lv' := [(6, .int (nI (((b + n_p v r) + j) % (n_c v r)))), (0, .ref oN), (1, .int (nI b)), (2, .int (nI r)), (3, .int (nI (b + n_p v r))), (4, .int (nI (n_c v r))), (5, .int (nI j))]) hx hb dX1_press_74 hl (by decide) rfl (fun ls hl => ?_)
        refine lv_iconst (v := 0) hx hb dX1_press_76 (by decide) ?_
        refine lv_istore (lv' := [(7, .int 0), (6, .int (nI (((b + n_p v r) + j) % (n_c v r)))), (0, .ref oN), (1, .int (nI b)), (2, .int (nI r)), (3, .int (nI (b + n_p v r))), (4, .int (nI (n_c v r))), (5, .int (nI j))]) hx hb dX1_press_77 hl (by decide) rfl (fun ls hl => ?_)
        refine kq_loopM2 (A1 := Nat) (A2 := Nat → Int32) (fun (i : Nat) (g : Nat → Int32) => 6 - i) (fun (i : Nat) (g : Nat → Int32) => (i ≤ 6) ∧ (∀ k, k < 72 → g k = n_sum (fun q => n_wr v (b + k % 12) q (k / 12)) (if k % 12 < j ∨ (k % 12 = j ∧ k / 12 < i) then r + 1 else r))) (fun (i : Nat) (g : Nat → Int32) => [(0, .ref oN), (1, .int (nI b)), (2, .int (nI r)), (3, .int (nI (b + n_p v r))), (4, .int (nI (n_c v r))), (5, .int (nI j)), (6, .int (nI ((b + n_p v r + j) % n_c v r))), (7, .int (nI i))]) (fun (i : Nat) (g : Nat → Int32) => [(oN, .inr (1, [.ref oS, .ref rp, .ref rt, .ref rl])), (oS, .inr (3, [.ref rv, .ref rs, .int cnt])), (rv, .inl (cI, 385, .inl v)), (rp, .inl (cI, 72, .inl g))]) (nL := 8) hK ?_ 0 g ⟨(by omega), (by intro k hk; rw [ig k hk]; by_cases hc : k % 12 < j; rw [if_pos hc, if_pos (Or.inl hc)]; rw [if_neg hc, if_neg (by omega)])⟩ hP hD hS _ (lv_sub hl [2, 3, 4, 5, 6, 7, 1, 0] rfl)
        intro i g hi_11 ih_10 H locs hP hD hS ls hl
        obtain ⟨ii, ig⟩ := hi_11
        have hl : lv_has ls 8 [(0, .ref oN), (1, .int (nI b)), (2, .int (nI r)), (3, .int (nI (b + n_p v r))), (4, .int (nI (n_c v r))), (5, .int (nI j)), (6, .int (nI ((b + n_p v r + j) % n_c v r))), (7, .int (nI i))] := hl
        have hP : va_P (dC, dI) vwCl [(oN, .inr (1, [.ref oS, .ref rp, .ref rt, .ref rl])), (oS, .inr (3, [.ref rv, .ref rs, .int cnt])), (rv, .inl (cI, 385, .inl v)), (rp, .inl (cI, 72, .inl g))] H := hP
        have hD : va_D A [(oN, .inr (1, [.ref oS, .ref rp, .ref rt, .ref rl])), (oS, .inr (3, [.ref rv, .ref rs, .int cnt])), (rv, .inl (cI, 385, .inl v)), (rp, .inl (cI, 72, .inl g))] := hD
        refine lv_iload hx hb dX1_press_79 (lv_at hl 7 rfl) ?_
        refine lv_bipush (v := 6) hx hb dX1_press_81 (by decide) ?_
        refine lv_icmp_ge (tgt := 123) hx hb dX1_press_83 (by decide) (fun c_12 => ?_) (fun c_12 => ?_)
        · skip
          have c_12 := kq_leN (a := 6) (b := i) c_12 (by omega) (by omega)
          refine lv_iinc (v := nI (j + 1)) (lv' := [(5, .int (nI (j + 1))), (0, .ref oN), (1, .int (nI b)), (2, .int (nI r)), (3, .int (nI (b + n_p v r))), (4, .int (nI (n_c v r))), (6, .int (nI ((b + n_p v r + j) % n_c v r))), (7, .int (nI i))]) hx hb dX1_press_123 hl (k := 5) rfl (nI_1 j) (by decide) rfl (fun ls hl => ?_)
          refine lv_goto (tgt := 58) hx hb dX1_press_126 (by decide) ?_
          exact ih_7 (j + 1) g ⟨(by omega), (by intro k hk; rw [ig k hk]; by_cases hc : k % 12 < j + 1; rw [if_pos hc, if_pos (by omega)]; rw [if_neg hc, if_neg (by omega)])⟩ (by show 12 - (j + 1) < 12 - j; omega) _ _ hP hD hS _ (lv_sub hl [1, 2, 3, 4, 5, 0] rfl)
        · skip
          have c_12 := kq_nleN (a := 6) (b := i) c_12 (by omega) (by omega)
          refine lv_aload_n hx hb dX1_press_86 rfl (lv_at hl 0 rfl) ?_
          refine va_get (D := (dC, dI)) (ci := 1) (v := .ref rp) (C := RX1) (T := TX1) (N := 4) hx hb hts (by decide +kernel) hown hK.1 hP 0 rfl rfl 1 (by decide) (hts (.fieldLink RX1 9 "NoteWatermarks$Note" "pressures" "[I") (by decide +kernel)) (fun _ h9 => h9) rfl dX1_press_87 ?_
          refine lv_iload hx hb dX1_press_90 (lv_at hl 7 rfl) ?_
          refine lv_bipush (v := 12) hx hb dX1_press_92 (by decide) ?_
          refine lv_imul hx hb dX1_press_94 ?_
          refine kq_top (z := nI (i * 12)) (pk_mul i 12) ?_
          refine lv_iload hx hb dX1_press_95 (lv_at hl 5 rfl) ?_
          refine lv_iadd hx hb dX1_press_97 ?_
          refine kq_top (z := nI ((i * 12) + j)) (nI_add (i * 12) j) ?_
          refine lv_dup2_11 hx hb dX1_press_98 rfl rfl ?_
          refine va_iald hx hb hK.1 hP 3 0 rfl rfl (vp_in_nI (show (i * 12) + j < 72 from by omega) (by omega)) dX1_press_99 ?_
          refine kq_top (z := g ((i * 12) + j)) (congrArg g (nI_clamp (Nat.lt_trans (show (i * 12) + j < 72 from by omega) (by omega)))) ?_
          refine lv_aload_n hx hb dX1_press_100 rfl (lv_at hl 0 rfl) ?_
          refine va_get (D := (dC, dI)) (ci := 1) (v := .ref oS) (C := RX1) (T := TX1) (N := 4) hx hb hts (by decide +kernel) hown hK.1 hP 0 rfl rfl 0 (by decide) (hts (.fieldLink RX1 21 "NoteWatermarks$Note" "state" "LNoteWatermarks$State;") (by decide +kernel)) (fun _ h9 => h9) rfl dX1_press_101 ?_
          refine lv_iload_n hx hb dX1_press_104 rfl (lv_at hl 2 rfl) ?_
          refine lv_iload hx hb dX1_press_105 (lv_at hl 7 rfl) ?_
          refine lv_iload hx hb dX1_press_107 (lv_at hl 6 rfl) ?_
          refine kq_cS (As := [.int (nI r), .int (nI i), .int (nI ((b + n_p v r + j) % n_c v r))]) (rest := [.ref oS, .int (g ((i * 12) + j)), .int (nI ((i * 12) + j)), .ref rp]) ⟨hx, hb, hml, hown, hts⟩ (c_X3_wirePlace l dC dI cI r i ((b + n_p v r + j) % n_c v r) ) (va_cwS 3 hts gX1_press_X3_wirePlace rfl rfl rfl (by decide +kernel) ⟨Nat.le_of_ble_eq_true rfl, Nat.le_of_ble_eq_true rfl⟩) (hP.sub [] rfl) hK rfl hl.1 rfl (Nat.le_of_ble_eq_true rfl) dX1_press_109 ⟨Nat.le_of_ble_eq_true rfl, Nat.le_of_ble_eq_true rfl⟩ ?_
          refine kq_cV (As := [.int (nI ((r * 6 + i) * 16 + ((b + n_p v r + j) % n_c v r)))]) (rest := [.int (g ((i * 12) + j)), .int (nI ((i * 12) + j)), .ref rp]) ⟨hx, hb, hml, hown, hts⟩ (c_X3_at l dC dI cI oS rv rs cnt v ((r * 6 + i) * 16 + ((b + n_p v r + j) % n_c v r)) (by first | assumption | omega)) (cwV 1 hts gX1_press_X3_at rfl rfl rfl (by decide +kernel) ⟨Nat.le_of_ble_eq_true rfl, Nat.le_of_ble_eq_true rfl⟩) (hP.sub [1, 2] rfl) hK (ci := 3) (q0 := 0) rfl rfl rfl rfl hl.1 rfl (Nat.le_of_ble_eq_true rfl) dX1_press_112 ⟨Nat.le_of_ble_eq_true rfl, Nat.le_of_ble_eq_true rfl⟩ ?_
          refine lv_iadd hx hb dX1_press_115 ?_
          refine va_iast hx hb hK.1 hP hD hS 3 0 rfl rfl (vp_in_nI (show (i * 12) + j < 72 from by omega) (by omega)) dX1_press_116 (fun H locs hP hD hS => ?_)
          rw [nI_clamp (Nat.lt_trans (show (i * 12) + j < 72 from by omega) (by omega))] at hP hD
          have hP : va_P (dC, dI) vwCl [(oN, .inr (1, [.ref oS, .ref rp, .ref rt, .ref rl])), (oS, .inr (3, [.ref rv, .ref rs, .int cnt])), (rv, .inl (cI, 385, .inl v)), (rp, .inl (cI, 72, .inl (upd g ((i * 12) + j) ((g ((i * 12) + j)) + (v ((r * 6 + i) * 16 + ((b + n_p v r + j) % n_c v r)))))))] H := hP
          have hD : va_D A [(oN, .inr (1, [.ref oS, .ref rp, .ref rt, .ref rl])), (oS, .inr (3, [.ref rv, .ref rs, .int cnt])), (rv, .inl (cI, 385, .inl v)), (rp, .inl (cI, 72, .inl (upd g ((i * 12) + j) ((g ((i * 12) + j)) + (v ((r * 6 + i) * 16 + ((b + n_p v r + j) % n_c v r)))))))] := hD
          refine lv_iinc (v := nI (i + 1)) (lv' := [(7, .int (nI (i + 1))), (0, .ref oN), (1, .int (nI b)), (2, .int (nI r)), (3, .int (nI (b + n_p v r))), (4, .int (nI (n_c v r))), (5, .int (nI j)), (6, .int (nI ((b + n_p v r + j) % n_c v r)))]) hx hb dX1_press_117 hl (k := 7) rfl (nI_1 i) (by decide) rfl (fun ls hl => ?_)
          refine lv_goto (tgt := 79) hx hb dX1_press_120 (by decide) ?_
          exact ih_10 (i + 1) (upd g ((i * 12) + j) ((g ((i * 12) + j)) + (v ((r * 6 + i) * 16 + ((b + n_p v r + j) % n_c v r))))) ⟨(by omega), (by intro k hk; by_cases hkk : k = i * 12 + j; subst hkk; rw [pk_us, ig _ hk, if_neg (by omega), if_pos (by omega)]; simp only [n_sum, n_wr, n_col]; rw [show (i * 12 + j) % 12 = j by omega, show (i * 12 + j) / 12 = i by omega, Nat.add_right_comm b j]; rw [pk_un hkk, ig k hk]; by_cases hc : k % 12 < j ∨ (k % 12 = j ∧ k / 12 < i); rw [if_pos hc, if_pos (by omega)]; rw [if_neg hc, if_neg (by omega)])⟩ (by show 6 - (i + 1) < 6 - i; omega) _ _ hP hD hS _ (lv_sub hl [1, 2, 3, 4, 5, 6, 7, 0] rfl)
  · skip
    have c_3 := kq_nleN (a := 72) (b := k) c_3 (by omega) (by omega)
    refine lv_aload_n hx hb dX1_press_8 rfl (lv_at hl 0 rfl) ?_
    refine va_get (D := (dC, dI)) (ci := 1) (v := .ref rp) (C := RX1) (T := TX1) (N := 4) hx hb hts (by decide +kernel) hown hK.1 hP 0 rfl rfl 1 (by decide) (hts (.fieldLink RX1 9 "NoteWatermarks$Note" "pressures" "[I") (by decide +kernel)) (fun _ h9 => h9) rfl dX1_press_9 ?_
    refine lv_iload_n hx hb dX1_press_12 rfl (lv_at hl 2 rfl) ?_
    refine lv_iconst (v := 0) hx hb dX1_press_13 (by decide) ?_
    refine va_iast hx hb hK.1 hP hD hS 3 0 rfl rfl (vp_in_nI (show k < 72 from by omega) (by omega)) dX1_press_14 (fun H locs hP hD hS => ?_)
    rw [nI_clamp (Nat.lt_trans (show k < 72 from by omega) (by omega))] at hP hD
    have hP : va_P (dC, dI) vwCl [(oN, .inr (1, [.ref oS, .ref rp, .ref rt, .ref rl])), (oS, .inr (3, [.ref rv, .ref rs, .int cnt])), (rv, .inl (cI, 385, .inl v)), (rp, .inl (cI, 72, .inl (upd g k 0)))] H := hP
    have hD : va_D A [(oN, .inr (1, [.ref oS, .ref rp, .ref rt, .ref rl])), (oS, .inr (3, [.ref rv, .ref rs, .int cnt])), (rv, .inl (cI, 385, .inl v)), (rp, .inl (cI, 72, .inl (upd g k 0)))] := hD
    refine lv_iinc (v := nI (k + 1)) (lv' := [(2, .int (nI (k + 1))), (0, .ref oN), (1, .int (nI b))]) hx hb dX1_press_15 hl (k := 2) rfl (nI_1 k) (by decide) rfl (fun ls hl => ?_)
    refine lv_goto (tgt := 2) hx hb dX1_press_18 (by decide) ?_
    exact ih_1 (k + 1) (upd g k 0) ⟨(by omega), (by intro j hj; by_cases q : j = k; subst q; exact pk_us; rw [pk_un q]; exact ig j (by omega))⟩ (by show 72 - (k + 1) < 72 - k; omega) _ _ hP hD hS _ (lv_sub hl [1, 2, 0] rfl)
set_option maxHeartbeats 4000000 in
set_option maxRecDepth 100000 in
theorem c_X1_look (l : Launch) (dC : Nat → ClassId) (dI : Nat → Nat → Nat) (cI : ClassId) (sz : Nat) (oN : Nat) (oS : Nat) (rv : Nat) (rs : Nat) (rp : Nat) (rt : Nat) (rl : Nat) (cnt : Int32) (v : Nat → Int32) (fp : Nat → Int32) (ft : Nat → Int32) (fl : Nat → Int32) (n : Nat) (hI : n_I v) (hn : n < 1000) : Met l yX1_look wsX1_look ({ frames := 2, cells := 0, slots := 0, locals := 49 }) (kq_M dC dI cI [.ref oN, .int (nI n)] sz [(oN, .inr (1, [.ref oS, .ref rp, .ref rt, .ref rl])), (oS, .inr (3, [.ref rv, .ref rs, .int cnt])), (rv, .inl (cI, 385, .inl v)), (rp, .inl (cI, 72, .inl fp)), (rt, .inl (cI, 72, .inl ft)), (rl, .inl (cI, 72, .inl fl))]) (va_Qv (fun (u : (Nat → Int32) × (Nat → Int32) × (Nat → Int32)) => ∀ k, k < 72 → u.1 k = n_pr v (n_x v n (k % 12)) (k / 12) ∧ u.2.1 k = n_to v n (k / 12) (k % 12) ∧ u.2.2 k = n_li v n (k / 12) (k % 12)) (kq_B dC dI (va_A [(oN, .inr (1, [.ref oS, .ref rp, .ref rt, .ref rl])), (oS, .inr (3, [.ref rv, .ref rs, .int cnt])), (rv, .inl (cI, 385, .inl v)), (rp, .inl (cI, 72, .inl fp)), (rt, .inl (cI, 72, .inl ft)), (rl, .inl (cI, 72, .inl fl))] sz) (fun u : (Nat → Int32) × (Nat → Int32) × (Nat → Int32) => [(oN, .inr (1, [.ref oS, .ref rp, .ref rt, .ref rl])), (oS, .inr (3, [.ref rv, .ref rs, .int cnt])), (rv, .inl (cI, 385, .inl v)), (rp, .inl (cI, 72, .inl u.1)), (rt, .inl (cI, 72, .inl u.2.1)), (rl, .inl (cI, 72, .inl u.2.2))])) (va_A [(oN, .inr (1, [.ref oS, .ref rp, .ref rt, .ref rl])), (oS, .inr (3, [.ref rv, .ref rs, .int cnt])), (rv, .inl (cI, 385, .inl v)), (rp, .inl (cI, 72, .inl fp)), (rt, .inl (cI, 72, .inl ft)), (rl, .inl (cI, 72, .inl fl))] sz)) 0 0 (va_A [(oN, .inr (1, [.ref oS, .ref rp, .ref rt, .ref rl])), (oS, .inr (3, [.ref rv, .ref rs, .int cnt])), (rv, .inl (cI, 385, .inl v)), (rp, .inl (cI, 72, .inl fp)), (rt, .inl (cI, 72, .inl ft)), (rl, .inl (cI, 72, .inl fl))] sz) := by
  refine kq_startM (cc := cX1_look) (maxL := 4) (ret := none) (by decide) rfl (Nat.le_of_ble_eq_true rfl) ?_
  intro p e s m below meth c hx hb hr hml hown hlocks hts hsz hA hP hD hS hK hnm ls hl
  subst hsz
  generalize hAe : va_A [(oN, .inr (1, [.ref oS, .ref rp, .ref rt, .ref rl])), (oS, .inr (3, [.ref rv, .ref rs, .int cnt])), (rv, .inl (cI, 385, .inl v)), (rp, .inl (cI, 72, .inl fp)), (rt, .inl (cI, 72, .inl ft)), (rl, .inl (cI, 72, .inl fl))] s.heap.size = A at hA hD hS ⊢
  have hown : s.vm.findClass RX1 = some m.cls := hown
  have hl : lv_has ls 4 [(0, .ref oN), (1, .int (nI n))] := hl
  obtain ⟨hs0, hs1, hs2, hs3, hs4, hs5, hs6, hs7⟩ := n_I_s hI
  have hnm : n * n_s v 1 ≤ 999 * 30 := Nat.mul_le_mul (by omega) (by omega)
  refine lv_aload_n hx hb dX1_look_0 rfl (lv_at hl 0 rfl) ?_
  refine lv_aload_n hx hb dX1_look_1 rfl (lv_at hl 0 rfl) ?_
  refine va_get (D := (dC, dI)) (ci := 1) (v := .ref oS) (C := RX1) (T := TX1) (N := 4) hx hb hts (by decide +kernel) hown hK.1 hP 0 rfl rfl 0 (by decide) (hts (.fieldLink RX1 21 "NoteWatermarks$Note" "state" "LNoteWatermarks$State;") (by decide +kernel)) (fun _ h9 => h9) rfl dX1_look_2 ?_
  refine lv_iconst (v := 0) hx hb dX1_look_5 (by decide) ?_
  refine kq_cS (As := [.int 0]) (rest := [.ref oS, .ref oN]) ⟨hx, hb, hml, hown, hts⟩ (c_X3_settingPlace l dC dI cI 0 ) (va_cwS 1 hts gX1_look_X3_settingPlace rfl rfl rfl (by decide +kernel) ⟨Nat.le_of_ble_eq_true rfl, Nat.le_of_ble_eq_true rfl⟩) (hP.sub [] rfl) hK rfl hl.1 rfl (Nat.le_of_ble_eq_true rfl) dX1_look_6 ⟨Nat.le_of_ble_eq_true rfl, Nat.le_of_ble_eq_true rfl⟩ ?_
  refine kq_cV (As := [.int (nI (382 + 0))]) (rest := [.ref oN]) ⟨hx, hb, hml, hown, hts⟩ (c_X3_at l dC dI cI oS rv rs cnt v (382 + 0) (by first | assumption | omega)) (cwV 1 hts gX1_look_X3_at rfl rfl rfl (by decide +kernel) ⟨Nat.le_of_ble_eq_true rfl, Nat.le_of_ble_eq_true rfl⟩) (hP.sub [1, 2] rfl) hK (ci := 3) (q0 := 0) rfl rfl rfl rfl hl.1 rfl (Nat.le_of_ble_eq_true rfl) dX1_look_9 ⟨Nat.le_of_ble_eq_true rfl, Nat.le_of_ble_eq_true rfl⟩ ?_
  refine kq_top (z := nI (n_s v 0)) ((n_I_s hI).1) ?_
  refine lv_iload_n hx hb dX1_look_12 rfl (lv_at hl 1 rfl) ?_
  refine lv_aload_n hx hb dX1_look_13 rfl (lv_at hl 0 rfl) ?_
  refine va_get (D := (dC, dI)) (ci := 1) (v := .ref oS) (C := RX1) (T := TX1) (N := 4) hx hb hts (by decide +kernel) hown hK.1 hP 0 rfl rfl 0 (by decide) (hts (.fieldLink RX1 21 "NoteWatermarks$Note" "state" "LNoteWatermarks$State;") (by decide +kernel)) (fun _ h9 => h9) rfl dX1_look_14 ?_
  refine lv_iconst (v := 1) hx hb dX1_look_17 (by decide) ?_
  refine kq_cS (As := [.int 1]) (rest := [.ref oS, .int (nI n), .int (nI (n_s v 0)), .ref oN]) ⟨hx, hb, hml, hown, hts⟩ (c_X3_settingPlace l dC dI cI 1 ) (va_cwS 1 hts gX1_look_X3_settingPlace rfl rfl rfl (by decide +kernel) ⟨Nat.le_of_ble_eq_true rfl, Nat.le_of_ble_eq_true rfl⟩) (hP.sub [] rfl) hK rfl hl.1 rfl (Nat.le_of_ble_eq_true rfl) dX1_look_18 ⟨Nat.le_of_ble_eq_true rfl, Nat.le_of_ble_eq_true rfl⟩ ?_
  refine kq_cV (As := [.int (nI (382 + 1))]) (rest := [.int (nI n), .int (nI (n_s v 0)), .ref oN]) ⟨hx, hb, hml, hown, hts⟩ (c_X3_at l dC dI cI oS rv rs cnt v (382 + 1) (by first | assumption | omega)) (cwV 1 hts gX1_look_X3_at rfl rfl rfl (by decide +kernel) ⟨Nat.le_of_ble_eq_true rfl, Nat.le_of_ble_eq_true rfl⟩) (hP.sub [1, 2] rfl) hK (ci := 3) (q0 := 0) rfl rfl rfl rfl hl.1 rfl (Nat.le_of_ble_eq_true rfl) dX1_look_21 ⟨Nat.le_of_ble_eq_true rfl, Nat.le_of_ble_eq_true rfl⟩ ?_
  refine kq_top (z := nI (n_s v 1)) ((n_I_s hI).2.2.1) ?_
  refine lv_imul hx hb dX1_look_24 ?_
  refine kq_top (z := nI (n * (n_s v 1))) (pk_mul n (n_s v 1)) ?_
  refine lv_iadd hx hb dX1_look_25 ?_
  refine kq_top (z := nI ((n_s v 0) + (n * (n_s v 1)))) (nI_add (n_s v 0) (n * (n_s v 1))) ?_
  refine kq_callMv (wr := [(rt, .inl (cI, 72, .inl ft)), (rl, .inl (cI, 72, .inl fl))]) (va_runV (As := [.int (nI ((n_s v 0) + (n * (n_s v 1))))]) (rest := []) ⟨hx, hb, hml, hown, hts⟩ (c_X1_press l dC dI cI s.heap.size oN oS rv rs rp rt rl cnt v fp ((n_s v 0) + (n * (n_s v 1))) (by first | assumption | omega) (by first | assumption | omega)) (cwV 1 hts gX1_look_X1_press rfl rfl rfl (by decide +kernel) ⟨Nat.le_of_ble_eq_true rfl, Nat.le_of_ble_eq_true rfl⟩) (kq_preV (ci := 1) (q0 := 0) (hP.sub [0, 1, 2, 3] rfl) (hD.sub [0, 1, 2, 3] (by decide) rfl) hK rfl rfl) rfl rfl hl.1 rfl (lv_room (Nat.le_of_ble_eq_true rfl)) dX1_look_26 ⟨Nat.le_of_ble_eq_true rfl, Nat.le_of_ble_eq_true rfl⟩) hP hD hS hA [0, 1, 2, 3] [4, 5] rfl rfl (by decide) (by decide) (fun u_2 H locs hw_3 hP hD hS => ?_)
  obtain ⟨gp_4, rfl⟩ : ∃ z, z = u_2 := ⟨_, rfl⟩
  have hP : va_P (dC, dI) vwCl [(rt, .inl (cI, 72, .inl ft)), (rl, .inl (cI, 72, .inl fl)), (oN, .inr (1, [.ref oS, .ref rp, .ref rt, .ref rl])), (oS, .inr (3, [.ref rv, .ref rs, .int cnt])), (rv, .inl (cI, 385, .inl v)), (rp, .inl (cI, 72, .inl gp_4))] H := hP
  have hD : va_D A [(rt, .inl (cI, 72, .inl ft)), (rl, .inl (cI, 72, .inl fl)), (oN, .inr (1, [.ref oS, .ref rp, .ref rt, .ref rl])), (oS, .inr (3, [.ref rv, .ref rs, .int cnt])), (rv, .inl (cI, 385, .inl v)), (rp, .inl (cI, 72, .inl gp_4))] := hD
  have hgp := hw_3
  refine lv_iconst (v := 0) hx hb dX1_look_29 (by decide) ?_
  refine lv_istore_n (lv' := [(2, .int 0), (0, .ref oN), (1, .int (nI n))]) hx hb dX1_look_30 rfl hl (by decide) rfl (fun ls hl => ?_)
  refine kq_loopM3 (A1 := Nat) (A2 := Nat → Int32) (A3 := Nat → Int32) (fun (k : Nat) (g1 : Nat → Int32) (g2 : Nat → Int32) => 72 - k) (fun (k : Nat) (g1 : Nat → Int32) (g2 : Nat → Int32) => (k ≤ 72) ∧ (∀ j, j < k → g1 j = n_to v n (j / 12) (j % 12) ∧ g2 j = n_li v n (j / 12) (j % 12))) (fun (k : Nat) (g1 : Nat → Int32) (g2 : Nat → Int32) => [(0, .ref oN), (1, .int (nI n)), (2, .int (nI k))]) (fun (k : Nat) (g1 : Nat → Int32) (g2 : Nat → Int32) => [(rt, .inl (cI, 72, .inl g1)), (rl, .inl (cI, 72, .inl g2)), (oN, .inr (1, [.ref oS, .ref rp, .ref rt, .ref rl])), (oS, .inr (3, [.ref rv, .ref rs, .int cnt])), (rv, .inl (cI, 385, .inl v)), (rp, .inl (cI, 72, .inl gp_4))]) (nL := 4) hK ?_ 0 ft fl ⟨(by omega), (by intro j hj; omega)⟩ hP hD hS _ (lv_sub hl [1, 2, 0] rfl)
  intro k g1 g2 hi_6 ih_5 H locs hP hD hS ls hl
  obtain ⟨ik, ig⟩ := hi_6
  have hl : lv_has ls 4 [(0, .ref oN), (1, .int (nI n)), (2, .int (nI k))] := hl
  have hP : va_P (dC, dI) vwCl [(rt, .inl (cI, 72, .inl g1)), (rl, .inl (cI, 72, .inl g2)), (oN, .inr (1, [.ref oS, .ref rp, .ref rt, .ref rl])), (oS, .inr (3, [.ref rv, .ref rs, .int cnt])), (rv, .inl (cI, 385, .inl v)), (rp, .inl (cI, 72, .inl gp_4))] H := hP
  have hD : va_D A [(rt, .inl (cI, 72, .inl g1)), (rl, .inl (cI, 72, .inl g2)), (oN, .inr (1, [.ref oS, .ref rp, .ref rt, .ref rl])), (oS, .inr (3, [.ref rv, .ref rs, .int cnt])), (rv, .inl (cI, 385, .inl v)), (rp, .inl (cI, 72, .inl gp_4))] := hD
  refine lv_iload_n hx hb dX1_look_31 rfl (lv_at hl 2 rfl) ?_
  refine lv_bipush (v := 72) hx hb dX1_look_32 (by decide) ?_
  refine lv_icmp_ge (tgt := 95) hx hb dX1_look_34 (by decide) (fun c_7 => ?_) (fun c_7 => ?_)
  · skip
    have c_7 := kq_leN (a := 72) (b := k) c_7 (by omega) (by omega)
    exact kq_retMv (gp_4, g1, g2) hx hb hr hlocks (hP.sub [2, 3, 4, 5, 0, 1] rfl) (hD.sub [2, 3, 4, 5, 0, 1] (by decide) rfl) hS dX1_look_95 (by intro k hk; exact ⟨hgp k hk, (ig k (by omega)).1, (ig k (by omega)).2⟩)
  · skip
    have c_7 := kq_nleN (a := 72) (b := k) c_7 (by omega) (by omega)
    refine lv_iconst (v := 0) hx hb dX1_look_37 (by decide) ?_
    refine lv_bipush (v := 19) hx hb dX1_look_38 (by decide) ?_
    refine lv_bipush (v := 10) hx hb dX1_look_40 (by decide) ?_
    refine lv_aload_n hx hb dX1_look_42 rfl (lv_at hl 0 rfl) ?_
    refine va_get (D := (dC, dI)) (ci := 1) (v := .ref rp) (C := RX1) (T := TX1) (N := 4) hx hb hts (by decide +kernel) hown hK.1 hP 2 rfl rfl 1 (by decide) (hts (.fieldLink RX1 9 "NoteWatermarks$Note" "pressures" "[I") (by decide +kernel)) (fun _ h9 => h9) rfl dX1_look_43 ?_
    refine lv_iload_n hx hb dX1_look_46 rfl (lv_at hl 2 rfl) ?_
    refine va_iald hx hb hK.1 hP 5 0 rfl rfl (vp_in_nI (show k < 72 from by omega) (by omega)) dX1_look_47 ?_
    refine kq_top (z := gp_4 k) (congrArg gp_4 (nI_clamp (Nat.lt_trans (show k < 72 from by omega) (by omega)))) ?_
    refine lv_iadd hx hb dX1_look_48 ?_
    refine va_mmin hx hb (hml.trans hl.1.symm) hown (hts (.methodLink RX1 38 Lib.Math.min.name) (by decide +kernel)) (hts (.static Lib.Math.min.name) (by decide +kernel)) (hts (.initialized "java/lang/Math") (by decide +kernel)) (hts (.code Lib.Math.min.name Lib.Math.min.code 2 (some .int)) (by decide +kernel)) (Nat.le_of_ble_eq_true rfl) (Nat.le_of_ble_eq_true rfl) (Nat.le_of_ble_eq_true rfl) (Nat.le_of_ble_eq_true rfl) dX1_look_49 ?_
    refine va_mmax hx hb (hml.trans hl.1.symm) hown (hts (.methodLink RX1 44 Lib.Math.max.name) (by decide +kernel)) (hts (.static Lib.Math.max.name) (by decide +kernel)) (hts (.initialized "java/lang/Math") (by decide +kernel)) (hts (.code Lib.Math.max.name Lib.Math.max.code 2 (some .int)) (by decide +kernel)) (Nat.le_of_ble_eq_true rfl) (Nat.le_of_ble_eq_true rfl) (Nat.le_of_ble_eq_true rfl) (Nat.le_of_ble_eq_true rfl) dX1_look_52 ?_
    refine kq_top (z := n_tn (gp_4 k)) (rfl) ?_
    refine lv_istore_n (lv' := [(3, .int (n_tn (gp_4 k))), (0, .ref oN), (1, .int (nI n)), (2, .int (nI k))]) hx hb dX1_look_55 rfl hl (by decide) rfl (fun ls hl => ?_)
    refine lv_aload_n hx hb dX1_look_56 rfl (lv_at hl 1 rfl) ?_
    refine va_get (D := (dC, dI)) (ci := 1) (v := .ref rt) (C := RX1) (T := TX1) (N := 4) hx hb hts (by decide +kernel) hown hK.1 hP 2 rfl rfl 2 (by decide) (hts (.fieldLink RX1 15 "NoteWatermarks$Note" "tones" "[I") (by decide +kernel)) (fun _ h9 => h9) rfl dX1_look_57 ?_
    refine lv_iload_n hx hb dX1_look_60 rfl (lv_at hl 3 rfl) ?_
    refine lv_iload_n hx hb dX1_look_61 rfl (lv_at hl 0 rfl) ?_
    refine va_iast hx hb hK.1 hP hD hS 0 0 rfl rfl (vp_in_nI (show k < 72 from by omega) (by omega)) dX1_look_62 (fun H locs hP hD hS => ?_)
    rw [nI_clamp (Nat.lt_trans (show k < 72 from by omega) (by omega))] at hP hD
    have hP : va_P (dC, dI) vwCl [(rt, .inl (cI, 72, .inl (upd g1 k (n_tn (gp_4 k))))), (rl, .inl (cI, 72, .inl g2)), (oN, .inr (1, [.ref oS, .ref rp, .ref rt, .ref rl])), (oS, .inr (3, [.ref rv, .ref rs, .int cnt])), (rv, .inl (cI, 385, .inl v)), (rp, .inl (cI, 72, .inl gp_4))] H := hP
    have hD : va_D A [(rt, .inl (cI, 72, .inl (upd g1 k (n_tn (gp_4 k))))), (rl, .inl (cI, 72, .inl g2)), (oN, .inr (1, [.ref oS, .ref rp, .ref rt, .ref rl])), (oS, .inr (3, [.ref rv, .ref rs, .int cnt])), (rv, .inl (cI, 385, .inl v)), (rp, .inl (cI, 72, .inl gp_4))] := hD
    refine lv_aload_n hx hb dX1_look_63 rfl (lv_at hl 1 rfl) ?_
    refine va_get (D := (dC, dI)) (ci := 1) (v := .ref rl) (C := RX1) (T := TX1) (N := 4) hx hb hts (by decide +kernel) hown hK.1 hP 2 rfl rfl 3 (by decide) (hts (.fieldLink RX1 18 "NoteWatermarks$Note" "lights" "[I") (by decide +kernel)) (fun _ h9 => h9) rfl dX1_look_64 ?_
    refine lv_iload_n hx hb dX1_look_67 rfl (lv_at hl 3 rfl) ?_
    refine lv_iload_n hx hb dX1_look_68 rfl (lv_at hl 0 rfl) ?_
    refine lv_aload_n hx hb dX1_look_69 rfl (lv_at hl 1 rfl) ?_
    refine va_get (D := (dC, dI)) (ci := 1) (v := .ref oS) (C := RX1) (T := TX1) (N := 4) hx hb hts (by decide +kernel) hown hK.1 hP 2 rfl rfl 0 (by decide) (hts (.fieldLink RX1 21 "NoteWatermarks$Note" "state" "LNoteWatermarks$State;") (by decide +kernel)) (fun _ h9 => h9) rfl dX1_look_70 ?_
    refine lv_iload_n hx hb dX1_look_73 rfl (lv_at hl 3 rfl) ?_
    refine lv_bipush (v := 12) hx hb dX1_look_74 (by decide) ?_
    refine lv_idiv hx hb dX1_look_76 (nI_ne0 (n := 12) (by omega) (by omega)) ?_
    refine kq_top (z := nI (k / 12)) (pk_div (a := k) (d := 12) (by omega) (by omega) (by omega)) ?_
    refine lv_iload_n hx hb dX1_look_77 rfl (lv_at hl 3 rfl) ?_
    refine lv_bipush (v := 12) hx hb dX1_look_78 (by decide) ?_
    refine lv_irem hx hb dX1_look_80 (nI_ne0 (n := 12) (by omega) (by omega)) ?_
    refine kq_top (z := nI (k % 12)) (pk_rem (a := k) (d := 12) (by omega) (by omega) (by omega)) ?_
    refine kq_cS (As := [.int (nI (k / 12)), .int (nI (k % 12))]) (rest := [.ref oS, .int (n_tn (gp_4 k)), .int (nI k), .ref rl]) ⟨hx, hb, hml, hown, hts⟩ (c_X3_inkPlace l dC dI cI (k / 12) (k % 12) ) (va_cwS 2 hts gX1_look_X3_inkPlace rfl rfl rfl (by decide +kernel) ⟨Nat.le_of_ble_eq_true rfl, Nat.le_of_ble_eq_true rfl⟩) (hP.sub [] rfl) hK rfl hl.1 rfl (Nat.le_of_ble_eq_true rfl) dX1_look_81 ⟨Nat.le_of_ble_eq_true rfl, Nat.le_of_ble_eq_true rfl⟩ ?_
    refine kq_cV (As := [.int (nI (294 + (k / 12) * 12 + (k % 12)))]) (rest := [.int (n_tn (gp_4 k)), .int (nI k), .ref rl]) ⟨hx, hb, hml, hown, hts⟩ (c_X3_at l dC dI cI oS rv rs cnt v (294 + (k / 12) * 12 + (k % 12)) (by first | assumption | omega)) (cwV 1 hts gX1_look_X3_at rfl rfl rfl (by decide +kernel) ⟨Nat.le_of_ble_eq_true rfl, Nat.le_of_ble_eq_true rfl⟩) (hP.sub [3, 4] rfl) hK (ci := 3) (q0 := 0) rfl rfl rfl rfl hl.1 rfl (Nat.le_of_ble_eq_true rfl) dX1_look_84 ⟨Nat.le_of_ble_eq_true rfl, Nat.le_of_ble_eq_true rfl⟩ ?_
    refine lv_isub hx hb dX1_look_87 ?_
    refine va_iast hx hb hK.1 hP hD hS 1 0 rfl rfl (vp_in_nI (show k < 72 from by omega) (by omega)) dX1_look_88 (fun H locs hP hD hS => ?_)
    rw [nI_clamp (Nat.lt_trans (show k < 72 from by omega) (by omega))] at hP hD
    have hP : va_P (dC, dI) vwCl [(rt, .inl (cI, 72, .inl (upd g1 k (n_tn (gp_4 k))))), (rl, .inl (cI, 72, .inl (upd g2 k ((n_tn (gp_4 k)) - (v (294 + (k / 12) * 12 + (k % 12))))))), (oN, .inr (1, [.ref oS, .ref rp, .ref rt, .ref rl])), (oS, .inr (3, [.ref rv, .ref rs, .int cnt])), (rv, .inl (cI, 385, .inl v)), (rp, .inl (cI, 72, .inl gp_4))] H := hP
    have hD : va_D A [(rt, .inl (cI, 72, .inl (upd g1 k (n_tn (gp_4 k))))), (rl, .inl (cI, 72, .inl (upd g2 k ((n_tn (gp_4 k)) - (v (294 + (k / 12) * 12 + (k % 12))))))), (oN, .inr (1, [.ref oS, .ref rp, .ref rt, .ref rl])), (oS, .inr (3, [.ref rv, .ref rs, .int cnt])), (rv, .inl (cI, 385, .inl v)), (rp, .inl (cI, 72, .inl gp_4))] := hD
    refine lv_iinc (v := nI (k + 1)) (lv' := [(2, .int (nI (k + 1))), (3, .int (n_tn (gp_4 k))), (0, .ref oN), (1, .int (nI n))]) hx hb dX1_look_89 hl (k := 3) rfl (nI_1 k) (by decide) rfl (fun ls hl => ?_)
    refine lv_goto (tgt := 31) hx hb dX1_look_92 (by decide) ?_
    exact ih_5 (k + 1) (upd g1 k (n_tn (gp_4 k))) (upd g2 k ((n_tn (gp_4 k)) - (v (294 + (k / 12) * 12 + (k % 12))))) ⟨(by omega), (by intro j hj; by_cases q : j = k; subst q; rw [pk_us, pk_us, hgp j (by omega)]; exact ⟨rfl, rfl⟩; rw [pk_un q, pk_un q]; exact ig j (by omega))⟩ (by show 72 - (k + 1) < 72 - k; omega) _ _ hP hD hS _ (lv_sub hl [2, 3, 0] rfl)
set_option maxHeartbeats 4000000 in
set_option maxRecDepth 100000 in
theorem c_X1_pressureAt (l : Launch) (dC : Nat → ClassId) (dI : Nat → Nat → Nat) (cI : ClassId) (oN : Nat) (oS : Nat) (rp : Nat) (rt : Nat) (rl : Nat) (fp : Nat → Int32) (a : Nat) (b : Nat) (ha : a < 6) (hb9 : b < 12) : Met l yX1_pressureAt wsX1_pressureAt ({ frames := 1, cells := 0, slots := 0, locals := 21 }) (kq_R dC dI cI [.ref oN, .int (nI a), .int (nI b)] [(oN, .inr (1, [.ref oS, .ref rp, .ref rt, .ref rl])), (rp, .inl (cI, 72, .inl fp))]) (QcRead (fp (a * 12 + b))) 0 0 (fun _ => False) := by
  refine kq_start (cc := cX1_pressureAt) (maxL := 4) (ret := (some .int)) (plainFor_of_name (by decide)) rfl (Nat.le_of_ble_eq_true rfl) ?_
  intro p e s m below meth c hx hb hr hml hown hlocks hts hP hK ls hl
  have hown : s.vm.findClass RX1 = some m.cls := hown
  have hl : lv_has ls 4 [(0, .ref oN), (1, .int (nI a)), (2, .int (nI b))] := hl
  refine lv_iload_n hx hb dX1_pressureAt_0 rfl (lv_at hl 1 rfl) ?_
  refine lv_bipush (v := 12) hx hb dX1_pressureAt_1 (by decide) ?_
  refine lv_imul hx hb dX1_pressureAt_3 ?_
  refine kq_top (z := nI (a * 12)) (pk_mul a 12) ?_
  refine lv_iload_n hx hb dX1_pressureAt_4 rfl (lv_at hl 2 rfl) ?_
  refine lv_iadd hx hb dX1_pressureAt_5 ?_
  refine kq_top (z := nI ((a * 12) + b)) (nI_add (a * 12) b) ?_
  refine lv_istore_n (lv' := [(3, .int (nI ((a * 12) + b))), (0, .ref oN), (1, .int (nI a)), (2, .int (nI b))]) hx hb dX1_pressureAt_6 rfl hl (by decide) rfl (fun ls hl => ?_)
  refine lv_iload_n hx hb dX1_pressureAt_7 rfl (lv_at hl 0 rfl) ?_
  refine lv_bipush (v := 72) hx hb dX1_pressureAt_8 (by decide) ?_
  refine kq_cN (As := [.int (nI ((a * 12) + b)), .int 72]) (rest := []) ⟨hx, hb, hml, hown, hts⟩ (c_X5_isIndex_n l dC dI cI ((a * 12) + b) 72 (by first | assumption | omega) (by first | assumption | omega)) (va_cnB (own := RX1) (host := RX5) (index := 63) (y := yX5_isIndex) 2 hts gX1_pressureAt_X5_isIndex_n63 rfl rfl rfl (hK.2 _ (by simp [kq_nest])) (hts (.initialized RX5) (by decide +kernel)) (by decide +kernel) ⟨Nat.le_of_ble_eq_true rfl, Nat.le_of_ble_eq_true rfl⟩) (hts (.static yX5_isIndex) (by decide +kernel)) (hP.sub [] rfl) hK rfl hl.1 rfl (Nat.le_of_ble_eq_true rfl) dX1_pressureAt_10 ⟨Nat.le_of_ble_eq_true rfl, Nat.le_of_ble_eq_true rfl⟩ ?_
  refine lv_if_eq (tgt := 25) hx hb dX1_pressureAt_13 (by decide) (fun c_1 => ?_) (fun c_1 => ?_)
  · skip
    have c_1 := kq_bf c_1
    exact absurd (show a * 12 + b < 72 by omega) c_1
  · skip
    have c_1 := kq_bt c_1
    refine lv_aload_n hx hb dX1_pressureAt_16 rfl (lv_at hl 1 rfl) ?_
    refine va_get (D := (dC, dI)) (ci := 1) (v := .ref rp) (C := RX1) (T := TX1) (N := 4) hx hb hts (by decide +kernel) hown hK.1 hP 0 rfl rfl 1 (by decide) (hts (.fieldLink RX1 9 "NoteWatermarks$Note" "pressures" "[I") (by decide +kernel)) (fun _ h9 => h9) rfl dX1_pressureAt_17 ?_
    refine lv_iload_n hx hb dX1_pressureAt_20 rfl (lv_at hl 0 rfl) ?_
    refine va_iald hx hb hK.1 hP 1 0 rfl rfl (vp_in_nI (show (a * 12) + b < 72 from by omega) (by omega)) dX1_pressureAt_21 ?_
    refine kq_top (z := fp ((a * 12) + b)) (congrArg fp (nI_clamp (Nat.lt_trans (show (a * 12) + b < 72 from by omega) (by omega)))) ?_
    refine lv_goto (tgt := 26) hx hb dX1_pressureAt_22 (by decide) ?_
    exact kq_ret hx hb hr hlocks dX1_pressureAt_26 (by rfl)
set_option maxHeartbeats 4000000 in
set_option maxRecDepth 100000 in
theorem c_X1_toneAt (l : Launch) (dC : Nat → ClassId) (dI : Nat → Nat → Nat) (cI : ClassId) (oN : Nat) (oS : Nat) (rp : Nat) (rt : Nat) (rl : Nat) (ft : Nat → Int32) (a : Nat) (b : Nat) (ha : a < 6) (hb9 : b < 12) : Met l yX1_toneAt wsX1_toneAt ({ frames := 1, cells := 0, slots := 0, locals := 21 }) (kq_R dC dI cI [.ref oN, .int (nI a), .int (nI b)] [(oN, .inr (1, [.ref oS, .ref rp, .ref rt, .ref rl])), (rt, .inl (cI, 72, .inl ft))]) (QcRead (ft (a * 12 + b))) 0 0 (fun _ => False) := by
  refine kq_start (cc := cX1_toneAt) (maxL := 4) (ret := (some .int)) (plainFor_of_name (by decide)) rfl (Nat.le_of_ble_eq_true rfl) ?_
  intro p e s m below meth c hx hb hr hml hown hlocks hts hP hK ls hl
  have hown : s.vm.findClass RX1 = some m.cls := hown
  have hl : lv_has ls 4 [(0, .ref oN), (1, .int (nI a)), (2, .int (nI b))] := hl
  refine lv_iload_n hx hb dX1_toneAt_0 rfl (lv_at hl 1 rfl) ?_
  refine lv_bipush (v := 12) hx hb dX1_toneAt_1 (by decide) ?_
  refine lv_imul hx hb dX1_toneAt_3 ?_
  refine kq_top (z := nI (a * 12)) (pk_mul a 12) ?_
  refine lv_iload_n hx hb dX1_toneAt_4 rfl (lv_at hl 2 rfl) ?_
  refine lv_iadd hx hb dX1_toneAt_5 ?_
  refine kq_top (z := nI ((a * 12) + b)) (nI_add (a * 12) b) ?_
  refine lv_istore_n (lv' := [(3, .int (nI ((a * 12) + b))), (0, .ref oN), (1, .int (nI a)), (2, .int (nI b))]) hx hb dX1_toneAt_6 rfl hl (by decide) rfl (fun ls hl => ?_)
  refine lv_iload_n hx hb dX1_toneAt_7 rfl (lv_at hl 0 rfl) ?_
  refine lv_bipush (v := 72) hx hb dX1_toneAt_8 (by decide) ?_
  refine kq_cN (As := [.int (nI ((a * 12) + b)), .int 72]) (rest := []) ⟨hx, hb, hml, hown, hts⟩ (c_X5_isIndex_n l dC dI cI ((a * 12) + b) 72 (by first | assumption | omega) (by first | assumption | omega)) (va_cnB (own := RX1) (host := RX5) (index := 63) (y := yX5_isIndex) 2 hts gX1_toneAt_X5_isIndex_n63 rfl rfl rfl (hK.2 _ (by simp [kq_nest])) (hts (.initialized RX5) (by decide +kernel)) (by decide +kernel) ⟨Nat.le_of_ble_eq_true rfl, Nat.le_of_ble_eq_true rfl⟩) (hts (.static yX5_isIndex) (by decide +kernel)) (hP.sub [] rfl) hK rfl hl.1 rfl (Nat.le_of_ble_eq_true rfl) dX1_toneAt_10 ⟨Nat.le_of_ble_eq_true rfl, Nat.le_of_ble_eq_true rfl⟩ ?_
  refine lv_if_eq (tgt := 25) hx hb dX1_toneAt_13 (by decide) (fun c_1 => ?_) (fun c_1 => ?_)
  · skip
    have c_1 := kq_bf c_1
    exact absurd (show a * 12 + b < 72 by omega) c_1
  · skip
    have c_1 := kq_bt c_1
    refine lv_aload_n hx hb dX1_toneAt_16 rfl (lv_at hl 1 rfl) ?_
    refine va_get (D := (dC, dI)) (ci := 1) (v := .ref rt) (C := RX1) (T := TX1) (N := 4) hx hb hts (by decide +kernel) hown hK.1 hP 0 rfl rfl 2 (by decide) (hts (.fieldLink RX1 15 "NoteWatermarks$Note" "tones" "[I") (by decide +kernel)) (fun _ h9 => h9) rfl dX1_toneAt_17 ?_
    refine lv_iload_n hx hb dX1_toneAt_20 rfl (lv_at hl 0 rfl) ?_
    refine va_iald hx hb hK.1 hP 1 0 rfl rfl (vp_in_nI (show (a * 12) + b < 72 from by omega) (by omega)) dX1_toneAt_21 ?_
    refine kq_top (z := ft ((a * 12) + b)) (congrArg ft (nI_clamp (Nat.lt_trans (show (a * 12) + b < 72 from by omega) (by omega)))) ?_
    refine lv_goto (tgt := 26) hx hb dX1_toneAt_22 (by decide) ?_
    exact kq_ret hx hb hr hlocks dX1_toneAt_26 (by rfl)
set_option maxHeartbeats 4000000 in
set_option maxRecDepth 100000 in
theorem c_X1_lightAt (l : Launch) (dC : Nat → ClassId) (dI : Nat → Nat → Nat) (cI : ClassId) (oN : Nat) (oS : Nat) (rp : Nat) (rt : Nat) (rl : Nat) (fl : Nat → Int32) (a : Nat) (b : Nat) (ha : a < 6) (hb9 : b < 12) : Met l yX1_lightAt wsX1_lightAt ({ frames := 1, cells := 0, slots := 0, locals := 21 }) (kq_R dC dI cI [.ref oN, .int (nI a), .int (nI b)] [(oN, .inr (1, [.ref oS, .ref rp, .ref rt, .ref rl])), (rl, .inl (cI, 72, .inl fl))]) (QcRead (fl (a * 12 + b))) 0 0 (fun _ => False) := by
  refine kq_start (cc := cX1_lightAt) (maxL := 4) (ret := (some .int)) (plainFor_of_name (by decide)) rfl (Nat.le_of_ble_eq_true rfl) ?_
  intro p e s m below meth c hx hb hr hml hown hlocks hts hP hK ls hl
  have hown : s.vm.findClass RX1 = some m.cls := hown
  have hl : lv_has ls 4 [(0, .ref oN), (1, .int (nI a)), (2, .int (nI b))] := hl
  refine lv_iload_n hx hb dX1_lightAt_0 rfl (lv_at hl 1 rfl) ?_
  refine lv_bipush (v := 12) hx hb dX1_lightAt_1 (by decide) ?_
  refine lv_imul hx hb dX1_lightAt_3 ?_
  refine kq_top (z := nI (a * 12)) (pk_mul a 12) ?_
  refine lv_iload_n hx hb dX1_lightAt_4 rfl (lv_at hl 2 rfl) ?_
  refine lv_iadd hx hb dX1_lightAt_5 ?_
  refine kq_top (z := nI ((a * 12) + b)) (nI_add (a * 12) b) ?_
  refine lv_istore_n (lv' := [(3, .int (nI ((a * 12) + b))), (0, .ref oN), (1, .int (nI a)), (2, .int (nI b))]) hx hb dX1_lightAt_6 rfl hl (by decide) rfl (fun ls hl => ?_)
  refine lv_iload_n hx hb dX1_lightAt_7 rfl (lv_at hl 0 rfl) ?_
  refine lv_bipush (v := 72) hx hb dX1_lightAt_8 (by decide) ?_
  refine kq_cN (As := [.int (nI ((a * 12) + b)), .int 72]) (rest := []) ⟨hx, hb, hml, hown, hts⟩ (c_X5_isIndex_n l dC dI cI ((a * 12) + b) 72 (by first | assumption | omega) (by first | assumption | omega)) (va_cnB (own := RX1) (host := RX5) (index := 63) (y := yX5_isIndex) 2 hts gX1_lightAt_X5_isIndex_n63 rfl rfl rfl (hK.2 _ (by simp [kq_nest])) (hts (.initialized RX5) (by decide +kernel)) (by decide +kernel) ⟨Nat.le_of_ble_eq_true rfl, Nat.le_of_ble_eq_true rfl⟩) (hts (.static yX5_isIndex) (by decide +kernel)) (hP.sub [] rfl) hK rfl hl.1 rfl (Nat.le_of_ble_eq_true rfl) dX1_lightAt_10 ⟨Nat.le_of_ble_eq_true rfl, Nat.le_of_ble_eq_true rfl⟩ ?_
  refine lv_if_eq (tgt := 25) hx hb dX1_lightAt_13 (by decide) (fun c_1 => ?_) (fun c_1 => ?_)
  · skip
    have c_1 := kq_bf c_1
    exact absurd (show a * 12 + b < 72 by omega) c_1
  · skip
    have c_1 := kq_bt c_1
    refine lv_aload_n hx hb dX1_lightAt_16 rfl (lv_at hl 1 rfl) ?_
    refine va_get (D := (dC, dI)) (ci := 1) (v := .ref rl) (C := RX1) (T := TX1) (N := 4) hx hb hts (by decide +kernel) hown hK.1 hP 0 rfl rfl 3 (by decide) (hts (.fieldLink RX1 18 "NoteWatermarks$Note" "lights" "[I") (by decide +kernel)) (fun _ h9 => h9) rfl dX1_lightAt_17 ?_
    refine lv_iload_n hx hb dX1_lightAt_20 rfl (lv_at hl 0 rfl) ?_
    refine va_iald hx hb hK.1 hP 1 0 rfl rfl (vp_in_nI (show (a * 12) + b < 72 from by omega) (by omega)) dX1_lightAt_21 ?_
    refine kq_top (z := fl ((a * 12) + b)) (congrArg fl (nI_clamp (Nat.lt_trans (show (a * 12) + b < 72 from by omega) (by omega)))) ?_
    refine lv_goto (tgt := 26) hx hb dX1_lightAt_22 (by decide) ?_
    exact kq_ret hx hb hr hlocks dX1_lightAt_26 (by rfl)
set_option maxHeartbeats 4000000 in
set_option maxRecDepth 100000 in
theorem c_X1_leastTone (l : Launch) (dC : Nat → ClassId) (dI : Nat → Nat → Nat) (cI : ClassId) (oN : Nat) (oS : Nat) (rp : Nat) (rt : Nat) (rl : Nat) (ft : Nat → Int32)  : Met l yX1_leastTone wsX1_leastTone ({ frames := 1, cells := 0, slots := 0, locals := 21 }) (kq_R dC dI cI [.ref oN] [(oN, .inr (1, [.ref oS, .ref rp, .ref rt, .ref rl])), (rt, .inl (cI, 72, .inl ft))]) (QcRead (n_min ft 72)) 0 0 (fun _ => False) := by
  refine kq_start (cc := cX1_leastTone) (maxL := 3) (ret := (some .int)) (plainFor_of_name (by decide)) rfl (Nat.le_of_ble_eq_true rfl) ?_
  intro p e s m below meth c hx hb hr hml hown hlocks hts hP hK ls hl
  have hown : s.vm.findClass RX1 = some m.cls := hown
  have hl : lv_has ls 3 [(0, .ref oN)] := hl
  refine lv_bipush (v := 19) hx hb dX1_leastTone_0 (by decide) ?_
  refine lv_istore_n (lv' := [(1, .int 19), (0, .ref oN)]) hx hb dX1_leastTone_2 rfl hl (by decide) rfl (fun ls hl => ?_)
  refine lv_iconst (v := 0) hx hb dX1_leastTone_3 (by decide) ?_
  refine lv_istore_n (lv' := [(2, .int 0), (1, .int 19), (0, .ref oN)]) hx hb dX1_leastTone_4 rfl hl (by decide) rfl (fun ls hl => ?_)
  refine kq_loop1 (A1 := Nat) (fun (k : Nat) => 72 - k) (fun (k : Nat) => (k ≤ 72)) (fun (k : Nat) => [(0, .ref oN), (1, .int (n_min ft k)), (2, .int (nI k))]) (nL := 3) ?_ 0 (by omega) _ (lv_sub hl [2, 1, 0] rfl)
  intro k hi_2 ih_1 ls hl
  have ik : k ≤ 72 := hi_2
  have hl : lv_has ls 3 [(0, .ref oN), (1, .int (n_min ft k)), (2, .int (nI k))] := hl
  refine lv_iload_n hx hb dX1_leastTone_5 rfl (lv_at hl 2 rfl) ?_
  refine lv_bipush (v := 72) hx hb dX1_leastTone_6 (by decide) ?_
  refine lv_icmp_ge (tgt := 28) hx hb dX1_leastTone_8 (by decide) (fun c_3 => ?_) (fun c_3 => ?_)
  · skip
    have c_3 := kq_leN (a := 72) (b := k) c_3 (by omega) (by omega)
    refine lv_iload_n hx hb dX1_leastTone_28 rfl (lv_at hl 1 rfl) ?_
    exact kq_ret hx hb hr hlocks dX1_leastTone_29 (by rw [show k = 72 by omega])
  · skip
    have c_3 := kq_nleN (a := 72) (b := k) c_3 (by omega) (by omega)
    refine lv_iload_n hx hb dX1_leastTone_11 rfl (lv_at hl 1 rfl) ?_
    refine lv_aload_n hx hb dX1_leastTone_12 rfl (lv_at hl 0 rfl) ?_
    refine va_get (D := (dC, dI)) (ci := 1) (v := .ref rt) (C := RX1) (T := TX1) (N := 4) hx hb hts (by decide +kernel) hown hK.1 hP 0 rfl rfl 2 (by decide) (hts (.fieldLink RX1 15 "NoteWatermarks$Note" "tones" "[I") (by decide +kernel)) (fun _ h9 => h9) rfl dX1_leastTone_13 ?_
    refine lv_iload_n hx hb dX1_leastTone_16 rfl (lv_at hl 2 rfl) ?_
    refine va_iald hx hb hK.1 hP 1 0 rfl rfl (vp_in_nI (show k < 72 from by omega) (by omega)) dX1_leastTone_17 ?_
    refine kq_top (z := ft k) (congrArg ft (nI_clamp (Nat.lt_trans (show k < 72 from by omega) (by omega)))) ?_
    refine va_mmin hx hb (hml.trans hl.1.symm) hown (hts (.methodLink RX1 38 Lib.Math.min.name) (by decide +kernel)) (hts (.static Lib.Math.min.name) (by decide +kernel)) (hts (.initialized "java/lang/Math") (by decide +kernel)) (hts (.code Lib.Math.min.name Lib.Math.min.code 2 (some .int)) (by decide +kernel)) (Nat.le_of_ble_eq_true rfl) (Nat.le_of_ble_eq_true rfl) (Nat.le_of_ble_eq_true rfl) (Nat.le_of_ble_eq_true rfl) dX1_leastTone_18 ?_
    refine lv_istore_n (lv' := [(1, .int (if (ft k) < (n_min ft k) then (ft k) else (n_min ft k))), (0, .ref oN), (2, .int (nI k))]) hx hb dX1_leastTone_21 rfl hl (by decide) rfl (fun ls hl => ?_)
    refine lv_iinc (v := nI (k + 1)) (lv' := [(2, .int (nI (k + 1))), (1, .int (if (ft k) < (n_min ft k) then (ft k) else (n_min ft k))), (0, .ref oN)]) hx hb dX1_leastTone_22 hl (k := 2) rfl (nI_1 k) (by decide) rfl (fun ls hl => ?_)
    refine lv_goto (tgt := 5) hx hb dX1_leastTone_25 (by decide) ?_
    exact ih_1 (k + 1) (by omega) (by show 72 - (k + 1) < 72 - k; omega) _ (lv_sub hl [2, 1, 0] rfl)
set_option maxHeartbeats 4000000 in
set_option maxRecDepth 100000 in
theorem c_X1_greatestTone (l : Launch) (dC : Nat → ClassId) (dI : Nat → Nat → Nat) (cI : ClassId) (oN : Nat) (oS : Nat) (rp : Nat) (rt : Nat) (rl : Nat) (ft : Nat → Int32)  : Met l yX1_greatestTone wsX1_greatestTone ({ frames := 1, cells := 0, slots := 0, locals := 21 }) (kq_R dC dI cI [.ref oN] [(oN, .inr (1, [.ref oS, .ref rp, .ref rt, .ref rl])), (rt, .inl (cI, 72, .inl ft))]) (QcRead (n_max ft 72)) 0 0 (fun _ => False) := by
  refine kq_start (cc := cX1_greatestTone) (maxL := 3) (ret := (some .int)) (plainFor_of_name (by decide)) rfl (Nat.le_of_ble_eq_true rfl) ?_
  intro p e s m below meth c hx hb hr hml hown hlocks hts hP hK ls hl
  have hown : s.vm.findClass RX1 = some m.cls := hown
  have hl : lv_has ls 3 [(0, .ref oN)] := hl
  refine lv_iconst (v := 0) hx hb dX1_greatestTone_0 (by decide) ?_
  refine lv_istore_n (lv' := [(1, .int 0), (0, .ref oN)]) hx hb dX1_greatestTone_1 rfl hl (by decide) rfl (fun ls hl => ?_)
  refine lv_iconst (v := 0) hx hb dX1_greatestTone_2 (by decide) ?_
  refine lv_istore_n (lv' := [(2, .int 0), (1, .int 0), (0, .ref oN)]) hx hb dX1_greatestTone_3 rfl hl (by decide) rfl (fun ls hl => ?_)
  refine kq_loop1 (A1 := Nat) (fun (k : Nat) => 72 - k) (fun (k : Nat) => (k ≤ 72)) (fun (k : Nat) => [(0, .ref oN), (1, .int (n_max ft k)), (2, .int (nI k))]) (nL := 3) ?_ 0 (by omega) _ (lv_sub hl [2, 1, 0] rfl)
  intro k hi_2 ih_1 ls hl
  have ik : k ≤ 72 := hi_2
  have hl : lv_has ls 3 [(0, .ref oN), (1, .int (n_max ft k)), (2, .int (nI k))] := hl
  refine lv_iload_n hx hb dX1_greatestTone_4 rfl (lv_at hl 2 rfl) ?_
  refine lv_bipush (v := 72) hx hb dX1_greatestTone_5 (by decide) ?_
  refine lv_icmp_ge (tgt := 27) hx hb dX1_greatestTone_7 (by decide) (fun c_3 => ?_) (fun c_3 => ?_)
  · skip
    have c_3 := kq_leN (a := 72) (b := k) c_3 (by omega) (by omega)
    refine lv_iload_n hx hb dX1_greatestTone_27 rfl (lv_at hl 1 rfl) ?_
    exact kq_ret hx hb hr hlocks dX1_greatestTone_28 (by rw [show k = 72 by omega])
  · skip
    have c_3 := kq_nleN (a := 72) (b := k) c_3 (by omega) (by omega)
    refine lv_iload_n hx hb dX1_greatestTone_10 rfl (lv_at hl 1 rfl) ?_
    refine lv_aload_n hx hb dX1_greatestTone_11 rfl (lv_at hl 0 rfl) ?_
    refine va_get (D := (dC, dI)) (ci := 1) (v := .ref rt) (C := RX1) (T := TX1) (N := 4) hx hb hts (by decide +kernel) hown hK.1 hP 0 rfl rfl 2 (by decide) (hts (.fieldLink RX1 15 "NoteWatermarks$Note" "tones" "[I") (by decide +kernel)) (fun _ h9 => h9) rfl dX1_greatestTone_12 ?_
    refine lv_iload_n hx hb dX1_greatestTone_15 rfl (lv_at hl 2 rfl) ?_
    refine va_iald hx hb hK.1 hP 1 0 rfl rfl (vp_in_nI (show k < 72 from by omega) (by omega)) dX1_greatestTone_16 ?_
    refine kq_top (z := ft k) (congrArg ft (nI_clamp (Nat.lt_trans (show k < 72 from by omega) (by omega)))) ?_
    refine va_mmax hx hb (hml.trans hl.1.symm) hown (hts (.methodLink RX1 44 Lib.Math.max.name) (by decide +kernel)) (hts (.static Lib.Math.max.name) (by decide +kernel)) (hts (.initialized "java/lang/Math") (by decide +kernel)) (hts (.code Lib.Math.max.name Lib.Math.max.code 2 (some .int)) (by decide +kernel)) (Nat.le_of_ble_eq_true rfl) (Nat.le_of_ble_eq_true rfl) (Nat.le_of_ble_eq_true rfl) (Nat.le_of_ble_eq_true rfl) dX1_greatestTone_17 ?_
    refine lv_istore_n (lv' := [(1, .int (if (n_max ft k) < (ft k) then (ft k) else (n_max ft k))), (0, .ref oN), (2, .int (nI k))]) hx hb dX1_greatestTone_20 rfl hl (by decide) rfl (fun ls hl => ?_)
    refine lv_iinc (v := nI (k + 1)) (lv' := [(2, .int (nI (k + 1))), (1, .int (if (n_max ft k) < (ft k) then (ft k) else (n_max ft k))), (0, .ref oN)]) hx hb dX1_greatestTone_21 hl (k := 2) rfl (nI_1 k) (by decide) rfl (fun ls hl => ?_)
    refine lv_goto (tgt := 4) hx hb dX1_greatestTone_24 (by decide) ?_
    exact ih_1 (k + 1) (by omega) (by show 72 - (k + 1) < 72 - k; omega) _ (lv_sub hl [2, 1, 0] rfl)
set_option maxHeartbeats 4000000 in
set_option maxRecDepth 100000 in
theorem c_X1_isLike (l : Launch) (dC : Nat → ClassId) (dI : Nat → Nat → Nat) (cI : ClassId) (oN : Nat) (oS : Nat) (rp : Nat) (rt : Nat) (rl : Nat) (o2 : Nat) (q1 : Nat) (q2 : Nat) (q3 : Nat) (ft : Nat → Int32) (g2 : Nat → Int32) (B9 : Prop) (i9 : Decidable B9) (hB : B9 ↔ ∀ k, k < 72 → ft k = g2 k) : Met l yX1_isLike wsX1_isLike ({ frames := 0, cells := 0, slots := 0, locals := 0 }) (kq_R dC dI cI [.ref oN, .ref o2] [(oN, .inr (1, [.ref oS, .ref rp, .ref rt, .ref rl])), (rt, .inl (cI, 72, .inl ft)), (o2, .inr (1, [.ref oS, .ref q1, .ref q2, .ref q3])), (q2, .inl (cI, 72, .inl g2))]) (QcRead (if B9 then (1:Int32) else 0)) 0 0 (fun _ => False) := by
  refine kq_start (cc := cX1_isLike) (maxL := 3) (ret := (some .boolean)) (plainFor_of_name (by decide)) rfl (Nat.le_of_ble_eq_true rfl) ?_
  intro p e s m below meth c hx hb hr hml hown hlocks hts hP hK ls hl
  have hown : s.vm.findClass RX1 = some m.cls := hown
  have hl : lv_has ls 3 [(0, .ref oN), (1, .ref o2)] := hl
  refine lv_iconst (v := 0) hx hb dX1_isLike_0 (by decide) ?_
  refine lv_istore_n (lv' := [(2, .int 0), (0, .ref oN), (1, .ref o2)]) hx hb dX1_isLike_1 rfl hl (by decide) rfl (fun ls hl => ?_)
  refine kq_loop1 (A1 := Nat) (fun (k : Nat) => 72 - k) (fun (k : Nat) => (k ≤ 72) ∧ (∀ j, j < k → ft j = g2 j)) (fun (k : Nat) => [(0, .ref oN), (1, .ref o2), (2, .int (nI k))]) (nL := 3) ?_ 0 ⟨(by omega), (by intro j hj; omega)⟩ _ (lv_sub hl [1, 2, 0] rfl)
  intro k hi_2 ih_1 ls hl
  obtain ⟨ik, ig⟩ := hi_2
  have hl : lv_has ls 3 [(0, .ref oN), (1, .ref o2), (2, .int (nI k))] := hl
  refine lv_iload_n hx hb dX1_isLike_2 rfl (lv_at hl 2 rfl) ?_
  refine lv_bipush (v := 72) hx hb dX1_isLike_3 (by decide) ?_
  refine lv_icmp_ge (tgt := 31) hx hb dX1_isLike_5 (by decide) (fun c_3 => ?_) (fun c_3 => ?_)
  · skip
    have c_3 := kq_leN (a := 72) (b := k) c_3 (by omega) (by omega)
    refine lv_iconst (v := 1) hx hb dX1_isLike_31 (by decide) ?_
    exact kq_retz hx hb hr hlocks dX1_isLike_32 (Or.inr rfl) (by rw [if_pos (hB.mpr (fun j hj => ig j (by omega)))])
  · skip
    have c_3 := kq_nleN (a := 72) (b := k) c_3 (by omega) (by omega)
    refine lv_aload_n hx hb dX1_isLike_8 rfl (lv_at hl 0 rfl) ?_
    refine va_get (D := (dC, dI)) (ci := 1) (v := .ref rt) (C := RX1) (T := TX1) (N := 4) hx hb hts (by decide +kernel) hown hK.1 hP 0 rfl rfl 2 (by decide) (hts (.fieldLink RX1 15 "NoteWatermarks$Note" "tones" "[I") (by decide +kernel)) (fun _ h9 => h9) rfl dX1_isLike_9 ?_
    refine lv_iload_n hx hb dX1_isLike_12 rfl (lv_at hl 2 rfl) ?_
    refine va_iald hx hb hK.1 hP 1 0 rfl rfl (vp_in_nI (show k < 72 from by omega) (by omega)) dX1_isLike_13 ?_
    refine kq_top (z := ft k) (congrArg ft (nI_clamp (Nat.lt_trans (show k < 72 from by omega) (by omega)))) ?_
    refine lv_aload_n hx hb dX1_isLike_14 rfl (lv_at hl 1 rfl) ?_
    refine va_get (D := (dC, dI)) (ci := 1) (v := .ref q2) (C := RX1) (T := TX1) (N := 4) hx hb hts (by decide +kernel) hown hK.1 hP 2 rfl rfl 2 (by decide) (hts (.fieldLink RX1 15 "NoteWatermarks$Note" "tones" "[I") (by decide +kernel)) (fun _ h9 => h9) rfl dX1_isLike_15 ?_
    refine lv_iload_n hx hb dX1_isLike_18 rfl (lv_at hl 2 rfl) ?_
    refine va_iald hx hb hK.1 hP 3 0 rfl rfl (vp_in_nI (show k < 72 from by omega) (by omega)) dX1_isLike_19 ?_
    refine kq_top (z := g2 k) (congrArg g2 (nI_clamp (Nat.lt_trans (show k < 72 from by omega) (by omega)))) ?_
    refine lv_icmp_eq (tgt := 25) hx hb dX1_isLike_20 (by decide) (fun c_4 => ?_) (fun c_4 => ?_)
    · skip
      refine lv_iinc (v := nI (k + 1)) (lv' := [(2, .int (nI (k + 1))), (0, .ref oN), (1, .ref o2)]) hx hb dX1_isLike_25 hl (k := 2) rfl (nI_1 k) (by decide) rfl (fun ls hl => ?_)
      refine lv_goto (tgt := 2) hx hb dX1_isLike_28 (by decide) ?_
      exact ih_1 (k + 1) ⟨(by omega), (by intro j hj; by_cases q : j = k; subst q; assumption; exact ig j (by omega))⟩ (by show 72 - (k + 1) < 72 - k; omega) _ (lv_sub hl [1, 2, 0] rfl)
    · skip
      refine lv_iconst (v := 0) hx hb dX1_isLike_23 (by decide) ?_
      exact kq_retz hx hb hr hlocks dX1_isLike_24 (Or.inl rfl) (by rw [if_neg (fun q => absurd (hB.mp q k (by omega)) (by assumption))])
set_option maxHeartbeats 4000000 in
set_option maxRecDepth 100000 in
theorem c_X1_cellsOfFrame (l : Launch) (dC : Nat → ClassId) (dI : Nat → Nat → Nat) (cI : ClassId) (r : Nat) (d : Nat) (h : Nat) (w : Nat) (h1 : r + h ≤ 6) (h2 : d + w ≤ 12) (h3 : 0 < h) (h4 : 0 < w) : Met l yX1_cellsOfFrame wsX1_cellsOfFrame ({ frames := 1, cells := 0, slots := 0, locals := 21 }) (kq_R dC dI cI [.int (nI r), .int (nI d), .int (nI h), .int (nI w)] []) (QcRead (nI (n_fr r d h w))) 0 0 (fun _ => False) := by
  refine kq_start (cc := cX1_cellsOfFrame) (maxL := 6) (ret := (some .int)) (plainFor_of_name (by decide)) rfl (Nat.le_of_ble_eq_true rfl) ?_
  intro p e s m below meth c hx hb hr hml hown hlocks hts hP hK ls hl
  have hown : s.vm.findClass RX1 = some m.cls := hown
  have hl : lv_has ls 6 [(0, .int (nI r)), (1, .int (nI d)), (2, .int (nI h)), (3, .int (nI w))] := hl
  have e1 : min (r + h + 1) 6 - (r - 1) ≤ 6 := by omega
  have e2 : min (d + w + 1) 12 - (d - 1) ≤ 12 := by omega
  have e3 : (min (r + h + 1) 6 - (r - 1)) * (min (d + w + 1) 12 - (d - 1)) ≤ 6 * 12 := Nat.mul_le_mul e1 e2
  have hge : h * w ≤ (min (r + h + 1) 6 - (r - 1)) * (min (d + w + 1) 12 - (d - 1)) := Nat.mul_le_mul (by omega) (by omega)
  refine lv_iload_n hx hb dX1_cellsOfFrame_0 rfl (lv_at hl 0 rfl) ?_
  refine lv_iload_n hx hb dX1_cellsOfFrame_1 rfl (lv_at hl 2 rfl) ?_
  refine lv_iadd hx hb dX1_cellsOfFrame_2 ?_
  refine kq_top (z := nI (r + h)) (nI_add r h) ?_
  refine lv_iconst (v := 1) hx hb dX1_cellsOfFrame_3 (by decide) ?_
  refine lv_iadd hx hb dX1_cellsOfFrame_4 ?_
  refine kq_top (z := nI ((r + h) + 1)) (nI_add (r + h) 1) ?_
  refine lv_bipush (v := 6) hx hb dX1_cellsOfFrame_5 (by decide) ?_
  refine va_mmin hx hb (hml.trans hl.1.symm) hown (hts (.methodLink RX1 38 Lib.Math.min.name) (by decide +kernel)) (hts (.static Lib.Math.min.name) (by decide +kernel)) (hts (.initialized "java/lang/Math") (by decide +kernel)) (hts (.code Lib.Math.min.name Lib.Math.min.code 2 (some .int)) (by decide +kernel)) (Nat.le_of_ble_eq_true rfl) (Nat.le_of_ble_eq_true rfl) (Nat.le_of_ble_eq_true rfl) (Nat.le_of_ble_eq_true rfl) dX1_cellsOfFrame_7 ?_
  refine kq_top (z := nI (min ((r + h) + 1) 6)) (kq_min (a := ((r + h) + 1)) (b := 6) (by omega) (by omega)) ?_
  refine lv_iload_n hx hb dX1_cellsOfFrame_10 rfl (lv_at hl 0 rfl) ?_
  refine lv_iconst (v := 1) hx hb dX1_cellsOfFrame_11 (by decide) ?_
  refine lv_isub hx hb dX1_cellsOfFrame_12 ?_
  refine lv_iconst (v := 0) hx hb dX1_cellsOfFrame_13 (by decide) ?_
  refine va_mmax hx hb (hml.trans hl.1.symm) hown (hts (.methodLink RX1 44 Lib.Math.max.name) (by decide +kernel)) (hts (.static Lib.Math.max.name) (by decide +kernel)) (hts (.initialized "java/lang/Math") (by decide +kernel)) (hts (.code Lib.Math.max.name Lib.Math.max.code 2 (some .int)) (by decide +kernel)) (Nat.le_of_ble_eq_true rfl) (Nat.le_of_ble_eq_true rfl) (Nat.le_of_ble_eq_true rfl) (Nat.le_of_ble_eq_true rfl) dX1_cellsOfFrame_14 ?_
  refine kq_top (z := nI (r - 1)) (kq_pm (a := r) (by omega)) ?_
  refine lv_isub hx hb dX1_cellsOfFrame_17 ?_
  refine kq_top (z := nI ((min ((r + h) + 1) 6) - (r - 1))) (pk_sub (a := (min ((r + h) + 1) 6)) (b := (r - 1)) (by omega)) ?_
  refine lv_istore (lv' := [(4, .int (nI ((min ((r + h) + 1) 6) - (r - 1)))), (0, .int (nI r)), (1, .int (nI d)), (2, .int (nI h)), (3, .int (nI w))]) hx hb dX1_cellsOfFrame_18 hl (by decide) rfl (fun ls hl => ?_)
  refine lv_iload_n hx hb dX1_cellsOfFrame_20 rfl (lv_at hl 2 rfl) ?_
  refine lv_iload_n hx hb dX1_cellsOfFrame_21 rfl (lv_at hl 4 rfl) ?_
  refine lv_iadd hx hb dX1_cellsOfFrame_22 ?_
  refine kq_top (z := nI (d + w)) (nI_add d w) ?_
  refine lv_iconst (v := 1) hx hb dX1_cellsOfFrame_23 (by decide) ?_
  refine lv_iadd hx hb dX1_cellsOfFrame_24 ?_
  refine kq_top (z := nI ((d + w) + 1)) (nI_add (d + w) 1) ?_
  refine lv_bipush (v := 12) hx hb dX1_cellsOfFrame_25 (by decide) ?_
  refine va_mmin hx hb (hml.trans hl.1.symm) hown (hts (.methodLink RX1 38 Lib.Math.min.name) (by decide +kernel)) (hts (.static Lib.Math.min.name) (by decide +kernel)) (hts (.initialized "java/lang/Math") (by decide +kernel)) (hts (.code Lib.Math.min.name Lib.Math.min.code 2 (some .int)) (by decide +kernel)) (Nat.le_of_ble_eq_true rfl) (Nat.le_of_ble_eq_true rfl) (Nat.le_of_ble_eq_true rfl) (Nat.le_of_ble_eq_true rfl) dX1_cellsOfFrame_27 ?_
  refine kq_top (z := nI (min ((d + w) + 1) 12)) (kq_min (a := ((d + w) + 1)) (b := 12) (by omega) (by omega)) ?_
  refine lv_iload_n hx hb dX1_cellsOfFrame_30 rfl (lv_at hl 2 rfl) ?_
  refine lv_iconst (v := 1) hx hb dX1_cellsOfFrame_31 (by decide) ?_
  refine lv_isub hx hb dX1_cellsOfFrame_32 ?_
  refine lv_iconst (v := 0) hx hb dX1_cellsOfFrame_33 (by decide) ?_
  refine va_mmax hx hb (hml.trans hl.1.symm) hown (hts (.methodLink RX1 44 Lib.Math.max.name) (by decide +kernel)) (hts (.static Lib.Math.max.name) (by decide +kernel)) (hts (.initialized "java/lang/Math") (by decide +kernel)) (hts (.code Lib.Math.max.name Lib.Math.max.code 2 (some .int)) (by decide +kernel)) (Nat.le_of_ble_eq_true rfl) (Nat.le_of_ble_eq_true rfl) (Nat.le_of_ble_eq_true rfl) (Nat.le_of_ble_eq_true rfl) dX1_cellsOfFrame_34 ?_
  refine kq_top (z := nI (d - 1)) (kq_pm (a := d) (by omega)) ?_
  refine lv_isub hx hb dX1_cellsOfFrame_37 ?_
  refine kq_top (z := nI ((min ((d + w) + 1) 12) - (d - 1))) (pk_sub (a := (min ((d + w) + 1) 12)) (b := (d - 1)) (by omega)) ?_
  refine lv_istore (lv' := [(5, .int (nI ((min ((d + w) + 1) 12) - (d - 1)))), (4, .int (nI ((min ((r + h) + 1) 6) - (r - 1)))), (0, .int (nI r)), (1, .int (nI d)), (2, .int (nI h)), (3, .int (nI w))]) hx hb dX1_cellsOfFrame_38 hl (by decide) rfl (fun ls hl => ?_)
  refine lv_iload hx hb dX1_cellsOfFrame_40 (lv_at hl 1 rfl) ?_
  refine lv_iload hx hb dX1_cellsOfFrame_42 (lv_at hl 0 rfl) ?_
  refine lv_imul hx hb dX1_cellsOfFrame_44 ?_
  refine kq_top (z := nI (((min ((r + h) + 1) 6) - (r - 1)) * ((min ((d + w) + 1) 12) - (d - 1)))) (pk_mul ((min ((r + h) + 1) 6) - (r - 1)) ((min ((d + w) + 1) 12) - (d - 1))) ?_
  refine lv_iload_n hx hb dX1_cellsOfFrame_45 rfl (lv_at hl 4 rfl) ?_
  refine lv_iload_n hx hb dX1_cellsOfFrame_46 rfl (lv_at hl 5 rfl) ?_
  refine lv_imul hx hb dX1_cellsOfFrame_47 ?_
  refine kq_top (z := nI (h * w)) (pk_mul h w) ?_
  refine lv_isub hx hb dX1_cellsOfFrame_48 ?_
  refine kq_top (z := nI ((((min ((r + h) + 1) 6) - (r - 1)) * ((min ((d + w) + 1) 12) - (d - 1))) - (h * w))) (pk_sub (a := (((min ((r + h) + 1) 6) - (r - 1)) * ((min ((d + w) + 1) 12) - (d - 1)))) (b := (h * w)) (hge)) ?_
  exact kq_ret hx hb hr hlocks dX1_cellsOfFrame_49 (by rfl)
set_option maxHeartbeats 4000000 in
set_option maxRecDepth 100000 in
theorem c_X1_lightOf (l : Launch) (dC : Nat → ClassId) (dI : Nat → Nat → Nat) (cI : ClassId) (oN : Nat) (oS : Nat) (rp : Nat) (rt : Nat) (rl : Nat) (fl : Nat → Int32) (x0 : Int32) (x1 : Int32) (r0 : Nat) (d0 : Nat) (er : Nat) (ed : Nat) (h1 : (if x0 < 0 then 0 else x0) = nI r0) (h2 : (if x1 < 0 then 0 else x1) = nI d0) (h3 : r0 ≤ 6 ∧ er ≤ 40 ∧ r0 ≤ er) (h4 : d0 ≤ 12 ∧ ed ≤ 40 ∧ d0 ≤ ed) : Met l yX1_lightOf wsX1_lightOf ({ frames := 1, cells := 0, slots := 0, locals := 21 }) (kq_R dC dI cI [.ref oN, .int x0, .int x1, .int (nI er), .int (nI ed)] [(oN, .inr (1, [.ref oS, .ref rp, .ref rt, .ref rl])), (rl, .inl (cI, 72, .inl fl))]) (QcRead (n_ar fl r0 (min er 6) d0 (min ed 12))) 0 0 (fun _ => False) := by
  refine kq_start (cc := cX1_lightOf) (maxL := 8) (ret := (some .int)) (plainFor_of_name (by decide)) rfl (Nat.le_of_ble_eq_true rfl) ?_
  intro p e s m below meth c hx hb hr hml hown hlocks hts hP hK ls hl
  have hown : s.vm.findClass RX1 = some m.cls := hown
  have hl : lv_has ls 8 [(0, .ref oN), (1, .int x0), (2, .int x1), (3, .int (nI er)), (4, .int (nI ed))] := hl
  refine lv_iconst (v := 0) hx hb dX1_lightOf_0 (by decide) ?_
  refine lv_istore (lv' := [(5, .int 0), (0, .ref oN), (1, .int x0), (2, .int x1), (3, .int (nI er)), (4, .int (nI ed))]) hx hb dX1_lightOf_1 hl (by decide) rfl (fun ls hl => ?_)
  refine lv_iload_n hx hb dX1_lightOf_3 rfl (lv_at hl 2 rfl) ?_
  refine lv_iconst (v := 0) hx hb dX1_lightOf_4 (by decide) ?_
  refine va_mmax hx hb (hml.trans hl.1.symm) hown (hts (.methodLink RX1 44 Lib.Math.max.name) (by decide +kernel)) (hts (.static Lib.Math.max.name) (by decide +kernel)) (hts (.initialized "java/lang/Math") (by decide +kernel)) (hts (.code Lib.Math.max.name Lib.Math.max.code 2 (some .int)) (by decide +kernel)) (Nat.le_of_ble_eq_true rfl) (Nat.le_of_ble_eq_true rfl) (Nat.le_of_ble_eq_true rfl) (Nat.le_of_ble_eq_true rfl) dX1_lightOf_5 ?_
  refine kq_top (z := nI r0) (h1) ?_
  refine lv_istore (lv' := [(6, .int (nI r0)), (5, .int 0), (0, .ref oN), (1, .int x0), (2, .int x1), (3, .int (nI er)), (4, .int (nI ed))]) hx hb dX1_lightOf_8 hl (by decide) rfl (fun ls hl => ?_)
  refine kq_loop2 (A1 := Nat) (A2 := Int32) (fun (y : Nat) (x : Int32) => 6 - y) (fun (y : Nat) (x : Int32) => (r0 ≤ y ∧ y ≤ min er 6) ∧ (x = n_iv (fun y => n_iv (fun z => fl (y * 12 + z)) d0 (min ed 12)) r0 y)) (fun (y : Nat) (x : Int32) => [(0, .ref oN), (1, .int x0), (2, .int x1), (3, .int (nI er)), (4, .int (nI ed)), (5, .int x), (6, .int (nI y))]) (nL := 8) ?_ r0 0 ⟨(by omega), (by exact n_iv_0.symm)⟩ _ (lv_sub hl [2, 3, 4, 5, 6, 1, 0] rfl)
  intro y x hi_2 ih_1 ls hl
  obtain ⟨iy, ix⟩ := hi_2
  have hl : lv_has ls 8 [(0, .ref oN), (1, .int x0), (2, .int x1), (3, .int (nI er)), (4, .int (nI ed)), (5, .int x), (6, .int (nI y))] := hl
  refine lv_iload hx hb dX1_lightOf_10 (lv_at hl 6 rfl) ?_
  refine lv_iload_n hx hb dX1_lightOf_12 rfl (lv_at hl 3 rfl) ?_
  refine lv_bipush (v := 6) hx hb dX1_lightOf_13 (by decide) ?_
  refine va_mmin hx hb (hml.trans hl.1.symm) hown (hts (.methodLink RX1 38 Lib.Math.min.name) (by decide +kernel)) (hts (.static Lib.Math.min.name) (by decide +kernel)) (hts (.initialized "java/lang/Math") (by decide +kernel)) (hts (.code Lib.Math.min.name Lib.Math.min.code 2 (some .int)) (by decide +kernel)) (Nat.le_of_ble_eq_true rfl) (Nat.le_of_ble_eq_true rfl) (Nat.le_of_ble_eq_true rfl) (Nat.le_of_ble_eq_true rfl) dX1_lightOf_15 ?_
  refine kq_top (z := nI (min er 6)) (kq_min (a := er) (b := 6) (by omega) (by omega)) ?_
  refine lv_icmp_ge (tgt := 70) hx hb dX1_lightOf_18 (by decide) (fun c_3 => ?_) (fun c_3 => ?_)
  · skip
    have c_3 := kq_leN (a := (min er 6)) (b := y) c_3 (by omega) (by omega)
    refine lv_iload hx hb dX1_lightOf_70 (lv_at hl 5 rfl) ?_
    exact kq_ret hx hb hr hlocks dX1_lightOf_72 (by rw [ix, n_ar, show y = min er 6 by omega])
  · skip
    have c_3 := kq_nleN (a := (min er 6)) (b := y) c_3 (by omega) (by omega)
    refine lv_iload_n hx hb dX1_lightOf_21 rfl (lv_at hl 2 rfl) ?_
    refine lv_iconst (v := 0) hx hb dX1_lightOf_22 (by decide) ?_
    refine va_mmax hx hb (hml.trans hl.1.symm) hown (hts (.methodLink RX1 44 Lib.Math.max.name) (by decide +kernel)) (hts (.static Lib.Math.max.name) (by decide +kernel)) (hts (.initialized "java/lang/Math") (by decide +kernel)) (hts (.code Lib.Math.max.name Lib.Math.max.code 2 (some .int)) (by decide +kernel)) (Nat.le_of_ble_eq_true rfl) (Nat.le_of_ble_eq_true rfl) (Nat.le_of_ble_eq_true rfl) (Nat.le_of_ble_eq_true rfl) dX1_lightOf_23 ?_
    refine kq_top (z := nI d0) (h2) ?_
    refine lv_istore (lv' := [(7, .int (nI d0)), (0, .ref oN), (1, .int x0), (2, .int x1), (3, .int (nI er)), (4, .int (nI ed)), (5, .int x), (6, .int (nI y))]) hx hb dX1_lightOf_26 hl (by decide) rfl (fun ls hl => ?_)
    refine kq_loop2 (A1 := Nat) (A2 := Int32) (fun (z : Nat) (x : Int32) => 12 - z) (fun (z : Nat) (x : Int32) => (d0 ≤ z ∧ z ≤ min ed 12) ∧ (x = n_iv (fun y => n_iv (fun z => fl (y * 12 + z)) d0 (min ed 12)) r0 y + n_iv (fun z => fl (y * 12 + z)) d0 z)) (fun (z : Nat) (x : Int32) => [(0, .ref oN), (1, .int x0), (2, .int x1), (3, .int (nI er)), (4, .int (nI ed)), (5, .int x), (6, .int (nI y)), (7, .int (nI z))]) (nL := 8) ?_ d0 x ⟨(by omega), (by rw [n_iv_0, Int32.add_zero]; exact ix)⟩ _ (lv_sub hl [1, 2, 3, 4, 5, 6, 7, 0] rfl)
    intro z x hi_5 ih_4 ls hl
    obtain ⟨iz, ix⟩ := hi_5
    have hl : lv_has ls 8 [(0, .ref oN), (1, .int x0), (2, .int x1), (3, .int (nI er)), (4, .int (nI ed)), (5, .int x), (6, .int (nI y)), (7, .int (nI z))] := hl
    refine lv_iload hx hb dX1_lightOf_28 (lv_at hl 7 rfl) ?_
    refine lv_iload hx hb dX1_lightOf_30 (lv_at hl 4 rfl) ?_
    refine lv_bipush (v := 12) hx hb dX1_lightOf_32 (by decide) ?_
    refine va_mmin hx hb (hml.trans hl.1.symm) hown (hts (.methodLink RX1 38 Lib.Math.min.name) (by decide +kernel)) (hts (.static Lib.Math.min.name) (by decide +kernel)) (hts (.initialized "java/lang/Math") (by decide +kernel)) (hts (.code Lib.Math.min.name Lib.Math.min.code 2 (some .int)) (by decide +kernel)) (Nat.le_of_ble_eq_true rfl) (Nat.le_of_ble_eq_true rfl) (Nat.le_of_ble_eq_true rfl) (Nat.le_of_ble_eq_true rfl) dX1_lightOf_34 ?_
    refine kq_top (z := nI (min ed 12)) (kq_min (a := ed) (b := 12) (by omega) (by omega)) ?_
    refine lv_icmp_ge (tgt := 64) hx hb dX1_lightOf_37 (by decide) (fun c_6 => ?_) (fun c_6 => ?_)
    · skip
      have c_6 := kq_leN (a := (min ed 12)) (b := z) c_6 (by omega) (by omega)
      refine lv_iinc (v := nI (y + 1)) (lv' := [(6, .int (nI (y + 1))), (0, .ref oN), (1, .int x0), (2, .int x1), (3, .int (nI er)), (4, .int (nI ed)), (5, .int x), (7, .int (nI z))]) hx hb dX1_lightOf_64 hl (k := 6) rfl (nI_1 y) (by decide) rfl (fun ls hl => ?_)
      refine lv_goto (tgt := 10) hx hb dX1_lightOf_67 (by decide) ?_
      exact ih_1 (y + 1) x ⟨(by omega), (by rw [n_iv_s (by omega), ix, show z = min ed 12 by omega])⟩ (by show 6 - (y + 1) < 6 - y; omega) _ (lv_sub hl [1, 2, 3, 4, 5, 6, 0] rfl)
    · skip
      have c_6 := kq_nleN (a := (min ed 12)) (b := z) c_6 (by omega) (by omega)
      refine lv_iload hx hb dX1_lightOf_40 (lv_at hl 5 rfl) ?_
      refine lv_aload_n hx hb dX1_lightOf_42 rfl (lv_at hl 0 rfl) ?_
      refine va_get (D := (dC, dI)) (ci := 1) (v := .ref rl) (C := RX1) (T := TX1) (N := 4) hx hb hts (by decide +kernel) hown hK.1 hP 0 rfl rfl 3 (by decide) (hts (.fieldLink RX1 18 "NoteWatermarks$Note" "lights" "[I") (by decide +kernel)) (fun _ h9 => h9) rfl dX1_lightOf_43 ?_
      refine lv_iload hx hb dX1_lightOf_46 (lv_at hl 6 rfl) ?_
      refine lv_bipush (v := 12) hx hb dX1_lightOf_48 (by decide) ?_
      refine lv_imul hx hb dX1_lightOf_50 ?_
      refine kq_top (z := nI (y * 12)) (pk_mul y 12) ?_
      refine lv_iload hx hb dX1_lightOf_51 (lv_at hl 7 rfl) ?_
      refine lv_iadd hx hb dX1_lightOf_53 ?_
      refine kq_top (z := nI ((y * 12) + z)) (nI_add (y * 12) z) ?_
      refine va_iald hx hb hK.1 hP 1 0 rfl rfl (vp_in_nI (show (y * 12) + z < 72 from by omega) (by omega)) dX1_lightOf_54 ?_
      refine kq_top (z := fl ((y * 12) + z)) (congrArg fl (nI_clamp (Nat.lt_trans (show (y * 12) + z < 72 from by omega) (by omega)))) ?_
      refine lv_iadd hx hb dX1_lightOf_55 ?_
      refine lv_istore (lv' := [(5, .int (x + (fl ((y * 12) + z)))), (0, .ref oN), (1, .int x0), (2, .int x1), (3, .int (nI er)), (4, .int (nI ed)), (6, .int (nI y)), (7, .int (nI z))]) hx hb dX1_lightOf_56 hl (by decide) rfl (fun ls hl => ?_)
      refine lv_iinc (v := nI (z + 1)) (lv' := [(7, .int (nI (z + 1))), (5, .int (x + (fl ((y * 12) + z)))), (0, .ref oN), (1, .int x0), (2, .int x1), (3, .int (nI er)), (4, .int (nI ed)), (6, .int (nI y))]) hx hb dX1_lightOf_58 hl (k := 7) rfl (nI_1 z) (by decide) rfl (fun ls hl => ?_)
      refine lv_goto (tgt := 28) hx hb dX1_lightOf_61 (by decide) ?_
      exact ih_4 (z + 1) (x + (fl ((y * 12) + z))) ⟨(by omega), (by rw [ix, n_iv_s (show d0 ≤ z by omega), Int32.add_assoc])⟩ (by show 12 - (z + 1) < 12 - z; omega) _ (lv_sub hl [2, 3, 4, 5, 6, 1, 7, 0] rfl)
set_option maxHeartbeats 4000000 in
set_option maxRecDepth 100000 in
theorem c_X1_contrastOf (l : Launch) (dC : Nat → ClassId) (dI : Nat → Nat → Nat) (cI : ClassId) (oN : Nat) (oS : Nat) (rp : Nat) (rt : Nat) (rl : Nat) (fl : Nat → Int32) (r : Nat) (d : Nat) (h : Nat) (w : Nat) (h1 : r + h ≤ 6) (h2 : d + w ≤ 12) (h3 : 0 < h) (h4 : 0 < w) : Met l yX1_contrastOf wsX1_contrastOf ({ frames := 2, cells := 0, slots := 0, locals := 48 }) (kq_R dC dI cI [.ref oN, .int (nI r), .int (nI d), .int (nI h), .int (nI w)] [(oN, .inr (1, [.ref oS, .ref rp, .ref rt, .ref rl])), (rl, .inl (cI, 72, .inl fl))]) (QcRead (n_con fl r d h w)) 0 0 (fun _ => False) := by
  refine kq_start (cc := cX1_contrastOf) (maxL := 9) (ret := (some .int)) (plainFor_of_name (by decide)) rfl (Nat.le_of_ble_eq_true rfl) ?_
  intro p e s m below meth c hx hb hr hml hown hlocks hts hP hK ls hl
  have hown : s.vm.findClass RX1 = some m.cls := hown
  have hl : lv_has ls 9 [(0, .ref oN), (1, .int (nI r)), (2, .int (nI d)), (3, .int (nI h)), (4, .int (nI w))] := hl
  have hhw : 0 < h * w := Nat.mul_pos h3 h4
  have hhw9 : h * w ≤ 6 * 12 := Nat.mul_le_mul (by omega) (by omega)
  have hf9 : n_fr r d h w ≤ 72 := Nat.le_trans (Nat.sub_le _ _) (Nat.mul_le_mul (show min (r + h + 1) 6 - (r - 1) ≤ 6 by omega) (show min (d + w + 1) 12 - (d - 1) ≤ 12 by omega))
  have hp9 : h * w * n_fr r d h w ≤ 72 * 72 := Nat.mul_le_mul hhw9 hf9
  refine lv_iload_n hx hb dX1_contrastOf_0 rfl (lv_at hl 3 rfl) ?_
  refine lv_iload hx hb dX1_contrastOf_1 (lv_at hl 4 rfl) ?_
  refine lv_imul hx hb dX1_contrastOf_3 ?_
  refine kq_top (z := nI (h * w)) (pk_mul h w) ?_
  refine lv_istore (lv' := [(5, .int (nI (h * w))), (0, .ref oN), (1, .int (nI r)), (2, .int (nI d)), (3, .int (nI h)), (4, .int (nI w))]) hx hb dX1_contrastOf_4 hl (by decide) rfl (fun ls hl => ?_)
  refine lv_iload_n hx hb dX1_contrastOf_6 rfl (lv_at hl 2 rfl) ?_
  refine lv_iload_n hx hb dX1_contrastOf_7 rfl (lv_at hl 3 rfl) ?_
  refine lv_iload_n hx hb dX1_contrastOf_8 rfl (lv_at hl 4 rfl) ?_
  refine lv_iload hx hb dX1_contrastOf_9 (lv_at hl 5 rfl) ?_
  refine kq_cS (As := [.int (nI r), .int (nI d), .int (nI h), .int (nI w)]) (rest := []) ⟨hx, hb, hml, hown, hts⟩ (c_X1_cellsOfFrame l dC dI cI r d h w (by first | assumption | omega) (by first | assumption | omega) (by first | assumption | omega) (by first | assumption | omega)) (va_cwS 4 hts gX1_contrastOf_X1_cellsOfFrame rfl rfl rfl (by decide +kernel) ⟨Nat.le_of_ble_eq_true rfl, Nat.le_of_ble_eq_true rfl⟩) (hP.sub [] rfl) hK rfl hl.1 rfl (Nat.le_of_ble_eq_true rfl) dX1_contrastOf_11 ⟨Nat.le_of_ble_eq_true rfl, Nat.le_of_ble_eq_true rfl⟩ ?_
  refine lv_istore (lv' := [(6, .int (nI (n_fr r d h w))), (5, .int (nI (h * w))), (0, .ref oN), (1, .int (nI r)), (2, .int (nI d)), (3, .int (nI h)), (4, .int (nI w))]) hx hb dX1_contrastOf_14 hl (by decide) rfl (fun ls hl => ?_)
  refine lv_iload hx hb dX1_contrastOf_16 (lv_at hl 1 rfl) ?_
  refine lv_iconst (v := 1) hx hb dX1_contrastOf_18 (by decide) ?_
  refine lv_icmp_lt (tgt := 28) hx hb dX1_contrastOf_19 (by decide) (fun c_1 => ?_) (fun c_1 => ?_)
  · skip
    have c_1 := kq_ltN (a := (h * w)) (b := 1) c_1 (by omega) (by omega)
    exact absurd c_1 (by omega)
  · skip
    have c_1 := kq_nltN (a := (h * w)) (b := 1) c_1 (by omega) (by omega)
    refine lv_iload hx hb dX1_contrastOf_22 (lv_at hl 0 rfl) ?_
    refine lv_iconst (v := 1) hx hb dX1_contrastOf_24 (by decide) ?_
    refine lv_icmp_ge (tgt := 30) hx hb dX1_contrastOf_25 (by decide) (fun c_2 => ?_) (fun c_2 => ?_)
    · skip
      have c_2 := kq_leN (a := 1) (b := (n_fr r d h w)) c_2 (by omega) (by omega)
      have hpos : 0 < h * w * n_fr r d h w := Nat.mul_pos hhw (by omega)
      refine lv_aload_n hx hb dX1_contrastOf_30 rfl (lv_at hl 2 rfl) ?_
      refine lv_iload_n hx hb dX1_contrastOf_31 rfl (lv_at hl 3 rfl) ?_
      refine lv_iload_n hx hb dX1_contrastOf_32 rfl (lv_at hl 4 rfl) ?_
      refine lv_iload_n hx hb dX1_contrastOf_33 rfl (lv_at hl 3 rfl) ?_
      refine lv_iload_n hx hb dX1_contrastOf_34 rfl (lv_at hl 5 rfl) ?_
      refine lv_iadd hx hb dX1_contrastOf_35 ?_
      refine kq_top (z := nI (r + h)) (nI_add r h) ?_
      refine lv_iload_n hx hb dX1_contrastOf_36 rfl (lv_at hl 4 rfl) ?_
      refine lv_iload hx hb dX1_contrastOf_37 (lv_at hl 6 rfl) ?_
      refine lv_iadd hx hb dX1_contrastOf_39 ?_
      refine kq_top (z := nI (d + w)) (nI_add d w) ?_
      refine kq_cV (As := [.int (nI r), .int (nI d), .int (nI (r + h)), .int (nI (d + w))]) (rest := []) ⟨hx, hb, hml, hown, hts⟩ (c_X1_lightOf l dC dI cI oN oS rp rt rl fl (nI r) (nI d) r d (r + h) (d + w) (kq_nneg (by omega)) (kq_nneg (by omega)) (by first | assumption | omega) (by first | assumption | omega)) (cwV 4 hts gX1_contrastOf_X1_lightOf rfl rfl rfl (by decide +kernel) ⟨Nat.le_of_ble_eq_true rfl, Nat.le_of_ble_eq_true rfl⟩) (hP.sub [0, 1] rfl) hK (ci := 1) (q0 := 0) rfl rfl rfl rfl hl.1 rfl (Nat.le_of_ble_eq_true rfl) dX1_contrastOf_40 ⟨Nat.le_of_ble_eq_true rfl, Nat.le_of_ble_eq_true rfl⟩ ?_
      refine lv_istore (lv' := [(7, .int (n_ar fl r (min (r + h) 6) d (min (d + w) 12))), (6, .int (nI (n_fr r d h w))), (5, .int (nI (h * w))), (0, .ref oN), (1, .int (nI r)), (2, .int (nI d)), (3, .int (nI h)), (4, .int (nI w))]) hx hb dX1_contrastOf_43 hl (by decide) rfl (fun ls hl => ?_)
      refine lv_aload_n hx hb dX1_contrastOf_45 rfl (lv_at hl 3 rfl) ?_
      refine lv_iload_n hx hb dX1_contrastOf_46 rfl (lv_at hl 4 rfl) ?_
      refine lv_iconst (v := 1) hx hb dX1_contrastOf_47 (by decide) ?_
      refine lv_isub hx hb dX1_contrastOf_48 ?_
      refine lv_iload_n hx hb dX1_contrastOf_49 rfl (lv_at hl 5 rfl) ?_
      refine lv_iconst (v := 1) hx hb dX1_contrastOf_50 (by decide) ?_
      refine lv_isub hx hb dX1_contrastOf_51 ?_
      refine lv_iload_n hx hb dX1_contrastOf_52 rfl (lv_at hl 4 rfl) ?_
      refine lv_iload_n hx hb dX1_contrastOf_53 rfl (lv_at hl 6 rfl) ?_
      refine lv_iadd hx hb dX1_contrastOf_54 ?_
      refine kq_top (z := nI (r + h)) (nI_add r h) ?_
      refine lv_iconst (v := 1) hx hb dX1_contrastOf_55 (by decide) ?_
      refine lv_iadd hx hb dX1_contrastOf_56 ?_
      refine kq_top (z := nI ((r + h) + 1)) (nI_add (r + h) 1) ?_
      refine lv_iload_n hx hb dX1_contrastOf_57 rfl (lv_at hl 5 rfl) ?_
      refine lv_iload hx hb dX1_contrastOf_58 (lv_at hl 7 rfl) ?_
      refine lv_iadd hx hb dX1_contrastOf_60 ?_
      refine kq_top (z := nI (d + w)) (nI_add d w) ?_
      refine lv_iconst (v := 1) hx hb dX1_contrastOf_61 (by decide) ?_
      refine lv_iadd hx hb dX1_contrastOf_62 ?_
      refine kq_top (z := nI ((d + w) + 1)) (nI_add (d + w) 1) ?_
      refine kq_cV (As := [.int ((nI r) - 1), .int ((nI d) - 1), .int (nI ((r + h) + 1)), .int (nI ((d + w) + 1))]) (rest := []) ⟨hx, hb, hml, hown, hts⟩ (c_X1_lightOf l dC dI cI oN oS rp rt rl fl ((nI r) - 1) ((nI d) - 1) (r - 1) (d - 1) ((r + h) + 1) ((d + w) + 1) (kq_pm (by omega)) (kq_pm (by omega)) (by first | assumption | omega) (by first | assumption | omega)) (cwV 4 hts gX1_contrastOf_X1_lightOf rfl rfl rfl (by decide +kernel) ⟨Nat.le_of_ble_eq_true rfl, Nat.le_of_ble_eq_true rfl⟩) (hP.sub [0, 1] rfl) hK (ci := 1) (q0 := 0) rfl rfl rfl rfl hl.1 rfl (Nat.le_of_ble_eq_true rfl) dX1_contrastOf_63 ⟨Nat.le_of_ble_eq_true rfl, Nat.le_of_ble_eq_true rfl⟩ ?_
      refine lv_istore (lv' := [(8, .int (n_ar fl (r - 1) (min ((r + h) + 1) 6) (d - 1) (min ((d + w) + 1) 12))), (7, .int (n_ar fl r (min (r + h) 6) d (min (d + w) 12))), (6, .int (nI (n_fr r d h w))), (5, .int (nI (h * w))), (0, .ref oN), (1, .int (nI r)), (2, .int (nI d)), (3, .int (nI h)), (4, .int (nI w))]) hx hb dX1_contrastOf_66 hl (by decide) rfl (fun ls hl => ?_)
      refine lv_iload hx hb dX1_contrastOf_68 (lv_at hl 1 rfl) ?_
      refine lv_iload hx hb dX1_contrastOf_70 (lv_at hl 2 rfl) ?_
      refine lv_imul hx hb dX1_contrastOf_72 ?_
      refine lv_iload hx hb dX1_contrastOf_73 (lv_at hl 0 rfl) ?_
      refine lv_iload hx hb dX1_contrastOf_75 (lv_at hl 1 rfl) ?_
      refine lv_isub hx hb dX1_contrastOf_77 ?_
      refine lv_iload hx hb dX1_contrastOf_78 (lv_at hl 3 rfl) ?_
      refine lv_imul hx hb dX1_contrastOf_80 ?_
      refine lv_isub hx hb dX1_contrastOf_81 ?_
      refine lv_iload hx hb dX1_contrastOf_82 (lv_at hl 3 rfl) ?_
      refine lv_iload hx hb dX1_contrastOf_84 (lv_at hl 2 rfl) ?_
      refine lv_imul hx hb dX1_contrastOf_86 ?_
      refine kq_top (z := nI ((h * w) * (n_fr r d h w))) (pk_mul (h * w) (n_fr r d h w)) ?_
      refine kq_cS (As := [.int (((n_ar fl r (min (r + h) 6) d (min (d + w) 12)) * (nI (n_fr r d h w))) - (((n_ar fl (r - 1) (min ((r + h) + 1) 6) (d - 1) (min ((d + w) + 1) 12)) - (n_ar fl r (min (r + h) 6) d (min (d + w) 12))) * (nI (h * w)))), .int (nI ((h * w) * (n_fr r d h w)))]) (rest := []) ⟨hx, hb, hml, hown, hts⟩ (c_J9_floorDiv_7cf53 l dC dI cI (((n_ar fl r (min (r + h) 6) d (min (d + w) 12)) * (nI (n_fr r d h w))) - (((n_ar fl (r - 1) (min ((r + h) + 1) 6) (d - 1) (min ((d + w) + 1) 12)) - (n_ar fl r (min (r + h) 6) d (min (d + w) 12))) * (nI (h * w)))) ((h * w) * (n_fr r d h w)) (by first | assumption | omega) (by first | assumption | omega)) (va_cwS 2 hts gX1_contrastOf_J9_floorDiv_7cf53 rfl rfl rfl (by decide +kernel) ⟨Nat.le_of_ble_eq_true rfl, Nat.le_of_ble_eq_true rfl⟩) (hP.sub [] rfl) hK rfl hl.1 rfl (Nat.le_of_ble_eq_true rfl) dX1_contrastOf_87 ⟨Nat.le_of_ble_eq_true rfl, Nat.le_of_ble_eq_true rfl⟩ ?_
      exact kq_ret hx hb hr hlocks dX1_contrastOf_90 (by rw [n_con, if_neg (by omega)])
    · skip
      have c_2 := kq_nleN (a := 1) (b := (n_fr r d h w)) c_2 (by omega) (by omega)
      refine lv_iconst (v := 0) hx hb dX1_contrastOf_28 (by decide) ?_
      exact kq_ret hx hb hr hlocks dX1_contrastOf_29 (by rw [n_con, if_pos (by omega)])
