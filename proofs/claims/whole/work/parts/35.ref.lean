set_option maxHeartbeats 4000000 in
set_option maxRecDepth 100000 in
theorem c_X6_thrown (l : Launch) (dC : Nat → ClassId) (dI : Nat → Nat → Nat) (cI : ClassId) (oM : Nat) (rz : Nat) (r2 : Nat) (rb : Nat) (rq : Nat) (km : Nat) (n : Nat) (th : Int32) (tp : Int32) (lf : Int32) (hg : Int32) (wd : Int32) (pm : Int32) (stt : Int32) (hh : Int64) (z : Nat → Int32) (v : Nat → Int32)  : Met l yX6_thrown wsX6_thrown ({ frames := 0, cells := 0, slots := 0, locals := 0 }) (kq_R dC dI cI [.ref oM] [(oM, .inr (6, [.int th, .ref rz, .ref r2, .int (nI km), .ref rb, .int (nI n), .int tp, .int lf, .int hg, .int wd, .ref rq, .int pm, .int stt, .long hh]))]) (QcRead (th)) 0 0 (fun _ => False) := by
  refine kq_start (cc := cX6_thrown) (maxL := 1) (ret := (some .int)) (plainFor_of_name (by decide)) rfl (Nat.le_of_ble_eq_true rfl) ?_
  intro p e s m below meth c hx hb hr hml hown hlocks hts hP hK ls hl
  have hown : s.vm.findClass RX6 = some m.cls := hown
  have hl : lv_has ls 1 [(0, .ref oM)] := hl
  refine lv_aload_n hx hb dX6_thrown_0 rfl (lv_at hl 0 rfl) ?_
  refine va_get (D := (dC, dI)) (ci := 6) (v := .int th) (C := RX6) (T := TX6) (N := 14) hx hb hts (by decide +kernel) hown hK.1 hP 0 rfl rfl 0 (by decide) (hts (.fieldLink RX6 22 "NoteWatermarksModel" "thrown" "I") (by decide +kernel)) (fun _ h9 => h9) rfl dX6_thrown_1 ?_
  exact kq_ret hx hb hr hlocks dX6_thrown_4 (by rfl)
set_option maxHeartbeats 4000000 in
set_option maxRecDepth 100000 in
theorem c_X6_leastOf (l : Launch) (dC : Nat → ClassId) (dI : Nat → Nat → Nat) (cI : ClassId) (k : Nat) (hk : k < 3) : Met l yX6_leastOf wsX6_leastOf ({ frames := 0, cells := 0, slots := 0, locals := 0 }) (kq_R dC dI cI [.int (nI k)] []) (QcRead (n_lo k)) 0 0 (fun _ => False) := by
  refine kq_start (cc := cX6_leastOf) (maxL := 1) (ret := (some .int)) (plainFor_of_name (by decide)) rfl (Nat.le_of_ble_eq_true rfl) ?_
  intro p e s m below meth c hx hb hr hml hown hlocks hts hP hK ls hl
  have hown : s.vm.findClass RX6 = some m.cls := hown
  have hl : lv_has ls 1 [(0, .int (nI k))] := hl
  refine lv_iload_n hx hb dX6_leastOf_0 rfl (lv_at hl 0 rfl) ?_
  refine lv_if_ne (tgt := 8) hx hb dX6_leastOf_1 (by decide) (fun c_1 => ?_) (fun c_1 => ?_)
  · skip
    have c_1 := kq_neN (a := k) (b := 0) c_1 (by omega) (by omega)
    refine lv_iload_n hx hb dX6_leastOf_8 rfl (lv_at hl 0 rfl) ?_
    refine lv_iconst (v := 1) hx hb dX6_leastOf_9 (by decide) ?_
    refine lv_icmp_ne (tgt := 18) hx hb dX6_leastOf_10 (by decide) (fun c_2 => ?_) (fun c_2 => ?_)
    · skip
      have c_2 := kq_neN (a := k) (b := 1) c_2 (by omega) (by omega)
      refine lv_iconst (v := 1) hx hb dX6_leastOf_18 (by decide) ?_
      exact kq_ret hx hb hr hlocks dX6_leastOf_19 (by rw [show k = 2 by omega]; rfl)
    · skip
      have c_2 := kq_eqN (a := k) (b := 1) c_2 (by omega) (by omega)
      refine lv_bipush (v := 12) hx hb dX6_leastOf_13 (by decide) ?_
      refine lv_goto (tgt := 19) hx hb dX6_leastOf_15 (by decide) ?_
      exact kq_ret hx hb hr hlocks dX6_leastOf_19 (by rw [show k = 1 by omega]; rfl)
  · skip
    have c_1 := kq_eqN (a := k) (b := 0) c_1 (by omega) (by omega)
    refine lv_iconst (v := 0) hx hb dX6_leastOf_4 (by decide) ?_
    refine lv_goto (tgt := 19) hx hb dX6_leastOf_5 (by decide) ?_
    exact kq_ret hx hb hr hlocks dX6_leastOf_19 (by rw [show k = 0 by omega]; rfl)
set_option maxHeartbeats 4000000 in
set_option maxRecDepth 100000 in
theorem c_X6_mostOf (l : Launch) (dC : Nat → ClassId) (dI : Nat → Nat → Nat) (cI : ClassId) (k : Nat) (hk : k < 3) : Met l yX6_mostOf wsX6_mostOf ({ frames := 0, cells := 0, slots := 0, locals := 0 }) (kq_R dC dI cI [.int (nI k)] []) (QcRead (n_hi k)) 0 0 (fun _ => False) := by
  refine kq_start (cc := cX6_mostOf) (maxL := 1) (ret := (some .int)) (plainFor_of_name (by decide)) rfl (Nat.le_of_ble_eq_true rfl) ?_
  intro p e s m below meth c hx hb hr hml hown hlocks hts hP hK ls hl
  have hown : s.vm.findClass RX6 = some m.cls := hown
  have hl : lv_has ls 1 [(0, .int (nI k))] := hl
  refine lv_iload_n hx hb dX6_mostOf_0 rfl (lv_at hl 0 rfl) ?_
  refine lv_if_ne (tgt := 9) hx hb dX6_mostOf_1 (by decide) (fun c_1 => ?_) (fun c_1 => ?_)
  · skip
    have c_1 := kq_neN (a := k) (b := 0) c_1 (by omega) (by omega)
    refine lv_iload_n hx hb dX6_mostOf_9 rfl (lv_at hl 0 rfl) ?_
    refine lv_iconst (v := 1) hx hb dX6_mostOf_10 (by decide) ?_
    refine lv_icmp_ne (tgt := 19) hx hb dX6_mostOf_11 (by decide) (fun c_2 => ?_) (fun c_2 => ?_)
    · skip
      have c_2 := kq_neN (a := k) (b := 1) c_2 (by omega) (by omega)
      refine lv_bipush (v := 9) hx hb dX6_mostOf_19 (by decide) ?_
      exact kq_ret hx hb hr hlocks dX6_mostOf_21 (by rw [show k = 2 by omega]; rfl)
    · skip
      have c_2 := kq_eqN (a := k) (b := 1) c_2 (by omega) (by omega)
      refine lv_bipush (v := 30) hx hb dX6_mostOf_14 (by decide) ?_
      refine lv_goto (tgt := 21) hx hb dX6_mostOf_16 (by decide) ?_
      exact kq_ret hx hb hr hlocks dX6_mostOf_21 (by rw [show k = 1 by omega]; rfl)
  · skip
    have c_1 := kq_eqN (a := k) (b := 0) c_1 (by omega) (by omega)
    refine lv_bipush (v := 99) hx hb dX6_mostOf_4 (by decide) ?_
    refine lv_goto (tgt := 21) hx hb dX6_mostOf_6 (by decide) ?_
    exact kq_ret hx hb hr hlocks dX6_mostOf_21 (by rw [show k = 0 by omega]; rfl)
set_option maxHeartbeats 4000000 in
set_option maxRecDepth 100000 in
theorem c_X6_bent (l : Launch) (dC : Nat → ClassId) (dI : Nat → Nat → Nat) (cI : ClassId) (oM : Nat) (rz : Nat) (r2 : Nat) (rb : Nat) (rq : Nat) (km : Nat) (n : Nat) (th : Int32) (tp : Int32) (lf : Int32) (hg : Int32) (wd : Int32) (pm : Int32) (stt : Int32) (hh : Int64) (z : Nat → Int32) (v : Nat → Int32) (a : Nat) (d : Nat) (hz : n_Z v z) (ha : a < 3) (hd : d ≤ 16) : Met l yX6_bent wsX6_bent ({ frames := 1, cells := 0, slots := 0, locals := 23 }) (kq_R dC dI cI [.ref oM, .int (nI a), .int (nI d)] [(oM, .inr (6, [.int th, .ref rz, .ref r2, .int (nI km), .ref rb, .int (nI n), .int tp, .int lf, .int hg, .int wd, .ref rq, .int pm, .int stt, .long hh])), (rz, .inl (cI, 389, .inl z))]) (QcRead (n_cw v a d)) 0 0 (fun _ => False) := by
  refine kq_start (cc := cX6_bent) (maxL := 6) (ret := (some .int)) (plainFor_of_name (by decide)) rfl (Nat.le_of_ble_eq_true rfl) ?_
  intro p e s m below meth c hx hb hr hml hown hlocks hts hP hK ls hl
  have hown : s.vm.findClass RX6 = some m.cls := hown
  have hl : lv_has ls 6 [(0, .ref oM), (1, .int (nI a)), (2, .int (nI d))] := hl
  refine lv_iconst (v := 0) hx hb dX6_bent_0 (by decide) ?_
  refine lv_istore_n (lv' := [(3, .int 0), (0, .ref oM), (1, .int (nI a)), (2, .int (nI d))]) hx hb dX6_bent_1 rfl hl (by decide) rfl (fun ls hl => ?_)
  refine lv_iconst (v := 0) hx hb dX6_bent_2 (by decide) ?_
  refine lv_istore (lv' := [(4, .int 0), (3, .int 0), (0, .ref oM), (1, .int (nI a)), (2, .int (nI d))]) hx hb dX6_bent_3 hl (by decide) rfl (fun ls hl => ?_)
  refine kq_loop2 (A1 := Nat) (A2 := Int32) (fun (i : Nat) (x : Int32) => 6 - i) (fun (i : Nat) (x : Int32) => (i ≤ 6) ∧ (x = n_iv (fun i => n_cw1 v a i d) 0 i)) (fun (i : Nat) (x : Int32) => [(0, .ref oM), (1, .int (nI a)), (3, .int x), (4, .int (nI i)), (2, .int (nI d))]) (nL := 6) ?_ 0 0 ⟨(by omega), (by exact n_iv_0.symm)⟩ _ (lv_sub hl [2, 3, 1, 0, 4] rfl)
  intro i x hi_2 ih_1 ls hl
  obtain ⟨ii, ix⟩ := hi_2
  have hl : lv_has ls 6 [(0, .ref oM), (1, .int (nI a)), (3, .int x), (4, .int (nI i)), (2, .int (nI d))] := hl
  refine lv_iload hx hb dX6_bent_5 (lv_at hl 3 rfl) ?_
  refine lv_bipush (v := 6) hx hb dX6_bent_7 (by decide) ?_
  refine lv_icmp_ge (tgt := 53) hx hb dX6_bent_9 (by decide) (fun c_3 => ?_) (fun c_3 => ?_)
  · skip
    have c_3 := kq_leN (a := 6) (b := i) c_3 (by omega) (by omega)
    refine lv_iload_n hx hb dX6_bent_53 rfl (lv_at hl 2 rfl) ?_
    exact kq_ret hx hb hr hlocks dX6_bent_54 (by rw [ix, n_cw, show i = 6 by omega])
  · skip
    have c_3 := kq_nleN (a := 6) (b := i) c_3 (by omega) (by omega)
    refine lv_iconst (v := 0) hx hb dX6_bent_12 (by decide) ?_
    refine lv_istore (lv' := [(5, .int 0), (0, .ref oM), (1, .int (nI a)), (3, .int x), (4, .int (nI i)), (2, .int (nI d))]) hx hb dX6_bent_13 hl (by decide) rfl (fun ls hl => ?_)
    refine kq_loop2 (A1 := Nat) (A2 := Int32) (fun (j : Nat) (x : Int32) => d - j) (fun (j : Nat) (x : Int32) => (j ≤ d) ∧ (x = n_iv (fun i => n_cw1 v a i d) 0 i + n_cw1 v a i j)) (fun (j : Nat) (x : Int32) => [(0, .ref oM), (1, .int (nI a)), (3, .int x), (4, .int (nI i)), (2, .int (nI d)), (5, .int (nI j))]) (nL := 6) ?_ 0 x ⟨(by omega), (by rw [n_cw1, n_iv_0, Int32.add_zero]; exact ix)⟩ _ (lv_sub hl [1, 2, 3, 4, 5, 0] rfl)
    intro j x hi_5 ih_4 ls hl
    obtain ⟨ij, ix⟩ := hi_5
    have hl : lv_has ls 6 [(0, .ref oM), (1, .int (nI a)), (3, .int x), (4, .int (nI i)), (2, .int (nI d)), (5, .int (nI j))] := hl
    refine lv_iload hx hb dX6_bent_15 (lv_at hl 5 rfl) ?_
    refine lv_iload_n hx hb dX6_bent_17 rfl (lv_at hl 4 rfl) ?_
    refine lv_icmp_ge (tgt := 47) hx hb dX6_bent_18 (by decide) (fun c_6 => ?_) (fun c_6 => ?_)
    · skip
      have c_6 := kq_leN (a := d) (b := j) c_6 (by omega) (by omega)
      refine lv_iinc (v := nI (i + 1)) (lv' := [(4, .int (nI (i + 1))), (0, .ref oM), (1, .int (nI a)), (3, .int x), (2, .int (nI d)), (5, .int (nI j))]) hx hb dX6_bent_47 hl (k := 3) rfl (nI_1 i) (by decide) rfl (fun ls hl => ?_)
      refine lv_goto (tgt := 5) hx hb dX6_bent_50 (by decide) ?_
      exact ih_1 (i + 1) x ⟨(by omega), (by rw [n_iv_s (Nat.zero_le _), ix, show j = d by omega])⟩ (by show 6 - (i + 1) < 6 - i; omega) _ (lv_sub hl [1, 2, 3, 0, 4] rfl)
    · skip
      have c_6 := kq_nleN (a := d) (b := j) c_6 (by omega) (by omega)
      refine lv_iload_n hx hb dX6_bent_21 rfl (lv_at hl 2 rfl) ?_
      refine lv_aload_n hx hb dX6_bent_22 rfl (lv_at hl 0 rfl) ?_
      refine lv_iload_n hx hb dX6_bent_23 rfl (lv_at hl 1 rfl) ?_
      refine lv_iload hx hb dX6_bent_24 (lv_at hl 3 rfl) ?_
      refine lv_iload hx hb dX6_bent_26 (lv_at hl 5 rfl) ?_
      refine kq_cV (As := [.int (nI a), .int (nI i), .int (nI j)]) (rest := [.int x]) ⟨hx, hb, hml, hown, hts⟩ (c_X6_wireAt l dC dI cI oM rz r2 rb rq km n th tp lf hg wd pm stt hh z v a i j (by first | assumption | omega) (by first | assumption | omega) (by first | assumption | omega) (by first | assumption | omega)) (cwV 3 hts gX6_bent_X6_wireAt rfl rfl rfl (by decide +kernel) ⟨Nat.le_of_ble_eq_true rfl, Nat.le_of_ble_eq_true rfl⟩) (hP.sub [0, 1] rfl) hK (ci := 6) (q0 := 0) rfl rfl rfl rfl hl.1 rfl (Nat.le_of_ble_eq_true rfl) dX6_bent_28 ⟨Nat.le_of_ble_eq_true rfl, Nat.le_of_ble_eq_true rfl⟩ ?_
      refine lv_if_ne (tgt := 38) hx hb dX6_bent_31 (by decide) (fun c_7 => ?_) (fun c_7 => ?_)
      · skip
        refine lv_iconst (v := 1) hx hb dX6_bent_38 (by decide) ?_
        refine lv_iadd hx hb dX6_bent_39 ?_
        refine lv_istore_n (lv' := [(3, .int (x + 1)), (0, .ref oM), (1, .int (nI a)), (4, .int (nI i)), (2, .int (nI d)), (5, .int (nI j))]) hx hb dX6_bent_40 rfl hl (by decide) rfl (fun ls hl => ?_)
        refine lv_iinc (v := nI (j + 1)) (lv' := [(5, .int (nI (j + 1))), (3, .int (x + 1)), (0, .ref oM), (1, .int (nI a)), (4, .int (nI i)), (2, .int (nI d))]) hx hb dX6_bent_41 hl (k := 5) rfl (nI_1 j) (by decide) rfl (fun ls hl => ?_)
        refine lv_goto (tgt := 15) hx hb dX6_bent_44 (by decide) ?_
        exact ih_4 (j + 1) (x + 1) ⟨(by omega), (by rw [ix, n_cw1, n_cw1, n_iv_s (Nat.zero_le _), Int32.add_assoc]; first | rw [if_pos (by assumption)] | rw [if_neg (by assumption)])⟩ (by show d - (j + 1) < d - j; omega) _ (lv_sub hl [2, 3, 1, 4, 5, 0] rfl)
      · skip
        refine lv_iconst (v := 0) hx hb dX6_bent_34 (by decide) ?_
        refine lv_goto (tgt := 39) hx hb dX6_bent_35 (by decide) ?_
        refine lv_iadd hx hb dX6_bent_39 ?_
        refine lv_istore_n (lv' := [(3, .int (x + 0)), (0, .ref oM), (1, .int (nI a)), (4, .int (nI i)), (2, .int (nI d)), (5, .int (nI j))]) hx hb dX6_bent_40 rfl hl (by decide) rfl (fun ls hl => ?_)
        refine lv_iinc (v := nI (j + 1)) (lv' := [(5, .int (nI (j + 1))), (3, .int (x + 0)), (0, .ref oM), (1, .int (nI a)), (4, .int (nI i)), (2, .int (nI d))]) hx hb dX6_bent_41 hl (k := 5) rfl (nI_1 j) (by decide) rfl (fun ls hl => ?_)
        refine lv_goto (tgt := 15) hx hb dX6_bent_44 (by decide) ?_
        exact ih_4 (j + 1) (x + 0) ⟨(by omega), (by rw [ix, n_cw1, n_cw1, n_iv_s (Nat.zero_le _), Int32.add_assoc]; first | rw [if_pos (by assumption)] | rw [if_neg (by assumption)])⟩ (by show d - (j + 1) < d - j; omega) _ (lv_sub hl [2, 3, 1, 4, 5, 0] rfl)
set_option maxHeartbeats 4000000 in
set_option maxRecDepth 100000 in
theorem c_X6_sumOf (l : Launch) (dC : Nat → ClassId) (dI : Nat → Nat → Nat) (cI : ClassId) (oM : Nat) (rz : Nat) (r2 : Nat) (rb : Nat) (rq : Nat) (km : Nat) (n : Nat) (th : Int32) (tp : Int32) (lf : Int32) (hg : Int32) (wd : Int32) (pm : Int32) (stt : Int32) (hh : Int64) (z : Nat → Int32) (v : Nat → Int32) (a : Nat) (hz : n_Z v z) (hI : n_I v) (ha : a < 3) : Met l yX6_sumOf wsX6_sumOf ({ frames := 1, cells := 0, slots := 0, locals := 23 }) (kq_R dC dI cI [.ref oM, .int (nI a)] [(oM, .inr (6, [.int th, .ref rz, .ref r2, .int (nI km), .ref rb, .int (nI n), .int tp, .int lf, .int hg, .int wd, .ref rq, .int pm, .int stt, .long hh])), (rz, .inl (cI, 389, .inl z))]) (QcRead (n_hw v a (n_c v a))) 0 0 (fun _ => False) := by
  refine kq_start (cc := cX6_sumOf) (maxL := 5) (ret := (some .int)) (plainFor_of_name (by decide)) rfl (Nat.le_of_ble_eq_true rfl) ?_
  intro p e s m below meth c hx hb hr hml hown hlocks hts hP hK ls hl
  have hown : s.vm.findClass RX6 = some m.cls := hown
  have hl : lv_has ls 5 [(0, .ref oM), (1, .int (nI a))] := hl
  have h4 := n_I_c4 hI ha
  have h16 := n_I_c16 hI ha
  refine lv_iconst (v := 0) hx hb dX6_sumOf_0 (by decide) ?_
  refine lv_istore_n (lv' := [(2, .int 0), (0, .ref oM), (1, .int (nI a))]) hx hb dX6_sumOf_1 rfl hl (by decide) rfl (fun ls hl => ?_)
  refine lv_iconst (v := 0) hx hb dX6_sumOf_2 (by decide) ?_
  refine lv_istore_n (lv' := [(3, .int 0), (2, .int 0), (0, .ref oM), (1, .int (nI a))]) hx hb dX6_sumOf_3 rfl hl (by decide) rfl (fun ls hl => ?_)
  refine kq_loop2 (A1 := Nat) (A2 := Int32) (fun (i : Nat) (x : Int32) => 6 - i) (fun (i : Nat) (x : Int32) => (i ≤ 6) ∧ (x = n_iv (fun i => n_hw1 v a i (n_c v a)) 0 i)) (fun (i : Nat) (x : Int32) => [(0, .ref oM), (1, .int (nI a)), (2, .int x), (3, .int (nI i))]) (nL := 5) ?_ 0 0 ⟨(by omega), (by exact n_iv_0.symm)⟩ _ (lv_sub hl [2, 3, 1, 0] rfl)
  intro i x hi_2 ih_1 ls hl
  obtain ⟨ii, ix⟩ := hi_2
  have hl : lv_has ls 5 [(0, .ref oM), (1, .int (nI a)), (2, .int x), (3, .int (nI i))] := hl
  refine lv_iload_n hx hb dX6_sumOf_4 rfl (lv_at hl 3 rfl) ?_
  refine lv_bipush (v := 6) hx hb dX6_sumOf_5 (by decide) ?_
  refine lv_icmp_ge (tgt := 49) hx hb dX6_sumOf_7 (by decide) (fun c_3 => ?_) (fun c_3 => ?_)
  · skip
    have c_3 := kq_leN (a := 6) (b := i) c_3 (by omega) (by omega)
    refine lv_iload_n hx hb dX6_sumOf_49 rfl (lv_at hl 2 rfl) ?_
    exact kq_ret hx hb hr hlocks dX6_sumOf_50 (by rw [ix, n_hw, show i = 6 by omega])
  · skip
    have c_3 := kq_nleN (a := 6) (b := i) c_3 (by omega) (by omega)
    refine lv_iconst (v := 0) hx hb dX6_sumOf_10 (by decide) ?_
    refine lv_istore (lv' := [(4, .int 0), (0, .ref oM), (1, .int (nI a)), (2, .int x), (3, .int (nI i))]) hx hb dX6_sumOf_11 hl (by decide) rfl (fun ls hl => ?_)
    refine kq_loop2 (A1 := Nat) (A2 := Int32) (fun (j : Nat) (x : Int32) => (n_c v a) - j) (fun (j : Nat) (x : Int32) => (j ≤ (n_c v a)) ∧ (x = n_iv (fun i => n_hw1 v a i (n_c v a)) 0 i + n_hw1 v a i j)) (fun (j : Nat) (x : Int32) => [(0, .ref oM), (1, .int (nI a)), (2, .int x), (3, .int (nI i)), (4, .int (nI j))]) (nL := 5) ?_ 0 x ⟨(by omega), (by rw [n_hw1, n_iv_0, Int32.add_zero]; exact ix)⟩ _ (lv_sub hl [1, 2, 3, 4, 0] rfl)
    intro j x hi_5 ih_4 ls hl
    obtain ⟨ij, ix⟩ := hi_5
    have hl : lv_has ls 5 [(0, .ref oM), (1, .int (nI a)), (2, .int x), (3, .int (nI i)), (4, .int (nI j))] := hl
    refine lv_iload hx hb dX6_sumOf_13 (lv_at hl 4 rfl) ?_
    refine lv_aload_n hx hb dX6_sumOf_15 rfl (lv_at hl 0 rfl) ?_
    refine va_get (D := (dC, dI)) (ci := 6) (v := .ref rz) (C := RX6) (T := TX6) (N := 14) hx hb hts (by decide +kernel) hown hK.1 hP 0 rfl rfl 1 (by decide) (hts (.fieldLink RX6 7 "NoteWatermarksModel" "z" "[I") (by decide +kernel)) (fun _ h9 => h9) rfl dX6_sumOf_16 ?_
    refine lv_iconst (v := 3) hx hb dX6_sumOf_19 (by decide) ?_
    refine lv_iload_n hx hb dX6_sumOf_20 rfl (lv_at hl 1 rfl) ?_
    refine lv_iadd hx hb dX6_sumOf_21 ?_
    refine kq_top (z := nI (3 + a)) (nI_add 3 a) ?_
    refine va_iald hx hb hK.1 hP 1 0 rfl rfl (vp_in_nI (show 3 + a < 389 from by omega) (by omega)) dX6_sumOf_22 ?_
    refine kq_top (z := z (3 + a)) (congrArg z (nI_clamp (Nat.lt_trans (show 3 + a < 389 from by omega) (by omega)))) ?_
    refine kq_top (z := nI (n_c v a)) ((hz.2.1 a ha).trans (n_I_c hI ha)) ?_
    refine lv_icmp_ge (tgt := 43) hx hb dX6_sumOf_23 (by decide) (fun c_6 => ?_) (fun c_6 => ?_)
    · skip
      have c_6 := kq_leN (a := (n_c v a)) (b := j) c_6 (by omega) (by omega)
      refine lv_iinc (v := nI (i + 1)) (lv' := [(3, .int (nI (i + 1))), (0, .ref oM), (1, .int (nI a)), (2, .int x), (4, .int (nI j))]) hx hb dX6_sumOf_43 hl (k := 3) rfl (nI_1 i) (by decide) rfl (fun ls hl => ?_)
      refine lv_goto (tgt := 4) hx hb dX6_sumOf_46 (by decide) ?_
      exact ih_1 (i + 1) x ⟨(by omega), (by rw [n_iv_s (Nat.zero_le _), ix, show j = (n_c v a) by omega])⟩ (by show 6 - (i + 1) < 6 - i; omega) _ (lv_sub hl [1, 2, 3, 0] rfl)
    · skip
      have c_6 := kq_nleN (a := (n_c v a)) (b := j) c_6 (by omega) (by omega)
      refine lv_iload_n hx hb dX6_sumOf_26 rfl (lv_at hl 2 rfl) ?_
      refine lv_aload_n hx hb dX6_sumOf_27 rfl (lv_at hl 0 rfl) ?_
      refine lv_iload_n hx hb dX6_sumOf_28 rfl (lv_at hl 1 rfl) ?_
      refine lv_iload_n hx hb dX6_sumOf_29 rfl (lv_at hl 3 rfl) ?_
      refine lv_iload hx hb dX6_sumOf_30 (lv_at hl 4 rfl) ?_
      refine kq_cV (As := [.int (nI a), .int (nI i), .int (nI j)]) (rest := [.int x]) ⟨hx, hb, hml, hown, hts⟩ (c_X6_wireAt l dC dI cI oM rz r2 rb rq km n th tp lf hg wd pm stt hh z v a i j (by first | assumption | omega) (by first | assumption | omega) (by first | assumption | omega) (by first | assumption | omega)) (cwV 3 hts gX6_sumOf_X6_wireAt rfl rfl rfl (by decide +kernel) ⟨Nat.le_of_ble_eq_true rfl, Nat.le_of_ble_eq_true rfl⟩) (hP.sub [0, 1] rfl) hK (ci := 6) (q0 := 0) rfl rfl rfl rfl hl.1 rfl (Nat.le_of_ble_eq_true rfl) dX6_sumOf_32 ⟨Nat.le_of_ble_eq_true rfl, Nat.le_of_ble_eq_true rfl⟩ ?_
      refine lv_iadd hx hb dX6_sumOf_35 ?_
      refine lv_istore_n (lv' := [(2, .int (x + (v ((a * 6 + i) * 16 + j)))), (0, .ref oM), (1, .int (nI a)), (3, .int (nI i)), (4, .int (nI j))]) hx hb dX6_sumOf_36 rfl hl (by decide) rfl (fun ls hl => ?_)
      refine lv_iinc (v := nI (j + 1)) (lv' := [(4, .int (nI (j + 1))), (2, .int (x + (v ((a * 6 + i) * 16 + j)))), (0, .ref oM), (1, .int (nI a)), (3, .int (nI i))]) hx hb dX6_sumOf_37 hl (k := 4) rfl (nI_1 j) (by decide) rfl (fun ls hl => ?_)
      refine lv_goto (tgt := 13) hx hb dX6_sumOf_40 (by decide) ?_
      exact ih_4 (j + 1) (x + (v ((a * 6 + i) * 16 + j))) ⟨(by omega), (by rw [ix, n_hw1, n_hw1, n_iv_s (Nat.zero_le _), Int32.add_assoc])⟩ (by show (n_c v a) - (j + 1) < (n_c v a) - j; omega) _ (lv_sub hl [2, 3, 1, 4, 0] rfl)
set_option maxHeartbeats 4000000 in
set_option maxRecDepth 100000 in
theorem c_X6_roundOf (l : Launch) (dC : Nat → ClassId) (dI : Nat → Nat → Nat) (cI : ClassId) (oM : Nat) (rz : Nat) (r2 : Nat) (rb : Nat) (rq : Nat) (km : Nat) (n : Nat) (th : Int32) (tp : Int32) (lf : Int32) (hg : Int32) (wd : Int32) (pm : Int32) (stt : Int32) (hh : Int64) (z : Nat → Int32) (v : Nat → Int32) (a : Nat) (k : Nat) (hz : n_Z v z) (hI : n_I v) (ha : a < 3) (hk : k < 32768) : Met l yX6_roundOf wsX6_roundOf ({ frames := 0, cells := 0, slots := 0, locals := 0 }) (kq_R dC dI cI [.ref oM, .int (nI a), .int (nI k)] [(oM, .inr (6, [.int th, .ref rz, .ref r2, .int (nI km), .ref rb, .int (nI n), .int tp, .int lf, .int hg, .int wd, .ref rq, .int pm, .int stt, .long hh])), (rz, .inl (cI, 389, .inl z))]) (QcRead (nI (n_stm k (n_c v a)))) 0 0 (fun _ => False) := by
  refine kq_start (cc := cX6_roundOf) (maxL := 4) (ret := (some .int)) (plainFor_of_name (by decide)) rfl (Nat.le_of_ble_eq_true rfl) ?_
  intro p e s m below meth c hx hb hr hml hown hlocks hts hP hK ls hl
  have hown : s.vm.findClass RX6 = some m.cls := hown
  have hl : lv_has ls 4 [(0, .ref oM), (1, .int (nI a)), (2, .int (nI k))] := hl
  have h4 := n_I_c4 hI ha
  have h16 := n_I_c16 hI ha
  have hd0 : 0 < n_c v a := by omega
  have hst := n_stm_pos (a := k) hd0
  have hsl := n_stm_le (a := k) (d := n_c v a)
  refine lv_iconst (v := 1) hx hb dX6_roundOf_0 (by decide) ?_
  refine lv_istore_n (lv' := [(3, .int 1), (0, .ref oM), (1, .int (nI a)), (2, .int (nI k))]) hx hb dX6_roundOf_1 rfl hl (by decide) rfl (fun ls hl => ?_)
  refine kq_loop1 (A1 := Nat) (fun (y : Nat) => n_stm k (n_c v a) - y) (fun (y : Nat) => (1 ≤ y ∧ y ≤ n_stm k (n_c v a))) (fun (y : Nat) => [(0, .ref oM), (1, .int (nI a)), (2, .int (nI k)), (3, .int (nI y))]) (nL := 4) ?_ 1 (by omega) _ (lv_sub hl [1, 2, 3, 0] rfl)
  intro y hi_2 ih_1 ls hl
  have iy : 1 ≤ y ∧ y ≤ n_stm k (n_c v a) := hi_2
  have hl : lv_has ls 4 [(0, .ref oM), (1, .int (nI a)), (2, .int (nI k)), (3, .int (nI y))] := hl
  have hyk : y * k ≤ 16 * 32768 := Nat.mul_le_mul (by omega) (by omega)
  have hmd := Nat.mod_lt (y * k) hd0
  refine lv_iload_n hx hb dX6_roundOf_2 rfl (lv_at hl 3 rfl) ?_
  refine lv_iload_n hx hb dX6_roundOf_3 rfl (lv_at hl 2 rfl) ?_
  refine lv_imul hx hb dX6_roundOf_4 ?_
  refine kq_top (z := nI (y * k)) (pk_mul y k) ?_
  refine lv_aload_n hx hb dX6_roundOf_5 rfl (lv_at hl 0 rfl) ?_
  refine va_get (D := (dC, dI)) (ci := 6) (v := .ref rz) (C := RX6) (T := TX6) (N := 14) hx hb hts (by decide +kernel) hown hK.1 hP 0 rfl rfl 1 (by decide) (hts (.fieldLink RX6 7 "NoteWatermarksModel" "z" "[I") (by decide +kernel)) (fun _ h9 => h9) rfl dX6_roundOf_6 ?_
  refine lv_iconst (v := 3) hx hb dX6_roundOf_9 (by decide) ?_
  refine lv_iload_n hx hb dX6_roundOf_10 rfl (lv_at hl 1 rfl) ?_
  refine lv_iadd hx hb dX6_roundOf_11 ?_
  refine kq_top (z := nI (3 + a)) (nI_add 3 a) ?_
  refine va_iald hx hb hK.1 hP 1 0 rfl rfl (vp_in_nI (show 3 + a < 389 from by omega) (by omega)) dX6_roundOf_12 ?_
  refine kq_top (z := z (3 + a)) (congrArg z (nI_clamp (Nat.lt_trans (show 3 + a < 389 from by omega) (by omega)))) ?_
  refine kq_top (z := nI (n_c v a)) ((hz.2.1 a ha).trans (n_I_c hI ha)) ?_
  refine lv_irem hx hb dX6_roundOf_13 (nI_ne0 (n := (n_c v a)) (by omega) (by omega)) ?_
  refine kq_top (z := nI ((y * k) % (n_c v a))) (pk_rem (a := (y * k)) (d := (n_c v a)) (by omega) (by omega) (by omega)) ?_
  refine lv_if_eq (tgt := 23) hx hb dX6_roundOf_14 (by decide) (fun c_3 => ?_) (fun c_3 => ?_)
  · skip
    have c_3 := kq_eqN (a := ((y * k) % (n_c v a))) (b := 0) c_3 (by omega) (by omega)
    have hdv := Nat.le_of_dvd (show 0 < y by omega) ((n_stm_iff hd0).mp c_3)
    have hye : y = n_stm k (n_c v a) := by omega
    refine lv_iload_n hx hb dX6_roundOf_23 rfl (lv_at hl 3 rfl) ?_
    exact kq_ret hx hb hr hlocks dX6_roundOf_24 (by rw [← hye])
  · skip
    have c_3 := kq_neN (a := ((y * k) % (n_c v a))) (b := 0) c_3 (by omega) (by omega)
    have hne : ¬ y = n_stm k (n_c v a) := fun q => c_3 ((n_stm_iff hd0).mpr (by rw [q]; exact Nat.dvd_refl _))
    refine lv_iinc (v := nI (y + 1)) (lv' := [(3, .int (nI (y + 1))), (0, .ref oM), (1, .int (nI a)), (2, .int (nI k))]) hx hb dX6_roundOf_17 hl (k := 3) rfl (nI_1 y) (by decide) rfl (fun ls hl => ?_)
    refine lv_goto (tgt := 2) hx hb dX6_roundOf_20 (by decide) ?_
    exact ih_1 (y + 1) (by omega) (by show n_stm k (n_c v a) - (y + 1) < n_stm k (n_c v a) - y; omega) _ (lv_sub hl [1, 2, 3, 0] rfl)
set_option maxHeartbeats 4000000 in
set_option maxRecDepth 100000 in
theorem c_X6_roundOfAll (l : Launch) (dC : Nat → ClassId) (dI : Nat → Nat → Nat) (cI : ClassId) (oM : Nat) (rz : Nat) (r2 : Nat) (rb : Nat) (rq : Nat) (km : Nat) (n : Nat) (th : Int32) (tp : Int32) (lf : Int32) (hg : Int32) (wd : Int32) (pm : Int32) (stt : Int32) (hh : Int64) (z : Nat → Int32) (v : Nat → Int32) (k : Nat) (hz : n_Z v z) (hI : n_I v) (hk : k < 32768) : Met l yX6_roundOfAll wsX6_roundOfAll ({ frames := 0, cells := 0, slots := 0, locals := 0 }) (kq_R dC dI cI [.ref oM, .int (nI k)] [(oM, .inr (6, [.int th, .ref rz, .ref r2, .int (nI km), .ref rb, .int (nI n), .int tp, .int lf, .int hg, .int wd, .ref rq, .int pm, .int stt, .long hh])), (rz, .inl (cI, 389, .inl z))]) (QcRead (nI (n_all v k 3))) 0 0 (fun _ => False) := by
  refine kq_start (cc := cX6_roundOfAll) (maxL := 3) (ret := (some .int)) (plainFor_of_name (by decide)) rfl (Nat.le_of_ble_eq_true rfl) ?_
  intro p e s m below meth c hx hb hr hml hown hlocks hts hP hK ls hl
  have hown : s.vm.findClass RX6 = some m.cls := hown
  have hl : lv_has ls 3 [(0, .ref oM), (1, .int (nI k))] := hl
  have hap := n_all_pos hI (q := k) 3 (Nat.le_refl _)
  have k0 := n_I_c4 hI (r := 0) (by decide)
  have k1 := n_I_c4 hI (r := 1) (by decide)
  have k2 := n_I_c4 hI (r := 2) (by decide)
  have g0 := n_I_c16 hI (r := 0) (by decide)
  have g1 := n_I_c16 hI (r := 1) (by decide)
  have g2 := n_I_c16 hI (r := 2) (by decide)
  refine lv_iconst (v := 1) hx hb dX6_roundOfAll_0 (by decide) ?_
  refine lv_istore_n (lv' := [(2, .int 1), (0, .ref oM), (1, .int (nI k))]) hx hb dX6_roundOfAll_1 rfl hl (by decide) rfl (fun ls hl => ?_)
  refine kq_loop1 (A1 := Nat) (fun (y : Nat) => n_all v k 3 - y) (fun (y : Nat) => (1 ≤ y ∧ y ≤ n_all v k 3)) (fun (y : Nat) => [(0, .ref oM), (1, .int (nI k)), (2, .int (nI y))]) (nL := 3) ?_ 1 (by omega) _ (lv_sub hl [1, 2, 0] rfl)
  intro y hi_2 ih_1 ls hl
  have iy : 1 ≤ y ∧ y ≤ n_all v k 3 := hi_2
  have hl : lv_has ls 3 [(0, .ref oM), (1, .int (nI k)), (2, .int (nI y))] := hl
  have hyk : y * k ≤ 4096 * 32768 := Nat.mul_le_mul (by omega) (by omega)
  have e0 := Nat.mod_lt (y * k) (show 0 < n_c v 0 by omega)
  have e1 := Nat.mod_lt (y * k) (show 0 < n_c v 1 by omega)
  have e2 := Nat.mod_lt (y * k) (show 0 < n_c v 2 by omega)
  refine lv_iload_n hx hb dX6_roundOfAll_2 rfl (lv_at hl 2 rfl) ?_
  refine lv_iload_n hx hb dX6_roundOfAll_3 rfl (lv_at hl 1 rfl) ?_
  refine lv_imul hx hb dX6_roundOfAll_4 ?_
  refine kq_top (z := nI (y * k)) (pk_mul y k) ?_
  refine lv_aload_n hx hb dX6_roundOfAll_5 rfl (lv_at hl 0 rfl) ?_
  refine va_get (D := (dC, dI)) (ci := 6) (v := .ref rz) (C := RX6) (T := TX6) (N := 14) hx hb hts (by decide +kernel) hown hK.1 hP 0 rfl rfl 1 (by decide) (hts (.fieldLink RX6 7 "NoteWatermarksModel" "z" "[I") (by decide +kernel)) (fun _ h9 => h9) rfl dX6_roundOfAll_6 ?_
  refine lv_iconst (v := 3) hx hb dX6_roundOfAll_9 (by decide) ?_
  refine va_iald hx hb hK.1 hP 1 0 rfl rfl (vp_in_nI (show 3 < 389 from by omega) (by omega)) dX6_roundOfAll_10 ?_
  refine kq_top (z := z 3) (congrArg z (nI_clamp (Nat.lt_trans (show 3 < 389 from by omega) (by omega)))) ?_
  refine kq_top (z := nI (n_c v 0)) ((hz.2.1 0 (by decide)).trans (n_I_c hI (by decide))) ?_
  refine lv_irem hx hb dX6_roundOfAll_11 (nI_ne0 (n := (n_c v 0)) (by omega) (by omega)) ?_
  refine kq_top (z := nI ((y * k) % (n_c v 0))) (pk_rem (a := (y * k)) (d := (n_c v 0)) (by omega) (by omega) (by omega)) ?_
  refine lv_if_ne (tgt := 41) hx hb dX6_roundOfAll_12 (by decide) (fun c_3 => ?_) (fun c_3 => ?_)
  · skip
    have c_3 := kq_neN (a := ((y * k) % (n_c v 0))) (b := 0) c_3 (by omega) (by omega)
    have hne : ¬ y = n_all v k 3 := fun q => c_3 ((n_stm_iff (d := n_c v 0) (by have := n_I_c4 hI (r := 0) (by decide); omega)).mpr (((n_all_dvd hI 3 (Nat.le_refl _)).mp (by rw [q]; exact Nat.dvd_refl _)) 0 (by decide)))
    refine lv_iinc (v := nI (y + 1)) (lv' := [(2, .int (nI (y + 1))), (0, .ref oM), (1, .int (nI k))]) hx hb dX6_roundOfAll_41 hl (k := 2) rfl (nI_1 y) (by decide) rfl (fun ls hl => ?_)
    refine lv_goto (tgt := 2) hx hb dX6_roundOfAll_44 (by decide) ?_
    exact ih_1 (y + 1) (by omega) (by show n_all v k 3 - (y + 1) < n_all v k 3 - y; omega) _ (lv_sub hl [1, 2, 0] rfl)
  · skip
    have c_3 := kq_eqN (a := ((y * k) % (n_c v 0))) (b := 0) c_3 (by omega) (by omega)
    have hv0 := (n_stm_iff (d := n_c v 0) (by have := n_I_c4 hI (r := 0) (by decide); omega)).mp c_3
    refine lv_iload_n hx hb dX6_roundOfAll_15 rfl (lv_at hl 2 rfl) ?_
    refine lv_iload_n hx hb dX6_roundOfAll_16 rfl (lv_at hl 1 rfl) ?_
    refine lv_imul hx hb dX6_roundOfAll_17 ?_
    refine kq_top (z := nI (y * k)) (pk_mul y k) ?_
    refine lv_aload_n hx hb dX6_roundOfAll_18 rfl (lv_at hl 0 rfl) ?_
    refine va_get (D := (dC, dI)) (ci := 6) (v := .ref rz) (C := RX6) (T := TX6) (N := 14) hx hb hts (by decide +kernel) hown hK.1 hP 0 rfl rfl 1 (by decide) (hts (.fieldLink RX6 7 "NoteWatermarksModel" "z" "[I") (by decide +kernel)) (fun _ h9 => h9) rfl dX6_roundOfAll_19 ?_
    refine lv_iconst (v := 4) hx hb dX6_roundOfAll_22 (by decide) ?_
    refine va_iald hx hb hK.1 hP 1 0 rfl rfl (vp_in_nI (show 4 < 389 from by omega) (by omega)) dX6_roundOfAll_23 ?_
    refine kq_top (z := z 4) (congrArg z (nI_clamp (Nat.lt_trans (show 4 < 389 from by omega) (by omega)))) ?_
    refine kq_top (z := nI (n_c v 1)) ((hz.2.1 1 (by decide)).trans (n_I_c hI (by decide))) ?_
    refine lv_irem hx hb dX6_roundOfAll_24 (nI_ne0 (n := (n_c v 1)) (by omega) (by omega)) ?_
    refine kq_top (z := nI ((y * k) % (n_c v 1))) (pk_rem (a := (y * k)) (d := (n_c v 1)) (by omega) (by omega) (by omega)) ?_
    refine lv_if_ne (tgt := 41) hx hb dX6_roundOfAll_25 (by decide) (fun c_4 => ?_) (fun c_4 => ?_)
    · skip
      have c_4 := kq_neN (a := ((y * k) % (n_c v 1))) (b := 0) c_4 (by omega) (by omega)
      have hne : ¬ y = n_all v k 3 := fun q => c_4 ((n_stm_iff (d := n_c v 1) (by have := n_I_c4 hI (r := 1) (by decide); omega)).mpr (((n_all_dvd hI 3 (Nat.le_refl _)).mp (by rw [q]; exact Nat.dvd_refl _)) 1 (by decide)))
      refine lv_iinc (v := nI (y + 1)) (lv' := [(2, .int (nI (y + 1))), (0, .ref oM), (1, .int (nI k))]) hx hb dX6_roundOfAll_41 hl (k := 2) rfl (nI_1 y) (by decide) rfl (fun ls hl => ?_)
      refine lv_goto (tgt := 2) hx hb dX6_roundOfAll_44 (by decide) ?_
      exact ih_1 (y + 1) (by omega) (by show n_all v k 3 - (y + 1) < n_all v k 3 - y; omega) _ (lv_sub hl [1, 2, 0] rfl)
    · skip
      have c_4 := kq_eqN (a := ((y * k) % (n_c v 1))) (b := 0) c_4 (by omega) (by omega)
      have hv1 := (n_stm_iff (d := n_c v 1) (by have := n_I_c4 hI (r := 1) (by decide); omega)).mp c_4
      refine lv_iload_n hx hb dX6_roundOfAll_28 rfl (lv_at hl 2 rfl) ?_
      refine lv_iload_n hx hb dX6_roundOfAll_29 rfl (lv_at hl 1 rfl) ?_
      refine lv_imul hx hb dX6_roundOfAll_30 ?_
      refine kq_top (z := nI (y * k)) (pk_mul y k) ?_
      refine lv_aload_n hx hb dX6_roundOfAll_31 rfl (lv_at hl 0 rfl) ?_
      refine va_get (D := (dC, dI)) (ci := 6) (v := .ref rz) (C := RX6) (T := TX6) (N := 14) hx hb hts (by decide +kernel) hown hK.1 hP 0 rfl rfl 1 (by decide) (hts (.fieldLink RX6 7 "NoteWatermarksModel" "z" "[I") (by decide +kernel)) (fun _ h9 => h9) rfl dX6_roundOfAll_32 ?_
      refine lv_iconst (v := 5) hx hb dX6_roundOfAll_35 (by decide) ?_
      refine va_iald hx hb hK.1 hP 1 0 rfl rfl (vp_in_nI (show 5 < 389 from by omega) (by omega)) dX6_roundOfAll_36 ?_
      refine kq_top (z := z 5) (congrArg z (nI_clamp (Nat.lt_trans (show 5 < 389 from by omega) (by omega)))) ?_
      refine kq_top (z := nI (n_c v 2)) ((hz.2.1 2 (by decide)).trans (n_I_c hI (by decide))) ?_
      refine lv_irem hx hb dX6_roundOfAll_37 (nI_ne0 (n := (n_c v 2)) (by omega) (by omega)) ?_
      refine kq_top (z := nI ((y * k) % (n_c v 2))) (pk_rem (a := (y * k)) (d := (n_c v 2)) (by omega) (by omega) (by omega)) ?_
      refine lv_if_eq (tgt := 47) hx hb dX6_roundOfAll_38 (by decide) (fun c_5 => ?_) (fun c_5 => ?_)
      · skip
        have c_5 := kq_eqN (a := ((y * k) % (n_c v 2))) (b := 0) c_5 (by omega) (by omega)
        have hv2 := (n_stm_iff (d := n_c v 2) (by have := n_I_c4 hI (r := 2) (by decide); omega)).mp c_5
        have hdv := Nat.le_of_dvd (show 0 < y by omega) ((n_all_dvd hI 3 (Nat.le_refl _)).mpr (fun j hj => by rcases (show j = 0 ∨ j = 1 ∨ j = 2 by omega) with rfl | rfl | rfl; exact hv0; exact hv1; exact hv2))
        have hye : y = n_all v k 3 := by omega
        refine lv_iload_n hx hb dX6_roundOfAll_47 rfl (lv_at hl 2 rfl) ?_
        exact kq_ret hx hb hr hlocks dX6_roundOfAll_48 (by rw [← hye])
      · skip
        have c_5 := kq_neN (a := ((y * k) % (n_c v 2))) (b := 0) c_5 (by omega) (by omega)
        have hne : ¬ y = n_all v k 3 := fun q => c_5 ((n_stm_iff (d := n_c v 2) (by have := n_I_c4 hI (r := 2) (by decide); omega)).mpr (((n_all_dvd hI 3 (Nat.le_refl _)).mp (by rw [q]; exact Nat.dvd_refl _)) 2 (by decide)))
        refine lv_iinc (v := nI (y + 1)) (lv' := [(2, .int (nI (y + 1))), (0, .ref oM), (1, .int (nI k))]) hx hb dX6_roundOfAll_41 hl (k := 2) rfl (nI_1 y) (by decide) rfl (fun ls hl => ?_)
        refine lv_goto (tgt := 2) hx hb dX6_roundOfAll_44 (by decide) ?_
        exact ih_1 (y + 1) (by omega) (by show n_all v k 3 - (y + 1) < n_all v k 3 - y; omega) _ (lv_sub hl [1, 2, 0] rfl)
set_option maxHeartbeats 4000000 in
set_option maxRecDepth 100000 in
theorem c_X6_toldRoll (l : Launch) (dC : Nat → ClassId) (dI : Nat → Nat → Nat) (cI : ClassId) (oM : Nat) (rz : Nat) (r2 : Nat) (rb : Nat) (rq : Nat) (km : Nat) (n : Nat) (th : Int32) (tp : Int32) (lf : Int32) (hg : Int32) (wd : Int32) (pm : Int32) (stt : Int32) (hh : Int64) (z : Nat → Int32) (v : Nat → Int32) (a : Nat) (q : Nat) (hz : n_Z v z) (hI : n_I v) (ha : a < 3) (hq : q < 5) : Met l yX6_toldRoll wsX6_toldRoll ({ frames := 2, cells := 0, slots := 0, locals := 48 }) (kq_R dC dI cI [.ref oM, .int (nI a), .int (nI q)] [(oM, .inr (6, [.int th, .ref rz, .ref r2, .int (nI km), .ref rb, .int (nI n), .int tp, .int lf, .int hg, .int wd, .ref rq, .int pm, .int stt, .long hh])), (rz, .inl (cI, 389, .inl z))]) (QcRead (n_roll v a q)) 0 0 (fun _ => False) := by
  refine kq_start (cc := cX6_toldRoll) (maxL := 3) (ret := (some .int)) (plainFor_of_name (by decide)) rfl (Nat.le_of_ble_eq_true rfl) ?_
  intro p e s m below meth c hx hb hr hml hown hlocks hts hP hK ls hl
  have hown : s.vm.findClass RX6 = some m.cls := hown
  have hl : lv_has ls 3 [(0, .ref oM), (1, .int (nI a)), (2, .int (nI q))] := hl
  have h4 := n_I_c4 hI ha
  have h16 := n_I_c16 hI ha
  have hs1 := (n_I_s hI).2.2.2.2.1
  refine lv_iload_n hx hb dX6_toldRoll_0 rfl (lv_at hl 2 rfl) ?_
  rcases (show q = 0 ∨ q = 1 ∨ q = 2 ∨ q = 3 ∨ q = 4 from by omega) with rfl | rfl | rfl | rfl | rfl
  · skip
    refine lv_tableIn (off := 31) (tgt := 32) hx hb dX6_toldRoll_1 (by decide) (by decide) (by decide) (by decide) ?_
    refine lv_aload_n hx hb dX6_toldRoll_32 rfl (lv_at hl 0 rfl) ?_
    refine va_get (D := (dC, dI)) (ci := 6) (v := .ref rz) (C := RX6) (T := TX6) (N := 14) hx hb hts (by decide +kernel) hown hK.1 hP 0 rfl rfl 1 (by decide) (hts (.fieldLink RX6 7 "NoteWatermarksModel" "z" "[I") (by decide +kernel)) (fun _ h9 => h9) rfl dX6_toldRoll_33 ?_
    refine lv_iconst (v := 3) hx hb dX6_toldRoll_36 (by decide) ?_
    refine lv_iload_n hx hb dX6_toldRoll_37 rfl (lv_at hl 1 rfl) ?_
    refine lv_iadd hx hb dX6_toldRoll_38 ?_
    refine kq_top (z := nI (3 + a)) (nI_add 3 a) ?_
    refine va_iald hx hb hK.1 hP 1 0 rfl rfl (vp_in_nI (show 3 + a < 389 from by omega) (by omega)) dX6_toldRoll_39 ?_
    refine kq_top (z := z (3 + a)) (congrArg z (nI_clamp (Nat.lt_trans (show 3 + a < 389 from by omega) (by omega)))) ?_
    refine kq_top (z := v (288 + a)) (hz.2.1 a ha) ?_
    exact kq_ret hx hb hr hlocks dX6_toldRoll_40 (by rfl)
  · skip
    refine lv_tableIn (off := 40) (tgt := 41) hx hb dX6_toldRoll_1 (by decide) (by decide) (by decide) (by decide) ?_
    refine lv_aload_n hx hb dX6_toldRoll_41 rfl (lv_at hl 0 rfl) ?_
    refine va_get (D := (dC, dI)) (ci := 6) (v := .ref rz) (C := RX6) (T := TX6) (N := 14) hx hb hts (by decide +kernel) hown hK.1 hP 0 rfl rfl 1 (by decide) (hts (.fieldLink RX6 7 "NoteWatermarksModel" "z" "[I") (by decide +kernel)) (fun _ h9 => h9) rfl dX6_toldRoll_42 ?_
    refine lv_bipush (v := 6) hx hb dX6_toldRoll_45 (by decide) ?_
    refine lv_iload_n hx hb dX6_toldRoll_47 rfl (lv_at hl 1 rfl) ?_
    refine lv_iadd hx hb dX6_toldRoll_48 ?_
    refine kq_top (z := nI (6 + a)) (nI_add 6 a) ?_
    refine va_iald hx hb hK.1 hP 1 0 rfl rfl (vp_in_nI (show 6 + a < 389 from by omega) (by omega)) dX6_toldRoll_49 ?_
    refine kq_top (z := z (6 + a)) (congrArg z (nI_clamp (Nat.lt_trans (show 6 + a < 389 from by omega) (by omega)))) ?_
    refine kq_top (z := v (291 + a)) (hz.2.2.1 a ha) ?_
    exact kq_ret hx hb hr hlocks dX6_toldRoll_50 (by rfl)
  · skip
    refine lv_tableIn (off := 50) (tgt := 51) hx hb dX6_toldRoll_1 (by decide) (by decide) (by decide) (by decide) ?_
    refine lv_aload_n hx hb dX6_toldRoll_51 rfl (lv_at hl 0 rfl) ?_
    refine lv_iload_n hx hb dX6_toldRoll_52 rfl (lv_at hl 1 rfl) ?_
    refine lv_aload_n hx hb dX6_toldRoll_53 rfl (lv_at hl 0 rfl) ?_
    refine va_get (D := (dC, dI)) (ci := 6) (v := .ref rz) (C := RX6) (T := TX6) (N := 14) hx hb hts (by decide +kernel) hown hK.1 hP 0 rfl rfl 1 (by decide) (hts (.fieldLink RX6 7 "NoteWatermarksModel" "z" "[I") (by decide +kernel)) (fun _ h9 => h9) rfl dX6_toldRoll_54 ?_
    refine lv_iconst (v := 3) hx hb dX6_toldRoll_57 (by decide) ?_
    refine lv_iload_n hx hb dX6_toldRoll_58 rfl (lv_at hl 1 rfl) ?_
    refine lv_iadd hx hb dX6_toldRoll_59 ?_
    refine kq_top (z := nI (3 + a)) (nI_add 3 a) ?_
    refine va_iald hx hb hK.1 hP 1 0 rfl rfl (vp_in_nI (show 3 + a < 389 from by omega) (by omega)) dX6_toldRoll_60 ?_
    refine kq_top (z := z (3 + a)) (congrArg z (nI_clamp (Nat.lt_trans (show 3 + a < 389 from by omega) (by omega)))) ?_
    refine kq_top (z := nI (n_c v a)) ((hz.2.1 a ha).trans (n_I_c hI ha)) ?_
    refine kq_cV (As := [.int (nI a), .int (nI (n_c v a))]) (rest := []) ⟨hx, hb, hml, hown, hts⟩ (c_X6_bent l dC dI cI oM rz r2 rb rq km n th tp lf hg wd pm stt hh z v a (n_c v a) (by first | assumption | omega) (by first | assumption | omega) (by first | assumption | omega)) (cwV 2 hts gX6_toldRoll_X6_bent rfl rfl rfl (by decide +kernel) ⟨Nat.le_of_ble_eq_true rfl, Nat.le_of_ble_eq_true rfl⟩) (hP.sub [0, 1] rfl) hK (ci := 6) (q0 := 0) rfl rfl rfl rfl hl.1 rfl (Nat.le_of_ble_eq_true rfl) dX6_toldRoll_61 ⟨Nat.le_of_ble_eq_true rfl, Nat.le_of_ble_eq_true rfl⟩ ?_
    exact kq_ret hx hb hr hlocks dX6_toldRoll_64 (by rfl)
  · skip
    refine lv_tableIn (off := 64) (tgt := 65) hx hb dX6_toldRoll_1 (by decide) (by decide) (by decide) (by decide) ?_
    refine lv_aload_n hx hb dX6_toldRoll_65 rfl (lv_at hl 0 rfl) ?_
    refine lv_iload_n hx hb dX6_toldRoll_66 rfl (lv_at hl 1 rfl) ?_
    refine kq_cV (As := [.int (nI a)]) (rest := []) ⟨hx, hb, hml, hown, hts⟩ (c_X6_sumOf l dC dI cI oM rz r2 rb rq km n th tp lf hg wd pm stt hh z v a (by first | assumption | omega) (by first | assumption | omega) (by first | assumption | omega)) (cwV 1 hts gX6_toldRoll_X6_sumOf rfl rfl rfl (by decide +kernel) ⟨Nat.le_of_ble_eq_true rfl, Nat.le_of_ble_eq_true rfl⟩) (hP.sub [0, 1] rfl) hK (ci := 6) (q0 := 0) rfl rfl rfl rfl hl.1 rfl (Nat.le_of_ble_eq_true rfl) dX6_toldRoll_67 ⟨Nat.le_of_ble_eq_true rfl, Nat.le_of_ble_eq_true rfl⟩ ?_
    refine lv_sipush (v := 1000) hx hb dX6_toldRoll_70 (by decide) ?_
    refine lv_iadd hx hb dX6_toldRoll_73 ?_
    exact kq_ret hx hb hr hlocks dX6_toldRoll_74 (by rfl)
  · skip
    refine lv_tableOut (tgt := 75) hx hb dX6_toldRoll_1 (by decide) (by decide) ?_
    refine lv_aload_n hx hb dX6_toldRoll_75 rfl (lv_at hl 0 rfl) ?_
    refine lv_iload_n hx hb dX6_toldRoll_76 rfl (lv_at hl 1 rfl) ?_
    refine lv_aload_n hx hb dX6_toldRoll_77 rfl (lv_at hl 0 rfl) ?_
    refine va_get (D := (dC, dI)) (ci := 6) (v := .ref rz) (C := RX6) (T := TX6) (N := 14) hx hb hts (by decide +kernel) hown hK.1 hP 0 rfl rfl 1 (by decide) (hts (.fieldLink RX6 7 "NoteWatermarksModel" "z" "[I") (by decide +kernel)) (fun _ h9 => h9) rfl dX6_toldRoll_78 ?_
    refine lv_iconst (v := 1) hx hb dX6_toldRoll_81 (by decide) ?_
    refine va_iald hx hb hK.1 hP 1 0 rfl rfl (vp_in_nI (show 1 < 389 from by omega) (by omega)) dX6_toldRoll_82 ?_
    refine kq_top (z := z 1) (congrArg z (nI_clamp (Nat.lt_trans (show 1 < 389 from by omega) (by omega)))) ?_
    refine kq_top (z := nI (n_s v 1)) ((hz.1 1 (by decide)).trans (n_I_s hI).2.2.1) ?_
    refine kq_cV (As := [.int (nI a), .int (nI (n_s v 1))]) (rest := []) ⟨hx, hb, hml, hown, hts⟩ (c_X6_roundOf l dC dI cI oM rz r2 rb rq km n th tp lf hg wd pm stt hh z v a (n_s v 1) (by first | assumption | omega) (by first | assumption | omega) (by first | assumption | omega) (by first | assumption | omega)) (cwV 2 hts gX6_toldRoll_X6_roundOf rfl rfl rfl (by decide +kernel) ⟨Nat.le_of_ble_eq_true rfl, Nat.le_of_ble_eq_true rfl⟩) (hP.sub [0, 1] rfl) hK (ci := 6) (q0 := 0) rfl rfl rfl rfl hl.1 rfl (Nat.le_of_ble_eq_true rfl) dX6_toldRoll_83 ⟨Nat.le_of_ble_eq_true rfl, Nat.le_of_ble_eq_true rfl⟩ ?_
    exact kq_ret hx hb hr hlocks dX6_toldRoll_86 (by rfl)
set_option maxHeartbeats 4000000 in
set_option maxRecDepth 100000 in
theorem c_X6_toldCell (l : Launch) (dC : Nat → ClassId) (dI : Nat → Nat → Nat) (cI : ClassId) (oM : Nat) (rz : Nat) (r2 : Nat) (rb : Nat) (rq : Nat) (km : Nat) (n : Nat) (th : Int32) (tp : Int32) (lf : Int32) (hg : Int32) (wd : Int32) (pm : Int32) (stt : Int32) (hh : Int64) (z : Nat → Int32) (v : Nat → Int32) (k : Nat) (a : Nat) (b : Nat) (q : Nat) (hz : n_Z v z) (hI : n_I v) (hk : k < 1000) (ha : a < 6) (hb9 : b < 12) (hq : q < 4) : Met l yX6_toldCell wsX6_toldCell ({ frames := 4, cells := 0, slots := 0, locals := 96 }) (kq_R dC dI cI [.ref oM, .int (nI k), .int (nI a), .int (nI b), .int (nI q)] [(oM, .inr (6, [.int th, .ref rz, .ref r2, .int (nI km), .ref rb, .int (nI n), .int tp, .int lf, .int hg, .int wd, .ref rq, .int pm, .int stt, .long hh])), (rz, .inl (cI, 389, .inl z))]) (QcRead (n_cell v k a b q)) 0 0 (fun _ => False) := by
  refine kq_start (cc := cX6_toldCell) (maxL := 5) (ret := (some .int)) (plainFor_of_name (by decide)) rfl (Nat.le_of_ble_eq_true rfl) ?_
  intro p e s m below meth c hx hb hr hml hown hlocks hts hP hK ls hl
  have hown : s.vm.findClass RX6 = some m.cls := hown
  have hl : lv_has ls 5 [(0, .ref oM), (1, .int (nI k)), (2, .int (nI a)), (3, .int (nI b)), (4, .int (nI q))] := hl
  refine lv_iload hx hb dX6_toldCell_0 (lv_at hl 4 rfl) ?_
  rcases (show q = 0 ∨ q = 1 ∨ q = 2 ∨ q = 3 from by omega) with rfl | rfl | rfl | rfl
  · skip
    refine lv_tableIn (off := 26) (tgt := 28) hx hb dX6_toldCell_2 (by decide) (by decide) (by decide) (by decide) ?_
    refine lv_aload_n hx hb dX6_toldCell_28 rfl (lv_at hl 0 rfl) ?_
    refine lv_iload_n hx hb dX6_toldCell_29 rfl (lv_at hl 1 rfl) ?_
    refine lv_iload_n hx hb dX6_toldCell_30 rfl (lv_at hl 2 rfl) ?_
    refine lv_iload_n hx hb dX6_toldCell_31 rfl (lv_at hl 3 rfl) ?_
    refine kq_cV (As := [.int (nI k), .int (nI a), .int (nI b)]) (rest := []) ⟨hx, hb, hml, hown, hts⟩ (c_X6_tone l dC dI cI oM rz r2 rb rq km n th tp lf hg wd pm stt hh z v k a b (by first | assumption | omega) (by first | assumption | omega) (by first | assumption | omega) (by first | assumption | omega) (by first | assumption | omega)) (cwV 3 hts gX6_toldCell_X6_tone rfl rfl rfl (by decide +kernel) ⟨Nat.le_of_ble_eq_true rfl, Nat.le_of_ble_eq_true rfl⟩) (hP.sub [0, 1] rfl) hK (ci := 6) (q0 := 0) rfl rfl rfl rfl hl.1 rfl (Nat.le_of_ble_eq_true rfl) dX6_toldCell_32 ⟨Nat.le_of_ble_eq_true rfl, Nat.le_of_ble_eq_true rfl⟩ ?_
    exact kq_ret hx hb hr hlocks dX6_toldCell_35 (by rfl)
  · skip
    refine lv_tableIn (off := 34) (tgt := 36) hx hb dX6_toldCell_2 (by decide) (by decide) (by decide) (by decide) ?_
    refine lv_aload_n hx hb dX6_toldCell_36 rfl (lv_at hl 0 rfl) ?_
    refine lv_iload_n hx hb dX6_toldCell_37 rfl (lv_at hl 2 rfl) ?_
    refine lv_iload_n hx hb dX6_toldCell_38 rfl (lv_at hl 3 rfl) ?_
    refine kq_cV (As := [.int (nI a), .int (nI b)]) (rest := []) ⟨hx, hb, hml, hown, hts⟩ (c_X6_inkAt l dC dI cI oM rz r2 rb rq km n th tp lf hg wd pm stt hh z v a b (by first | assumption | omega) (by first | assumption | omega) (by first | assumption | omega)) (cwV 2 hts gX6_toldCell_X6_inkAt rfl rfl rfl (by decide +kernel) ⟨Nat.le_of_ble_eq_true rfl, Nat.le_of_ble_eq_true rfl⟩) (hP.sub [0, 1] rfl) hK (ci := 6) (q0 := 0) rfl rfl rfl rfl hl.1 rfl (Nat.le_of_ble_eq_true rfl) dX6_toldCell_39 ⟨Nat.le_of_ble_eq_true rfl, Nat.le_of_ble_eq_true rfl⟩ ?_
    exact kq_ret hx hb hr hlocks dX6_toldCell_42 (by rfl)
  · skip
    refine lv_tableIn (off := 41) (tgt := 43) hx hb dX6_toldCell_2 (by decide) (by decide) (by decide) (by decide) ?_
    refine lv_aload_n hx hb dX6_toldCell_43 rfl (lv_at hl 0 rfl) ?_
    refine lv_iload_n hx hb dX6_toldCell_44 rfl (lv_at hl 1 rfl) ?_
    refine lv_iload_n hx hb dX6_toldCell_45 rfl (lv_at hl 2 rfl) ?_
    refine lv_iload_n hx hb dX6_toldCell_46 rfl (lv_at hl 3 rfl) ?_
    refine kq_cV (As := [.int (nI k), .int (nI a), .int (nI b)]) (rest := []) ⟨hx, hb, hml, hown, hts⟩ (c_X6_light l dC dI cI oM rz r2 rb rq km n th tp lf hg wd pm stt hh z v k a b (by first | assumption | omega) (by first | assumption | omega) (by first | assumption | omega) (by first | assumption | omega) (by first | assumption | omega)) (cwV 3 hts gX6_toldCell_X6_light rfl rfl rfl (by decide +kernel) ⟨Nat.le_of_ble_eq_true rfl, Nat.le_of_ble_eq_true rfl⟩) (hP.sub [0, 1] rfl) hK (ci := 6) (q0 := 0) rfl rfl rfl rfl hl.1 rfl (Nat.le_of_ble_eq_true rfl) dX6_toldCell_47 ⟨Nat.le_of_ble_eq_true rfl, Nat.le_of_ble_eq_true rfl⟩ ?_
    refine lv_bipush (v := 100) hx hb dX6_toldCell_50 (by decide) ?_
    refine lv_iadd hx hb dX6_toldCell_52 ?_
    exact kq_ret hx hb hr hlocks dX6_toldCell_53 (by rfl)
  · skip
    refine lv_tableOut (tgt := 54) hx hb dX6_toldCell_2 (by decide) (by decide) ?_
    refine lv_aload_n hx hb dX6_toldCell_54 rfl (lv_at hl 0 rfl) ?_
    refine lv_iload_n hx hb dX6_toldCell_55 rfl (lv_at hl 1 rfl) ?_
    refine lv_iload_n hx hb dX6_toldCell_56 rfl (lv_at hl 2 rfl) ?_
    refine lv_iload_n hx hb dX6_toldCell_57 rfl (lv_at hl 3 rfl) ?_
    refine kq_cV (As := [.int (nI k), .int (nI a), .int (nI b)]) (rest := []) ⟨hx, hb, hml, hown, hts⟩ (c_X6_wiresAt l dC dI cI oM rz r2 rb rq km n th tp lf hg wd pm stt hh z v k a b (by first | assumption | omega) (by first | assumption | omega) (by first | assumption | omega) (by first | assumption | omega) (by first | assumption | omega)) (cwV 3 hts gX6_toldCell_X6_wiresAt rfl rfl rfl (by decide +kernel) ⟨Nat.le_of_ble_eq_true rfl, Nat.le_of_ble_eq_true rfl⟩) (hP.sub [0, 1] rfl) hK (ci := 6) (q0 := 0) rfl rfl rfl rfl hl.1 rfl (Nat.le_of_ble_eq_true rfl) dX6_toldCell_58 ⟨Nat.le_of_ble_eq_true rfl, Nat.le_of_ble_eq_true rfl⟩ ?_
    refine lv_bipush (v := 100) hx hb dX6_toldCell_61 (by decide) ?_
    refine lv_iadd hx hb dX6_toldCell_63 ?_
    exact kq_ret hx hb hr hlocks dX6_toldCell_64 (by rfl)
set_option maxHeartbeats 4000000 in
set_option maxRecDepth 100000 in
theorem c_X6_firstSeen (l : Launch) (dC : Nat → ClassId) (dI : Nat → Nat → Nat) (cI : ClassId) (oM : Nat) (rz : Nat) (r2 : Nat) (rb : Nat) (rq : Nat) (km : Nat) (n : Nat) (tp : Nat) (lf : Nat) (hg : Nat) (wd : Nat) (th : Int32) (pm : Int32) (stt : Int32) (hh : Int64) (z : Nat → Int32) (v : Nat → Int32) (f : Nat) (hz : n_Z v z) (hI : n_I v) (h1 : tp + hg ≤ 6) (h2 : lf + wd ≤ 12) (h3 : 0 < hg) (h4 : 0 < wd) (f0 : tp = n_f v f 0) (f1 : lf = n_f v f 1) (f2 : hg = n_f v f 2) (f3 : wd = n_f v f 3) : Met l yX6_firstSeen wsX6_firstSeen ({ frames := 7, cells := 0, slots := 0, locals := 165 }) (kq_R dC dI cI [.ref oM] [(oM, .inr (6, [.int th, .ref rz, .ref r2, .int (nI km), .ref rb, .int (nI n), .int (nI tp), .int (nI lf), .int (nI hg), .int (nI wd), .ref rq, .int pm, .int stt, .long hh])), (rz, .inl (cI, 389, .inl z))]) (QcRead (n_ff (n_seen v f) 100)) 0 0 (fun _ => False) := by
  refine kq_start (cc := cX6_firstSeen) (maxL := 2) (ret := (some .int)) (plainFor_of_name (by decide)) rfl (Nat.le_of_ble_eq_true rfl) ?_
  intro p e s m below meth c hx hb hr hml hown hlocks hts hP hK ls hl
  have hown : s.vm.findClass RX6 = some m.cls := hown
  have hl : lv_has ls 2 [(0, .ref oM)] := hl
  refine lv_iconst (v := 0) hx hb dX6_firstSeen_0 (by decide) ?_
  refine lv_istore_n (lv' := [(1, .int 0), (0, .ref oM)]) hx hb dX6_firstSeen_1 rfl hl (by decide) rfl (fun ls hl => ?_)
  refine kq_loop1 (A1 := Nat) (fun (k : Nat) => 100 - k) (fun (k : Nat) => (k ≤ 100) ∧ (n_ff (n_seen v f) (100 - k) = n_ff (n_seen v f) 100)) (fun (k : Nat) => [(0, .ref oM), (1, .int (nI k))]) (nL := 2) ?_ 0 ⟨(by omega), (by rfl)⟩ _ (lv_sub hl [1, 0] rfl)
  intro k hi_2 ih_1 ls hl
  obtain ⟨ik, ig⟩ := hi_2
  have hl : lv_has ls 2 [(0, .ref oM), (1, .int (nI k))] := hl
  refine lv_iload_n hx hb dX6_firstSeen_2 rfl (lv_at hl 1 rfl) ?_
  refine lv_bipush (v := 100) hx hb dX6_firstSeen_3 (by decide) ?_
  refine lv_icmp_ge (tgt := 24) hx hb dX6_firstSeen_5 (by decide) (fun c_3 => ?_) (fun c_3 => ?_)
  · skip
    have c_3 := kq_leN (a := 100) (b := k) c_3 (by omega) (by omega)
    refine lv_iconst (v := (-1)) hx hb dX6_firstSeen_24 (by decide) ?_
    exact kq_ret hx hb hr hlocks dX6_firstSeen_25 (by rw [← ig, show 100 - k = 0 by omega]; rfl)
  · skip
    have c_3 := kq_nleN (a := 100) (b := k) c_3 (by omega) (by omega)
    refine lv_aload_n hx hb dX6_firstSeen_8 rfl (lv_at hl 0 rfl) ?_
    refine lv_iload_n hx hb dX6_firstSeen_9 rfl (lv_at hl 1 rfl) ?_
    refine kq_cV (As := [.int (nI k)]) (rest := []) ⟨hx, hb, hml, hown, hts⟩ (c_X6_isSeen l dC dI cI oM rz r2 rb rq km n tp lf hg wd th pm stt hh z v k f (by first | assumption | omega) (by first | assumption | omega) (by first | assumption | omega) (by first | assumption | omega) (by first | assumption | omega) (by first | assumption | omega) (by first | assumption | omega) (by first | assumption | omega) (by first | assumption | omega) (by first | assumption | omega) (by first | assumption | omega)) (cwV 1 hts gX6_firstSeen_X6_isSeen rfl rfl rfl (by decide +kernel) ⟨Nat.le_of_ble_eq_true rfl, Nat.le_of_ble_eq_true rfl⟩) (hP.sub [0, 1] rfl) hK (ci := 6) (q0 := 0) rfl rfl rfl rfl hl.1 rfl (Nat.le_of_ble_eq_true rfl) dX6_firstSeen_10 ⟨Nat.le_of_ble_eq_true rfl, Nat.le_of_ble_eq_true rfl⟩ ?_
    refine lv_if_eq (tgt := 18) hx hb dX6_firstSeen_13 (by decide) (fun c_4 => ?_) (fun c_4 => ?_)
    · skip
      have c_4 := kq_bf c_4
      refine lv_iinc (v := nI (k + 1)) (lv' := [(1, .int (nI (k + 1))), (0, .ref oM)]) hx hb dX6_firstSeen_18 hl (k := 1) rfl (nI_1 k) (by decide) rfl (fun ls hl => ?_)
      refine lv_goto (tgt := 2) hx hb dX6_firstSeen_21 (by decide) ?_
      exact ih_1 (k + 1) ⟨(by omega), (by rw [← ig, show 100 - k = (100 - (k + 1)) + 1 by omega, n_ff, if_neg (by rw [show 100 - (100 - (k + 1) + 1) = k by omega]; assumption)])⟩ (by show 100 - (k + 1) < 100 - k; omega) _ (lv_sub hl [1, 0] rfl)
    · skip
      have c_4 := kq_bt c_4
      refine lv_iload_n hx hb dX6_firstSeen_16 rfl (lv_at hl 1 rfl) ?_
      exact kq_ret hx hb hr hlocks dX6_firstSeen_17 (by rw [← ig, show 100 - k = (100 - (k + 1)) + 1 by omega, n_ff, show 100 - (100 - (k + 1) + 1) = k by omega, if_pos (by assumption)])
set_option maxHeartbeats 4000000 in
set_option maxRecDepth 100000 in
theorem c_X6_goodOn (l : Launch) (dC : Nat → ClassId) (dI : Nat → Nat → Nat) (cI : ClassId) (oM : Nat) (rz : Nat) (r2 : Nat) (rb : Nat) (rq : Nat) (km : Nat) (n : Nat) (tp : Nat) (lf : Nat) (hg : Nat) (wd : Nat) (th : Int32) (pm : Int32) (stt : Int32) (hh : Int64) (z : Nat → Int32) (v : Nat → Int32) (f : Nat) (w : Nat) (hz : n_Z v z) (hI : n_I v) (h1 : tp + hg ≤ 6) (h2 : lf + wd ≤ 12) (h3 : 0 < hg) (h4 : 0 < wd) (f0 : tp = n_f v f 0) (f1 : lf = n_f v f 1) (f2 : hg = n_f v f 2) (f3 : wd = n_f v f 3) (hw9 : w ≤ 100) : Met l yX6_goodOn wsX6_goodOn ({ frames := 7, cells := 0, slots := 0, locals := 165 }) (kq_R dC dI cI [.ref oM, .int (nI w)] [(oM, .inr (6, [.int th, .ref rz, .ref r2, .int (nI km), .ref rb, .int (nI n), .int (nI tp), .int (nI lf), .int (nI hg), .int (nI wd), .ref rq, .int pm, .int stt, .long hh])), (rz, .inl (cI, 389, .inl z))]) (QcRead (n_gd v f w)) 0 0 (fun _ => False) := by
  refine kq_start (cc := cX6_goodOn) (maxL := 4) (ret := (some .int)) (plainFor_of_name (by decide)) rfl (Nat.le_of_ble_eq_true rfl) ?_
  intro p e s m below meth c hx hb hr hml hown hlocks hts hP hK ls hl
  have hown : s.vm.findClass RX6 = some m.cls := hown
  have hl : lv_has ls 4 [(0, .ref oM), (1, .int (nI w))] := hl
  refine lv_iconst (v := 0) hx hb dX6_goodOn_0 (by decide) ?_
  refine lv_istore_n (lv' := [(2, .int 0), (0, .ref oM), (1, .int (nI w))]) hx hb dX6_goodOn_1 rfl hl (by decide) rfl (fun ls hl => ?_)
  refine lv_iconst (v := 0) hx hb dX6_goodOn_2 (by decide) ?_
  refine lv_istore_n (lv' := [(3, .int 0), (2, .int 0), (0, .ref oM), (1, .int (nI w))]) hx hb dX6_goodOn_3 rfl hl (by decide) rfl (fun ls hl => ?_)
  refine kq_loop2 (A1 := Nat) (A2 := Int32) (fun (k : Nat) (x : Int32) => w - k) (fun (k : Nat) (x : Int32) => (k ≤ w) ∧ (k = 0 ∨ n_hid v f = true) ∧ (x = n_sum (fun q => if n_seen v f q then 1 else 0) k)) (fun (k : Nat) (x : Int32) => [(0, .ref oM), (1, .int (nI w)), (2, .int x), (3, .int (nI k))]) (nL := 4) ?_ 0 0 ⟨(by omega), (by exact Or.inl rfl), (by rfl)⟩ _ (lv_sub hl [2, 3, 1, 0] rfl)
  intro k x hi_2 ih_1 ls hl
  obtain ⟨ik, ih9, ix⟩ := hi_2
  have hl : lv_has ls 4 [(0, .ref oM), (1, .int (nI w)), (2, .int x), (3, .int (nI k))] := hl
  refine lv_iload_n hx hb dX6_goodOn_4 rfl (lv_at hl 3 rfl) ?_
  refine lv_iload_n hx hb dX6_goodOn_5 rfl (lv_at hl 1 rfl) ?_
  refine lv_icmp_ge (tgt := 38) hx hb dX6_goodOn_6 (by decide) (fun c_3 => ?_) (fun c_3 => ?_)
  · skip
    have c_3 := kq_leN (a := w) (b := k) c_3 (by omega) (by omega)
    refine lv_iload_n hx hb dX6_goodOn_38 rfl (lv_at hl 2 rfl) ?_
    exact kq_ret hx hb hr hlocks dX6_goodOn_39 (by by_cases hh9 : n_hid v f = true; (rw [n_gd, if_pos hh9, ix]; first | rw [show k = w by omega] | exact absurd hh9 (by assumption)); (rw [n_gd, if_neg hh9, ix]; rcases ih9 with q | q; (rw [q]; rfl); exact absurd q hh9))
  · skip
    have c_3 := kq_nleN (a := w) (b := k) c_3 (by omega) (by omega)
    refine lv_aload_n hx hb dX6_goodOn_9 rfl (lv_at hl 0 rfl) ?_
    refine kq_cV (As := []) (rest := []) ⟨hx, hb, hml, hown, hts⟩ (c_X6_isHidden l dC dI cI oM rz r2 rb rq km n tp lf hg wd th pm stt hh z v f (by first | assumption | omega) (by first | assumption | omega) (by first | assumption | omega) (by first | assumption | omega) (by first | assumption | omega) (by first | assumption | omega) (by first | assumption | omega) (by first | assumption | omega) (by first | assumption | omega)) (cwV 0 hts gX6_goodOn_X6_isHidden rfl rfl rfl (by decide +kernel) ⟨Nat.le_of_ble_eq_true rfl, Nat.le_of_ble_eq_true rfl⟩) (hP.sub [0, 1] rfl) hK (ci := 6) (q0 := 0) rfl rfl rfl rfl hl.1 rfl (Nat.le_of_ble_eq_true rfl) dX6_goodOn_10 ⟨Nat.le_of_ble_eq_true rfl, Nat.le_of_ble_eq_true rfl⟩ ?_
    refine lv_if_eq (tgt := 38) hx hb dX6_goodOn_13 (by decide) (fun c_4 => ?_) (fun c_4 => ?_)
    · skip
      have c_4 := kq_bf c_4
      refine lv_iload_n hx hb dX6_goodOn_38 rfl (lv_at hl 2 rfl) ?_
      exact kq_ret hx hb hr hlocks dX6_goodOn_39 (by by_cases hh9 : n_hid v f = true; (rw [n_gd, if_pos hh9, ix]; first | rw [show k = w by omega] | exact absurd hh9 (by assumption)); (rw [n_gd, if_neg hh9, ix]; rcases ih9 with q | q; (rw [q]; rfl); exact absurd q hh9))
    · skip
      have c_4 := kq_bt c_4
      refine lv_iload_n hx hb dX6_goodOn_16 rfl (lv_at hl 2 rfl) ?_
      refine lv_aload_n hx hb dX6_goodOn_17 rfl (lv_at hl 0 rfl) ?_
      refine lv_iload_n hx hb dX6_goodOn_18 rfl (lv_at hl 3 rfl) ?_
      refine kq_cV (As := [.int (nI k)]) (rest := [.int x]) ⟨hx, hb, hml, hown, hts⟩ (c_X6_isSeen l dC dI cI oM rz r2 rb rq km n tp lf hg wd th pm stt hh z v k f (by first | assumption | omega) (by first | assumption | omega) (by first | assumption | omega) (by first | assumption | omega) (by first | assumption | omega) (by first | assumption | omega) (by first | assumption | omega) (by first | assumption | omega) (by first | assumption | omega) (by first | assumption | omega) (by first | assumption | omega)) (cwV 1 hts gX6_goodOn_X6_isSeen rfl rfl rfl (by decide +kernel) ⟨Nat.le_of_ble_eq_true rfl, Nat.le_of_ble_eq_true rfl⟩) (hP.sub [0, 1] rfl) hK (ci := 6) (q0 := 0) rfl rfl rfl rfl hl.1 rfl (Nat.le_of_ble_eq_true rfl) dX6_goodOn_19 ⟨Nat.le_of_ble_eq_true rfl, Nat.le_of_ble_eq_true rfl⟩ ?_
      refine lv_if_eq (tgt := 29) hx hb dX6_goodOn_22 (by decide) (fun c_5 => ?_) (fun c_5 => ?_)
      · skip
        have c_5 := kq_bf c_5
        refine lv_iconst (v := 0) hx hb dX6_goodOn_29 (by decide) ?_
        refine lv_iadd hx hb dX6_goodOn_30 ?_
        refine lv_istore_n (lv' := [(2, .int (x + 0)), (0, .ref oM), (1, .int (nI w)), (3, .int (nI k))]) hx hb dX6_goodOn_31 rfl hl (by decide) rfl (fun ls hl => ?_)
        refine lv_iinc (v := nI (k + 1)) (lv' := [(3, .int (nI (k + 1))), (2, .int (x + 0)), (0, .ref oM), (1, .int (nI w))]) hx hb dX6_goodOn_32 hl (k := 3) rfl (nI_1 k) (by decide) rfl (fun ls hl => ?_)
        refine lv_goto (tgt := 4) hx hb dX6_goodOn_35 (by decide) ?_
        exact ih_1 (k + 1) (x + 0) ⟨(by omega), (by exact Or.inr (by assumption)), (by rw [n_sum, ← ix]; first | rw [if_pos (by assumption)] | rw [if_neg (by assumption)])⟩ (by show w - (k + 1) < w - k; omega) _ (lv_sub hl [2, 3, 1, 0] rfl)
      · skip
        have c_5 := kq_bt c_5
        refine lv_iconst (v := 1) hx hb dX6_goodOn_25 (by decide) ?_
        refine lv_goto (tgt := 30) hx hb dX6_goodOn_26 (by decide) ?_
        refine lv_iadd hx hb dX6_goodOn_30 ?_
        refine lv_istore_n (lv' := [(2, .int (x + 1)), (0, .ref oM), (1, .int (nI w)), (3, .int (nI k))]) hx hb dX6_goodOn_31 rfl hl (by decide) rfl (fun ls hl => ?_)
        refine lv_iinc (v := nI (k + 1)) (lv' := [(3, .int (nI (k + 1))), (2, .int (x + 1)), (0, .ref oM), (1, .int (nI w))]) hx hb dX6_goodOn_32 hl (k := 3) rfl (nI_1 k) (by decide) rfl (fun ls hl => ?_)
        refine lv_goto (tgt := 4) hx hb dX6_goodOn_35 (by decide) ?_
        exact ih_1 (k + 1) (x + 1) ⟨(by omega), (by exact Or.inr (by assumption)), (by rw [n_sum, ← ix]; first | rw [if_pos (by assumption)] | rw [if_neg (by assumption)])⟩ (by show w - (k + 1) < w - k; omega) _ (lv_sub hl [2, 3, 1, 0] rfl)
set_option maxHeartbeats 4000000 in
set_option maxRecDepth 100000 in
theorem c_X6_figures (l : Launch) (dC : Nat → ClassId) (dI : Nat → Nat → Nat) (cI : ClassId) (oM : Nat) (rz : Nat) (r2 : Nat) (rb : Nat) (rq : Nat) (km : Nat) (n : Nat) (th : Int32) (tp : Int32) (lf : Int32) (hg : Int32) (wd : Int32) (pm : Int32) (stt : Int32) (hh : Int64) (z : Nat → Int32) (v : Nat → Int32) (hz : n_Z v z) : Met l yX6_figures wsX6_figures ({ frames := 1, cells := 0, slots := 0, locals := 22 }) (kq_R dC dI cI [.ref oM] [(oM, .inr (6, [.int th, .ref rz, .ref r2, .int (nI km), .ref rb, .int (nI n), .int tp, .int lf, .int hg, .int wd, .ref rq, .int pm, .int stt, .long hh])), (rz, .inl (cI, 389, .inl z))]) (QcRead (n_hm v)) 0 0 (fun _ => False) := by
  refine kq_start (cc := cX6_figures) (maxL := 1) (ret := (some .int)) (plainFor_of_name (by decide)) rfl (Nat.le_of_ble_eq_true rfl) ?_
  intro p e s m below meth c hx hb hr hml hown hlocks hts hP hK ls hl
  have hown : s.vm.findClass RX6 = some m.cls := hown
  have hl : lv_has ls 1 [(0, .ref oM)] := hl
  refine lv_aload_n hx hb dX6_figures_0 rfl (lv_at hl 0 rfl) ?_
  refine lv_iconst (v := 0) hx hb dX6_figures_1 (by decide) ?_
  refine lv_iconst (v := 0) hx hb dX6_figures_2 (by decide) ?_
  refine kq_cV (As := [.int 0, .int 0]) (rest := []) ⟨hx, hb, hml, hown, hts⟩ (c_X6_of_0 l dC dI cI oM rz r2 rb rq km n th tp lf hg wd pm stt hh z v 0 (by first | assumption | omega) (by first | assumption | omega)) (cwV 2 hts gX6_figures_X6_of rfl rfl rfl (by decide +kernel) ⟨Nat.le_of_ble_eq_true rfl, Nat.le_of_ble_eq_true rfl⟩) (hP.sub [0, 1] rfl) hK (ci := 6) (q0 := 0) rfl rfl rfl rfl hl.1 rfl (Nat.le_of_ble_eq_true rfl) dX6_figures_3 ⟨Nat.le_of_ble_eq_true rfl, Nat.le_of_ble_eq_true rfl⟩ ?_
  refine lv_aload_n hx hb dX6_figures_6 rfl (lv_at hl 0 rfl) ?_
  refine lv_iconst (v := 1) hx hb dX6_figures_7 (by decide) ?_
  refine lv_iconst (v := 0) hx hb dX6_figures_8 (by decide) ?_
  refine kq_cV (As := [.int 1, .int 0]) (rest := [.int (if 0 < n_f v 0 2 then (1:Int32) else 0)]) ⟨hx, hb, hml, hown, hts⟩ (c_X6_of_0 l dC dI cI oM rz r2 rb rq km n th tp lf hg wd pm stt hh z v 1 (by first | assumption | omega) (by first | assumption | omega)) (cwV 2 hts gX6_figures_X6_of rfl rfl rfl (by decide +kernel) ⟨Nat.le_of_ble_eq_true rfl, Nat.le_of_ble_eq_true rfl⟩) (hP.sub [0, 1] rfl) hK (ci := 6) (q0 := 0) rfl rfl rfl rfl hl.1 rfl (Nat.le_of_ble_eq_true rfl) dX6_figures_9 ⟨Nat.le_of_ble_eq_true rfl, Nat.le_of_ble_eq_true rfl⟩ ?_
  refine lv_iadd hx hb dX6_figures_12 ?_
  refine lv_aload_n hx hb dX6_figures_13 rfl (lv_at hl 0 rfl) ?_
  refine lv_iconst (v := 2) hx hb dX6_figures_14 (by decide) ?_
  refine lv_iconst (v := 0) hx hb dX6_figures_15 (by decide) ?_
  refine kq_cV (As := [.int 2, .int 0]) (rest := [.int ((if 0 < n_f v 0 2 then (1:Int32) else 0) + (if 0 < n_f v 1 2 then (1:Int32) else 0))]) ⟨hx, hb, hml, hown, hts⟩ (c_X6_of_0 l dC dI cI oM rz r2 rb rq km n th tp lf hg wd pm stt hh z v 2 (by first | assumption | omega) (by first | assumption | omega)) (cwV 2 hts gX6_figures_X6_of rfl rfl rfl (by decide +kernel) ⟨Nat.le_of_ble_eq_true rfl, Nat.le_of_ble_eq_true rfl⟩) (hP.sub [0, 1] rfl) hK (ci := 6) (q0 := 0) rfl rfl rfl rfl hl.1 rfl (Nat.le_of_ble_eq_true rfl) dX6_figures_16 ⟨Nat.le_of_ble_eq_true rfl, Nat.le_of_ble_eq_true rfl⟩ ?_
  refine lv_iadd hx hb dX6_figures_19 ?_
  refine lv_aload_n hx hb dX6_figures_20 rfl (lv_at hl 0 rfl) ?_
  refine lv_iconst (v := 3) hx hb dX6_figures_21 (by decide) ?_
  refine lv_iconst (v := 0) hx hb dX6_figures_22 (by decide) ?_
  refine kq_cV (As := [.int 3, .int 0]) (rest := [.int (((if 0 < n_f v 0 2 then (1:Int32) else 0) + (if 0 < n_f v 1 2 then (1:Int32) else 0)) + (if 0 < n_f v 2 2 then (1:Int32) else 0))]) ⟨hx, hb, hml, hown, hts⟩ (c_X6_of_0 l dC dI cI oM rz r2 rb rq km n th tp lf hg wd pm stt hh z v 3 (by first | assumption | omega) (by first | assumption | omega)) (cwV 2 hts gX6_figures_X6_of rfl rfl rfl (by decide +kernel) ⟨Nat.le_of_ble_eq_true rfl, Nat.le_of_ble_eq_true rfl⟩) (hP.sub [0, 1] rfl) hK (ci := 6) (q0 := 0) rfl rfl rfl rfl hl.1 rfl (Nat.le_of_ble_eq_true rfl) dX6_figures_23 ⟨Nat.le_of_ble_eq_true rfl, Nat.le_of_ble_eq_true rfl⟩ ?_
  refine lv_iadd hx hb dX6_figures_26 ?_
  exact kq_ret hx hb hr hlocks dX6_figures_27 (by simp only [n_hm, n_sum, Int32.zero_add])
set_option maxHeartbeats 4000000 in
set_option maxRecDepth 100000 in
theorem c_X6_hidden (l : Launch) (dC : Nat → ClassId) (dI : Nat → Nat → Nat) (cI : ClassId) (sz : Nat) (oM : Nat) (rz : Nat) (r2 : Nat) (rb : Nat) (rq : Nat) (km : Nat) (n : Nat) (th : Int32) (tp : Int32) (lf : Int32) (hg : Int32) (wd : Int32) (pm : Int32) (stt : Int32) (hh : Int64) (z : Nat → Int32) (v : Nat → Int32) (hz : n_Z v z) (hI : n_I v) : Met l yX6_hidden wsX6_hidden ({ frames := 3, cells := 0, slots := 0, locals := 67 }) (kq_M dC dI cI [.ref oM] sz [(oM, .inr (6, [.int th, .ref rz, .ref r2, .int (nI km), .ref rb, .int (nI n), .int tp, .int lf, .int hg, .int wd, .ref rq, .int pm, .int stt, .long hh])), (rz, .inl (cI, 389, .inl z))]) (va_Qi (fun (r : Int32) (u : Int32 × Int32 × Int32 × Int32) => r = n_hh v) (kq_B dC dI (va_A [(oM, .inr (6, [.int th, .ref rz, .ref r2, .int (nI km), .ref rb, .int (nI n), .int tp, .int lf, .int hg, .int wd, .ref rq, .int pm, .int stt, .long hh])), (rz, .inl (cI, 389, .inl z))] sz) (fun u : Int32 × Int32 × Int32 × Int32 => [(oM, .inr (6, [.int th, .ref rz, .ref r2, .int (nI km), .ref rb, .int (nI n), .int u.1, .int u.2.1, .int u.2.2.1, .int u.2.2.2, .ref rq, .int pm, .int stt, .long hh])), (rz, .inl (cI, 389, .inl z))])) (va_A [(oM, .inr (6, [.int th, .ref rz, .ref r2, .int (nI km), .ref rb, .int (nI n), .int tp, .int lf, .int hg, .int wd, .ref rq, .int pm, .int stt, .long hh])), (rz, .inl (cI, 389, .inl z))] sz)) 0 0 (va_A [(oM, .inr (6, [.int th, .ref rz, .ref r2, .int (nI km), .ref rb, .int (nI n), .int tp, .int lf, .int hg, .int wd, .ref rq, .int pm, .int stt, .long hh])), (rz, .inl (cI, 389, .inl z))] sz) := by
  refine kq_startM (cc := cX6_hidden) (maxL := 3) (ret := (some .int)) (by decide) rfl (Nat.le_of_ble_eq_true rfl) ?_
  intro p e s m below meth c hx hb hr hml hown hlocks hts hsz hA hP hD hS hK hnm ls hl
  subst hsz
  generalize hAe : va_A [(oM, .inr (6, [.int th, .ref rz, .ref r2, .int (nI km), .ref rb, .int (nI n), .int tp, .int lf, .int hg, .int wd, .ref rq, .int pm, .int stt, .long hh])), (rz, .inl (cI, 389, .inl z))] s.heap.size = A at hA hD hS ⊢
  have hown : s.vm.findClass RX6 = some m.cls := hown
  have hl : lv_has ls 3 [(0, .ref oM)] := hl
  refine lv_iconst (v := 0) hx hb dX6_hidden_0 (by decide) ?_
  refine lv_istore_n (lv' := [(1, .int 0), (0, .ref oM)]) hx hb dX6_hidden_1 rfl hl (by decide) rfl (fun ls hl => ?_)
  refine lv_iconst (v := 0) hx hb dX6_hidden_2 (by decide) ?_
  refine lv_istore_n (lv' := [(2, .int 0), (1, .int 0), (0, .ref oM)]) hx hb dX6_hidden_3 rfl hl (by decide) rfl (fun ls hl => ?_)
  refine kq_loopM6 (A1 := Nat) (A2 := Int32) (A3 := Int32) (A4 := Int32) (A5 := Int32) (A6 := Int32) (fun (f : Nat) (x : Int32) (t1 : Int32) (t2 : Int32) (t3 : Int32) (t4 : Int32) => 4 - f) (fun (f : Nat) (x : Int32) (t1 : Int32) (t2 : Int32) (t3 : Int32) (t4 : Int32) => (f ≤ 4) ∧ (x = n_sum (fun f => if 0 < n_f v f 2 ∧ n_hid v f then 1 else 0) f)) (fun (f : Nat) (x : Int32) (t1 : Int32) (t2 : Int32) (t3 : Int32) (t4 : Int32) => [(0, .ref oM), (1, .int x), (2, .int (nI f))]) (fun (f : Nat) (x : Int32) (t1 : Int32) (t2 : Int32) (t3 : Int32) (t4 : Int32) => [(oM, .inr (6, [.int th, .ref rz, .ref r2, .int (nI km), .ref rb, .int (nI n), .int t1, .int t2, .int t3, .int t4, .ref rq, .int pm, .int stt, .long hh])), (rz, .inl (cI, 389, .inl z))]) (nL := 3) hK ?_ 0 0 tp lf hg wd ⟨(by omega), (by rfl)⟩ hP hD hS _ (lv_sub hl [2, 1, 0] rfl)
  intro f x t1 t2 t3 t4 hi_2 ih_1 H locs hP hD hS ls hl
  obtain ⟨jf, ix⟩ := hi_2
  have hl : lv_has ls 3 [(0, .ref oM), (1, .int x), (2, .int (nI f))] := hl
  have hP : va_P (dC, dI) vwCl [(oM, .inr (6, [.int th, .ref rz, .ref r2, .int (nI km), .ref rb, .int (nI n), .int t1, .int t2, .int t3, .int t4, .ref rq, .int pm, .int stt, .long hh])), (rz, .inl (cI, 389, .inl z))] H := hP
  have hD : va_D A [(oM, .inr (6, [.int th, .ref rz, .ref r2, .int (nI km), .ref rb, .int (nI n), .int t1, .int t2, .int t3, .int t4, .ref rq, .int pm, .int stt, .long hh])), (rz, .inl (cI, 389, .inl z))] := hD
  refine lv_iload_n hx hb dX6_hidden_4 rfl (lv_at hl 2 rfl) ?_
  refine lv_iconst (v := 4) hx hb dX6_hidden_5 (by decide) ?_
  refine lv_icmp_ge (tgt := 43) hx hb dX6_hidden_6 (by decide) (fun c_3 => ?_) (fun c_3 => ?_)
  · skip
    have c_3 := kq_leN (a := 4) (b := f) c_3 (by omega) (by omega)
    refine lv_iload_n hx hb dX6_hidden_43 rfl (lv_at hl 1 rfl) ?_
    exact kq_retMi (t1, t2, t3, t4) hx hb hr hlocks hP hD hS dX6_hidden_44 (by rw [ix, n_hh, show f = 4 by omega])
  · skip
    have c_3 := kq_nleN (a := 4) (b := f) c_3 (by omega) (by omega)
    have hff : f < 4 := by omega
    have hfr := n_I_fr hI hff
    refine lv_aload_n hx hb dX6_hidden_9 rfl (lv_at hl 0 rfl) ?_
    refine lv_iload_n hx hb dX6_hidden_10 rfl (lv_at hl 2 rfl) ?_
    refine kq_callMv (wr := []) (va_runV (As := [.int (nI f)]) (rest := []) ⟨hx, hb, hml, hown, hts⟩ (c_X6_take l dC dI cI H.size oM rz r2 rb rq km n th t1 t2 t3 t4 pm stt hh z v f (by first | assumption | omega) (by first | assumption | omega) (by first | assumption | omega)) (cwV 1 hts gX6_hidden_X6_take rfl rfl rfl (by decide +kernel) ⟨Nat.le_of_ble_eq_true rfl, Nat.le_of_ble_eq_true rfl⟩) (kq_preV (ci := 6) (q0 := 0) (hP.sub [0, 1] rfl) (hD.sub [0, 1] (by decide) rfl) hK rfl rfl) rfl rfl hl.1 rfl (lv_room (Nat.le_of_ble_eq_true rfl)) dX6_hidden_11 ⟨Nat.le_of_ble_eq_true rfl, Nat.le_of_ble_eq_true rfl⟩) hP hD hS hA [0, 1] [] rfl rfl (by decide) (by decide) (fun u_5 H locs hw_6 hP hD hS => ?_)
    have hP : va_P (dC, dI) vwCl [(oM, .inr (6, [.int th, .ref rz, .ref r2, .int (nI km), .ref rb, .int (nI n), .int (nI (n_f v f 0)), .int (nI (n_f v f 1)), .int (nI (n_f v f 2)), .int (nI (n_f v f 3)), .ref rq, .int pm, .int stt, .long hh])), (rz, .inl (cI, 389, .inl z))] H := hP
    have hD : va_D A [(oM, .inr (6, [.int th, .ref rz, .ref r2, .int (nI km), .ref rb, .int (nI n), .int (nI (n_f v f 0)), .int (nI (n_f v f 1)), .int (nI (n_f v f 2)), .int (nI (n_f v f 3)), .ref rq, .int pm, .int stt, .long hh])), (rz, .inl (cI, 389, .inl z))] := hD
    refine lv_iload_n hx hb dX6_hidden_14 rfl (lv_at hl 1 rfl) ?_
    refine lv_aload_n hx hb dX6_hidden_15 rfl (lv_at hl 0 rfl) ?_
    refine lv_iload_n hx hb dX6_hidden_16 rfl (lv_at hl 2 rfl) ?_
    refine kq_cV (As := [.int (nI f)]) (rest := [.int x]) ⟨hx, hb, hml, hown, hts⟩ (c_X6_isThere l dC dI cI oM rz r2 rb rq km n th (nI (n_f v f 0)) (nI (n_f v f 1)) (nI (n_f v f 2)) (nI (n_f v f 3)) pm stt hh z v f (by first | assumption | omega) (by first | assumption | omega)) (cwV 1 hts gX6_hidden_X6_isThere rfl rfl rfl (by decide +kernel) ⟨Nat.le_of_ble_eq_true rfl, Nat.le_of_ble_eq_true rfl⟩) (hP.sub [0, 1] rfl) hK (ci := 6) (q0 := 0) rfl rfl rfl rfl hl.1 rfl (Nat.le_of_ble_eq_true rfl) dX6_hidden_17 ⟨Nat.le_of_ble_eq_true rfl, Nat.le_of_ble_eq_true rfl⟩ ?_
    refine lv_if_eq (tgt := 34) hx hb dX6_hidden_20 (by decide) (fun c_7 => ?_) (fun c_7 => ?_)
    · skip
      have c_7 := kq_bf c_7
      refine lv_iconst (v := 0) hx hb dX6_hidden_34 (by decide) ?_
      refine lv_iadd hx hb dX6_hidden_35 ?_
      refine lv_istore_n (lv' := [(1, .int (x + 0)), (0, .ref oM), (2, .int (nI f))]) hx hb dX6_hidden_36 rfl hl (by decide) rfl (fun ls hl => ?_)
      refine lv_iinc (v := nI (f + 1)) (lv' := [(2, .int (nI (f + 1))), (1, .int (x + 0)), (0, .ref oM)]) hx hb dX6_hidden_37 hl (k := 2) rfl (nI_1 f) (by decide) rfl (fun ls hl => ?_)
      refine lv_goto (tgt := 4) hx hb dX6_hidden_40 (by decide) ?_
      exact ih_1 (f + 1) (x + 0) (nI (n_f v f 0)) (nI (n_f v f 1)) (nI (n_f v f 2)) (nI (n_f v f 3)) ⟨(by omega), (by rw [n_sum, ← ix]; first | rw [if_pos (by first | exact ⟨by assumption, by assumption⟩ | exact ⟨by assumption, by assumption, by assumption⟩)] | rw [if_neg (fun q => absurd q.1 (by assumption))] | rw [if_neg (fun q => absurd q.2 (by assumption))] | rw [if_neg (fun q => absurd q.2.1 (by assumption))] | rw [if_neg (fun q => absurd q.2.2 (by assumption))])⟩ (by show 4 - (f + 1) < 4 - f; omega) _ _ hP hD hS _ (lv_sub hl [2, 1, 0] rfl)
    · skip
      have c_7 := kq_bt c_7
      have hw0 : 0 < n_f v f 3 := hfr.2.1 c_7
      refine lv_aload_n hx hb dX6_hidden_23 rfl (lv_at hl 0 rfl) ?_
      refine kq_cV (As := []) (rest := [.int x]) ⟨hx, hb, hml, hown, hts⟩ (c_X6_isHidden l dC dI cI oM rz r2 rb rq km n (n_f v f 0) (n_f v f 1) (n_f v f 2) (n_f v f 3) th pm stt hh z v f (by first | assumption | omega) (by first | assumption | omega) (by first | assumption | omega) (by first | assumption | omega) (by first | assumption | omega) (by first | assumption | omega) (by first | assumption | omega) (by first | assumption | omega) (by first | assumption | omega)) (cwV 0 hts gX6_hidden_X6_isHidden rfl rfl rfl (by decide +kernel) ⟨Nat.le_of_ble_eq_true rfl, Nat.le_of_ble_eq_true rfl⟩) (hP.sub [0, 1] rfl) hK (ci := 6) (q0 := 0) rfl rfl rfl rfl hl.1 rfl (Nat.le_of_ble_eq_true rfl) dX6_hidden_24 ⟨Nat.le_of_ble_eq_true rfl, Nat.le_of_ble_eq_true rfl⟩ ?_
      refine lv_if_eq (tgt := 34) hx hb dX6_hidden_27 (by decide) (fun c_8 => ?_) (fun c_8 => ?_)
      · skip
        have c_8 := kq_bf c_8
        refine lv_iconst (v := 0) hx hb dX6_hidden_34 (by decide) ?_
        refine lv_iadd hx hb dX6_hidden_35 ?_
        refine lv_istore_n (lv' := [(1, .int (x + 0)), (0, .ref oM), (2, .int (nI f))]) hx hb dX6_hidden_36 rfl hl (by decide) rfl (fun ls hl => ?_)
        refine lv_iinc (v := nI (f + 1)) (lv' := [(2, .int (nI (f + 1))), (1, .int (x + 0)), (0, .ref oM)]) hx hb dX6_hidden_37 hl (k := 2) rfl (nI_1 f) (by decide) rfl (fun ls hl => ?_)
        refine lv_goto (tgt := 4) hx hb dX6_hidden_40 (by decide) ?_
        exact ih_1 (f + 1) (x + 0) (nI (n_f v f 0)) (nI (n_f v f 1)) (nI (n_f v f 2)) (nI (n_f v f 3)) ⟨(by omega), (by rw [n_sum, ← ix]; first | rw [if_pos (by first | exact ⟨by assumption, by assumption⟩ | exact ⟨by assumption, by assumption, by assumption⟩)] | rw [if_neg (fun q => absurd q.1 (by assumption))] | rw [if_neg (fun q => absurd q.2 (by assumption))] | rw [if_neg (fun q => absurd q.2.1 (by assumption))] | rw [if_neg (fun q => absurd q.2.2 (by assumption))])⟩ (by show 4 - (f + 1) < 4 - f; omega) _ _ hP hD hS _ (lv_sub hl [2, 1, 0] rfl)
      · skip
        have c_8 := kq_bt c_8
        refine lv_iconst (v := 1) hx hb dX6_hidden_30 (by decide) ?_
        refine lv_goto (tgt := 35) hx hb dX6_hidden_31 (by decide) ?_
        refine lv_iadd hx hb dX6_hidden_35 ?_
        refine lv_istore_n (lv' := [(1, .int (x + 1)), (0, .ref oM), (2, .int (nI f))]) hx hb dX6_hidden_36 rfl hl (by decide) rfl (fun ls hl => ?_)
        refine lv_iinc (v := nI (f + 1)) (lv' := [(2, .int (nI (f + 1))), (1, .int (x + 1)), (0, .ref oM)]) hx hb dX6_hidden_37 hl (k := 2) rfl (nI_1 f) (by decide) rfl (fun ls hl => ?_)
        refine lv_goto (tgt := 4) hx hb dX6_hidden_40 (by decide) ?_
        exact ih_1 (f + 1) (x + 1) (nI (n_f v f 0)) (nI (n_f v f 1)) (nI (n_f v f 2)) (nI (n_f v f 3)) ⟨(by omega), (by rw [n_sum, ← ix]; first | rw [if_pos (by first | exact ⟨by assumption, by assumption⟩ | exact ⟨by assumption, by assumption, by assumption⟩)] | rw [if_neg (fun q => absurd q.1 (by assumption))] | rw [if_neg (fun q => absurd q.2 (by assumption))] | rw [if_neg (fun q => absurd q.2.1 (by assumption))] | rw [if_neg (fun q => absurd q.2.2 (by assumption))])⟩ (by show 4 - (f + 1) < 4 - f; omega) _ _ hP hD hS _ (lv_sub hl [2, 1, 0] rfl)
set_option maxHeartbeats 4000000 in
set_option maxRecDepth 100000 in
theorem c_X6_good (l : Launch) (dC : Nat → ClassId) (dI : Nat → Nat → Nat) (cI : ClassId) (sz : Nat) (oM : Nat) (rz : Nat) (r2 : Nat) (rb : Nat) (rq : Nat) (km : Nat) (n : Nat) (th : Int32) (tp : Int32) (lf : Int32) (hg : Int32) (wd : Int32) (pm : Int32) (stt : Int32) (hh : Int64) (z : Nat → Int32) (v : Nat → Int32) (w : Nat) (hz : n_Z v z) (hI : n_I v) (hw9 : w ≤ 100) : Met l yX6_good wsX6_good ({ frames := 8, cells := 0, slots := 0, locals := 188 }) (kq_M dC dI cI [.ref oM, .int (nI w)] sz [(oM, .inr (6, [.int th, .ref rz, .ref r2, .int (nI km), .ref rb, .int (nI n), .int tp, .int lf, .int hg, .int wd, .ref rq, .int pm, .int stt, .long hh])), (rz, .inl (cI, 389, .inl z))]) (va_Qi (fun (r : Int32) (u : Int32 × Int32 × Int32 × Int32) => r = n_go v w) (kq_B dC dI (va_A [(oM, .inr (6, [.int th, .ref rz, .ref r2, .int (nI km), .ref rb, .int (nI n), .int tp, .int lf, .int hg, .int wd, .ref rq, .int pm, .int stt, .long hh])), (rz, .inl (cI, 389, .inl z))] sz) (fun u : Int32 × Int32 × Int32 × Int32 => [(oM, .inr (6, [.int th, .ref rz, .ref r2, .int (nI km), .ref rb, .int (nI n), .int u.1, .int u.2.1, .int u.2.2.1, .int u.2.2.2, .ref rq, .int pm, .int stt, .long hh])), (rz, .inl (cI, 389, .inl z))])) (va_A [(oM, .inr (6, [.int th, .ref rz, .ref r2, .int (nI km), .ref rb, .int (nI n), .int tp, .int lf, .int hg, .int wd, .ref rq, .int pm, .int stt, .long hh])), (rz, .inl (cI, 389, .inl z))] sz)) 0 0 (va_A [(oM, .inr (6, [.int th, .ref rz, .ref r2, .int (nI km), .ref rb, .int (nI n), .int tp, .int lf, .int hg, .int wd, .ref rq, .int pm, .int stt, .long hh])), (rz, .inl (cI, 389, .inl z))] sz) := by
  refine kq_startM (cc := cX6_good) (maxL := 4) (ret := (some .int)) (by decide) rfl (Nat.le_of_ble_eq_true rfl) ?_
  intro p e s m below meth c hx hb hr hml hown hlocks hts hsz hA hP hD hS hK hnm ls hl
  subst hsz
  generalize hAe : va_A [(oM, .inr (6, [.int th, .ref rz, .ref r2, .int (nI km), .ref rb, .int (nI n), .int tp, .int lf, .int hg, .int wd, .ref rq, .int pm, .int stt, .long hh])), (rz, .inl (cI, 389, .inl z))] s.heap.size = A at hA hD hS ⊢
  have hown : s.vm.findClass RX6 = some m.cls := hown
  have hl : lv_has ls 4 [(0, .ref oM), (1, .int (nI w))] := hl
  refine lv_iconst (v := 0) hx hb dX6_good_0 (by decide) ?_
  refine lv_istore_n (lv' := [(2, .int 0), (0, .ref oM), (1, .int (nI w))]) hx hb dX6_good_1 rfl hl (by decide) rfl (fun ls hl => ?_)
  refine lv_iconst (v := 0) hx hb dX6_good_2 (by decide) ?_
  refine lv_istore_n (lv' := [(3, .int 0), (2, .int 0), (0, .ref oM), (1, .int (nI w))]) hx hb dX6_good_3 rfl hl (by decide) rfl (fun ls hl => ?_)
  refine kq_loopM6 (A1 := Nat) (A2 := Int32) (A3 := Int32) (A4 := Int32) (A5 := Int32) (A6 := Int32) (fun (f : Nat) (x : Int32) (t1 : Int32) (t2 : Int32) (t3 : Int32) (t4 : Int32) => 4 - f) (fun (f : Nat) (x : Int32) (t1 : Int32) (t2 : Int32) (t3 : Int32) (t4 : Int32) => (f ≤ 4) ∧ (x = n_sum (fun f => if 0 < n_f v f 2 then n_gd v f w else 0) f)) (fun (f : Nat) (x : Int32) (t1 : Int32) (t2 : Int32) (t3 : Int32) (t4 : Int32) => [(0, .ref oM), (1, .int (nI w)), (2, .int x), (3, .int (nI f))]) (fun (f : Nat) (x : Int32) (t1 : Int32) (t2 : Int32) (t3 : Int32) (t4 : Int32) => [(oM, .inr (6, [.int th, .ref rz, .ref r2, .int (nI km), .ref rb, .int (nI n), .int t1, .int t2, .int t3, .int t4, .ref rq, .int pm, .int stt, .long hh])), (rz, .inl (cI, 389, .inl z))]) (nL := 4) hK ?_ 0 0 tp lf hg wd ⟨(by omega), (by rfl)⟩ hP hD hS _ (lv_sub hl [2, 3, 1, 0] rfl)
  intro f x t1 t2 t3 t4 hi_2 ih_1 H locs hP hD hS ls hl
  obtain ⟨jf, ix⟩ := hi_2
  have hl : lv_has ls 4 [(0, .ref oM), (1, .int (nI w)), (2, .int x), (3, .int (nI f))] := hl
  have hP : va_P (dC, dI) vwCl [(oM, .inr (6, [.int th, .ref rz, .ref r2, .int (nI km), .ref rb, .int (nI n), .int t1, .int t2, .int t3, .int t4, .ref rq, .int pm, .int stt, .long hh])), (rz, .inl (cI, 389, .inl z))] H := hP
  have hD : va_D A [(oM, .inr (6, [.int th, .ref rz, .ref r2, .int (nI km), .ref rb, .int (nI n), .int t1, .int t2, .int t3, .int t4, .ref rq, .int pm, .int stt, .long hh])), (rz, .inl (cI, 389, .inl z))] := hD
  refine lv_iload_n hx hb dX6_good_4 rfl (lv_at hl 3 rfl) ?_
  refine lv_iconst (v := 4) hx hb dX6_good_5 (by decide) ?_
  refine lv_icmp_ge (tgt := 40) hx hb dX6_good_6 (by decide) (fun c_3 => ?_) (fun c_3 => ?_)
  · skip
    have c_3 := kq_leN (a := 4) (b := f) c_3 (by omega) (by omega)
    refine lv_iload_n hx hb dX6_good_40 rfl (lv_at hl 2 rfl) ?_
    exact kq_retMi (t1, t2, t3, t4) hx hb hr hlocks hP hD hS dX6_good_41 (by rw [ix, n_go, show f = 4 by omega])
  · skip
    have c_3 := kq_nleN (a := 4) (b := f) c_3 (by omega) (by omega)
    have hff : f < 4 := by omega
    have hfr := n_I_fr hI hff
    refine lv_aload_n hx hb dX6_good_9 rfl (lv_at hl 0 rfl) ?_
    refine lv_iload_n hx hb dX6_good_10 rfl (lv_at hl 3 rfl) ?_
    refine kq_callMv (wr := []) (va_runV (As := [.int (nI f)]) (rest := []) ⟨hx, hb, hml, hown, hts⟩ (c_X6_take l dC dI cI H.size oM rz r2 rb rq km n th t1 t2 t3 t4 pm stt hh z v f (by first | assumption | omega) (by first | assumption | omega) (by first | assumption | omega)) (cwV 1 hts gX6_good_X6_take rfl rfl rfl (by decide +kernel) ⟨Nat.le_of_ble_eq_true rfl, Nat.le_of_ble_eq_true rfl⟩) (kq_preV (ci := 6) (q0 := 0) (hP.sub [0, 1] rfl) (hD.sub [0, 1] (by decide) rfl) hK rfl rfl) rfl rfl hl.1 rfl (lv_room (Nat.le_of_ble_eq_true rfl)) dX6_good_11 ⟨Nat.le_of_ble_eq_true rfl, Nat.le_of_ble_eq_true rfl⟩) hP hD hS hA [0, 1] [] rfl rfl (by decide) (by decide) (fun u_5 H locs hw_6 hP hD hS => ?_)
    have hP : va_P (dC, dI) vwCl [(oM, .inr (6, [.int th, .ref rz, .ref r2, .int (nI km), .ref rb, .int (nI n), .int (nI (n_f v f 0)), .int (nI (n_f v f 1)), .int (nI (n_f v f 2)), .int (nI (n_f v f 3)), .ref rq, .int pm, .int stt, .long hh])), (rz, .inl (cI, 389, .inl z))] H := hP
    have hD : va_D A [(oM, .inr (6, [.int th, .ref rz, .ref r2, .int (nI km), .ref rb, .int (nI n), .int (nI (n_f v f 0)), .int (nI (n_f v f 1)), .int (nI (n_f v f 2)), .int (nI (n_f v f 3)), .ref rq, .int pm, .int stt, .long hh])), (rz, .inl (cI, 389, .inl z))] := hD
    refine lv_iload_n hx hb dX6_good_14 rfl (lv_at hl 2 rfl) ?_
    refine lv_aload_n hx hb dX6_good_15 rfl (lv_at hl 0 rfl) ?_
    refine lv_iload_n hx hb dX6_good_16 rfl (lv_at hl 3 rfl) ?_
    refine kq_cV (As := [.int (nI f)]) (rest := [.int x]) ⟨hx, hb, hml, hown, hts⟩ (c_X6_isThere l dC dI cI oM rz r2 rb rq km n th (nI (n_f v f 0)) (nI (n_f v f 1)) (nI (n_f v f 2)) (nI (n_f v f 3)) pm stt hh z v f (by first | assumption | omega) (by first | assumption | omega)) (cwV 1 hts gX6_good_X6_isThere rfl rfl rfl (by decide +kernel) ⟨Nat.le_of_ble_eq_true rfl, Nat.le_of_ble_eq_true rfl⟩) (hP.sub [0, 1] rfl) hK (ci := 6) (q0 := 0) rfl rfl rfl rfl hl.1 rfl (Nat.le_of_ble_eq_true rfl) dX6_good_17 ⟨Nat.le_of_ble_eq_true rfl, Nat.le_of_ble_eq_true rfl⟩ ?_
    refine lv_if_eq (tgt := 31) hx hb dX6_good_20 (by decide) (fun c_7 => ?_) (fun c_7 => ?_)
    · skip
      have c_7 := kq_bf c_7
      refine lv_iconst (v := 0) hx hb dX6_good_31 (by decide) ?_
      refine lv_iadd hx hb dX6_good_32 ?_
      refine lv_istore_n (lv' := [(2, .int (x + 0)), (0, .ref oM), (1, .int (nI w)), (3, .int (nI f))]) hx hb dX6_good_33 rfl hl (by decide) rfl (fun ls hl => ?_)
      refine lv_iinc (v := nI (f + 1)) (lv' := [(3, .int (nI (f + 1))), (2, .int (x + 0)), (0, .ref oM), (1, .int (nI w))]) hx hb dX6_good_34 hl (k := 3) rfl (nI_1 f) (by decide) rfl (fun ls hl => ?_)
      refine lv_goto (tgt := 4) hx hb dX6_good_37 (by decide) ?_
      exact ih_1 (f + 1) (x + 0) (nI (n_f v f 0)) (nI (n_f v f 1)) (nI (n_f v f 2)) (nI (n_f v f 3)) ⟨(by omega), (by rw [n_sum, ← ix]; first | rw [if_pos (by assumption)] | rw [if_neg (by assumption)])⟩ (by show 4 - (f + 1) < 4 - f; omega) _ _ hP hD hS _ (lv_sub hl [2, 3, 1, 0] rfl)
    · skip
      have c_7 := kq_bt c_7
      have hw0 : 0 < n_f v f 3 := hfr.2.1 c_7
      refine lv_aload_n hx hb dX6_good_23 rfl (lv_at hl 0 rfl) ?_
      refine lv_iload_n hx hb dX6_good_24 rfl (lv_at hl 1 rfl) ?_
      refine kq_cV (As := [.int (nI w)]) (rest := [.int x]) ⟨hx, hb, hml, hown, hts⟩ (c_X6_goodOn l dC dI cI oM rz r2 rb rq km n (n_f v f 0) (n_f v f 1) (n_f v f 2) (n_f v f 3) th pm stt hh z v f w (by first | assumption | omega) (by first | assumption | omega) (by first | assumption | omega) (by first | assumption | omega) (by first | assumption | omega) (by first | assumption | omega) (by first | assumption | omega) (by first | assumption | omega) (by first | assumption | omega) (by first | assumption | omega) (by first | assumption | omega)) (cwV 1 hts gX6_good_X6_goodOn rfl rfl rfl (by decide +kernel) ⟨Nat.le_of_ble_eq_true rfl, Nat.le_of_ble_eq_true rfl⟩) (hP.sub [0, 1] rfl) hK (ci := 6) (q0 := 0) rfl rfl rfl rfl hl.1 rfl (Nat.le_of_ble_eq_true rfl) dX6_good_25 ⟨Nat.le_of_ble_eq_true rfl, Nat.le_of_ble_eq_true rfl⟩ ?_
      refine lv_goto (tgt := 32) hx hb dX6_good_28 (by decide) ?_
      refine lv_iadd hx hb dX6_good_32 ?_
      refine lv_istore_n (lv' := [(2, .int (x + (n_gd v f w))), (0, .ref oM), (1, .int (nI w)), (3, .int (nI f))]) hx hb dX6_good_33 rfl hl (by decide) rfl (fun ls hl => ?_)
      refine lv_iinc (v := nI (f + 1)) (lv' := [(3, .int (nI (f + 1))), (2, .int (x + (n_gd v f w))), (0, .ref oM), (1, .int (nI w))]) hx hb dX6_good_34 hl (k := 3) rfl (nI_1 f) (by decide) rfl (fun ls hl => ?_)
      refine lv_goto (tgt := 4) hx hb dX6_good_37 (by decide) ?_
      exact ih_1 (f + 1) (x + (n_gd v f w)) (nI (n_f v f 0)) (nI (n_f v f 1)) (nI (n_f v f 2)) (nI (n_f v f 3)) ⟨(by omega), (by rw [n_sum, ← ix]; first | rw [if_pos (by assumption)] | rw [if_neg (by assumption)])⟩ (by show 4 - (f + 1) < 4 - f; omega) _ _ hP hD hS _ (lv_sub hl [2, 3, 1, 0] rfl)
set_option maxHeartbeats 4000000 in
set_option maxRecDepth 100000 in
theorem c_X6_isLikeFirst (l : Launch) (dC : Nat → ClassId) (dI : Nat → Nat → Nat) (cI : ClassId) (oM : Nat) (rz : Nat) (r2 : Nat) (rb : Nat) (rq : Nat) (km : Nat) (n : Nat) (th : Int32) (tp : Int32) (lf : Int32) (hg : Int32) (wd : Int32) (pm : Int32) (stt : Int32) (hh : Int64) (z : Nat → Int32) (v : Nat → Int32) (k : Nat) (hz : n_Z v z) (hI : n_I v) (hk : k < 1000) : Met l yX6_isLikeFirst wsX6_isLikeFirst ({ frames := 3, cells := 0, slots := 0, locals := 73 }) (kq_R dC dI cI [.ref oM, .int (nI k)] [(oM, .inr (6, [.int th, .ref rz, .ref r2, .int (nI km), .ref rb, .int (nI n), .int tp, .int lf, .int hg, .int wd, .ref rq, .int pm, .int stt, .long hh])), (rz, .inl (cI, 389, .inl z))]) (QcRead (if n_lkb v k then (1:Int32) else 0)) 0 0 (fun _ => False) := by
  refine kq_start (cc := cX6_isLikeFirst) (maxL := 4) (ret := (some .boolean)) (plainFor_of_name (by decide)) rfl (Nat.le_of_ble_eq_true rfl) ?_
  intro p e s m below meth c hx hb hr hml hown hlocks hts hP hK ls hl
  have hown : s.vm.findClass RX6 = some m.cls := hown
  have hl : lv_has ls 4 [(0, .ref oM), (1, .int (nI k))] := hl
  refine lv_iconst (v := 1) hx hb dX6_isLikeFirst_0 (by decide) ?_
  refine lv_istore_n (lv' := [(2, .int 1), (0, .ref oM), (1, .int (nI k))]) hx hb dX6_isLikeFirst_1 rfl hl (by decide) rfl (fun ls hl => ?_)
  refine lv_iconst (v := 0) hx hb dX6_isLikeFirst_2 (by decide) ?_
  refine lv_istore_n (lv' := [(3, .int 0), (2, .int 1), (0, .ref oM), (1, .int (nI k))]) hx hb dX6_isLikeFirst_3 rfl hl (by decide) rfl (fun ls hl => ?_)
  refine kq_loop2 (A1 := Nat) (A2 := Bool) (fun (y : Nat) (b9 : Bool) => 72 - y) (fun (y : Nat) (b9 : Bool) => (y ≤ 72) ∧ (b9 = true ↔ ∀ j, j < y → n_to v 0 (j / 12) (j % 12) = n_to v k (j / 12) (j % 12))) (fun (y : Nat) (b9 : Bool) => [(0, .ref oM), (1, .int (nI k)), (2, .int (if b9 = true then (1:Int32) else 0)), (3, .int (nI y))]) (nL := 4) ?_ 0 true ⟨(by omega), (by exact ⟨fun _ j hj => by omega, fun _ => rfl⟩)⟩ _ (lv_sub hl [2, 3, 1, 0] rfl)
  intro y b9 hi_2 ih_1 ls hl
  obtain ⟨iy, ib⟩ := hi_2
  have hl : lv_has ls 4 [(0, .ref oM), (1, .int (nI k)), (2, .int (if b9 = true then (1:Int32) else 0)), (3, .int (nI y))] := hl
  refine lv_iload_n hx hb dX6_isLikeFirst_4 rfl (lv_at hl 3 rfl) ?_
  refine lv_bipush (v := 72) hx hb dX6_isLikeFirst_5 (by decide) ?_
  refine lv_icmp_ge (tgt := 55) hx hb dX6_isLikeFirst_7 (by decide) (fun c_3 => ?_) (fun c_3 => ?_)
  · skip
    have c_3 := kq_leN (a := 72) (b := y) c_3 (by omega) (by omega)
    refine lv_iload_n hx hb dX6_isLikeFirst_55 rfl (lv_at hl 2 rfl) ?_
    exact kq_retz hx hb hr hlocks dX6_isLikeFirst_56 (by cases b9 <;> simp) (by have hbb : b9 = n_lkb v k := (by rw [Bool.eq_iff_iff, n_lkb_iff]; by_cases hb9 : b9 = true; (first | exact absurd hb9 (by assumption) | (rw [ib]; exact ⟨fun q j hj => q j (by omega), fun q j hj => q j (by omega)⟩)); exact ⟨fun q => absurd q hb9, fun q => absurd (ib.mpr (fun j hj => q j (by omega))) hb9⟩); rw [hbb])
  · skip
    have c_3 := kq_nleN (a := 72) (b := y) c_3 (by omega) (by omega)
    refine lv_iload_n hx hb dX6_isLikeFirst_10 rfl (lv_at hl 2 rfl) ?_
    refine lv_if_eq (tgt := 55) hx hb dX6_isLikeFirst_11 (by decide) (fun c_4 => ?_) (fun c_4 => ?_)
    · skip
      have c_4 := kq_bf c_4
      refine lv_iload_n hx hb dX6_isLikeFirst_55 rfl (lv_at hl 2 rfl) ?_
      exact kq_retz hx hb hr hlocks dX6_isLikeFirst_56 (by cases b9 <;> simp) (by have hbb : b9 = n_lkb v k := (by rw [Bool.eq_iff_iff, n_lkb_iff]; by_cases hb9 : b9 = true; (first | exact absurd hb9 (by assumption) | (rw [ib]; exact ⟨fun q j hj => q j (by omega), fun q j hj => q j (by omega)⟩)); exact ⟨fun q => absurd q hb9, fun q => absurd (ib.mpr (fun j hj => q j (by omega))) hb9⟩); rw [hbb])
    · skip
      have c_4 := kq_bt c_4
      refine lv_aload_n hx hb dX6_isLikeFirst_14 rfl (lv_at hl 0 rfl) ?_
      refine lv_iload_n hx hb dX6_isLikeFirst_15 rfl (lv_at hl 1 rfl) ?_
      refine lv_iload_n hx hb dX6_isLikeFirst_16 rfl (lv_at hl 3 rfl) ?_
      refine lv_bipush (v := 12) hx hb dX6_isLikeFirst_17 (by decide) ?_
      refine lv_idiv hx hb dX6_isLikeFirst_19 (nI_ne0 (n := 12) (by omega) (by omega)) ?_
      refine kq_top (z := nI (y / 12)) (pk_div (a := y) (d := 12) (by omega) (by omega) (by omega)) ?_
      refine lv_iload_n hx hb dX6_isLikeFirst_20 rfl (lv_at hl 3 rfl) ?_
      refine lv_bipush (v := 12) hx hb dX6_isLikeFirst_21 (by decide) ?_
      refine lv_irem hx hb dX6_isLikeFirst_23 (nI_ne0 (n := 12) (by omega) (by omega)) ?_
      refine kq_top (z := nI (y % 12)) (pk_rem (a := y) (d := 12) (by omega) (by omega) (by omega)) ?_
      refine kq_cV (As := [.int (nI k), .int (nI (y / 12)), .int (nI (y % 12))]) (rest := []) ⟨hx, hb, hml, hown, hts⟩ (c_X6_tone l dC dI cI oM rz r2 rb rq km n th tp lf hg wd pm stt hh z v k (y / 12) (y % 12) (by first | assumption | omega) (by first | assumption | omega) (by first | assumption | omega) (by first | assumption | omega) (by first | assumption | omega)) (cwV 3 hts gX6_isLikeFirst_X6_tone rfl rfl rfl (by decide +kernel) ⟨Nat.le_of_ble_eq_true rfl, Nat.le_of_ble_eq_true rfl⟩) (hP.sub [0, 1] rfl) hK (ci := 6) (q0 := 0) rfl rfl rfl rfl hl.1 rfl (Nat.le_of_ble_eq_true rfl) dX6_isLikeFirst_24 ⟨Nat.le_of_ble_eq_true rfl, Nat.le_of_ble_eq_true rfl⟩ ?_
      refine lv_aload_n hx hb dX6_isLikeFirst_27 rfl (lv_at hl 0 rfl) ?_
      refine lv_iconst (v := 0) hx hb dX6_isLikeFirst_28 (by decide) ?_
      refine lv_iload_n hx hb dX6_isLikeFirst_29 rfl (lv_at hl 3 rfl) ?_
      refine lv_bipush (v := 12) hx hb dX6_isLikeFirst_30 (by decide) ?_
      refine lv_idiv hx hb dX6_isLikeFirst_32 (nI_ne0 (n := 12) (by omega) (by omega)) ?_
      refine kq_top (z := nI (y / 12)) (pk_div (a := y) (d := 12) (by omega) (by omega) (by omega)) ?_
      refine lv_iload_n hx hb dX6_isLikeFirst_33 rfl (lv_at hl 3 rfl) ?_
      refine lv_bipush (v := 12) hx hb dX6_isLikeFirst_34 (by decide) ?_
      refine lv_irem hx hb dX6_isLikeFirst_36 (nI_ne0 (n := 12) (by omega) (by omega)) ?_
      refine kq_top (z := nI (y % 12)) (pk_rem (a := y) (d := 12) (by omega) (by omega) (by omega)) ?_
      refine kq_cV (As := [.int 0, .int (nI (y / 12)), .int (nI (y % 12))]) (rest := [.int (n_to v k (y / 12) (y % 12))]) ⟨hx, hb, hml, hown, hts⟩ (c_X6_tone l dC dI cI oM rz r2 rb rq km n th tp lf hg wd pm stt hh z v 0 (y / 12) (y % 12) (by first | assumption | omega) (by first | assumption | omega) (by first | assumption | omega) (by first | assumption | omega) (by first | assumption | omega)) (cwV 3 hts gX6_isLikeFirst_X6_tone rfl rfl rfl (by decide +kernel) ⟨Nat.le_of_ble_eq_true rfl, Nat.le_of_ble_eq_true rfl⟩) (hP.sub [0, 1] rfl) hK (ci := 6) (q0 := 0) rfl rfl rfl rfl hl.1 rfl (Nat.le_of_ble_eq_true rfl) dX6_isLikeFirst_37 ⟨Nat.le_of_ble_eq_true rfl, Nat.le_of_ble_eq_true rfl⟩ ?_
      refine lv_icmp_ne (tgt := 47) hx hb dX6_isLikeFirst_40 (by decide) (fun c_5 => ?_) (fun c_5 => ?_)
      · skip
        have htt : ¬ n_to v k (y / 12) (y % 12) = n_to v 0 (y / 12) (y % 12) := c_5
        refine lv_iconst (v := 0) hx hb dX6_isLikeFirst_47 (by decide) ?_
        refine lv_istore_n (lv' := [(2, .int 0), (0, .ref oM), (1, .int (nI k)), (3, .int (nI y))]) hx hb dX6_isLikeFirst_48 rfl hl (by decide) rfl (fun ls hl => ?_)
        refine lv_iinc (v := nI (y + 1)) (lv' := [(3, .int (nI (y + 1))), (2, .int 0), (0, .ref oM), (1, .int (nI k))]) hx hb dX6_isLikeFirst_49 hl (k := 3) rfl (nI_1 y) (by decide) rfl (fun ls hl => ?_)
        refine lv_goto (tgt := 4) hx hb dX6_isLikeFirst_52 (by decide) ?_
        exact ih_1 (y + 1) false ⟨(by omega), (by first | exact ⟨fun _ j hj => by rcases Nat.lt_or_ge j y with q | q; exact ib.mp (by assumption) j q; rw [show j = y by omega]; exact htt.symm, fun _ => rfl⟩ | exact ⟨fun q => absurd q (by decide), fun q => absurd (q y (by omega)).symm htt⟩)⟩ (by show 72 - (y + 1) < 72 - y; omega) _ (lv_sub hl [2, 3, 1, 0] rfl)
      · skip
        have htt : n_to v k (y / 12) (y % 12) = n_to v 0 (y / 12) (y % 12) := c_5
        refine lv_iconst (v := 1) hx hb dX6_isLikeFirst_43 (by decide) ?_
        refine lv_goto (tgt := 48) hx hb dX6_isLikeFirst_44 (by decide) ?_
        refine lv_istore_n (lv' := [(2, .int 1), (0, .ref oM), (1, .int (nI k)), (3, .int (nI y))]) hx hb dX6_isLikeFirst_48 rfl hl (by decide) rfl (fun ls hl => ?_)
        refine lv_iinc (v := nI (y + 1)) (lv' := [(3, .int (nI (y + 1))), (2, .int 1), (0, .ref oM), (1, .int (nI k))]) hx hb dX6_isLikeFirst_49 hl (k := 3) rfl (nI_1 y) (by decide) rfl (fun ls hl => ?_)
        refine lv_goto (tgt := 4) hx hb dX6_isLikeFirst_52 (by decide) ?_
        exact ih_1 (y + 1) true ⟨(by omega), (by first | exact ⟨fun _ j hj => by rcases Nat.lt_or_ge j y with q | q; exact ib.mp (by assumption) j q; rw [show j = y by omega]; exact htt.symm, fun _ => rfl⟩ | exact ⟨fun q => absurd q (by decide), fun q => absurd (q y (by omega)).symm htt⟩)⟩ (by show 72 - (y + 1) < 72 - y; omega) _ (lv_sub hl [2, 3, 1, 0] rfl)
set_option maxHeartbeats 4000000 in
set_option maxRecDepth 100000 in
theorem c_X6_likeFirst (l : Launch) (dC : Nat → ClassId) (dI : Nat → Nat → Nat) (cI : ClassId) (oM : Nat) (rz : Nat) (r2 : Nat) (rb : Nat) (rq : Nat) (km : Nat) (n : Nat) (th : Int32) (tp : Int32) (lf : Int32) (hg : Int32) (wd : Int32) (pm : Int32) (stt : Int32) (hh : Int64) (z : Nat → Int32) (v : Nat → Int32) (hz : n_Z v z) (hI : n_I v) : Met l yX6_likeFirst wsX6_likeFirst ({ frames := 4, cells := 0, slots := 0, locals := 96 }) (kq_R dC dI cI [.ref oM] [(oM, .inr (6, [.int th, .ref rz, .ref r2, .int (nI km), .ref rb, .int (nI n), .int tp, .int lf, .int hg, .int wd, .ref rq, .int pm, .int stt, .long hh])), (rz, .inl (cI, 389, .inl z))]) (QcRead (n_lk v)) 0 0 (fun _ => False) := by
  refine kq_start (cc := cX6_likeFirst) (maxL := 3) (ret := (some .int)) (plainFor_of_name (by decide)) rfl (Nat.le_of_ble_eq_true rfl) ?_
  intro p e s m below meth c hx hb hr hml hown hlocks hts hP hK ls hl
  have hown : s.vm.findClass RX6 = some m.cls := hown
  have hl : lv_has ls 3 [(0, .ref oM)] := hl
  refine lv_iconst (v := 0) hx hb dX6_likeFirst_0 (by decide) ?_
  refine lv_istore_n (lv' := [(1, .int 0), (0, .ref oM)]) hx hb dX6_likeFirst_1 rfl hl (by decide) rfl (fun ls hl => ?_)
  refine lv_iconst (v := 1) hx hb dX6_likeFirst_2 (by decide) ?_
  refine lv_istore_n (lv' := [(2, .int 1), (1, .int 0), (0, .ref oM)]) hx hb dX6_likeFirst_3 rfl hl (by decide) rfl (fun ls hl => ?_)
  refine kq_loop2 (A1 := Nat) (A2 := Int32) (fun (k : Nat) (x : Int32) => 100 - k) (fun (k : Nat) (x : Int32) => (1 ≤ k ∧ k ≤ 100) ∧ (x = n_iv (fun n => if n_lkb v n then 1 else 0) 1 k)) (fun (k : Nat) (x : Int32) => [(0, .ref oM), (1, .int x), (2, .int (nI k))]) (nL := 3) ?_ 1 0 ⟨(by omega), (by exact n_iv_0.symm)⟩ _ (lv_sub hl [2, 1, 0] rfl)
  intro k x hi_2 ih_1 ls hl
  obtain ⟨ik, ix⟩ := hi_2
  have hl : lv_has ls 3 [(0, .ref oM), (1, .int x), (2, .int (nI k))] := hl
  refine lv_iload_n hx hb dX6_likeFirst_4 rfl (lv_at hl 2 rfl) ?_
  refine lv_bipush (v := 100) hx hb dX6_likeFirst_5 (by decide) ?_
  refine lv_icmp_ge (tgt := 32) hx hb dX6_likeFirst_7 (by decide) (fun c_3 => ?_) (fun c_3 => ?_)
  · skip
    have c_3 := kq_leN (a := 100) (b := k) c_3 (by omega) (by omega)
    refine lv_iload_n hx hb dX6_likeFirst_32 rfl (lv_at hl 1 rfl) ?_
    exact kq_ret hx hb hr hlocks dX6_likeFirst_33 (by rw [ix, n_lk, show k = 100 by omega])
  · skip
    have c_3 := kq_nleN (a := 100) (b := k) c_3 (by omega) (by omega)
    refine lv_iload_n hx hb dX6_likeFirst_10 rfl (lv_at hl 1 rfl) ?_
    refine lv_aload_n hx hb dX6_likeFirst_11 rfl (lv_at hl 0 rfl) ?_
    refine lv_iload_n hx hb dX6_likeFirst_12 rfl (lv_at hl 2 rfl) ?_
    refine kq_cV (As := [.int (nI k)]) (rest := [.int x]) ⟨hx, hb, hml, hown, hts⟩ (c_X6_isLikeFirst l dC dI cI oM rz r2 rb rq km n th tp lf hg wd pm stt hh z v k (by first | assumption | omega) (by first | assumption | omega) (by first | assumption | omega)) (cwV 1 hts gX6_likeFirst_X6_isLikeFirst rfl rfl rfl (by decide +kernel) ⟨Nat.le_of_ble_eq_true rfl, Nat.le_of_ble_eq_true rfl⟩) (hP.sub [0, 1] rfl) hK (ci := 6) (q0 := 0) rfl rfl rfl rfl hl.1 rfl (Nat.le_of_ble_eq_true rfl) dX6_likeFirst_13 ⟨Nat.le_of_ble_eq_true rfl, Nat.le_of_ble_eq_true rfl⟩ ?_
    refine lv_if_eq (tgt := 23) hx hb dX6_likeFirst_16 (by decide) (fun c_4 => ?_) (fun c_4 => ?_)
    · skip
      have c_4 := kq_bf c_4
      refine lv_iconst (v := 0) hx hb dX6_likeFirst_23 (by decide) ?_
      refine lv_iadd hx hb dX6_likeFirst_24 ?_
      refine lv_istore_n (lv' := [(1, .int (x + 0)), (0, .ref oM), (2, .int (nI k))]) hx hb dX6_likeFirst_25 rfl hl (by decide) rfl (fun ls hl => ?_)
      refine lv_iinc (v := nI (k + 1)) (lv' := [(2, .int (nI (k + 1))), (1, .int (x + 0)), (0, .ref oM)]) hx hb dX6_likeFirst_26 hl (k := 2) rfl (nI_1 k) (by decide) rfl (fun ls hl => ?_)
      refine lv_goto (tgt := 4) hx hb dX6_likeFirst_29 (by decide) ?_
      exact ih_1 (k + 1) (x + 0) ⟨(by omega), (by rw [n_iv_s (show 1 ≤ k by omega), ← ix]; first | rw [if_pos (by assumption)] | rw [if_neg (by assumption)])⟩ (by show 100 - (k + 1) < 100 - k; omega) _ (lv_sub hl [2, 1, 0] rfl)
    · skip
      have c_4 := kq_bt c_4
      refine lv_iconst (v := 1) hx hb dX6_likeFirst_19 (by decide) ?_
      refine lv_goto (tgt := 24) hx hb dX6_likeFirst_20 (by decide) ?_
      refine lv_iadd hx hb dX6_likeFirst_24 ?_
      refine lv_istore_n (lv' := [(1, .int (x + 1)), (0, .ref oM), (2, .int (nI k))]) hx hb dX6_likeFirst_25 rfl hl (by decide) rfl (fun ls hl => ?_)
      refine lv_iinc (v := nI (k + 1)) (lv' := [(2, .int (nI (k + 1))), (1, .int (x + 1)), (0, .ref oM)]) hx hb dX6_likeFirst_26 hl (k := 2) rfl (nI_1 k) (by decide) rfl (fun ls hl => ?_)
      refine lv_goto (tgt := 4) hx hb dX6_likeFirst_29 (by decide) ?_
      exact ih_1 (k + 1) (x + 1) ⟨(by omega), (by rw [n_iv_s (show 1 ≤ k by omega), ← ix]; first | rw [if_pos (by assumption)] | rw [if_neg (by assumption)])⟩ (by show 100 - (k + 1) < 100 - k; omega) _ (lv_sub hl [2, 1, 0] rfl)
set_option maxHeartbeats 4000000 in
set_option maxRecDepth 100000 in
theorem c_X6_inked (l : Launch) (dC : Nat → ClassId) (dI : Nat → Nat → Nat) (cI : ClassId) (oM : Nat) (rz : Nat) (r2 : Nat) (rb : Nat) (rq : Nat) (km : Nat) (n : Nat) (th : Int32) (tp : Int32) (lf : Int32) (hg : Int32) (wd : Int32) (pm : Int32) (stt : Int32) (hh : Int64) (z : Nat → Int32) (v : Nat → Int32) (hz : n_Z v z) (hI : n_I v) : Met l yX6_inked wsX6_inked ({ frames := 0, cells := 0, slots := 0, locals := 0 }) (kq_R dC dI cI [.ref oM] [(oM, .inr (6, [.int th, .ref rz, .ref r2, .int (nI km), .ref rb, .int (nI n), .int tp, .int lf, .int hg, .int wd, .ref rq, .int pm, .int stt, .long hh])), (rz, .inl (cI, 389, .inl z))]) (QcRead (n_ik2 v)) 0 0 (fun _ => False) := by
  refine kq_start (cc := cX6_inked) (maxL := 3) (ret := (some .int)) (plainFor_of_name (by decide)) rfl (Nat.le_of_ble_eq_true rfl) ?_
  intro p e s m below meth c hx hb hr hml hown hlocks hts hP hK ls hl
  have hown : s.vm.findClass RX6 = some m.cls := hown
  have hl : lv_has ls 3 [(0, .ref oM)] := hl
  refine lv_iconst (v := 0) hx hb dX6_inked_0 (by decide) ?_
  refine lv_istore_n (lv' := [(1, .int 0), (0, .ref oM)]) hx hb dX6_inked_1 rfl hl (by decide) rfl (fun ls hl => ?_)
  refine lv_iconst (v := 0) hx hb dX6_inked_2 (by decide) ?_
  refine lv_istore_n (lv' := [(2, .int 0), (1, .int 0), (0, .ref oM)]) hx hb dX6_inked_3 rfl hl (by decide) rfl (fun ls hl => ?_)
  refine kq_loop2 (A1 := Nat) (A2 := Int32) (fun (k : Nat) (x : Int32) => 72 - k) (fun (k : Nat) (x : Int32) => (k ≤ 72) ∧ (x = n_sum (fun k => if v (294 + k) = 0 then 0 else 1) k)) (fun (k : Nat) (x : Int32) => [(0, .ref oM), (1, .int x), (2, .int (nI k))]) (nL := 3) ?_ 0 0 ⟨(by omega), (by rfl)⟩ _ (lv_sub hl [2, 1, 0] rfl)
  intro k x hi_2 ih_1 ls hl
  obtain ⟨ik, ix⟩ := hi_2
  have hl : lv_has ls 3 [(0, .ref oM), (1, .int x), (2, .int (nI k))] := hl
  refine lv_iload_n hx hb dX6_inked_4 rfl (lv_at hl 2 rfl) ?_
  refine lv_bipush (v := 72) hx hb dX6_inked_5 (by decide) ?_
  refine lv_icmp_ge (tgt := 37) hx hb dX6_inked_7 (by decide) (fun c_3 => ?_) (fun c_3 => ?_)
  · skip
    have c_3 := kq_leN (a := 72) (b := k) c_3 (by omega) (by omega)
    refine lv_iload_n hx hb dX6_inked_37 rfl (lv_at hl 1 rfl) ?_
    exact kq_ret hx hb hr hlocks dX6_inked_38 (by rw [ix, n_ik2, show k = 72 by omega])
  · skip
    have c_3 := kq_nleN (a := 72) (b := k) c_3 (by omega) (by omega)
    have hk9 := n_I_k9 hI (show k < 72 by omega)
    refine lv_iload_n hx hb dX6_inked_10 rfl (lv_at hl 1 rfl) ?_
    refine lv_aload_n hx hb dX6_inked_11 rfl (lv_at hl 0 rfl) ?_
    refine va_get (D := (dC, dI)) (ci := 6) (v := .ref rz) (C := RX6) (T := TX6) (N := 14) hx hb hts (by decide +kernel) hown hK.1 hP 0 rfl rfl 1 (by decide) (hts (.fieldLink RX6 7 "NoteWatermarksModel" "z" "[I") (by decide +kernel)) (fun _ h9 => h9) rfl dX6_inked_12 ?_
    refine lv_sipush (v := 297) hx hb dX6_inked_15 (by decide) ?_
    refine lv_iload_n hx hb dX6_inked_18 rfl (lv_at hl 2 rfl) ?_
    refine lv_iadd hx hb dX6_inked_19 ?_
    refine kq_top (z := nI (297 + k)) (nI_add 297 k) ?_
    refine va_iald hx hb hK.1 hP 1 0 rfl rfl (vp_in_nI (show 297 + k < 389 from by omega) (by omega)) dX6_inked_20 ?_
    refine kq_top (z := z (297 + k)) (congrArg z (nI_clamp (Nat.lt_trans (show 297 + k < 389 from by omega) (by omega)))) ?_
    refine kq_top (z := nI (n_k v k)) ((hz.2.2.2.2.1 k (by omega)).trans (n_I_k hI (by omega))) ?_
    refine lv_if_le (tgt := 28) hx hb dX6_inked_21 (by decide) (fun c_4 => ?_) (fun c_4 => ?_)
    · skip
      have c_4 := kq_leN (a := (n_k v k)) (b := 0) c_4 (by omega) (by omega)
      refine lv_iconst (v := 0) hx hb dX6_inked_28 (by decide) ?_
      refine lv_iadd hx hb dX6_inked_29 ?_
      refine lv_istore_n (lv' := [(1, .int (x + 0)), (0, .ref oM), (2, .int (nI k))]) hx hb dX6_inked_30 rfl hl (by decide) rfl (fun ls hl => ?_)
      refine lv_iinc (v := nI (k + 1)) (lv' := [(2, .int (nI (k + 1))), (1, .int (x + 0)), (0, .ref oM)]) hx hb dX6_inked_31 hl (k := 2) rfl (nI_1 k) (by decide) rfl (fun ls hl => ?_)
      refine lv_goto (tgt := 4) hx hb dX6_inked_34 (by decide) ?_
      exact ih_1 (k + 1) (x + 0) ⟨(by omega), (by rw [n_sum, ← ix, n_I_k hI (show k < 72 by omega)]; first | rw [if_neg (nI_ne0 (by omega) (by omega))] | rw [show n_k v k = 0 by omega]; rfl)⟩ (by show 72 - (k + 1) < 72 - k; omega) _ (lv_sub hl [2, 1, 0] rfl)
    · skip
      have c_4 := kq_nleN (a := (n_k v k)) (b := 0) c_4 (by omega) (by omega)
      refine lv_iconst (v := 1) hx hb dX6_inked_24 (by decide) ?_
      refine lv_goto (tgt := 29) hx hb dX6_inked_25 (by decide) ?_
      refine lv_iadd hx hb dX6_inked_29 ?_
      refine lv_istore_n (lv' := [(1, .int (x + 1)), (0, .ref oM), (2, .int (nI k))]) hx hb dX6_inked_30 rfl hl (by decide) rfl (fun ls hl => ?_)
      refine lv_iinc (v := nI (k + 1)) (lv' := [(2, .int (nI (k + 1))), (1, .int (x + 1)), (0, .ref oM)]) hx hb dX6_inked_31 hl (k := 2) rfl (nI_1 k) (by decide) rfl (fun ls hl => ?_)
      refine lv_goto (tgt := 4) hx hb dX6_inked_34 (by decide) ?_
      exact ih_1 (k + 1) (x + 1) ⟨(by omega), (by rw [n_sum, ← ix, n_I_k hI (show k < 72 by omega)]; first | rw [if_neg (nI_ne0 (by omega) (by omega))] | rw [show n_k v k = 0 by omega]; rfl)⟩ (by show 72 - (k + 1) < 72 - k; omega) _ (lv_sub hl [2, 1, 0] rfl)
set_option maxHeartbeats 4000000 in
set_option maxRecDepth 100000 in
theorem c_X6_leastTone (l : Launch) (dC : Nat → ClassId) (dI : Nat → Nat → Nat) (cI : ClassId) (oM : Nat) (rz : Nat) (r2 : Nat) (rb : Nat) (rq : Nat) (km : Nat) (n : Nat) (th : Int32) (tp : Int32) (lf : Int32) (hg : Int32) (wd : Int32) (pm : Int32) (stt : Int32) (hh : Int64) (z : Nat → Int32) (v : Nat → Int32) (hz : n_Z v z) (hI : n_I v) : Met l yX6_leastTone wsX6_leastTone ({ frames := 3, cells := 0, slots := 0, locals := 73 }) (kq_R dC dI cI [.ref oM] [(oM, .inr (6, [.int th, .ref rz, .ref r2, .int (nI km), .ref rb, .int (nI n), .int tp, .int lf, .int hg, .int wd, .ref rq, .int pm, .int stt, .long hh])), (rz, .inl (cI, 389, .inl z))]) (QcRead (n_min (fun k => n_to v 0 (k / 12) (k % 12)) 72)) 0 0 (fun _ => False) := by
  refine kq_start (cc := cX6_leastTone) (maxL := 4) (ret := (some .int)) (plainFor_of_name (by decide)) rfl (Nat.le_of_ble_eq_true rfl) ?_
  intro p e s m below meth c hx hb hr hml hown hlocks hts hP hK ls hl
  have hown : s.vm.findClass RX6 = some m.cls := hown
  have hl : lv_has ls 4 [(0, .ref oM)] := hl
  refine lv_bipush (v := 19) hx hb dX6_leastTone_0 (by decide) ?_
  refine lv_istore_n (lv' := [(1, .int 19), (0, .ref oM)]) hx hb dX6_leastTone_2 rfl hl (by decide) rfl (fun ls hl => ?_)
  refine lv_iconst (v := 0) hx hb dX6_leastTone_3 (by decide) ?_
  refine lv_istore_n (lv' := [(2, .int 0), (1, .int 19), (0, .ref oM)]) hx hb dX6_leastTone_4 rfl hl (by decide) rfl (fun ls hl => ?_)
  refine kq_loop2 (A1 := Nat) (A2 := Int32) (fun (k : Nat) (x : Int32) => 72 - k) (fun (k : Nat) (x : Int32) => (k ≤ 72) ∧ (x = n_min (fun k => n_to v 0 (k / 12) (k % 12)) k)) (fun (k : Nat) (x : Int32) => [(0, .ref oM), (1, .int x), (2, .int (nI k))]) (nL := 4) ?_ 0 19 ⟨(by omega), (by rfl)⟩ _ (lv_sub hl [2, 1, 0] rfl)
  intro k x hi_2 ih_1 ls hl
  obtain ⟨ik, ix⟩ := hi_2
  have hl : lv_has ls 4 [(0, .ref oM), (1, .int x), (2, .int (nI k))] := hl
  refine lv_iload_n hx hb dX6_leastTone_5 rfl (lv_at hl 2 rfl) ?_
  refine lv_bipush (v := 72) hx hb dX6_leastTone_6 (by decide) ?_
  refine lv_icmp_ge (tgt := 42) hx hb dX6_leastTone_8 (by decide) (fun c_3 => ?_) (fun c_3 => ?_)
  · skip
    have c_3 := kq_leN (a := 72) (b := k) c_3 (by omega) (by omega)
    refine lv_iload_n hx hb dX6_leastTone_42 rfl (lv_at hl 1 rfl) ?_
    exact kq_ret hx hb hr hlocks dX6_leastTone_43 (by rw [ix, show k = 72 by omega])
  · skip
    have c_3 := kq_nleN (a := 72) (b := k) c_3 (by omega) (by omega)
    refine lv_aload_n hx hb dX6_leastTone_11 rfl (lv_at hl 0 rfl) ?_
    refine lv_iconst (v := 0) hx hb dX6_leastTone_12 (by decide) ?_
    refine lv_iload_n hx hb dX6_leastTone_13 rfl (lv_at hl 2 rfl) ?_
    refine lv_bipush (v := 12) hx hb dX6_leastTone_14 (by decide) ?_
    refine lv_idiv hx hb dX6_leastTone_16 (nI_ne0 (n := 12) (by omega) (by omega)) ?_
    refine kq_top (z := nI (k / 12)) (pk_div (a := k) (d := 12) (by omega) (by omega) (by omega)) ?_
    refine lv_iload_n hx hb dX6_leastTone_17 rfl (lv_at hl 2 rfl) ?_
    refine lv_bipush (v := 12) hx hb dX6_leastTone_18 (by decide) ?_
    refine lv_irem hx hb dX6_leastTone_20 (nI_ne0 (n := 12) (by omega) (by omega)) ?_
    refine kq_top (z := nI (k % 12)) (pk_rem (a := k) (d := 12) (by omega) (by omega) (by omega)) ?_
    refine kq_cV (As := [.int 0, .int (nI (k / 12)), .int (nI (k % 12))]) (rest := []) ⟨hx, hb, hml, hown, hts⟩ (c_X6_tone l dC dI cI oM rz r2 rb rq km n th tp lf hg wd pm stt hh z v 0 (k / 12) (k % 12) (by first | assumption | omega) (by first | assumption | omega) (by first | assumption | omega) (by first | assumption | omega) (by first | assumption | omega)) (cwV 3 hts gX6_leastTone_X6_tone rfl rfl rfl (by decide +kernel) ⟨Nat.le_of_ble_eq_true rfl, Nat.le_of_ble_eq_true rfl⟩) (hP.sub [0, 1] rfl) hK (ci := 6) (q0 := 0) rfl rfl rfl rfl hl.1 rfl (Nat.le_of_ble_eq_true rfl) dX6_leastTone_21 ⟨Nat.le_of_ble_eq_true rfl, Nat.le_of_ble_eq_true rfl⟩ ?_
    refine lv_istore_n (lv' := [(3, .int (n_to v 0 (k / 12) (k % 12))), (0, .ref oM), (1, .int x), (2, .int (nI k))]) hx hb dX6_leastTone_24 rfl hl (by decide) rfl (fun ls hl => ?_)
    refine lv_iload_n hx hb dX6_leastTone_25 rfl (lv_at hl 0 rfl) ?_
    refine lv_iload_n hx hb dX6_leastTone_26 rfl (lv_at hl 2 rfl) ?_
    refine lv_icmp_ge (tgt := 34) hx hb dX6_leastTone_27 (by decide) (fun c_4 => ?_) (fun c_4 => ?_)
    · skip
      refine lv_iload_n hx hb dX6_leastTone_34 rfl (lv_at hl 2 rfl) ?_
      refine lv_istore_n (lv' := [(1, .int x), (3, .int (n_to v 0 (k / 12) (k % 12))), (0, .ref oM), (2, .int (nI k))]) hx hb dX6_leastTone_35 rfl hl (by decide) rfl (fun ls hl => ?_)
      refine lv_iinc (v := nI (k + 1)) (lv' := [(2, .int (nI (k + 1))), (1, .int x), (3, .int (n_to v 0 (k / 12) (k % 12))), (0, .ref oM)]) hx hb dX6_leastTone_36 hl (k := 3) rfl (nI_1 k) (by decide) rfl (fun ls hl => ?_)
      refine lv_goto (tgt := 5) hx hb dX6_leastTone_39 (by decide) ?_
      exact ih_1 (k + 1) x ⟨(by omega), (by rw [n_min, ← ix]; first | rw [if_pos (by first | assumption | exact Int32.not_le.mp (by assumption))] | rw [if_neg (by first | exact Int32.not_lt.mpr (by assumption))])⟩ (by show 72 - (k + 1) < 72 - k; omega) _ (lv_sub hl [3, 1, 0] rfl)
    · skip
      refine lv_iload_n hx hb dX6_leastTone_30 rfl (lv_at hl 0 rfl) ?_
      refine lv_goto (tgt := 35) hx hb dX6_leastTone_31 (by decide) ?_
      refine lv_istore_n (lv' := [(1, .int (n_to v 0 (k / 12) (k % 12))), (3, .int (n_to v 0 (k / 12) (k % 12))), (0, .ref oM), (2, .int (nI k))]) hx hb dX6_leastTone_35 rfl hl (by decide) rfl (fun ls hl => ?_)
      refine lv_iinc (v := nI (k + 1)) (lv' := [(2, .int (nI (k + 1))), (1, .int (n_to v 0 (k / 12) (k % 12))), (3, .int (n_to v 0 (k / 12) (k % 12))), (0, .ref oM)]) hx hb dX6_leastTone_36 hl (k := 3) rfl (nI_1 k) (by decide) rfl (fun ls hl => ?_)
      refine lv_goto (tgt := 5) hx hb dX6_leastTone_39 (by decide) ?_
      exact ih_1 (k + 1) (n_to v 0 (k / 12) (k % 12)) ⟨(by omega), (by rw [n_min, ← ix]; first | rw [if_pos (by first | assumption | exact Int32.not_le.mp (by assumption))] | rw [if_neg (by first | exact Int32.not_lt.mpr (by assumption))])⟩ (by show 72 - (k + 1) < 72 - k; omega) _ (lv_sub hl [3, 1, 0] rfl)
set_option maxHeartbeats 4000000 in
set_option maxRecDepth 100000 in
theorem c_X6_greatestTone (l : Launch) (dC : Nat → ClassId) (dI : Nat → Nat → Nat) (cI : ClassId) (oM : Nat) (rz : Nat) (r2 : Nat) (rb : Nat) (rq : Nat) (km : Nat) (n : Nat) (th : Int32) (tp : Int32) (lf : Int32) (hg : Int32) (wd : Int32) (pm : Int32) (stt : Int32) (hh : Int64) (z : Nat → Int32) (v : Nat → Int32) (hz : n_Z v z) (hI : n_I v) : Met l yX6_greatestTone wsX6_greatestTone ({ frames := 3, cells := 0, slots := 0, locals := 73 }) (kq_R dC dI cI [.ref oM] [(oM, .inr (6, [.int th, .ref rz, .ref r2, .int (nI km), .ref rb, .int (nI n), .int tp, .int lf, .int hg, .int wd, .ref rq, .int pm, .int stt, .long hh])), (rz, .inl (cI, 389, .inl z))]) (QcRead (n_max (fun k => n_to v 0 (k / 12) (k % 12)) 72)) 0 0 (fun _ => False) := by
  refine kq_start (cc := cX6_greatestTone) (maxL := 4) (ret := (some .int)) (plainFor_of_name (by decide)) rfl (Nat.le_of_ble_eq_true rfl) ?_
  intro p e s m below meth c hx hb hr hml hown hlocks hts hP hK ls hl
  have hown : s.vm.findClass RX6 = some m.cls := hown
  have hl : lv_has ls 4 [(0, .ref oM)] := hl
  refine lv_iconst (v := 0) hx hb dX6_greatestTone_0 (by decide) ?_
  refine lv_istore_n (lv' := [(1, .int 0), (0, .ref oM)]) hx hb dX6_greatestTone_1 rfl hl (by decide) rfl (fun ls hl => ?_)
  refine lv_iconst (v := 0) hx hb dX6_greatestTone_2 (by decide) ?_
  refine lv_istore_n (lv' := [(2, .int 0), (1, .int 0), (0, .ref oM)]) hx hb dX6_greatestTone_3 rfl hl (by decide) rfl (fun ls hl => ?_)
  refine kq_loop2 (A1 := Nat) (A2 := Int32) (fun (k : Nat) (x : Int32) => 72 - k) (fun (k : Nat) (x : Int32) => (k ≤ 72) ∧ (x = n_max (fun k => n_to v 0 (k / 12) (k % 12)) k)) (fun (k : Nat) (x : Int32) => [(0, .ref oM), (1, .int x), (2, .int (nI k))]) (nL := 4) ?_ 0 0 ⟨(by omega), (by rfl)⟩ _ (lv_sub hl [2, 1, 0] rfl)
  intro k x hi_2 ih_1 ls hl
  obtain ⟨ik, ix⟩ := hi_2
  have hl : lv_has ls 4 [(0, .ref oM), (1, .int x), (2, .int (nI k))] := hl
  refine lv_iload_n hx hb dX6_greatestTone_4 rfl (lv_at hl 2 rfl) ?_
  refine lv_bipush (v := 72) hx hb dX6_greatestTone_5 (by decide) ?_
  refine lv_icmp_ge (tgt := 41) hx hb dX6_greatestTone_7 (by decide) (fun c_3 => ?_) (fun c_3 => ?_)
  · skip
    have c_3 := kq_leN (a := 72) (b := k) c_3 (by omega) (by omega)
    refine lv_iload_n hx hb dX6_greatestTone_41 rfl (lv_at hl 1 rfl) ?_
    exact kq_ret hx hb hr hlocks dX6_greatestTone_42 (by rw [ix, show k = 72 by omega])
  · skip
    have c_3 := kq_nleN (a := 72) (b := k) c_3 (by omega) (by omega)
    refine lv_aload_n hx hb dX6_greatestTone_10 rfl (lv_at hl 0 rfl) ?_
    refine lv_iconst (v := 0) hx hb dX6_greatestTone_11 (by decide) ?_
    refine lv_iload_n hx hb dX6_greatestTone_12 rfl (lv_at hl 2 rfl) ?_
    refine lv_bipush (v := 12) hx hb dX6_greatestTone_13 (by decide) ?_
    refine lv_idiv hx hb dX6_greatestTone_15 (nI_ne0 (n := 12) (by omega) (by omega)) ?_
    refine kq_top (z := nI (k / 12)) (pk_div (a := k) (d := 12) (by omega) (by omega) (by omega)) ?_
    refine lv_iload_n hx hb dX6_greatestTone_16 rfl (lv_at hl 2 rfl) ?_
    refine lv_bipush (v := 12) hx hb dX6_greatestTone_17 (by decide) ?_
    refine lv_irem hx hb dX6_greatestTone_19 (nI_ne0 (n := 12) (by omega) (by omega)) ?_
    refine kq_top (z := nI (k % 12)) (pk_rem (a := k) (d := 12) (by omega) (by omega) (by omega)) ?_
    refine kq_cV (As := [.int 0, .int (nI (k / 12)), .int (nI (k % 12))]) (rest := []) ⟨hx, hb, hml, hown, hts⟩ (c_X6_tone l dC dI cI oM rz r2 rb rq km n th tp lf hg wd pm stt hh z v 0 (k / 12) (k % 12) (by first | assumption | omega) (by first | assumption | omega) (by first | assumption | omega) (by first | assumption | omega) (by first | assumption | omega)) (cwV 3 hts gX6_greatestTone_X6_tone rfl rfl rfl (by decide +kernel) ⟨Nat.le_of_ble_eq_true rfl, Nat.le_of_ble_eq_true rfl⟩) (hP.sub [0, 1] rfl) hK (ci := 6) (q0 := 0) rfl rfl rfl rfl hl.1 rfl (Nat.le_of_ble_eq_true rfl) dX6_greatestTone_20 ⟨Nat.le_of_ble_eq_true rfl, Nat.le_of_ble_eq_true rfl⟩ ?_
    refine lv_istore_n (lv' := [(3, .int (n_to v 0 (k / 12) (k % 12))), (0, .ref oM), (1, .int x), (2, .int (nI k))]) hx hb dX6_greatestTone_23 rfl hl (by decide) rfl (fun ls hl => ?_)
    refine lv_iload_n hx hb dX6_greatestTone_24 rfl (lv_at hl 0 rfl) ?_
    refine lv_iload_n hx hb dX6_greatestTone_25 rfl (lv_at hl 2 rfl) ?_
    refine lv_icmp_le (tgt := 33) hx hb dX6_greatestTone_26 (by decide) (fun c_4 => ?_) (fun c_4 => ?_)
    · skip
      refine lv_iload_n hx hb dX6_greatestTone_33 rfl (lv_at hl 2 rfl) ?_
      refine lv_istore_n (lv' := [(1, .int x), (3, .int (n_to v 0 (k / 12) (k % 12))), (0, .ref oM), (2, .int (nI k))]) hx hb dX6_greatestTone_34 rfl hl (by decide) rfl (fun ls hl => ?_)
      refine lv_iinc (v := nI (k + 1)) (lv' := [(2, .int (nI (k + 1))), (1, .int x), (3, .int (n_to v 0 (k / 12) (k % 12))), (0, .ref oM)]) hx hb dX6_greatestTone_35 hl (k := 3) rfl (nI_1 k) (by decide) rfl (fun ls hl => ?_)
      refine lv_goto (tgt := 4) hx hb dX6_greatestTone_38 (by decide) ?_
      exact ih_1 (k + 1) x ⟨(by omega), (by rw [n_max, ← ix]; first | rw [if_pos (by first | assumption | exact Int32.not_le.mp (by assumption))] | rw [if_neg (by first | exact Int32.not_lt.mpr (by assumption))])⟩ (by show 72 - (k + 1) < 72 - k; omega) _ (lv_sub hl [3, 1, 0] rfl)
    · skip
      refine lv_iload_n hx hb dX6_greatestTone_29 rfl (lv_at hl 0 rfl) ?_
      refine lv_goto (tgt := 34) hx hb dX6_greatestTone_30 (by decide) ?_
      refine lv_istore_n (lv' := [(1, .int (n_to v 0 (k / 12) (k % 12))), (3, .int (n_to v 0 (k / 12) (k % 12))), (0, .ref oM), (2, .int (nI k))]) hx hb dX6_greatestTone_34 rfl hl (by decide) rfl (fun ls hl => ?_)
      refine lv_iinc (v := nI (k + 1)) (lv' := [(2, .int (nI (k + 1))), (1, .int (n_to v 0 (k / 12) (k % 12))), (3, .int (n_to v 0 (k / 12) (k % 12))), (0, .ref oM)]) hx hb dX6_greatestTone_35 hl (k := 3) rfl (nI_1 k) (by decide) rfl (fun ls hl => ?_)
      refine lv_goto (tgt := 4) hx hb dX6_greatestTone_38 (by decide) ?_
      exact ih_1 (k + 1) (n_to v 0 (k / 12) (k % 12)) ⟨(by omega), (by rw [n_max, ← ix]; first | rw [if_pos (by first | assumption | exact Int32.not_le.mp (by assumption))] | rw [if_neg (by first | exact Int32.not_lt.mpr (by assumption))])⟩ (by show 72 - (k + 1) < 72 - k; omega) _ (lv_sub hl [3, 1, 0] rfl)
set_option maxHeartbeats 4000000 in
set_option maxRecDepth 100000 in
theorem c_X6_counted (l : Launch) (dC : Nat → ClassId) (dI : Nat → Nat → Nat) (cI : ClassId) (sz : Nat) (oM : Nat) (rz : Nat) (r2 : Nat) (rb : Nat) (rq : Nat) (km : Nat) (n : Nat) (th : Int32) (tp : Int32) (lf : Int32) (hg : Int32) (wd : Int32) (pm : Int32) (stt : Int32) (hh : Int64) (z : Nat → Int32) (v : Nat → Int32) (q : Nat) (hz : n_Z v z) (hI : n_I v) (hq : q < 9) : Met l yX6_counted wsX6_counted ({ frames := 9, cells := 0, slots := 0, locals := 211 }) (kq_M dC dI cI [.ref oM, .int (nI q)] sz [(oM, .inr (6, [.int th, .ref rz, .ref r2, .int (nI km), .ref rb, .int (nI n), .int tp, .int lf, .int hg, .int wd, .ref rq, .int pm, .int stt, .long hh])), (rz, .inl (cI, 389, .inl z))]) (va_Qi (fun (r : Int32) (u : Int32 × Int32 × Int32 × Int32) => r = n_cnt v km q) (kq_B dC dI (va_A [(oM, .inr (6, [.int th, .ref rz, .ref r2, .int (nI km), .ref rb, .int (nI n), .int tp, .int lf, .int hg, .int wd, .ref rq, .int pm, .int stt, .long hh])), (rz, .inl (cI, 389, .inl z))] sz) (fun u : Int32 × Int32 × Int32 × Int32 => [(oM, .inr (6, [.int th, .ref rz, .ref r2, .int (nI km), .ref rb, .int (nI n), .int u.1, .int u.2.1, .int u.2.2.1, .int u.2.2.2, .ref rq, .int pm, .int stt, .long hh])), (rz, .inl (cI, 389, .inl z))])) (va_A [(oM, .inr (6, [.int th, .ref rz, .ref r2, .int (nI km), .ref rb, .int (nI n), .int tp, .int lf, .int hg, .int wd, .ref rq, .int pm, .int stt, .long hh])), (rz, .inl (cI, 389, .inl z))] sz)) 0 0 (va_A [(oM, .inr (6, [.int th, .ref rz, .ref r2, .int (nI km), .ref rb, .int (nI n), .int tp, .int lf, .int hg, .int wd, .ref rq, .int pm, .int stt, .long hh])), (rz, .inl (cI, 389, .inl z))] sz) := by
  refine kq_startM (cc := cX6_counted) (maxL := 2) (ret := (some .int)) (by decide) rfl (Nat.le_of_ble_eq_true rfl) ?_
  intro p e s m below meth c hx hb hr hml hown hlocks hts hsz hA hP hD hS hK hnm ls hl
  subst hsz
  generalize hAe : va_A [(oM, .inr (6, [.int th, .ref rz, .ref r2, .int (nI km), .ref rb, .int (nI n), .int tp, .int lf, .int hg, .int wd, .ref rq, .int pm, .int stt, .long hh])), (rz, .inl (cI, 389, .inl z))] s.heap.size = A at hA hD hS ⊢
  have hown : s.vm.findClass RX6 = some m.cls := hown
  have hl : lv_has ls 2 [(0, .ref oM), (1, .int (nI q))] := hl
  have hs1 := (n_I_s hI).2.2.2.2.1
  refine lv_iload_n hx hb dX6_counted_0 rfl (lv_at hl 1 rfl) ?_
  rcases (show q = 0 ∨ q = 1 ∨ q = 2 ∨ q = 3 ∨ q = 4 ∨ q = 5 ∨ q = 6 ∨ q = 7 ∨ q = 8 from by omega) with rfl | rfl | rfl | rfl | rfl | rfl | rfl | rfl | rfl
  · skip
    refine lv_tableIn (off := 47) (tgt := 48) hx hb dX6_counted_1 (by decide) (by decide) (by decide) (by decide) ?_
    refine lv_aload_n hx hb dX6_counted_48 rfl (lv_at hl 0 rfl) ?_
    refine kq_cV (As := []) (rest := []) ⟨hx, hb, hml, hown, hts⟩ (c_X6_figures l dC dI cI oM rz r2 rb rq km n th tp lf hg wd pm stt hh z v (by first | assumption | omega)) (cwV 0 hts gX6_counted_X6_figures rfl rfl rfl (by decide +kernel) ⟨Nat.le_of_ble_eq_true rfl, Nat.le_of_ble_eq_true rfl⟩) (hP.sub [0, 1] rfl) hK (ci := 6) (q0 := 0) rfl rfl rfl rfl hl.1 rfl (Nat.le_of_ble_eq_true rfl) dX6_counted_49 ⟨Nat.le_of_ble_eq_true rfl, Nat.le_of_ble_eq_true rfl⟩ ?_
    exact kq_retMi (tp, lf, hg, wd) hx hb hr hlocks hP hD hS dX6_counted_52 (by rfl)
  · skip
    refine lv_tableIn (off := 52) (tgt := 53) hx hb dX6_counted_1 (by decide) (by decide) (by decide) (by decide) ?_
    refine lv_aload_n hx hb dX6_counted_53 rfl (lv_at hl 0 rfl) ?_
    refine kq_callMi (wr := []) (va_runV (As := []) (rest := []) ⟨hx, hb, hml, hown, hts⟩ (c_X6_hidden l dC dI cI s.heap.size oM rz r2 rb rq km n th tp lf hg wd pm stt hh z v (by first | assumption | omega) (by first | assumption | omega)) (cwV 0 hts gX6_counted_X6_hidden rfl rfl rfl (by decide +kernel) ⟨Nat.le_of_ble_eq_true rfl, Nat.le_of_ble_eq_true rfl⟩) (kq_preV (ci := 6) (q0 := 0) (hP.sub [0, 1] rfl) (hD.sub [0, 1] (by decide) rfl) hK rfl rfl) rfl rfl hl.1 rfl (lv_room (Nat.le_of_ble_eq_true rfl)) dX6_counted_54 ⟨Nat.le_of_ble_eq_true rfl, Nat.le_of_ble_eq_true rfl⟩) hP hD hS hA [0, 1] [] rfl rfl (by decide) (by decide) (fun r_1 u_2 H locs hw_3 hP hD hS => ?_)
    obtain ⟨t1_4, t2_5, t3_6, t4_7⟩ := u_2
    have hP : va_P (dC, dI) vwCl [(oM, .inr (6, [.int th, .ref rz, .ref r2, .int (nI km), .ref rb, .int (nI n), .int t1_4, .int t2_5, .int t3_6, .int t4_7, .ref rq, .int pm, .int stt, .long hh])), (rz, .inl (cI, 389, .inl z))] H := hP
    have hD : va_D A [(oM, .inr (6, [.int th, .ref rz, .ref r2, .int (nI km), .ref rb, .int (nI n), .int t1_4, .int t2_5, .int t3_6, .int t4_7, .ref rq, .int pm, .int stt, .long hh])), (rz, .inl (cI, 389, .inl z))] := hD
    obtain rfl := hw_3
    exact kq_retMi (t1_4, t2_5, t3_6, t4_7) hx hb hr hlocks hP hD hS dX6_counted_57 (by rfl)
  · skip
    refine lv_tableIn (off := 57) (tgt := 58) hx hb dX6_counted_1 (by decide) (by decide) (by decide) (by decide) ?_
    refine lv_aload_n hx hb dX6_counted_58 rfl (lv_at hl 0 rfl) ?_
    refine lv_iconst (v := 1) hx hb dX6_counted_59 (by decide) ?_
    refine kq_callMi (wr := []) (va_runV (As := [.int 1]) (rest := []) ⟨hx, hb, hml, hown, hts⟩ (c_X6_good l dC dI cI s.heap.size oM rz r2 rb rq km n th tp lf hg wd pm stt hh z v 1 (by first | assumption | omega) (by first | assumption | omega) (by first | assumption | omega)) (cwV 1 hts gX6_counted_X6_good rfl rfl rfl (by decide +kernel) ⟨Nat.le_of_ble_eq_true rfl, Nat.le_of_ble_eq_true rfl⟩) (kq_preV (ci := 6) (q0 := 0) (hP.sub [0, 1] rfl) (hD.sub [0, 1] (by decide) rfl) hK rfl rfl) rfl rfl hl.1 rfl (lv_room (Nat.le_of_ble_eq_true rfl)) dX6_counted_60 ⟨Nat.le_of_ble_eq_true rfl, Nat.le_of_ble_eq_true rfl⟩) hP hD hS hA [0, 1] [] rfl rfl (by decide) (by decide) (fun r_8 u_9 H locs hw_10 hP hD hS => ?_)
    obtain ⟨t1_11, t2_12, t3_13, t4_14⟩ := u_9
    have hP : va_P (dC, dI) vwCl [(oM, .inr (6, [.int th, .ref rz, .ref r2, .int (nI km), .ref rb, .int (nI n), .int t1_11, .int t2_12, .int t3_13, .int t4_14, .ref rq, .int pm, .int stt, .long hh])), (rz, .inl (cI, 389, .inl z))] H := hP
    have hD : va_D A [(oM, .inr (6, [.int th, .ref rz, .ref r2, .int (nI km), .ref rb, .int (nI n), .int t1_11, .int t2_12, .int t3_13, .int t4_14, .ref rq, .int pm, .int stt, .long hh])), (rz, .inl (cI, 389, .inl z))] := hD
    obtain rfl := hw_10
    exact kq_retMi (t1_11, t2_12, t3_13, t4_14) hx hb hr hlocks hP hD hS dX6_counted_63 (by exact n_go_1 v)
  · skip
    refine lv_tableIn (off := 63) (tgt := 64) hx hb dX6_counted_1 (by decide) (by decide) (by decide) (by decide) ?_
    refine lv_aload_n hx hb dX6_counted_64 rfl (lv_at hl 0 rfl) ?_
    refine lv_aload_n hx hb dX6_counted_65 rfl (lv_at hl 0 rfl) ?_
    refine va_get (D := (dC, dI)) (ci := 6) (v := .ref rz) (C := RX6) (T := TX6) (N := 14) hx hb hts (by decide +kernel) hown hK.1 hP 0 rfl rfl 1 (by decide) (hts (.fieldLink RX6 7 "NoteWatermarksModel" "z" "[I") (by decide +kernel)) (fun _ h9 => h9) rfl dX6_counted_66 ?_
    refine lv_iconst (v := 1) hx hb dX6_counted_69 (by decide) ?_
    refine va_iald hx hb hK.1 hP 1 0 rfl rfl (vp_in_nI (show 1 < 389 from by omega) (by omega)) dX6_counted_70 ?_
    refine kq_top (z := z 1) (congrArg z (nI_clamp (Nat.lt_trans (show 1 < 389 from by omega) (by omega)))) ?_
    refine kq_top (z := nI (n_s v 1)) ((hz.1 1 (by decide)).trans (n_I_s hI).2.2.1) ?_
    refine kq_cV (As := [.int (nI (n_s v 1))]) (rest := []) ⟨hx, hb, hml, hown, hts⟩ (c_X6_roundOfAll l dC dI cI oM rz r2 rb rq km n th tp lf hg wd pm stt hh z v (n_s v 1) (by first | assumption | omega) (by first | assumption | omega) (by first | assumption | omega)) (cwV 1 hts gX6_counted_X6_roundOfAll rfl rfl rfl (by decide +kernel) ⟨Nat.le_of_ble_eq_true rfl, Nat.le_of_ble_eq_true rfl⟩) (hP.sub [0, 1] rfl) hK (ci := 6) (q0 := 0) rfl rfl rfl rfl hl.1 rfl (Nat.le_of_ble_eq_true rfl) dX6_counted_71 ⟨Nat.le_of_ble_eq_true rfl, Nat.le_of_ble_eq_true rfl⟩ ?_
    exact kq_retMi (tp, lf, hg, wd) hx hb hr hlocks hP hD hS dX6_counted_74 (by rfl)
  · skip
    refine lv_tableIn (off := 74) (tgt := 75) hx hb dX6_counted_1 (by decide) (by decide) (by decide) (by decide) ?_
    refine lv_aload_n hx hb dX6_counted_75 rfl (lv_at hl 0 rfl) ?_
    refine kq_cV (As := []) (rest := []) ⟨hx, hb, hml, hown, hts⟩ (c_X6_likeFirst l dC dI cI oM rz r2 rb rq km n th tp lf hg wd pm stt hh z v (by first | assumption | omega) (by first | assumption | omega)) (cwV 0 hts gX6_counted_X6_likeFirst rfl rfl rfl (by decide +kernel) ⟨Nat.le_of_ble_eq_true rfl, Nat.le_of_ble_eq_true rfl⟩) (hP.sub [0, 1] rfl) hK (ci := 6) (q0 := 0) rfl rfl rfl rfl hl.1 rfl (Nat.le_of_ble_eq_true rfl) dX6_counted_76 ⟨Nat.le_of_ble_eq_true rfl, Nat.le_of_ble_eq_true rfl⟩ ?_
    exact kq_retMi (tp, lf, hg, wd) hx hb hr hlocks hP hD hS dX6_counted_79 (by rfl)
  · skip
    refine lv_tableIn (off := 79) (tgt := 80) hx hb dX6_counted_1 (by decide) (by decide) (by decide) (by decide) ?_
    refine lv_aload_n hx hb dX6_counted_80 rfl (lv_at hl 0 rfl) ?_
    refine kq_cV (As := []) (rest := []) ⟨hx, hb, hml, hown, hts⟩ (c_X6_inked l dC dI cI oM rz r2 rb rq km n th tp lf hg wd pm stt hh z v (by first | assumption | omega) (by first | assumption | omega)) (cwV 0 hts gX6_counted_X6_inked rfl rfl rfl (by decide +kernel) ⟨Nat.le_of_ble_eq_true rfl, Nat.le_of_ble_eq_true rfl⟩) (hP.sub [0, 1] rfl) hK (ci := 6) (q0 := 0) rfl rfl rfl rfl hl.1 rfl (Nat.le_of_ble_eq_true rfl) dX6_counted_81 ⟨Nat.le_of_ble_eq_true rfl, Nat.le_of_ble_eq_true rfl⟩ ?_
    exact kq_retMi (tp, lf, hg, wd) hx hb hr hlocks hP hD hS dX6_counted_84 (by exact (n_ik_eq v).symm)
  · skip
    refine lv_tableIn (off := 84) (tgt := 85) hx hb dX6_counted_1 (by decide) (by decide) (by decide) (by decide) ?_
    refine lv_aload_n hx hb dX6_counted_85 rfl (lv_at hl 0 rfl) ?_
    refine kq_cV (As := []) (rest := []) ⟨hx, hb, hml, hown, hts⟩ (c_X6_leastTone l dC dI cI oM rz r2 rb rq km n th tp lf hg wd pm stt hh z v (by first | assumption | omega) (by first | assumption | omega)) (cwV 0 hts gX6_counted_X6_leastTone rfl rfl rfl (by decide +kernel) ⟨Nat.le_of_ble_eq_true rfl, Nat.le_of_ble_eq_true rfl⟩) (hP.sub [0, 1] rfl) hK (ci := 6) (q0 := 0) rfl rfl rfl rfl hl.1 rfl (Nat.le_of_ble_eq_true rfl) dX6_counted_86 ⟨Nat.le_of_ble_eq_true rfl, Nat.le_of_ble_eq_true rfl⟩ ?_
    exact kq_retMi (tp, lf, hg, wd) hx hb hr hlocks hP hD hS dX6_counted_89 (by rfl)
  · skip
    refine lv_tableIn (off := 89) (tgt := 90) hx hb dX6_counted_1 (by decide) (by decide) (by decide) (by decide) ?_
    refine lv_aload_n hx hb dX6_counted_90 rfl (lv_at hl 0 rfl) ?_
    refine kq_cV (As := []) (rest := []) ⟨hx, hb, hml, hown, hts⟩ (c_X6_greatestTone l dC dI cI oM rz r2 rb rq km n th tp lf hg wd pm stt hh z v (by first | assumption | omega) (by first | assumption | omega)) (cwV 0 hts gX6_counted_X6_greatestTone rfl rfl rfl (by decide +kernel) ⟨Nat.le_of_ble_eq_true rfl, Nat.le_of_ble_eq_true rfl⟩) (hP.sub [0, 1] rfl) hK (ci := 6) (q0 := 0) rfl rfl rfl rfl hl.1 rfl (Nat.le_of_ble_eq_true rfl) dX6_counted_91 ⟨Nat.le_of_ble_eq_true rfl, Nat.le_of_ble_eq_true rfl⟩ ?_
    exact kq_retMi (tp, lf, hg, wd) hx hb hr hlocks hP hD hS dX6_counted_94 (by rfl)
  · skip
    refine lv_tableOut (tgt := 95) hx hb dX6_counted_1 (by decide) (by decide) ?_
    refine lv_aload_n hx hb dX6_counted_95 rfl (lv_at hl 0 rfl) ?_
    refine va_get (D := (dC, dI)) (ci := 6) (v := .int (nI km)) (C := RX6) (T := TX6) (N := 14) hx hb hts (by decide +kernel) hown hK.1 hP 0 rfl rfl 3 (by decide) (hts (.fieldLink RX6 34 "NoteWatermarksModel" "savedMany" "I") (by decide +kernel)) (fun _ h9 => h9) rfl dX6_counted_96 ?_
    exact kq_retMi (tp, lf, hg, wd) hx hb hr hlocks hP hD hS dX6_counted_99 (by rfl)
