set_option maxHeartbeats 4000000 in
set_option maxRecDepth 100000 in
theorem c_X6_bendPart (l : Launch) (dC : Nat → ClassId) (dI : Nat → Nat → Nat) (cI : ClassId) (sz : Nat) (oM : Nat) (rz : Nat) (r2 : Nat) (rb : Nat) (rq : Nat) (km : Nat) (n : Nat) (th : Int32) (tp : Int32) (lf : Int32) (hg : Int32) (wd : Int32) (pm : Int32) (stt : Int32) (hh : Int64) (z : Nat → Int32) (zs : Nat → Int32) (bf : Nat → Int32) (pt : Nat → Int32) (v : Nat → Int32) (i : Nat) (a : Nat) (b : Nat) (j : Nat) (t9 : Nat) (x : Int32) (hi : i < 12) (ha : pt (6 * i) = nI a ∧ a < 3) (hb9 : pt (6 * i + 1) = nI b ∧ b < 6) (hj : pt (6 * i + 2) = nI j ∧ j < 16) (hx9 : pt (6 * i + 3) * pt (6 * i + 4) = x) (ht9 : pt (6 * i + 5) = nI t9 ∧ t9 ≤ 9) : Met l yX6_bendPart wsX6_bendPart ({ frames := 0, cells := 0, slots := 0, locals := 0 }) (kq_M dC dI cI [.ref oM, .int (nI i)] sz [(oM, .inr (6, [.int th, .ref rz, .ref r2, .int (nI km), .ref rb, .int (nI n), .int tp, .int lf, .int hg, .int wd, .ref rq, .int pm, .int stt, .long hh])), (rz, .inl (cI, 389, .inl z)), (rq, .inl (cI, 72, .inl pt))]) (va_Qv (fun (u : Unit) => True) (kq_B dC dI (va_A [(oM, .inr (6, [.int th, .ref rz, .ref r2, .int (nI km), .ref rb, .int (nI n), .int tp, .int lf, .int hg, .int wd, .ref rq, .int pm, .int stt, .long hh])), (rz, .inl (cI, 389, .inl z)), (rq, .inl (cI, 72, .inl pt))] sz) (fun u : Unit => [(oM, .inr (6, [.int th, .ref rz, .ref r2, .int (nI km), .ref rb, .int (nI n), .int tp, .int lf, .int hg, .int wd, .ref rq, .int pm, .int stt, .long hh])), (rz, .inl (cI, 389, .inl (n_bpZ z a b j t9 x))), (rq, .inl (cI, 72, .inl pt))])) (va_A [(oM, .inr (6, [.int th, .ref rz, .ref r2, .int (nI km), .ref rb, .int (nI n), .int tp, .int lf, .int hg, .int wd, .ref rq, .int pm, .int stt, .long hh])), (rz, .inl (cI, 389, .inl z)), (rq, .inl (cI, 72, .inl pt))] sz)) 0 0 (va_A [(oM, .inr (6, [.int th, .ref rz, .ref r2, .int (nI km), .ref rb, .int (nI n), .int tp, .int lf, .int hg, .int wd, .ref rq, .int pm, .int stt, .long hh])), (rz, .inl (cI, 389, .inl z)), (rq, .inl (cI, 72, .inl pt))] sz) := by
  refine kq_startM (cc := cX6_bendPart) (maxL := 5) (ret := none) (by decide) rfl (Nat.le_of_ble_eq_true rfl) ?_
  intro p e s m below meth c hx hb hr hml hown hlocks hts hsz hA hP hD hS hK hnm ls hl
  subst hsz
  generalize hAe : va_A [(oM, .inr (6, [.int th, .ref rz, .ref r2, .int (nI km), .ref rb, .int (nI n), .int tp, .int lf, .int hg, .int wd, .ref rq, .int pm, .int stt, .long hh])), (rz, .inl (cI, 389, .inl z)), (rq, .inl (cI, 72, .inl pt))] s.heap.size = A at hA hD hS ⊢
  have hown : s.vm.findClass RX6 = some m.cls := hown
  have hl : lv_has ls 5 [(0, .ref oM), (1, .int (nI i))] := hl
  refine lv_bipush (v := 9) hx hb dX6_bendPart_0 (by decide) ?_
  refine lv_bipush (v := 6) hx hb dX6_bendPart_2 (by decide) ?_
  refine lv_aload_n hx hb dX6_bendPart_4 rfl (lv_at hl 0 rfl) ?_
  refine va_get (D := (dC, dI)) (ci := 6) (v := .ref rq) (C := RX6) (T := TX6) (N := 14) hx hb hts (by decide +kernel) hown hK.1 hP 0 rfl rfl 10 (by decide) (hts (.fieldLink RX6 19 "NoteWatermarksModel" "parts" "[I") (by decide +kernel)) (fun _ h9 => h9) rfl dX6_bendPart_5 ?_
  refine lv_bipush (v := 6) hx hb dX6_bendPart_8 (by decide) ?_
  refine lv_iload_n hx hb dX6_bendPart_10 rfl (lv_at hl 1 rfl) ?_
  refine lv_imul hx hb dX6_bendPart_11 ?_
  refine kq_top (z := nI (6 * i)) (pk_mul 6 i) ?_
  refine va_iald hx hb hK.1 hP 2 0 rfl rfl (vp_in_nI (show 6 * i < 72 from by omega) (by omega)) dX6_bendPart_12 ?_
  refine kq_top (z := pt (6 * i)) (congrArg pt (nI_clamp (Nat.lt_trans (show 6 * i < 72 from by omega) (by omega)))) ?_
  refine kq_top (z := nI a) (ha.1) ?_
  refine lv_imul hx hb dX6_bendPart_13 ?_
  refine kq_top (z := nI (6 * a)) (pk_mul 6 a) ?_
  refine lv_aload_n hx hb dX6_bendPart_14 rfl (lv_at hl 0 rfl) ?_
  refine va_get (D := (dC, dI)) (ci := 6) (v := .ref rq) (C := RX6) (T := TX6) (N := 14) hx hb hts (by decide +kernel) hown hK.1 hP 0 rfl rfl 10 (by decide) (hts (.fieldLink RX6 19 "NoteWatermarksModel" "parts" "[I") (by decide +kernel)) (fun _ h9 => h9) rfl dX6_bendPart_15 ?_
  refine lv_bipush (v := 6) hx hb dX6_bendPart_18 (by decide) ?_
  refine lv_iload_n hx hb dX6_bendPart_20 rfl (lv_at hl 1 rfl) ?_
  refine lv_imul hx hb dX6_bendPart_21 ?_
  refine kq_top (z := nI (6 * i)) (pk_mul 6 i) ?_
  refine lv_iconst (v := 1) hx hb dX6_bendPart_22 (by decide) ?_
  refine lv_iadd hx hb dX6_bendPart_23 ?_
  refine kq_top (z := nI ((6 * i) + 1)) (nI_add (6 * i) 1) ?_
  refine va_iald hx hb hK.1 hP 2 0 rfl rfl (vp_in_nI (show (6 * i) + 1 < 72 from by omega) (by omega)) dX6_bendPart_24 ?_
  refine kq_top (z := pt ((6 * i) + 1)) (congrArg pt (nI_clamp (Nat.lt_trans (show (6 * i) + 1 < 72 from by omega) (by omega)))) ?_
  refine kq_top (z := nI b) (hb9.1) ?_
  refine lv_iadd hx hb dX6_bendPart_25 ?_
  refine kq_top (z := nI ((6 * a) + b)) (nI_add (6 * a) b) ?_
  refine lv_bipush (v := 16) hx hb dX6_bendPart_26 (by decide) ?_
  refine lv_imul hx hb dX6_bendPart_28 ?_
  refine kq_top (z := nI (((6 * a) + b) * 16)) (pk_mul ((6 * a) + b) 16) ?_
  refine lv_iadd hx hb dX6_bendPart_29 ?_
  refine kq_top (z := nI (9 + (((6 * a) + b) * 16))) (nI_add 9 (((6 * a) + b) * 16)) ?_
  refine lv_istore_n (lv' := [(2, .int (nI (9 + (((6 * a) + b) * 16)))), (0, .ref oM), (1, .int (nI i))]) hx hb dX6_bendPart_30 rfl hl (by decide) rfl (fun ls hl => ?_)
  refine lv_aload_n hx hb dX6_bendPart_31 rfl (lv_at hl 1 rfl) ?_
  refine va_get (D := (dC, dI)) (ci := 6) (v := .ref rq) (C := RX6) (T := TX6) (N := 14) hx hb hts (by decide +kernel) hown hK.1 hP 0 rfl rfl 10 (by decide) (hts (.fieldLink RX6 19 "NoteWatermarksModel" "parts" "[I") (by decide +kernel)) (fun _ h9 => h9) rfl dX6_bendPart_32 ?_
  refine lv_bipush (v := 6) hx hb dX6_bendPart_35 (by decide) ?_
  refine lv_iload_n hx hb dX6_bendPart_37 rfl (lv_at hl 2 rfl) ?_
  refine lv_imul hx hb dX6_bendPart_38 ?_
  refine kq_top (z := nI (6 * i)) (pk_mul 6 i) ?_
  refine lv_iconst (v := 2) hx hb dX6_bendPart_39 (by decide) ?_
  refine lv_iadd hx hb dX6_bendPart_40 ?_
  refine kq_top (z := nI ((6 * i) + 2)) (nI_add (6 * i) 2) ?_
  refine va_iald hx hb hK.1 hP 2 0 rfl rfl (vp_in_nI (show (6 * i) + 2 < 72 from by omega) (by omega)) dX6_bendPart_41 ?_
  refine kq_top (z := pt ((6 * i) + 2)) (congrArg pt (nI_clamp (Nat.lt_trans (show (6 * i) + 2 < 72 from by omega) (by omega)))) ?_
  refine kq_top (z := nI j) (hj.1) ?_
  refine lv_istore_n (lv' := [(3, .int (nI j)), (2, .int (nI (9 + (((6 * a) + b) * 16)))), (0, .ref oM), (1, .int (nI i))]) hx hb dX6_bendPart_42 rfl hl (by decide) rfl (fun ls hl => ?_)
  refine lv_iload_n hx hb dX6_bendPart_43 rfl (lv_at hl 0 rfl) ?_
  refine lv_istore (lv' := [(4, .int (nI j)), (3, .int (nI j)), (2, .int (nI (9 + (((6 * a) + b) * 16)))), (0, .ref oM), (1, .int (nI i))]) hx hb dX6_bendPart_44 hl (by decide) rfl (fun ls hl => ?_)
  refine kq_loopM2 (A1 := Nat) (A2 := Nat → Int32) (fun (k : Nat) (g : Nat → Int32) => 16 - k) (fun (k : Nat) (g : Nat → Int32) => (j ≤ k ∧ k ≤ 16 ∧ k ≤ j + t9) ∧ (∀ y, g y = if 9 + (6 * a + b) * 16 + j ≤ y ∧ y < 9 + (6 * a + b) * 16 + k then x else z y)) (fun (k : Nat) (g : Nat → Int32) => [(0, .ref oM), (1, .int (nI i)), (2, .int (nI (9 + (6 * a + b) * 16))), (3, .int (nI j)), (4, .int (nI k))]) (fun (k : Nat) (g : Nat → Int32) => [(oM, .inr (6, [.int th, .ref rz, .ref r2, .int (nI km), .ref rb, .int (nI n), .int tp, .int lf, .int hg, .int wd, .ref rq, .int pm, .int stt, .long hh])), (rz, .inl (cI, 389, .inl g)), (rq, .inl (cI, 72, .inl pt))]) (nL := 5) hK ?_ j z ⟨(by omega), (by intro y; rw [if_neg (by omega)])⟩ hP hD hS _ (lv_sub hl [3, 4, 2, 1, 0] rfl)
  intro k g hi_2 ih_1 H locs hP hD hS ls hl
  obtain ⟨ik, ig⟩ := hi_2
  have hl : lv_has ls 5 [(0, .ref oM), (1, .int (nI i)), (2, .int (nI (9 + (6 * a + b) * 16))), (3, .int (nI j)), (4, .int (nI k))] := hl
  have hP : va_P (dC, dI) vwCl [(oM, .inr (6, [.int th, .ref rz, .ref r2, .int (nI km), .ref rb, .int (nI n), .int tp, .int lf, .int hg, .int wd, .ref rq, .int pm, .int stt, .long hh])), (rz, .inl (cI, 389, .inl g)), (rq, .inl (cI, 72, .inl pt))] H := hP
  have hD : va_D A [(oM, .inr (6, [.int th, .ref rz, .ref r2, .int (nI km), .ref rb, .int (nI n), .int tp, .int lf, .int hg, .int wd, .ref rq, .int pm, .int stt, .long hh])), (rz, .inl (cI, 389, .inl g)), (rq, .inl (cI, 72, .inl pt))] := hD
  refine lv_iload hx hb dX6_bendPart_46 (lv_at hl 4 rfl) ?_
  refine lv_iload_n hx hb dX6_bendPart_48 rfl (lv_at hl 3 rfl) ?_
  refine lv_aload_n hx hb dX6_bendPart_49 rfl (lv_at hl 0 rfl) ?_
  refine va_get (D := (dC, dI)) (ci := 6) (v := .ref rq) (C := RX6) (T := TX6) (N := 14) hx hb hts (by decide +kernel) hown hK.1 hP 0 rfl rfl 10 (by decide) (hts (.fieldLink RX6 19 "NoteWatermarksModel" "parts" "[I") (by decide +kernel)) (fun _ h9 => h9) rfl dX6_bendPart_50 ?_
  refine lv_bipush (v := 6) hx hb dX6_bendPart_53 (by decide) ?_
  refine lv_iload_n hx hb dX6_bendPart_55 rfl (lv_at hl 1 rfl) ?_
  refine lv_imul hx hb dX6_bendPart_56 ?_
  refine kq_top (z := nI (6 * i)) (pk_mul 6 i) ?_
  refine lv_iconst (v := 5) hx hb dX6_bendPart_57 (by decide) ?_
  refine lv_iadd hx hb dX6_bendPart_58 ?_
  refine kq_top (z := nI ((6 * i) + 5)) (nI_add (6 * i) 5) ?_
  refine va_iald hx hb hK.1 hP 2 0 rfl rfl (vp_in_nI (show (6 * i) + 5 < 72 from by omega) (by omega)) dX6_bendPart_59 ?_
  refine kq_top (z := pt ((6 * i) + 5)) (congrArg pt (nI_clamp (Nat.lt_trans (show (6 * i) + 5 < 72 from by omega) (by omega)))) ?_
  refine kq_top (z := nI t9) (ht9.1) ?_
  refine lv_iadd hx hb dX6_bendPart_60 ?_
  refine kq_top (z := nI (j + t9)) (nI_add j t9) ?_
  refine lv_icmp_ge (tgt := 109) hx hb dX6_bendPart_61 (by decide) (fun c_3 => ?_) (fun c_3 => ?_)
  · skip
    have c_3 := kq_leN (a := (j + t9)) (b := k) c_3 (by omega) (by omega)
    have hg9 : g = n_bpZ z a b j t9 x := by funext y; rw [ig y, n_bpZ, show k = min (j + t9) 16 by omega]
    rw [hg9] at hP hD
    exact kq_retMv () hx hb hr hlocks hP hD hS dX6_bendPart_109 (by trivial)
  · skip
    have c_3 := kq_nleN (a := (j + t9)) (b := k) c_3 (by omega) (by omega)
    refine lv_iload hx hb dX6_bendPart_64 (lv_at hl 4 rfl) ?_
    refine lv_bipush (v := 16) hx hb dX6_bendPart_66 (by decide) ?_
    refine lv_icmp_ge (tgt := 109) hx hb dX6_bendPart_68 (by decide) (fun c_4 => ?_) (fun c_4 => ?_)
    · skip
      have c_4 := kq_leN (a := 16) (b := k) c_4 (by omega) (by omega)
      have hg9 : g = n_bpZ z a b j t9 x := by funext y; rw [ig y, n_bpZ, show k = min (j + t9) 16 by omega]
      rw [hg9] at hP hD
      exact kq_retMv () hx hb hr hlocks hP hD hS dX6_bendPart_109 (by trivial)
    · skip
      have c_4 := kq_nleN (a := 16) (b := k) c_4 (by omega) (by omega)
      refine lv_aload_n hx hb dX6_bendPart_71 rfl (lv_at hl 0 rfl) ?_
      refine va_get (D := (dC, dI)) (ci := 6) (v := .ref rz) (C := RX6) (T := TX6) (N := 14) hx hb hts (by decide +kernel) hown hK.1 hP 0 rfl rfl 1 (by decide) (hts (.fieldLink RX6 7 "NoteWatermarksModel" "z" "[I") (by decide +kernel)) (fun _ h9 => h9) rfl dX6_bendPart_72 ?_
      refine lv_iload_n hx hb dX6_bendPart_75 rfl (lv_at hl 2 rfl) ?_
      refine lv_iload hx hb dX6_bendPart_76 (lv_at hl 4 rfl) ?_
      refine lv_iadd hx hb dX6_bendPart_78 ?_
      refine kq_top (z := nI ((9 + (6 * a + b) * 16) + k)) (nI_add (9 + (6 * a + b) * 16) k) ?_
      refine lv_aload_n hx hb dX6_bendPart_79 rfl (lv_at hl 0 rfl) ?_
      refine va_get (D := (dC, dI)) (ci := 6) (v := .ref rq) (C := RX6) (T := TX6) (N := 14) hx hb hts (by decide +kernel) hown hK.1 hP 0 rfl rfl 10 (by decide) (hts (.fieldLink RX6 19 "NoteWatermarksModel" "parts" "[I") (by decide +kernel)) (fun _ h9 => h9) rfl dX6_bendPart_80 ?_
      refine lv_bipush (v := 6) hx hb dX6_bendPart_83 (by decide) ?_
      refine lv_iload_n hx hb dX6_bendPart_85 rfl (lv_at hl 1 rfl) ?_
      refine lv_imul hx hb dX6_bendPart_86 ?_
      refine kq_top (z := nI (6 * i)) (pk_mul 6 i) ?_
      refine lv_iconst (v := 3) hx hb dX6_bendPart_87 (by decide) ?_
      refine lv_iadd hx hb dX6_bendPart_88 ?_
      refine kq_top (z := nI ((6 * i) + 3)) (nI_add (6 * i) 3) ?_
      refine va_iald hx hb hK.1 hP 2 0 rfl rfl (vp_in_nI (show (6 * i) + 3 < 72 from by omega) (by omega)) dX6_bendPart_89 ?_
      refine kq_top (z := pt ((6 * i) + 3)) (congrArg pt (nI_clamp (Nat.lt_trans (show (6 * i) + 3 < 72 from by omega) (by omega)))) ?_
      refine lv_aload_n hx hb dX6_bendPart_90 rfl (lv_at hl 0 rfl) ?_
      refine va_get (D := (dC, dI)) (ci := 6) (v := .ref rq) (C := RX6) (T := TX6) (N := 14) hx hb hts (by decide +kernel) hown hK.1 hP 0 rfl rfl 10 (by decide) (hts (.fieldLink RX6 19 "NoteWatermarksModel" "parts" "[I") (by decide +kernel)) (fun _ h9 => h9) rfl dX6_bendPart_91 ?_
      refine lv_bipush (v := 6) hx hb dX6_bendPart_94 (by decide) ?_
      refine lv_iload_n hx hb dX6_bendPart_96 rfl (lv_at hl 1 rfl) ?_
      refine lv_imul hx hb dX6_bendPart_97 ?_
      refine kq_top (z := nI (6 * i)) (pk_mul 6 i) ?_
      refine lv_iconst (v := 4) hx hb dX6_bendPart_98 (by decide) ?_
      refine lv_iadd hx hb dX6_bendPart_99 ?_
      refine kq_top (z := nI ((6 * i) + 4)) (nI_add (6 * i) 4) ?_
      refine va_iald hx hb hK.1 hP 2 0 rfl rfl (vp_in_nI (show (6 * i) + 4 < 72 from by omega) (by omega)) dX6_bendPart_100 ?_
      refine kq_top (z := pt ((6 * i) + 4)) (congrArg pt (nI_clamp (Nat.lt_trans (show (6 * i) + 4 < 72 from by omega) (by omega)))) ?_
      refine lv_imul hx hb dX6_bendPart_101 ?_
      refine kq_top (z := x) (hx9) ?_
      refine va_iast hx hb hK.1 hP hD hS 1 0 rfl rfl (vp_in_nI (show (9 + (6 * a + b) * 16) + k < 389 from by omega) (by omega)) dX6_bendPart_102 (fun H locs hP hD hS => ?_)
      rw [nI_clamp (Nat.lt_trans (show (9 + (6 * a + b) * 16) + k < 389 from by omega) (by omega))] at hP hD
      have hP : va_P (dC, dI) vwCl [(oM, .inr (6, [.int th, .ref rz, .ref r2, .int (nI km), .ref rb, .int (nI n), .int tp, .int lf, .int hg, .int wd, .ref rq, .int pm, .int stt, .long hh])), (rz, .inl (cI, 389, .inl (upd g ((9 + (6 * a + b) * 16) + k) x))), (rq, .inl (cI, 72, .inl pt))] H := hP
      have hD : va_D A [(oM, .inr (6, [.int th, .ref rz, .ref r2, .int (nI km), .ref rb, .int (nI n), .int tp, .int lf, .int hg, .int wd, .ref rq, .int pm, .int stt, .long hh])), (rz, .inl (cI, 389, .inl (upd g ((9 + (6 * a + b) * 16) + k) x))), (rq, .inl (cI, 72, .inl pt))] := hD
      refine lv_iinc (v := nI (k + 1)) (lv' := [(4, .int (nI (k + 1))), (0, .ref oM), (1, .int (nI i)), (2, .int (nI (9 + (6 * a + b) * 16))), (3, .int (nI j))]) hx hb dX6_bendPart_103 hl (k := 4) rfl (nI_1 k) (by decide) rfl (fun ls hl => ?_)
      refine lv_goto (tgt := 46) hx hb dX6_bendPart_106 (by decide) ?_
      exact ih_1 (k + 1) (upd g ((9 + (6 * a + b) * 16) + k) x) ⟨(by omega), (by intro y; by_cases hy : y = 9 + (6 * a + b) * 16 + k; subst hy; rw [pk_us, if_pos (by omega)]; rw [pk_un hy, ig y]; split; rw [if_pos (by omega)]; rw [if_neg (by omega)])⟩ (by show 16 - (k + 1) < 16 - k; omega) _ _ hP hD hS _ (lv_sub hl [1, 2, 3, 4, 0] rfl)
set_option maxHeartbeats 4000000 in
set_option maxRecDepth 100000 in
theorem c_X6_bend (l : Launch) (dC : Nat → ClassId) (dI : Nat → Nat → Nat) (cI : ClassId) (sz : Nat) (oM : Nat) (rz : Nat) (r2 : Nat) (rb : Nat) (rq : Nat) (km : Nat) (n : Nat) (th : Int32) (tp : Int32) (lf : Int32) (hg : Int32) (wd : Int32) (pm : Int32) (stt : Int32) (hh : Int64) (z : Nat → Int32) (zs : Nat → Int32) (bf : Nat → Int32) (pt : Nat → Int32) (v : Nat → Int32) (hkm : km ≤ 6) (hz : n_Z v z) (hn : n ≤ 60) (hq : n_q bf n = 5 ∨ n_q bf n = 7) : Met l yX6_bend wsX6_bend ({ frames := 5, cells := 0, slots := 0, locals := 107 }) (kq_M dC dI cI [.ref oM] sz [(oM, .inr (6, [.int th, .ref rz, .ref r2, .int (nI km), .ref rb, .int (nI n), .int tp, .int lf, .int hg, .int wd, .ref rq, .int pm, .int stt, .long hh])), (rz, .inl (cI, 389, .inl z)), (r2, .inl (cI, 2334, .inl zs)), (rb, .inl (cI, 60, .inl bf)), (rq, .inl (cI, 72, .inl pt))]) (va_Qi (fun (r : Int32) (u : Nat × Nat × (Nat → Int32) × (Nat → Int32) × (Nat → Int32)) => r = n_sum (fun a => n_cw (n_bw bf n 61 0 v) a 16) 3 ∧ n_sv zs z u.2.2.2.1 km ∧ n_Z (n_bw bf n 61 0 v) u.2.2.2.2) (kq_B dC dI (va_A [(oM, .inr (6, [.int th, .ref rz, .ref r2, .int (nI km), .ref rb, .int (nI n), .int tp, .int lf, .int hg, .int wd, .ref rq, .int pm, .int stt, .long hh])), (rz, .inl (cI, 389, .inl z)), (r2, .inl (cI, 2334, .inl zs)), (rb, .inl (cI, 60, .inl bf)), (rq, .inl (cI, 72, .inl pt))] sz) (fun u : Nat × Nat × (Nat → Int32) × (Nat → Int32) × (Nat → Int32) => [(oM, .inr (6, [.int 0, .ref rz, .ref r2, .int (nI (min (km + 1) 6)), .ref rb, .int (nI 0), .int tp, .int lf, .int hg, .int wd, .ref rq, .int (nI u.2.1), .int (nI u.1), .long hh])), (rz, .inl (cI, 389, .inl u.2.2.2.2)), (r2, .inl (cI, 2334, .inl u.2.2.2.1)), (rb, .inl (cI, 60, .inl bf)), (rq, .inl (cI, 72, .inl u.2.2.1))])) (va_A [(oM, .inr (6, [.int th, .ref rz, .ref r2, .int (nI km), .ref rb, .int (nI n), .int tp, .int lf, .int hg, .int wd, .ref rq, .int pm, .int stt, .long hh])), (rz, .inl (cI, 389, .inl z)), (r2, .inl (cI, 2334, .inl zs)), (rb, .inl (cI, 60, .inl bf)), (rq, .inl (cI, 72, .inl pt))] sz)) 0 0 (va_A [(oM, .inr (6, [.int th, .ref rz, .ref r2, .int (nI km), .ref rb, .int (nI n), .int tp, .int lf, .int hg, .int wd, .ref rq, .int pm, .int stt, .long hh])), (rz, .inl (cI, 389, .inl z)), (r2, .inl (cI, 2334, .inl zs)), (rb, .inl (cI, 60, .inl bf)), (rq, .inl (cI, 72, .inl pt))] sz) := by
  refine kq_startM (cc := cX6_bend) (maxL := 2) (ret := (some .int)) (by decide) rfl (Nat.le_of_ble_eq_true rfl) ?_
  intro p e s m below meth c hx hb hr hml hown hlocks hts hsz hA hP hD hS hK hnm ls hl
  subst hsz
  generalize hAe : va_A [(oM, .inr (6, [.int th, .ref rz, .ref r2, .int (nI km), .ref rb, .int (nI n), .int tp, .int lf, .int hg, .int wd, .ref rq, .int pm, .int stt, .long hh])), (rz, .inl (cI, 389, .inl z)), (r2, .inl (cI, 2334, .inl zs)), (rb, .inl (cI, 60, .inl bf)), (rq, .inl (cI, 72, .inl pt))] s.heap.size = A at hA hD hS ⊢
  have hown : s.vm.findClass RX6 = some m.cls := hown
  have hl : lv_has ls 2 [(0, .ref oM)] := hl
  refine lv_aload_n hx hb dX6_bend_0 rfl (lv_at hl 0 rfl) ?_
  refine lv_aload_n hx hb dX6_bend_1 rfl (lv_at hl 0 rfl) ?_
  refine kq_callMi (wr := [(rz, .inl (cI, 389, .inl z)), (r2, .inl (cI, 2334, .inl zs))]) (va_runV (As := []) (rest := [.ref oM]) ⟨hx, hb, hml, hown, hts⟩ (c_X6_isWhole l dC dI cI s.heap.size oM rz r2 rb rq km n th tp lf hg wd pm stt hh bf pt (by first | assumption | omega)) (cwV 0 hts gX6_bend_X6_isWhole rfl rfl rfl (by decide +kernel) ⟨Nat.le_of_ble_eq_true rfl, Nat.le_of_ble_eq_true rfl⟩) (kq_preV (ci := 6) (q0 := 0) (hP.sub [0, 3, 4] rfl) (hD.sub [0, 3, 4] (by decide) rfl) hK rfl rfl) rfl rfl hl.1 rfl (lv_room (Nat.le_of_ble_eq_true rfl)) dX6_bend_2 ⟨Nat.le_of_ble_eq_true rfl, Nat.le_of_ble_eq_true rfl⟩) hP hD hS hA [0, 3, 4] [1, 2] rfl rfl (by decide) (by decide) (fun r_1 u_2 H locs hw_3 hP hD hS => ?_)
  obtain ⟨s1_4, p1_5, pt1_6⟩ := u_2
  have hP : va_P (dC, dI) vwCl [(rz, .inl (cI, 389, .inl z)), (r2, .inl (cI, 2334, .inl zs)), (oM, .inr (6, [.int th, .ref rz, .ref r2, .int (nI km), .ref rb, .int (nI n), .int tp, .int lf, .int hg, .int wd, .ref rq, .int (nI p1_5), .int (nI s1_4), .long hh])), (rb, .inl (cI, 60, .inl bf)), (rq, .inl (cI, 72, .inl pt1_6))] H := hP
  have hD : va_D A [(rz, .inl (cI, 389, .inl z)), (r2, .inl (cI, 2334, .inl zs)), (oM, .inr (6, [.int th, .ref rz, .ref r2, .int (nI km), .ref rb, .int (nI n), .int tp, .int lf, .int hg, .int wd, .ref rq, .int (nI p1_5), .int (nI s1_4), .long hh])), (rb, .inl (cI, 60, .inl bf)), (rq, .inl (cI, 72, .inl pt1_6))] := hD
  try dsimp only at hw_3
  try dsimp only at hw_3
  obtain ⟨hr1, hok⟩ := hw_3
  have hpp := hok hq
  have hwb := n_bw_bq (v := v) hpp hq hn
  have hp10 : p1_5 ≤ 10 := by have h1 := n_ps_6 (cd := bf) p1_5; have h2 := hpp.1; omega
  refine kq_top (z := 1) (hr1.trans (if_pos hq)) ?_
  refine lv_if_eq (tgt := 12) hx hb dX6_bend_5 (by decide) (fun c_7 => ?_) (fun c_7 => ?_)
  · skip
    exact absurd c_7 (by decide)
  · skip
    refine lv_iconst (v := 0) hx hb dX6_bend_8 (by decide) ?_
    refine lv_goto (tgt := 13) hx hb dX6_bend_9 (by decide) ?_
    refine va_put (D := (dC, dI)) (ci := 6) (v := .int 0) (ty := .int) (C := RX6) (T := TX6) (N := 14) hx hb hts (by decide +kernel) tyX6 tyX6_ok nmX6 hown hK.1 hP hD hS 2 rfl rfl 0 (by decide) (hts (.fieldLink RX6 22 "NoteWatermarksModel" "thrown" "I") (by decide +kernel)) (fun _ h9 => h9) rfl (by decide +kernel) rfl rfl (Nat.le_of_ble_eq_true rfl) dX6_bend_13 (fun H locs hP hD hS => ?_)
    have hP : va_P (dC, dI) vwCl [(rz, .inl (cI, 389, .inl z)), (r2, .inl (cI, 2334, .inl zs)), (oM, .inr (6, [.int 0, .ref rz, .ref r2, .int (nI km), .ref rb, .int (nI n), .int tp, .int lf, .int hg, .int wd, .ref rq, .int (nI p1_5), .int (nI s1_4), .long hh])), (rb, .inl (cI, 60, .inl bf)), (rq, .inl (cI, 72, .inl pt1_6))] H := hP
    have hD : va_D A [(rz, .inl (cI, 389, .inl z)), (r2, .inl (cI, 2334, .inl zs)), (oM, .inr (6, [.int 0, .ref rz, .ref r2, .int (nI km), .ref rb, .int (nI n), .int tp, .int lf, .int hg, .int wd, .ref rq, .int (nI p1_5), .int (nI s1_4), .long hh])), (rb, .inl (cI, 60, .inl bf)), (rq, .inl (cI, 72, .inl pt1_6))] := hD
    refine lv_aload_n hx hb dX6_bend_16 rfl (lv_at hl 0 rfl) ?_
    refine va_get (D := (dC, dI)) (ci := 6) (v := .int 0) (C := RX6) (T := TX6) (N := 14) hx hb hts (by decide +kernel) hown hK.1 hP 2 rfl rfl 0 (by decide) (hts (.fieldLink RX6 22 "NoteWatermarksModel" "thrown" "I") (by decide +kernel)) (fun _ h9 => h9) rfl dX6_bend_17 ?_
    refine lv_if_le (tgt := 25) hx hb dX6_bend_20 (by decide) (fun _ => ?_) (fun q => absurd q (by decide))
    refine lv_aload_n hx hb dX6_bend_25 rfl (lv_at hl 0 rfl) ?_
    refine kq_callMv (wr := [(rb, .inl (cI, 60, .inl bf)), (rq, .inl (cI, 72, .inl pt1_6))]) (va_runV (As := []) (rest := []) ⟨hx, hb, hml, hown, hts⟩ (c_X6_save l dC dI cI H.size oM rz r2 rb rq km n 0 tp lf hg wd (nI p1_5) (nI s1_4) hh z zs bf pt v (by first | assumption | omega)) (cwV 0 hts gX6_bend_X6_save rfl rfl rfl (by decide +kernel) ⟨Nat.le_of_ble_eq_true rfl, Nat.le_of_ble_eq_true rfl⟩) (kq_preV (ci := 6) (q0 := 0) (hP.sub [2, 0, 1] rfl) (hD.sub [2, 0, 1] (by decide) rfl) hK rfl rfl) rfl rfl hl.1 rfl (lv_room (Nat.le_of_ble_eq_true rfl)) dX6_bend_26 ⟨Nat.le_of_ble_eq_true rfl, Nat.le_of_ble_eq_true rfl⟩) hP hD hS hA [2, 0, 1] [3, 4] rfl rfl (by decide) (by decide) (fun u_10 H locs hw_11 hP hD hS => ?_)
    obtain ⟨ys_12, rfl⟩ : ∃ z, z = u_10 := ⟨_, rfl⟩
    have hP : va_P (dC, dI) vwCl [(rb, .inl (cI, 60, .inl bf)), (rq, .inl (cI, 72, .inl pt1_6)), (oM, .inr (6, [.int 0, .ref rz, .ref r2, .int (nI (min (km + 1) 6)), .ref rb, .int (nI n), .int tp, .int lf, .int hg, .int wd, .ref rq, .int (nI p1_5), .int (nI s1_4), .long hh])), (rz, .inl (cI, 389, .inl z)), (r2, .inl (cI, 2334, .inl ys_12))] H := hP
    have hD : va_D A [(rb, .inl (cI, 60, .inl bf)), (rq, .inl (cI, 72, .inl pt1_6)), (oM, .inr (6, [.int 0, .ref rz, .ref r2, .int (nI (min (km + 1) 6)), .ref rb, .int (nI n), .int tp, .int lf, .int hg, .int wd, .ref rq, .int (nI p1_5), .int (nI s1_4), .long hh])), (rz, .inl (cI, 389, .inl z)), (r2, .inl (cI, 2334, .inl ys_12))] := hD
    have hsv := hw_11
    refine lv_iconst (v := 0) hx hb dX6_bend_29 (by decide) ?_
    refine lv_istore_n (lv' := [(1, .int 0), (0, .ref oM)]) hx hb dX6_bend_30 rfl hl (by decide) rfl (fun ls hl => ?_)
    refine kq_loopM2 (A1 := Nat) (A2 := Nat → Int32) (fun (k : Nat) (g : Nat → Int32) => p1_5 + 1 - k) (fun (k : Nat) (g : Nat → Int32) => (k ≤ p1_5 + 1) ∧ (n_Z (n_bq bf n k v) g)) (fun (k : Nat) (g : Nat → Int32) => [(0, .ref oM), (1, .int (nI k))]) (fun (k : Nat) (g : Nat → Int32) => [(rb, .inl (cI, 60, .inl bf)), (rq, .inl (cI, 72, .inl pt1_6)), (oM, .inr (6, [.int 0, .ref rz, .ref r2, .int (nI (min (km + 1) 6)), .ref rb, .int (nI n), .int tp, .int lf, .int hg, .int wd, .ref rq, .int (nI p1_5), .int (nI s1_4), .long hh])), (rz, .inl (cI, 389, .inl g)), (r2, .inl (cI, 2334, .inl ys_12))]) (nL := 2) hK ?_ 0 z ⟨(by omega), (by exact hz)⟩ hP hD hS _ (lv_sub hl [1, 0] rfl)
    intro k g hi_14 ih_13 H locs hP hD hS ls hl
    obtain ⟨ik, ig⟩ := hi_14
    have hl : lv_has ls 2 [(0, .ref oM), (1, .int (nI k))] := hl
    have hP : va_P (dC, dI) vwCl [(rb, .inl (cI, 60, .inl bf)), (rq, .inl (cI, 72, .inl pt1_6)), (oM, .inr (6, [.int 0, .ref rz, .ref r2, .int (nI (min (km + 1) 6)), .ref rb, .int (nI n), .int tp, .int lf, .int hg, .int wd, .ref rq, .int (nI p1_5), .int (nI s1_4), .long hh])), (rz, .inl (cI, 389, .inl g)), (r2, .inl (cI, 2334, .inl ys_12))] H := hP
    have hD : va_D A [(rb, .inl (cI, 60, .inl bf)), (rq, .inl (cI, 72, .inl pt1_6)), (oM, .inr (6, [.int 0, .ref rz, .ref r2, .int (nI (min (km + 1) 6)), .ref rb, .int (nI n), .int tp, .int lf, .int hg, .int wd, .ref rq, .int (nI p1_5), .int (nI s1_4), .long hh])), (rz, .inl (cI, 389, .inl g)), (r2, .inl (cI, 2334, .inl ys_12))] := hD
    refine lv_iload_n hx hb dX6_bend_31 rfl (lv_at hl 1 rfl) ?_
    refine lv_aload_n hx hb dX6_bend_32 rfl (lv_at hl 0 rfl) ?_
    refine va_get (D := (dC, dI)) (ci := 6) (v := .int (nI p1_5)) (C := RX6) (T := TX6) (N := 14) hx hb hts (by decide +kernel) hown hK.1 hP 2 rfl rfl 11 (by decide) (hts (.fieldLink RX6 132 "NoteWatermarksModel" "partMany" "I") (by decide +kernel)) (fun _ h9 => h9) rfl dX6_bend_33 ?_
    refine lv_icmp_gt (tgt := 50) hx hb dX6_bend_36 (by decide) (fun c_15 => ?_) (fun c_15 => ?_)
    · skip
      have c_15 := kq_ltN (a := p1_5) (b := k) c_15 (by omega) (by omega)
      have hze : n_Z (n_bw bf n 61 0 v) g := by rw [hwb, show p1_5 + 1 = k by omega]; exact ig
      refine lv_aload_n hx hb dX6_bend_50 rfl (lv_at hl 0 rfl) ?_
      refine lv_iconst (v := 0) hx hb dX6_bend_51 (by decide) ?_
      refine va_put (D := (dC, dI)) (ci := 6) (v := .int 0) (ty := .int) (C := RX6) (T := TX6) (N := 14) hx hb hts (by decide +kernel) tyX6 tyX6_ok nmX6 hown hK.1 hP hD hS 2 rfl rfl 5 (by decide) (hts (.fieldLink RX6 126 "NoteWatermarksModel" "typed" "I") (by decide +kernel)) (fun _ h9 => h9) rfl (by decide +kernel) rfl rfl (Nat.le_of_ble_eq_true rfl) dX6_bend_52 (fun H locs hP hD hS => ?_)
      have hP : va_P (dC, dI) vwCl [(rb, .inl (cI, 60, .inl bf)), (rq, .inl (cI, 72, .inl pt1_6)), (oM, .inr (6, [.int 0, .ref rz, .ref r2, .int (nI (min (km + 1) 6)), .ref rb, .int 0, .int tp, .int lf, .int hg, .int wd, .ref rq, .int (nI p1_5), .int (nI s1_4), .long hh])), (rz, .inl (cI, 389, .inl g)), (r2, .inl (cI, 2334, .inl ys_12))] H := hP
      have hD : va_D A [(rb, .inl (cI, 60, .inl bf)), (rq, .inl (cI, 72, .inl pt1_6)), (oM, .inr (6, [.int 0, .ref rz, .ref r2, .int (nI (min (km + 1) 6)), .ref rb, .int 0, .int tp, .int lf, .int hg, .int wd, .ref rq, .int (nI p1_5), .int (nI s1_4), .long hh])), (rz, .inl (cI, 389, .inl g)), (r2, .inl (cI, 2334, .inl ys_12))] := hD
      refine lv_aload_n hx hb dX6_bend_55 rfl (lv_at hl 0 rfl) ?_
      refine lv_iconst (v := 0) hx hb dX6_bend_56 (by decide) ?_
      refine lv_bipush (v := 16) hx hb dX6_bend_57 (by decide) ?_
      refine kq_cV (As := [.int 0, .int 16]) (rest := []) ⟨hx, hb, hml, hown, hts⟩ (c_X6_bent l dC dI cI oM rz r2 rb rq (min (km + 1) 6) 0 0 tp lf hg wd (nI p1_5) (nI s1_4) hh g (n_bw bf n 61 0 v) 0 16 (hze) (by first | assumption | omega) (by first | assumption | omega)) (cwV 2 hts gX6_bend_X6_bent rfl rfl rfl (by decide +kernel) ⟨Nat.le_of_ble_eq_true rfl, Nat.le_of_ble_eq_true rfl⟩) (hP.sub [2, 3] rfl) hK (ci := 6) (q0 := 0) rfl rfl rfl rfl hl.1 rfl (Nat.le_of_ble_eq_true rfl) dX6_bend_59 ⟨Nat.le_of_ble_eq_true rfl, Nat.le_of_ble_eq_true rfl⟩ ?_
      refine lv_aload_n hx hb dX6_bend_62 rfl (lv_at hl 0 rfl) ?_
      refine lv_iconst (v := 1) hx hb dX6_bend_63 (by decide) ?_
      refine lv_bipush (v := 16) hx hb dX6_bend_64 (by decide) ?_
      refine kq_cV (As := [.int 1, .int 16]) (rest := [.int (n_cw (n_bw bf n 61 0 v) 0 16)]) ⟨hx, hb, hml, hown, hts⟩ (c_X6_bent l dC dI cI oM rz r2 rb rq (min (km + 1) 6) 0 0 tp lf hg wd (nI p1_5) (nI s1_4) hh g (n_bw bf n 61 0 v) 1 16 (hze) (by first | assumption | omega) (by first | assumption | omega)) (cwV 2 hts gX6_bend_X6_bent rfl rfl rfl (by decide +kernel) ⟨Nat.le_of_ble_eq_true rfl, Nat.le_of_ble_eq_true rfl⟩) (hP.sub [2, 3] rfl) hK (ci := 6) (q0 := 0) rfl rfl rfl rfl hl.1 rfl (Nat.le_of_ble_eq_true rfl) dX6_bend_66 ⟨Nat.le_of_ble_eq_true rfl, Nat.le_of_ble_eq_true rfl⟩ ?_
      refine lv_iadd hx hb dX6_bend_69 ?_
      refine lv_aload_n hx hb dX6_bend_70 rfl (lv_at hl 0 rfl) ?_
      refine lv_iconst (v := 2) hx hb dX6_bend_71 (by decide) ?_
      refine lv_bipush (v := 16) hx hb dX6_bend_72 (by decide) ?_
      refine kq_cV (As := [.int 2, .int 16]) (rest := [.int ((n_cw (n_bw bf n 61 0 v) 0 16) + (n_cw (n_bw bf n 61 0 v) 1 16))]) ⟨hx, hb, hml, hown, hts⟩ (c_X6_bent l dC dI cI oM rz r2 rb rq (min (km + 1) 6) 0 0 tp lf hg wd (nI p1_5) (nI s1_4) hh g (n_bw bf n 61 0 v) 2 16 (hze) (by first | assumption | omega) (by first | assumption | omega)) (cwV 2 hts gX6_bend_X6_bent rfl rfl rfl (by decide +kernel) ⟨Nat.le_of_ble_eq_true rfl, Nat.le_of_ble_eq_true rfl⟩) (hP.sub [2, 3] rfl) hK (ci := 6) (q0 := 0) rfl rfl rfl rfl hl.1 rfl (Nat.le_of_ble_eq_true rfl) dX6_bend_74 ⟨Nat.le_of_ble_eq_true rfl, Nat.le_of_ble_eq_true rfl⟩ ?_
      refine lv_iadd hx hb dX6_bend_77 ?_
      exact kq_retMi (s1_4, p1_5, pt1_6, ys_12, g) hx hb hr hlocks (hP.sub [2, 3, 4, 0, 1] rfl) (hD.sub [2, 3, 4, 0, 1] (by decide) rfl) hS dX6_bend_78 (by refine ⟨?_, hsv, hze⟩; unfold n_sum n_sum n_sum n_sum; grind)
    · skip
      have c_15 := kq_nltN (a := p1_5) (b := k) c_15 (by omega) (by omega)
      refine lv_aload_n hx hb dX6_bend_39 rfl (lv_at hl 0 rfl) ?_
      obtain ⟨i1, i2, i3, i4, i5⟩ := n_PP_d hpp hq (show k ≤ p1_5 by omega)
      refine lv_iload_n hx hb dX6_bend_40 rfl (lv_at hl 1 rfl) ?_
      refine kq_callMv (wr := [(rb, .inl (cI, 60, .inl bf)), (r2, .inl (cI, 2334, .inl ys_12))]) (va_runV (As := [.int (nI k)]) (rest := []) ⟨hx, hb, hml, hown, hts⟩ (c_X6_bendPart l dC dI cI H.size oM rz r2 rb rq (min (km + 1) 6) n 0 tp lf hg wd (nI p1_5) (nI s1_4) hh g zs bf pt1_6 v k (n_dg bf (n_ps bf k)) (n_dg bf (n_ps bf k + 1)) (n_dl bf (n_ps bf k + 2)) (n_dt bf n (n_ps bf k)) (n_dw bf (n_ps bf k)) (by first | assumption | omega) (i1) (i2) (i3) (i4) (i5)) (cwV 1 hts gX6_bend_X6_bendPart rfl rfl rfl (by decide +kernel) ⟨Nat.le_of_ble_eq_true rfl, Nat.le_of_ble_eq_true rfl⟩) (kq_preV (ci := 6) (q0 := 0) (hP.sub [2, 3, 1] rfl) (hD.sub [2, 3, 1] (by decide) rfl) hK rfl rfl) rfl rfl hl.1 rfl (lv_room (Nat.le_of_ble_eq_true rfl)) dX6_bend_41 ⟨Nat.le_of_ble_eq_true rfl, Nat.le_of_ble_eq_true rfl⟩) hP hD hS hA [2, 3, 1] [0, 4] rfl rfl (by decide) (by decide) (fun u_17 H locs hw_18 hP hD hS => ?_)
      have hP : va_P (dC, dI) vwCl [(rb, .inl (cI, 60, .inl bf)), (r2, .inl (cI, 2334, .inl ys_12)), (oM, .inr (6, [.int 0, .ref rz, .ref r2, .int (nI (min (km + 1) 6)), .ref rb, .int (nI n), .int tp, .int lf, .int hg, .int wd, .ref rq, .int (nI p1_5), .int (nI s1_4), .long hh])), (rz, .inl (cI, 389, .inl (n_bpZ g (n_dg bf (n_ps bf k)) (n_dg bf (n_ps bf k + 1)) (n_dl bf (n_ps bf k + 2)) (n_dt bf n (n_ps bf k)) (n_dw bf (n_ps bf k))))), (rq, .inl (cI, 72, .inl pt1_6))] H := hP
      have hD : va_D A [(rb, .inl (cI, 60, .inl bf)), (r2, .inl (cI, 2334, .inl ys_12)), (oM, .inr (6, [.int 0, .ref rz, .ref r2, .int (nI (min (km + 1) 6)), .ref rb, .int (nI n), .int tp, .int lf, .int hg, .int wd, .ref rq, .int (nI p1_5), .int (nI s1_4), .long hh])), (rz, .inl (cI, 389, .inl (n_bpZ g (n_dg bf (n_ps bf k)) (n_dg bf (n_ps bf k + 1)) (n_dl bf (n_ps bf k + 2)) (n_dt bf n (n_ps bf k)) (n_dw bf (n_ps bf k))))), (rq, .inl (cI, 72, .inl pt1_6))] := hD
      refine lv_iinc (v := nI (k + 1)) (lv' := [(1, .int (nI (k + 1))), (0, .ref oM)]) hx hb dX6_bend_44 hl (k := 1) rfl (nI_1 k) (by decide) rfl (fun ls hl => ?_)
      refine lv_goto (tgt := 31) hx hb dX6_bend_47 (by decide) ?_
      exact ih_13 (k + 1) (n_bpZ g (n_dg bf (n_ps bf k)) (n_dg bf (n_ps bf k + 1)) (n_dl bf (n_ps bf k + 2)) (n_dt bf n (n_ps bf k)) (n_dw bf (n_ps bf k))) ⟨(by omega), (by exact n_Z_bp ig i1.2 i2.2)⟩ (by show p1_5 + 1 - (k + 1) < p1_5 + 1 - k; omega) _ _ (hP.sub [0, 4, 2, 3, 1] rfl) (hD.sub [0, 4, 2, 3, 1] (by decide) rfl) hS _ (lv_sub hl [1, 0] rfl)
